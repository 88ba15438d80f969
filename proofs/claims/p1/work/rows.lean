section
-- ===== PART A: goes FIRST, ahead of the names: the tables' words, and 'selects' of the private methods out of them =====
/-- a private method of a class that the tables say can be made, by its rows of tables_1 -/
def lw_okq (q : MethodName × Nat) : Prop := (q.1.cls ≠ "java/lang/invoke/MethodHandle" ∧ q.1.cls ≠ "java/lang/invoke/VarHandle") ∧ Cond.instantiable q.1.cls q.2 ∈ tables_1 ∧ Cond.privateMethod q.1 ∈ tables_1 ∧ Cond.instanceMethod q.1 ∈ tables_1
theorem lw_p0 : lw_okq (⟨"SpineTables", "feedNumber", "(I)V"⟩, 14) := ⟨⟨by decide +kernel, by decide +kernel⟩, List.mem_of_getElem? (i := 23) (by decide +kernel), List.mem_of_getElem? (i := 296) (by decide +kernel), List.mem_of_getElem? (i := 297) (by decide +kernel)⟩
theorem lw_p1 : lw_okq (⟨"SpineTables", "freePlace", "()I"⟩, 14) := ⟨⟨by decide +kernel, by decide +kernel⟩, List.mem_of_getElem? (i := 23) (by decide +kernel), List.mem_of_getElem? (i := 308) (by decide +kernel), List.mem_of_getElem? (i := 309) (by decide +kernel)⟩
theorem lw_p2 : lw_okq (⟨"SpineTables", "clearBench", "()LSpineTables$Table;"⟩, 14) := ⟨⟨by decide +kernel, by decide +kernel⟩, List.mem_of_getElem? (i := 23) (by decide +kernel), List.mem_of_getElem? (i := 312) (by decide +kernel), List.mem_of_getElem? (i := 313) (by decide +kernel)⟩
theorem lw_p3 : lw_okq (⟨"SpineTables$Reader", "findByte", "(III)I"⟩, 16) := ⟨⟨by decide +kernel, by decide +kernel⟩, List.mem_of_getElem? (i := 33) (by decide +kernel), List.mem_of_getElem? (i := 457) (by decide +kernel), List.mem_of_getElem? (i := 458) (by decide +kernel)⟩
theorem lw_p4 : lw_okq (⟨"SpineTables$Reader", "byteAt", "(I)I"⟩, 16) := ⟨⟨by decide +kernel, by decide +kernel⟩, List.mem_of_getElem? (i := 33) (by decide +kernel), List.mem_of_getElem? (i := 461) (by decide +kernel), List.mem_of_getElem? (i := 462) (by decide +kernel)⟩
theorem lw_p5 : lw_okq (⟨"SpineTables$Reader", "blame", "(II)V"⟩, 16) := ⟨⟨by decide +kernel, by decide +kernel⟩, List.mem_of_getElem? (i := 33) (by decide +kernel), List.mem_of_getElem? (i := 465) (by decide +kernel), List.mem_of_getElem? (i := 466) (by decide +kernel)⟩
theorem lw_p6 : lw_okq (⟨"SpineTables$Reader", "takeRemark", "(I)V"⟩, 16) := ⟨⟨by decide +kernel, by decide +kernel⟩, List.mem_of_getElem? (i := 33) (by decide +kernel), List.mem_of_getElem? (i := 475) (by decide +kernel), List.mem_of_getElem? (i := 476) (by decide +kernel)⟩
theorem lw_p7 : lw_okq (⟨"SpineTables$Rows", "putBytes", "([BII)V"⟩, 11) := ⟨⟨by decide +kernel, by decide +kernel⟩, List.mem_of_getElem? (i := 321) (by decide +kernel), List.mem_of_getElem? (i := 490) (by decide +kernel), List.mem_of_getElem? (i := 491) (by decide +kernel)⟩
theorem lw_p8 : lw_okq (⟨"SpineTables$Rows", "putByte", "(I)V"⟩, 11) := ⟨⟨by decide +kernel, by decide +kernel⟩, List.mem_of_getElem? (i := 321) (by decide +kernel), List.mem_of_getElem? (i := 495) (by decide +kernel), List.mem_of_getElem? (i := 496) (by decide +kernel)⟩
theorem lw_p9 : lw_okq (⟨"SpineTables$Reader", "takeRecord", "(II)V"⟩, 16) := ⟨⟨by decide +kernel, by decide +kernel⟩, List.mem_of_getElem? (i := 33) (by decide +kernel), List.mem_of_getElem? (i := 504) (by decide +kernel), List.mem_of_getElem? (i := 505) (by decide +kernel)⟩
theorem lw_p10 : lw_okq (⟨"SpineTables$Reader", "beginRecord", "(I)V"⟩, 16) := ⟨⟨by decide +kernel, by decide +kernel⟩, List.mem_of_getElem? (i := 33) (by decide +kernel), List.mem_of_getElem? (i := 508) (by decide +kernel), List.mem_of_getElem? (i := 509) (by decide +kernel)⟩
theorem lw_p11 : lw_okq (⟨"SpineTables$Reader", "splitLine", "(I)V"⟩, 16) := ⟨⟨by decide +kernel, by decide +kernel⟩, List.mem_of_getElem? (i := 33) (by decide +kernel), List.mem_of_getElem? (i := 513) (by decide +kernel), List.mem_of_getElem? (i := 514) (by decide +kernel)⟩
theorem lw_p12 : lw_okq (⟨"SpineTables$Reader", "faultOfToken", "(III)I"⟩, 16) := ⟨⟨by decide +kernel, by decide +kernel⟩, List.mem_of_getElem? (i := 33) (by decide +kernel), List.mem_of_getElem? (i := 521) (by decide +kernel), List.mem_of_getElem? (i := 522) (by decide +kernel)⟩
theorem lw_p13 : lw_okq (⟨"SpineTables$Reader", "isFirst", "()Z"⟩, 16) := ⟨⟨by decide +kernel, by decide +kernel⟩, List.mem_of_getElem? (i := 33) (by decide +kernel), List.mem_of_getElem? (i := 525) (by decide +kernel), List.mem_of_getElem? (i := 526) (by decide +kernel)⟩
theorem lw_p14 : lw_okq (⟨"SpineTables$Reader", "faultOfFirst", "(III)I"⟩, 16) := ⟨⟨by decide +kernel, by decide +kernel⟩, List.mem_of_getElem? (i := 33) (by decide +kernel), List.mem_of_getElem? (i := 529) (by decide +kernel), List.mem_of_getElem? (i := 530) (by decide +kernel)⟩
theorem lw_p15 : lw_okq (⟨"SpineTables$Reader", "faultOfAct", "(I)I"⟩, 16) := ⟨⟨by decide +kernel, by decide +kernel⟩, List.mem_of_getElem? (i := 33) (by decide +kernel), List.mem_of_getElem? (i := 541) (by decide +kernel), List.mem_of_getElem? (i := 542) (by decide +kernel)⟩
def lw_privs_1 : List (MethodName × Nat) := [(⟨"SpineTables", "feedNumber", "(I)V"⟩, 14), (⟨"SpineTables", "freePlace", "()I"⟩, 14), (⟨"SpineTables", "clearBench", "()LSpineTables$Table;"⟩, 14), (⟨"SpineTables$Reader", "findByte", "(III)I"⟩, 16), (⟨"SpineTables$Reader", "byteAt", "(I)I"⟩, 16), (⟨"SpineTables$Reader", "blame", "(II)V"⟩, 16), (⟨"SpineTables$Reader", "takeRemark", "(I)V"⟩, 16), (⟨"SpineTables$Rows", "putBytes", "([BII)V"⟩, 11), (⟨"SpineTables$Rows", "putByte", "(I)V"⟩, 11), (⟨"SpineTables$Reader", "takeRecord", "(II)V"⟩, 16), (⟨"SpineTables$Reader", "beginRecord", "(I)V"⟩, 16), (⟨"SpineTables$Reader", "splitLine", "(I)V"⟩, 16), (⟨"SpineTables$Reader", "faultOfToken", "(III)I"⟩, 16), (⟨"SpineTables$Reader", "isFirst", "()Z"⟩, 16), (⟨"SpineTables$Reader", "faultOfFirst", "(III)I"⟩, 16), (⟨"SpineTables$Reader", "faultOfAct", "(I)I"⟩, 16)]
theorem lw_r1 : ∀ q ∈ lw_privs_1, lw_okq q := List.forall_mem_cons.mpr ⟨lw_p0, List.forall_mem_cons.mpr ⟨lw_p1, List.forall_mem_cons.mpr ⟨lw_p2, List.forall_mem_cons.mpr ⟨lw_p3, List.forall_mem_cons.mpr ⟨lw_p4, List.forall_mem_cons.mpr ⟨lw_p5, List.forall_mem_cons.mpr ⟨lw_p6, List.forall_mem_cons.mpr ⟨lw_p7, List.forall_mem_cons.mpr ⟨lw_p8, List.forall_mem_cons.mpr ⟨lw_p9, List.forall_mem_cons.mpr ⟨lw_p10, List.forall_mem_cons.mpr ⟨lw_p11, List.forall_mem_cons.mpr ⟨lw_p12, List.forall_mem_cons.mpr ⟨lw_p13, List.forall_mem_cons.mpr ⟨lw_p14, List.forall_mem_cons.mpr ⟨lw_p15, fun _ h => absurd h List.not_mem_nil⟩⟩⟩⟩⟩⟩⟩⟩⟩⟩⟩⟩⟩⟩⟩⟩
theorem lw_p16 : lw_okq (⟨"SpineTables$Reader", "actAt", "(I)I"⟩, 16) := ⟨⟨by decide +kernel, by decide +kernel⟩, List.mem_of_getElem? (i := 33) (by decide +kernel), List.mem_of_getElem? (i := 545) (by decide +kernel), List.mem_of_getElem? (i := 546) (by decide +kernel)⟩
theorem lw_p17 : lw_okq (⟨"SpineTables$Reader", "faultOfJoin", "(I)I"⟩, 16) := ⟨⟨by decide +kernel, by decide +kernel⟩, List.mem_of_getElem? (i := 33) (by decide +kernel), List.mem_of_getElem? (i := 549) (by decide +kernel), List.mem_of_getElem? (i := 550) (by decide +kernel)⟩
theorem lw_p18 : lw_okq (⟨"SpineTables$Reader", "faultOfSwap", "(I)I"⟩, 16) := ⟨⟨by decide +kernel, by decide +kernel⟩, List.mem_of_getElem? (i := 33) (by decide +kernel), List.mem_of_getElem? (i := 557) (by decide +kernel), List.mem_of_getElem? (i := 558) (by decide +kernel)⟩
theorem lw_p19 : lw_okq (⟨"SpineTables$Reader", "faultOfGrowth", "()I"⟩, 16) := ⟨⟨by decide +kernel, by decide +kernel⟩, List.mem_of_getElem? (i := 33) (by decide +kernel), List.mem_of_getElem? (i := 561) (by decide +kernel), List.mem_of_getElem? (i := 562) (by decide +kernel)⟩
theorem lw_p20 : lw_okq (⟨"SpineTables$Reader", "takeToken", "(II)V"⟩, 16) := ⟨⟨by decide +kernel, by decide +kernel⟩, List.mem_of_getElem? (i := 33) (by decide +kernel), List.mem_of_getElem? (i := 565) (by decide +kernel), List.mem_of_getElem? (i := 566) (by decide +kernel)⟩
theorem lw_p21 : lw_okq (⟨"SpineTables$Rows", "openToken", "()Z"⟩, 11) := ⟨⟨by decide +kernel, by decide +kernel⟩, List.mem_of_getElem? (i := 321) (by decide +kernel), List.mem_of_getElem? (i := 573) (by decide +kernel), List.mem_of_getElem? (i := 574) (by decide +kernel)⟩
theorem lw_p22 : lw_okq (⟨"SpineTables$Rows", "closeToken", "()V"⟩, 11) := ⟨⟨by decide +kernel, by decide +kernel⟩, List.mem_of_getElem? (i := 321) (by decide +kernel), List.mem_of_getElem? (i := 577) (by decide +kernel), List.mem_of_getElem? (i := 578) (by decide +kernel)⟩
theorem lw_p23 : lw_okq (⟨"SpineTables$Table", "settleStrand", "(II)V"⟩, 17) := ⟨⟨by decide +kernel, by decide +kernel⟩, List.mem_of_getElem? (i := 315) (by decide +kernel), List.mem_of_getElem? (i := 591) (by decide +kernel), List.mem_of_getElem? (i := 592) (by decide +kernel)⟩
theorem lw_p24 : lw_okq (⟨"SpineTables$Table", "enterKind", "(I)I"⟩, 17) := ⟨⟨by decide +kernel, by decide +kernel⟩, List.mem_of_getElem? (i := 315) (by decide +kernel), List.mem_of_getElem? (i := 599) (by decide +kernel), List.mem_of_getElem? (i := 600) (by decide +kernel)⟩
theorem lw_p25 : lw_okq (⟨"SpineTables$Lengths", "measure", "(LSpineTables$Table;I)Z"⟩, 6) := ⟨⟨by decide +kernel, by decide +kernel⟩, List.mem_of_getElem? (i := 144) (by decide +kernel), List.mem_of_getElem? (i := 669) (by decide +kernel), List.mem_of_getElem? (i := 670) (by decide +kernel)⟩
theorem lw_p26 : lw_okq (⟨"SpineTables$Lengths", "begin", "(LSpineTables$Rows;I)V"⟩, 6) := ⟨⟨by decide +kernel, by decide +kernel⟩, List.mem_of_getElem? (i := 144) (by decide +kernel), List.mem_of_getElem? (i := 673) (by decide +kernel), List.mem_of_getElem? (i := 674) (by decide +kernel)⟩
theorem lw_p27 : lw_okq (⟨"SpineTables$Lengths", "measureRecip", "()Z"⟩, 6) := ⟨⟨by decide +kernel, by decide +kernel⟩, List.mem_of_getElem? (i := 144) (by decide +kernel), List.mem_of_getElem? (i := 683) (by decide +kernel), List.mem_of_getElem? (i := 684) (by decide +kernel)⟩
theorem lw_p28 : lw_okq (⟨"SpineTables$Lengths", "takeReciprocal", "()Z"⟩, 6) := ⟨⟨by decide +kernel, by decide +kernel⟩, List.mem_of_getElem? (i := 144) (by decide +kernel), List.mem_of_getElem? (i := 687) (by decide +kernel), List.mem_of_getElem? (i := 688) (by decide +kernel)⟩
theorem lw_p29 : lw_okq (⟨"SpineTables$Lengths", "takeSome", "(II)I"⟩, 6) := ⟨⟨by decide +kernel, by decide +kernel⟩, List.mem_of_getElem? (i := 144) (by decide +kernel), List.mem_of_getElem? (i := 691) (by decide +kernel), List.mem_of_getElem? (i := 692) (by decide +kernel)⟩
theorem lw_p30 : lw_okq (⟨"SpineTables$Lengths", "here", "()I"⟩, 6) := ⟨⟨by decide +kernel, by decide +kernel⟩, List.mem_of_getElem? (i := 144) (by decide +kernel), List.mem_of_getElem? (i := 695) (by decide +kernel), List.mem_of_getElem? (i := 696) (by decide +kernel)⟩
theorem lw_p31 : lw_okq (⟨"SpineTables$Lengths", "takeNumber", "(I)I"⟩, 6) := ⟨⟨by decide +kernel, by decide +kernel⟩, List.mem_of_getElem? (i := 144) (by decide +kernel), List.mem_of_getElem? (i := 699) (by decide +kernel), List.mem_of_getElem? (i := 700) (by decide +kernel)⟩
def lw_privs_2 : List (MethodName × Nat) := [(⟨"SpineTables$Reader", "actAt", "(I)I"⟩, 16), (⟨"SpineTables$Reader", "faultOfJoin", "(I)I"⟩, 16), (⟨"SpineTables$Reader", "faultOfSwap", "(I)I"⟩, 16), (⟨"SpineTables$Reader", "faultOfGrowth", "()I"⟩, 16), (⟨"SpineTables$Reader", "takeToken", "(II)V"⟩, 16), (⟨"SpineTables$Rows", "openToken", "()Z"⟩, 11), (⟨"SpineTables$Rows", "closeToken", "()V"⟩, 11), (⟨"SpineTables$Table", "settleStrand", "(II)V"⟩, 17), (⟨"SpineTables$Table", "enterKind", "(I)I"⟩, 17), (⟨"SpineTables$Lengths", "measure", "(LSpineTables$Table;I)Z"⟩, 6), (⟨"SpineTables$Lengths", "begin", "(LSpineTables$Rows;I)V"⟩, 6), (⟨"SpineTables$Lengths", "measureRecip", "()Z"⟩, 6), (⟨"SpineTables$Lengths", "takeReciprocal", "()Z"⟩, 6), (⟨"SpineTables$Lengths", "takeSome", "(II)I"⟩, 6), (⟨"SpineTables$Lengths", "here", "()I"⟩, 6), (⟨"SpineTables$Lengths", "takeNumber", "(I)I"⟩, 6)]
theorem lw_r2 : ∀ q ∈ lw_privs_2, lw_okq q := List.forall_mem_cons.mpr ⟨lw_p16, List.forall_mem_cons.mpr ⟨lw_p17, List.forall_mem_cons.mpr ⟨lw_p18, List.forall_mem_cons.mpr ⟨lw_p19, List.forall_mem_cons.mpr ⟨lw_p20, List.forall_mem_cons.mpr ⟨lw_p21, List.forall_mem_cons.mpr ⟨lw_p22, List.forall_mem_cons.mpr ⟨lw_p23, List.forall_mem_cons.mpr ⟨lw_p24, List.forall_mem_cons.mpr ⟨lw_p25, List.forall_mem_cons.mpr ⟨lw_p26, List.forall_mem_cons.mpr ⟨lw_p27, List.forall_mem_cons.mpr ⟨lw_p28, List.forall_mem_cons.mpr ⟨lw_p29, List.forall_mem_cons.mpr ⟨lw_p30, List.forall_mem_cons.mpr ⟨lw_p31, fun _ h => absurd h List.not_mem_nil⟩⟩⟩⟩⟩⟩⟩⟩⟩⟩⟩⟩⟩⟩⟩⟩
theorem lw_p32 : lw_okq (⟨"SpineTables$Lengths", "takes", "(I)Z"⟩, 6) := ⟨⟨by decide +kernel, by decide +kernel⟩, List.mem_of_getElem? (i := 144) (by decide +kernel), List.mem_of_getElem? (i := 703) (by decide +kernel), List.mem_of_getElem? (i := 704) (by decide +kernel)⟩
theorem lw_p33 : lw_okq (⟨"SpineTables$Lengths", "keepValue", "()V"⟩, 6) := ⟨⟨by decide +kernel, by decide +kernel⟩, List.mem_of_getElem? (i := 144) (by decide +kernel), List.mem_of_getElem? (i := 715) (by decide +kernel), List.mem_of_getElem? (i := 716) (by decide +kernel)⟩
theorem lw_p34 : lw_okq (⟨"SpineTables$Lengths", "measureKern", "()Z"⟩, 6) := ⟨⟨by decide +kernel, by decide +kernel⟩, List.mem_of_getElem? (i := 144) (by decide +kernel), List.mem_of_getElem? (i := 719) (by decide +kernel), List.mem_of_getElem? (i := 720) (by decide +kernel)⟩
theorem lw_p35 : lw_okq (⟨"SpineTables$Lengths", "takeSound", "()Z"⟩, 6) := ⟨⟨by decide +kernel, by decide +kernel⟩, List.mem_of_getElem? (i := 144) (by decide +kernel), List.mem_of_getElem? (i := 723) (by decide +kernel), List.mem_of_getElem? (i := 724) (by decide +kernel)⟩
theorem lw_p36 : lw_okq (⟨"SpineTables$Lengths", "takePitch", "()Z"⟩, 6) := ⟨⟨by decide +kernel, by decide +kernel⟩, List.mem_of_getElem? (i := 144) (by decide +kernel), List.mem_of_getElem? (i := 727) (by decide +kernel), List.mem_of_getElem? (i := 728) (by decide +kernel)⟩
theorem lw_p37 : lw_okq (⟨"SpineTables$Walker", "begin", "(LSpineTables$Table;)V"⟩, 9) := ⟨⟨by decide +kernel, by decide +kernel⟩, List.mem_of_getElem? (i := 93) (by decide +kernel), List.mem_of_getElem? (i := 746) (by decide +kernel), List.mem_of_getElem? (i := 747) (by decide +kernel)⟩
theorem lw_p38 : lw_okq (⟨"SpineTables$Walker", "step", "(I)I"⟩, 9) := ⟨⟨by decide +kernel, by decide +kernel⟩, List.mem_of_getElem? (i := 93) (by decide +kernel), List.mem_of_getElem? (i := 754) (by decide +kernel), List.mem_of_getElem? (i := 755) (by decide +kernel)⟩
theorem lw_p39 : lw_okq (⟨"SpineTables$Walker", "stepData", "(I)I"⟩, 9) := ⟨⟨by decide +kernel, by decide +kernel⟩, List.mem_of_getElem? (i := 93) (by decide +kernel), List.mem_of_getElem? (i := 759) (by decide +kernel), List.mem_of_getElem? (i := 760) (by decide +kernel)⟩
theorem lw_p40 : lw_okq (⟨"SpineTables$Walker", "checkData", "(I)I"⟩, 9) := ⟨⟨by decide +kernel, by decide +kernel⟩, List.mem_of_getElem? (i := 93) (by decide +kernel), List.mem_of_getElem? (i := 763) (by decide +kernel), List.mem_of_getElem? (i := 764) (by decide +kernel)⟩
theorem lw_p41 : lw_okq (⟨"SpineTables$Walker", "strandsAt", "(I)I"⟩, 9) := ⟨⟨by decide +kernel, by decide +kernel⟩, List.mem_of_getElem? (i := 93) (by decide +kernel), List.mem_of_getElem? (i := 767) (by decide +kernel), List.mem_of_getElem? (i := 768) (by decide +kernel)⟩
theorem lw_p42 : lw_okq (⟨"SpineTables$Walker", "isAt", "(III)Z"⟩, 9) := ⟨⟨by decide +kernel, by decide +kernel⟩, List.mem_of_getElem? (i := 93) (by decide +kernel), List.mem_of_getElem? (i := 777) (by decide +kernel), List.mem_of_getElem? (i := 778) (by decide +kernel)⟩
theorem lw_p43 : lw_okq (⟨"SpineTables$Walker", "checkToken", "(IZ)I"⟩, 9) := ⟨⟨by decide +kernel, by decide +kernel⟩, List.mem_of_getElem? (i := 93) (by decide +kernel), List.mem_of_getElem? (i := 781) (by decide +kernel), List.mem_of_getElem? (i := 782) (by decide +kernel)⟩
theorem lw_p44 : lw_okq (⟨"SpineTables$Walker", "lengthen", "(I)I"⟩, 9) := ⟨⟨by decide +kernel, by decide +kernel⟩, List.mem_of_getElem? (i := 93) (by decide +kernel), List.mem_of_getElem? (i := 790) (by decide +kernel), List.mem_of_getElem? (i := 791) (by decide +kernel)⟩
theorem lw_p45 : lw_okq (⟨"SpineTables$Walker", "moveOn", "(I)V"⟩, 9) := ⟨⟨by decide +kernel, by decide +kernel⟩, List.mem_of_getElem? (i := 93) (by decide +kernel), List.mem_of_getElem? (i := 804) (by decide +kernel), List.mem_of_getElem? (i := 805) (by decide +kernel)⟩
theorem lw_p46 : lw_okq (⟨"SpineTables$Walker", "endsAhead", "(II)Z"⟩, 9) := ⟨⟨by decide +kernel, by decide +kernel⟩, List.mem_of_getElem? (i := 93) (by decide +kernel), List.mem_of_getElem? (i := 808) (by decide +kernel), List.mem_of_getElem? (i := 809) (by decide +kernel)⟩
theorem lw_p47 : lw_okq (⟨"SpineTables$Walker", "stepActs", "(I)I"⟩, 9) := ⟨⟨by decide +kernel, by decide +kernel⟩, List.mem_of_getElem? (i := 93) (by decide +kernel), List.mem_of_getElem? (i := 818) (by decide +kernel), List.mem_of_getElem? (i := 819) (by decide +kernel)⟩
def lw_privs_3 : List (MethodName × Nat) := [(⟨"SpineTables$Lengths", "takes", "(I)Z"⟩, 6), (⟨"SpineTables$Lengths", "keepValue", "()V"⟩, 6), (⟨"SpineTables$Lengths", "measureKern", "()Z"⟩, 6), (⟨"SpineTables$Lengths", "takeSound", "()Z"⟩, 6), (⟨"SpineTables$Lengths", "takePitch", "()Z"⟩, 6), (⟨"SpineTables$Walker", "begin", "(LSpineTables$Table;)V"⟩, 9), (⟨"SpineTables$Walker", "step", "(I)I"⟩, 9), (⟨"SpineTables$Walker", "stepData", "(I)I"⟩, 9), (⟨"SpineTables$Walker", "checkData", "(I)I"⟩, 9), (⟨"SpineTables$Walker", "strandsAt", "(I)I"⟩, 9), (⟨"SpineTables$Walker", "isAt", "(III)Z"⟩, 9), (⟨"SpineTables$Walker", "checkToken", "(IZ)I"⟩, 9), (⟨"SpineTables$Walker", "lengthen", "(I)I"⟩, 9), (⟨"SpineTables$Walker", "moveOn", "(I)V"⟩, 9), (⟨"SpineTables$Walker", "endsAhead", "(II)Z"⟩, 9), (⟨"SpineTables$Walker", "stepActs", "(I)I"⟩, 9)]
theorem lw_r3 : ∀ q ∈ lw_privs_3, lw_okq q := List.forall_mem_cons.mpr ⟨lw_p32, List.forall_mem_cons.mpr ⟨lw_p33, List.forall_mem_cons.mpr ⟨lw_p34, List.forall_mem_cons.mpr ⟨lw_p35, List.forall_mem_cons.mpr ⟨lw_p36, List.forall_mem_cons.mpr ⟨lw_p37, List.forall_mem_cons.mpr ⟨lw_p38, List.forall_mem_cons.mpr ⟨lw_p39, List.forall_mem_cons.mpr ⟨lw_p40, List.forall_mem_cons.mpr ⟨lw_p41, List.forall_mem_cons.mpr ⟨lw_p42, List.forall_mem_cons.mpr ⟨lw_p43, List.forall_mem_cons.mpr ⟨lw_p44, List.forall_mem_cons.mpr ⟨lw_p45, List.forall_mem_cons.mpr ⟨lw_p46, List.forall_mem_cons.mpr ⟨lw_p47, fun _ h => absurd h List.not_mem_nil⟩⟩⟩⟩⟩⟩⟩⟩⟩⟩⟩⟩⟩⟩⟩⟩
theorem lw_p48 : lw_okq (⟨"SpineTables$Walker", "checkActs", "(I)I"⟩, 9) := ⟨⟨by decide +kernel, by decide +kernel⟩, List.mem_of_getElem? (i := 93) (by decide +kernel), List.mem_of_getElem? (i := 822) (by decide +kernel), List.mem_of_getElem? (i := 823) (by decide +kernel)⟩
theorem lw_p49 : lw_okq (⟨"SpineTables$Walker", "carry", "(I)V"⟩, 9) := ⟨⟨by decide +kernel, by decide +kernel⟩, List.mem_of_getElem? (i := 93) (by decide +kernel), List.mem_of_getElem? (i := 827) (by decide +kernel), List.mem_of_getElem? (i := 828) (by decide +kernel)⟩
theorem lw_p50 : lw_okq (⟨"SpineTables", "keepBench", "(I)I"⟩, 14) := ⟨⟨by decide +kernel, by decide +kernel⟩, List.mem_of_getElem? (i := 23) (by decide +kernel), List.mem_of_getElem? (i := 841) (by decide +kernel), List.mem_of_getElem? (i := 842) (by decide +kernel)⟩
theorem lw_p51 : lw_okq (⟨"SpineTables", "tableAt", "(I)LSpineTables$Table;"⟩, 14) := ⟨⟨by decide +kernel, by decide +kernel⟩, List.mem_of_getElem? (i := 23) (by decide +kernel), List.mem_of_getElem? (i := 861) (by decide +kernel), List.mem_of_getElem? (i := 862) (by decide +kernel)⟩
theorem lw_p52 : lw_okq (⟨"java/lang/Throwable", "fillInStackTrace", "(I)Ljava/lang/Throwable;"⟩, 6) := ⟨⟨by decide +kernel, by decide +kernel⟩, List.mem_of_getElem? (i := 903) (by decide +kernel), List.mem_of_getElem? (i := 901) (by decide +kernel), List.mem_of_getElem? (i := 902) (by decide +kernel)⟩
theorem lw_p53 : lw_okq (⟨"SpineTables$BarCheck", "takeMeter", "(LSpineTables$Rows;ILSpineTables$Lengths;)V"⟩, 5) := ⟨⟨by decide +kernel, by decide +kernel⟩, List.mem_of_getElem? (i := 225) (by decide +kernel), List.mem_of_getElem? (i := 1106) (by decide +kernel), List.mem_of_getElem? (i := 1107) (by decide +kernel)⟩
theorem lw_p54 : lw_okq (⟨"SpineTables$BarCheck", "isWrong", "(LSpineTables$Table;II)Z"⟩, 5) := ⟨⟨by decide +kernel, by decide +kernel⟩, List.mem_of_getElem? (i := 225) (by decide +kernel), List.mem_of_getElem? (i := 1116) (by decide +kernel), List.mem_of_getElem? (i := 1117) (by decide +kernel)⟩
theorem lw_p55 : lw_okq (⟨"SpineTables$Extractor", "addedKind", "(LSpineTables$Table;I)I"⟩, 1) := ⟨⟨by decide +kernel, by decide +kernel⟩, List.mem_of_getElem? (i := 215) (by decide +kernel), List.mem_of_getElem? (i := 1154) (by decide +kernel), List.mem_of_getElem? (i := 1155) (by decide +kernel)⟩
theorem lw_p56 : lw_okq (⟨"SpineTables$Extractor", "isKept", "(LSpineTables$Table;III)Z"⟩, 1) := ⟨⟨by decide +kernel, by decide +kernel⟩, List.mem_of_getElem? (i := 215) (by decide +kernel), List.mem_of_getElem? (i := 1163) (by decide +kernel), List.mem_of_getElem? (i := 1164) (by decide +kernel)⟩
theorem lw_p57 : lw_okq (⟨"SpineTables$Extractor", "copyRecord", "(LSpineTables$Table;IIILSpineTables$Rows;)V"⟩, 1) := ⟨⟨by decide +kernel, by decide +kernel⟩, List.mem_of_getElem? (i := 215) (by decide +kernel), List.mem_of_getElem? (i := 1176) (by decide +kernel), List.mem_of_getElem? (i := 1177) (by decide +kernel)⟩
theorem lw_p58 : lw_okq (⟨"SpineTables$Assembler", "putRemarksAhead", "(LSpineTables$Side;)V"⟩, 3) := ⟨⟨by decide +kernel, by decide +kernel⟩, List.mem_of_getElem? (i := 173) (by decide +kernel), List.mem_of_getElem? (i := 1209) (by decide +kernel), List.mem_of_getElem? (i := 1210) (by decide +kernel)⟩
theorem lw_p59 : lw_okq (⟨"SpineTables$Assembler", "putAlone", "(LSpineTables$Side;LSpineTables$Side;)Z"⟩, 3) := ⟨⟨by decide +kernel, by decide +kernel⟩, List.mem_of_getElem? (i := 173) (by decide +kernel), List.mem_of_getElem? (i := 1222) (by decide +kernel), List.mem_of_getElem? (i := 1223) (by decide +kernel)⟩
theorem lw_p60 : lw_okq (⟨"SpineTables$Assembler", "needRoom", "(LSpineTables$Side;LSpineTables$Side;)V"⟩, 3) := ⟨⟨by decide +kernel, by decide +kernel⟩, List.mem_of_getElem? (i := 173) (by decide +kernel), List.mem_of_getElem? (i := 1236) (by decide +kernel), List.mem_of_getElem? (i := 1237) (by decide +kernel)⟩
theorem lw_p61 : lw_okq (⟨"SpineTables$Assembler", "putBoth", "()Z"⟩, 3) := ⟨⟨by decide +kernel, by decide +kernel⟩, List.mem_of_getElem? (i := 173) (by decide +kernel), List.mem_of_getElem? (i := 1264) (by decide +kernel), List.mem_of_getElem? (i := 1265) (by decide +kernel)⟩
theorem lw_p62 : lw_okq (⟨"SpineTables$Assembler", "putNext", "()Z"⟩, 3) := ⟨⟨by decide +kernel, by decide +kernel⟩, List.mem_of_getElem? (i := 173) (by decide +kernel), List.mem_of_getElem? (i := 1268) (by decide +kernel), List.mem_of_getElem? (i := 1269) (by decide +kernel)⟩
theorem lw_p63 : lw_okq (⟨"SpineTables$Assembler", "order", "()I"⟩, 3) := ⟨⟨by decide +kernel, by decide +kernel⟩, List.mem_of_getElem? (i := 173) (by decide +kernel), List.mem_of_getElem? (i := 1272) (by decide +kernel), List.mem_of_getElem? (i := 1273) (by decide +kernel)⟩
def lw_privs_4 : List (MethodName × Nat) := [(⟨"SpineTables$Walker", "checkActs", "(I)I"⟩, 9), (⟨"SpineTables$Walker", "carry", "(I)V"⟩, 9), (⟨"SpineTables", "keepBench", "(I)I"⟩, 14), (⟨"SpineTables", "tableAt", "(I)LSpineTables$Table;"⟩, 14), (⟨"java/lang/Throwable", "fillInStackTrace", "(I)Ljava/lang/Throwable;"⟩, 6), (⟨"SpineTables$BarCheck", "takeMeter", "(LSpineTables$Rows;ILSpineTables$Lengths;)V"⟩, 5), (⟨"SpineTables$BarCheck", "isWrong", "(LSpineTables$Table;II)Z"⟩, 5), (⟨"SpineTables$Extractor", "addedKind", "(LSpineTables$Table;I)I"⟩, 1), (⟨"SpineTables$Extractor", "isKept", "(LSpineTables$Table;III)Z"⟩, 1), (⟨"SpineTables$Extractor", "copyRecord", "(LSpineTables$Table;IIILSpineTables$Rows;)V"⟩, 1), (⟨"SpineTables$Assembler", "putRemarksAhead", "(LSpineTables$Side;)V"⟩, 3), (⟨"SpineTables$Assembler", "putAlone", "(LSpineTables$Side;LSpineTables$Side;)Z"⟩, 3), (⟨"SpineTables$Assembler", "needRoom", "(LSpineTables$Side;LSpineTables$Side;)V"⟩, 3), (⟨"SpineTables$Assembler", "putBoth", "()Z"⟩, 3), (⟨"SpineTables$Assembler", "putNext", "()Z"⟩, 3), (⟨"SpineTables$Assembler", "order", "()I"⟩, 3)]
theorem lw_r4 : ∀ q ∈ lw_privs_4, lw_okq q := List.forall_mem_cons.mpr ⟨lw_p48, List.forall_mem_cons.mpr ⟨lw_p49, List.forall_mem_cons.mpr ⟨lw_p50, List.forall_mem_cons.mpr ⟨lw_p51, List.forall_mem_cons.mpr ⟨lw_p52, List.forall_mem_cons.mpr ⟨lw_p53, List.forall_mem_cons.mpr ⟨lw_p54, List.forall_mem_cons.mpr ⟨lw_p55, List.forall_mem_cons.mpr ⟨lw_p56, List.forall_mem_cons.mpr ⟨lw_p57, List.forall_mem_cons.mpr ⟨lw_p58, List.forall_mem_cons.mpr ⟨lw_p59, List.forall_mem_cons.mpr ⟨lw_p60, List.forall_mem_cons.mpr ⟨lw_p61, List.forall_mem_cons.mpr ⟨lw_p62, List.forall_mem_cons.mpr ⟨lw_p63, fun _ h => absurd h List.not_mem_nil⟩⟩⟩⟩⟩⟩⟩⟩⟩⟩⟩⟩⟩⟩⟩⟩
theorem lw_p64 : lw_okq (⟨"SpineTables$Assembler", "doMeet", "()Z"⟩, 3) := ⟨⟨by decide +kernel, by decide +kernel⟩, List.mem_of_getElem? (i := 173) (by decide +kernel), List.mem_of_getElem? (i := 1283) (by decide +kernel), List.mem_of_getElem? (i := 1284) (by decide +kernel)⟩
theorem lw_p65 : lw_okq (⟨"SpineTables$Assembler", "firstTokensAreAlike", "(LSpineTables$Rows;LSpineTables$Rows;)Z"⟩, 3) := ⟨⟨by decide +kernel, by decide +kernel⟩, List.mem_of_getElem? (i := 173) (by decide +kernel), List.mem_of_getElem? (i := 1287) (by decide +kernel), List.mem_of_getElem? (i := 1288) (by decide +kernel)⟩
theorem lw_p66 : lw_okq (⟨"SpineTablesModel", "free", "()I"⟩, 46) := ⟨⟨by decide +kernel, by decide +kernel⟩, List.mem_of_getElem? (i := 1318) (by decide +kernel), List.mem_of_getElem? (i := 1480) (by decide +kernel), List.mem_of_getElem? (i := 1481) (by decide +kernel)⟩
theorem lw_p67 : lw_okq (⟨"SpineTablesModel", "isParsed", "(II)Z"⟩, 46) := ⟨⟨by decide +kernel, by decide +kernel⟩, List.mem_of_getElem? (i := 1318) (by decide +kernel), List.mem_of_getElem? (i := 1484) (by decide +kernel), List.mem_of_getElem? (i := 1485) (by decide +kernel)⟩
theorem lw_p68 : lw_okq (⟨"SpineTablesModel", "blame", "(II)V"⟩, 46) := ⟨⟨by decide +kernel, by decide +kernel⟩, List.mem_of_getElem? (i := 1318) (by decide +kernel), List.mem_of_getElem? (i := 1488) (by decide +kernel), List.mem_of_getElem? (i := 1489) (by decide +kernel)⟩
theorem lw_p69 : lw_okq (⟨"SpineTablesModel", "look", "(IIIZ)V"⟩, 46) := ⟨⟨by decide +kernel, by decide +kernel⟩, List.mem_of_getElem? (i := 1318) (by decide +kernel), List.mem_of_getElem? (i := 1492) (by decide +kernel), List.mem_of_getElem? (i := 1493) (by decide +kernel)⟩
theorem lw_p70 : lw_okq (⟨"SpineTablesModel", "sortAt", "(II)I"⟩, 46) := ⟨⟨by decide +kernel, by decide +kernel⟩, List.mem_of_getElem? (i := 1318) (by decide +kernel), List.mem_of_getElem? (i := 1496) (by decide +kernel), List.mem_of_getElem? (i := 1497) (by decide +kernel)⟩
theorem lw_p71 : lw_okq (⟨"SpineTablesModel", "place", "(III)I"⟩, 46) := ⟨⟨by decide +kernel, by decide +kernel⟩, List.mem_of_getElem? (i := 1318) (by decide +kernel), List.mem_of_getElem? (i := 1500) (by decide +kernel), List.mem_of_getElem? (i := 1501) (by decide +kernel)⟩
theorem lw_p72 : lw_okq (⟨"SpineTablesModel", "isKind", "(II)Z"⟩, 46) := ⟨⟨by decide +kernel, by decide +kernel⟩, List.mem_of_getElem? (i := 1318) (by decide +kernel), List.mem_of_getElem? (i := 1504) (by decide +kernel), List.mem_of_getElem? (i := 1505) (by decide +kernel)⟩
theorem lw_p73 : lw_okq (⟨"SpineTablesModel", "isStarred", "(II)Z"⟩, 46) := ⟨⟨by decide +kernel, by decide +kernel⟩, List.mem_of_getElem? (i := 1318) (by decide +kernel), List.mem_of_getElem? (i := 1508) (by decide +kernel), List.mem_of_getElem? (i := 1509) (by decide +kernel)⟩
theorem lw_p74 : lw_okq (⟨"SpineTablesModel", "act", "(II)I"⟩, 46) := ⟨⟨by decide +kernel, by decide +kernel⟩, List.mem_of_getElem? (i := 1318) (by decide +kernel), List.mem_of_getElem? (i := 1515) (by decide +kernel), List.mem_of_getElem? (i := 1516) (by decide +kernel)⟩
theorem lw_p75 : lw_okq (⟨"SpineTablesModel", "actAt", "(II)I"⟩, 46) := ⟨⟨by decide +kernel, by decide +kernel⟩, List.mem_of_getElem? (i := 1318) (by decide +kernel), List.mem_of_getElem? (i := 1519) (by decide +kernel), List.mem_of_getElem? (i := 1520) (by decide +kernel)⟩
theorem lw_p76 : lw_okq (⟨"SpineTablesModel", "goOn", "(II)V"⟩, 46) := ⟨⟨by decide +kernel, by decide +kernel⟩, List.mem_of_getElem? (i := 1318) (by decide +kernel), List.mem_of_getElem? (i := 1523) (by decide +kernel), List.mem_of_getElem? (i := 1524) (by decide +kernel)⟩
theorem lw_p77 : lw_okq (⟨"SpineTablesModel", "kindAt", "(III)I"⟩, 46) := ⟨⟨by decide +kernel, by decide +kernel⟩, List.mem_of_getElem? (i := 1318) (by decide +kernel), List.mem_of_getElem? (i := 1527) (by decide +kernel), List.mem_of_getElem? (i := 1528) (by decide +kernel)⟩
theorem lw_p78 : lw_okq (⟨"SpineTablesModel", "known", "(IJ)I"⟩, 46) := ⟨⟨by decide +kernel, by decide +kernel⟩, List.mem_of_getElem? (i := 1318) (by decide +kernel), List.mem_of_getElem? (i := 1531) (by decide +kernel), List.mem_of_getElem? (i := 1532) (by decide +kernel)⟩
theorem lw_p79 : lw_okq (⟨"SpineTablesModel", "isOne", "(III)Z"⟩, 46) := ⟨⟨by decide +kernel, by decide +kernel⟩, List.mem_of_getElem? (i := 1318) (by decide +kernel), List.mem_of_getElem? (i := 1535) (by decide +kernel), List.mem_of_getElem? (i := 1536) (by decide +kernel)⟩
def lw_privs_5 : List (MethodName × Nat) := [(⟨"SpineTables$Assembler", "doMeet", "()Z"⟩, 3), (⟨"SpineTables$Assembler", "firstTokensAreAlike", "(LSpineTables$Rows;LSpineTables$Rows;)Z"⟩, 3), (⟨"SpineTablesModel", "free", "()I"⟩, 46), (⟨"SpineTablesModel", "isParsed", "(II)Z"⟩, 46), (⟨"SpineTablesModel", "blame", "(II)V"⟩, 46), (⟨"SpineTablesModel", "look", "(IIIZ)V"⟩, 46), (⟨"SpineTablesModel", "sortAt", "(II)I"⟩, 46), (⟨"SpineTablesModel", "place", "(III)I"⟩, 46), (⟨"SpineTablesModel", "isKind", "(II)Z"⟩, 46), (⟨"SpineTablesModel", "isStarred", "(II)Z"⟩, 46), (⟨"SpineTablesModel", "act", "(II)I"⟩, 46), (⟨"SpineTablesModel", "actAt", "(II)I"⟩, 46), (⟨"SpineTablesModel", "goOn", "(II)V"⟩, 46), (⟨"SpineTablesModel", "kindAt", "(III)I"⟩, 46), (⟨"SpineTablesModel", "known", "(IJ)I"⟩, 46), (⟨"SpineTablesModel", "isOne", "(III)Z"⟩, 46)]
theorem lw_r5 : ∀ q ∈ lw_privs_5, lw_okq q := List.forall_mem_cons.mpr ⟨lw_p64, List.forall_mem_cons.mpr ⟨lw_p65, List.forall_mem_cons.mpr ⟨lw_p66, List.forall_mem_cons.mpr ⟨lw_p67, List.forall_mem_cons.mpr ⟨lw_p68, List.forall_mem_cons.mpr ⟨lw_p69, List.forall_mem_cons.mpr ⟨lw_p70, List.forall_mem_cons.mpr ⟨lw_p71, List.forall_mem_cons.mpr ⟨lw_p72, List.forall_mem_cons.mpr ⟨lw_p73, List.forall_mem_cons.mpr ⟨lw_p74, List.forall_mem_cons.mpr ⟨lw_p75, List.forall_mem_cons.mpr ⟨lw_p76, List.forall_mem_cons.mpr ⟨lw_p77, List.forall_mem_cons.mpr ⟨lw_p78, List.forall_mem_cons.mpr ⟨lw_p79, fun _ h => absurd h List.not_mem_nil⟩⟩⟩⟩⟩⟩⟩⟩⟩⟩⟩⟩⟩⟩⟩⟩
theorem lw_p80 : lw_okq (⟨"SpineTablesModel", "change", "(IIJJ)V"⟩, 46) := ⟨⟨by decide +kernel, by decide +kernel⟩, List.mem_of_getElem? (i := 1318) (by decide +kernel), List.mem_of_getElem? (i := 1539) (by decide +kernel), List.mem_of_getElem? (i := 1540) (by decide +kernel)⟩
theorem lw_p81 : lw_okq (⟨"SpineTablesModel", "doing", "(III)I"⟩, 46) := ⟨⟨by decide +kernel, by decide +kernel⟩, List.mem_of_getElem? (i := 1318) (by decide +kernel), List.mem_of_getElem? (i := 1543) (by decide +kernel), List.mem_of_getElem? (i := 1544) (by decide +kernel)⟩
theorem lw_p82 : lw_okq (⟨"SpineTablesModel", "keep", "(I)V"⟩, 46) := ⟨⟨by decide +kernel, by decide +kernel⟩, List.mem_of_getElem? (i := 1318) (by decide +kernel), List.mem_of_getElem? (i := 1547) (by decide +kernel), List.mem_of_getElem? (i := 1548) (by decide +kernel)⟩
theorem lw_p83 : lw_okq (⟨"SpineTablesModel", "add", "(IIJJ)V"⟩, 46) := ⟨⟨by decide +kernel, by decide +kernel⟩, List.mem_of_getElem? (i := 1318) (by decide +kernel), List.mem_of_getElem? (i := 1551) (by decide +kernel), List.mem_of_getElem? (i := 1552) (by decide +kernel)⟩
theorem lw_p84 : lw_okq (⟨"SpineTablesModel", "take", "()V"⟩, 46) := ⟨⟨by decide +kernel, by decide +kernel⟩, List.mem_of_getElem? (i := 1318) (by decide +kernel), List.mem_of_getElem? (i := 1555) (by decide +kernel), List.mem_of_getElem? (i := 1556) (by decide +kernel)⟩
theorem lw_p85 : lw_okq (⟨"SpineTablesModel", "begin", "(II)V"⟩, 46) := ⟨⟨by decide +kernel, by decide +kernel⟩, List.mem_of_getElem? (i := 1318) (by decide +kernel), List.mem_of_getElem? (i := 1559) (by decide +kernel), List.mem_of_getElem? (i := 1560) (by decide +kernel)⟩
theorem lw_p86 : lw_okq (⟨"SpineTablesModel", "walkThrough", "(I)V"⟩, 46) := ⟨⟨by decide +kernel, by decide +kernel⟩, List.mem_of_getElem? (i := 1318) (by decide +kernel), List.mem_of_getElem? (i := 1563) (by decide +kernel), List.mem_of_getElem? (i := 1564) (by decide +kernel)⟩
theorem lw_p87 : lw_okq (⟨"SpineTablesModel", "sounds", "(IIJJ)V"⟩, 46) := ⟨⟨by decide +kernel, by decide +kernel⟩, List.mem_of_getElem? (i := 1318) (by decide +kernel), List.mem_of_getElem? (i := 1567) (by decide +kernel), List.mem_of_getElem? (i := 1568) (by decide +kernel)⟩
theorem lw_p88 : lw_okq (⟨"SpineTablesModel", "hasRhythm", "(II)Z"⟩, 46) := ⟨⟨by decide +kernel, by decide +kernel⟩, List.mem_of_getElem? (i := 1318) (by decide +kernel), List.mem_of_getElem? (i := 1571) (by decide +kernel), List.mem_of_getElem? (i := 1572) (by decide +kernel)⟩
theorem lw_p89 : lw_okq (⟨"SpineTablesModel", "nameOf", "(II)J"⟩, 46) := ⟨⟨by decide +kernel, by decide +kernel⟩, List.mem_of_getElem? (i := 1318) (by decide +kernel), List.mem_of_getElem? (i := 1575) (by decide +kernel), List.mem_of_getElem? (i := 1576) (by decide +kernel)⟩
theorem lw_p90 : lw_okq (⟨"SpineTablesModel", "misfit", "(III)V"⟩, 46) := ⟨⟨by decide +kernel, by decide +kernel⟩, List.mem_of_getElem? (i := 1318) (by decide +kernel), List.mem_of_getElem? (i := 1584) (by decide +kernel), List.mem_of_getElem? (i := 1585) (by decide +kernel)⟩
theorem lw_p91 : lw_okq (⟨"SpineTablesModel", "hasLength", "(IIZ)Z"⟩, 46) := ⟨⟨by decide +kernel, by decide +kernel⟩, List.mem_of_getElem? (i := 1318) (by decide +kernel), List.mem_of_getElem? (i := 1588) (by decide +kernel), List.mem_of_getElem? (i := 1589) (by decide +kernel)⟩
theorem lw_p92 : lw_okq (⟨"SpineTablesModel", "reciprocal", "(I)I"⟩, 46) := ⟨⟨by decide +kernel, by decide +kernel⟩, List.mem_of_getElem? (i := 1318) (by decide +kernel), List.mem_of_getElem? (i := 1592) (by decide +kernel), List.mem_of_getElem? (i := 1593) (by decide +kernel)⟩
theorem lw_p93 : lw_okq (⟨"SpineTablesModel", "digits", "(I)I"⟩, 46) := ⟨⟨by decide +kernel, by decide +kernel⟩, List.mem_of_getElem? (i := 1318) (by decide +kernel), List.mem_of_getElem? (i := 1596) (by decide +kernel), List.mem_of_getElem? (i := 1597) (by decide +kernel)⟩
theorem lw_p94 : lw_okq (⟨"SpineTablesModel", "at", "(I)I"⟩, 46) := ⟨⟨by decide +kernel, by decide +kernel⟩, List.mem_of_getElem? (i := 1318) (by decide +kernel), List.mem_of_getElem? (i := 1600) (by decide +kernel), List.mem_of_getElem? (i := 1601) (by decide +kernel)⟩
theorem lw_p95 : lw_okq (⟨"SpineTablesModel", "number", "(II)I"⟩, 46) := ⟨⟨by decide +kernel, by decide +kernel⟩, List.mem_of_getElem? (i := 1318) (by decide +kernel), List.mem_of_getElem? (i := 1604) (by decide +kernel), List.mem_of_getElem? (i := 1605) (by decide +kernel)⟩
def lw_privs_6 : List (MethodName × Nat) := [(⟨"SpineTablesModel", "change", "(IIJJ)V"⟩, 46), (⟨"SpineTablesModel", "doing", "(III)I"⟩, 46), (⟨"SpineTablesModel", "keep", "(I)V"⟩, 46), (⟨"SpineTablesModel", "add", "(IIJJ)V"⟩, 46), (⟨"SpineTablesModel", "take", "()V"⟩, 46), (⟨"SpineTablesModel", "begin", "(II)V"⟩, 46), (⟨"SpineTablesModel", "walkThrough", "(I)V"⟩, 46), (⟨"SpineTablesModel", "sounds", "(IIJJ)V"⟩, 46), (⟨"SpineTablesModel", "hasRhythm", "(II)Z"⟩, 46), (⟨"SpineTablesModel", "nameOf", "(II)J"⟩, 46), (⟨"SpineTablesModel", "misfit", "(III)V"⟩, 46), (⟨"SpineTablesModel", "hasLength", "(IIZ)Z"⟩, 46), (⟨"SpineTablesModel", "reciprocal", "(I)I"⟩, 46), (⟨"SpineTablesModel", "digits", "(I)I"⟩, 46), (⟨"SpineTablesModel", "at", "(I)I"⟩, 46), (⟨"SpineTablesModel", "number", "(II)I"⟩, 46)]
theorem lw_r6 : ∀ q ∈ lw_privs_6, lw_okq q := List.forall_mem_cons.mpr ⟨lw_p80, List.forall_mem_cons.mpr ⟨lw_p81, List.forall_mem_cons.mpr ⟨lw_p82, List.forall_mem_cons.mpr ⟨lw_p83, List.forall_mem_cons.mpr ⟨lw_p84, List.forall_mem_cons.mpr ⟨lw_p85, List.forall_mem_cons.mpr ⟨lw_p86, List.forall_mem_cons.mpr ⟨lw_p87, List.forall_mem_cons.mpr ⟨lw_p88, List.forall_mem_cons.mpr ⟨lw_p89, List.forall_mem_cons.mpr ⟨lw_p90, List.forall_mem_cons.mpr ⟨lw_p91, List.forall_mem_cons.mpr ⟨lw_p92, List.forall_mem_cons.mpr ⟨lw_p93, List.forall_mem_cons.mpr ⟨lw_p94, List.forall_mem_cons.mpr ⟨lw_p95, fun _ h => absurd h List.not_mem_nil⟩⟩⟩⟩⟩⟩⟩⟩⟩⟩⟩⟩⟩⟩⟩⟩
theorem lw_p96 : lw_okq (⟨"SpineTablesModel", "sound", "(I)I"⟩, 46) := ⟨⟨by decide +kernel, by decide +kernel⟩, List.mem_of_getElem? (i := 1318) (by decide +kernel), List.mem_of_getElem? (i := 1617) (by decide +kernel), List.mem_of_getElem? (i := 1618) (by decide +kernel)⟩
theorem lw_p97 : lw_okq (⟨"SpineTablesModel", "ends", "(IIJJ)V"⟩, 46) := ⟨⟨by decide +kernel, by decide +kernel⟩, List.mem_of_getElem? (i := 1318) (by decide +kernel), List.mem_of_getElem? (i := 1628) (by decide +kernel), List.mem_of_getElem? (i := 1629) (by decide +kernel)⟩
theorem lw_p98 : lw_okq (⟨"SpineTablesModel", "isTable", "(I)Z"⟩, 46) := ⟨⟨by decide +kernel, by decide +kernel⟩, List.mem_of_getElem? (i := 1318) (by decide +kernel), List.mem_of_getElem? (i := 1640) (by decide +kernel), List.mem_of_getElem? (i := 1641) (by decide +kernel)⟩
theorem lw_p99 : lw_okq (⟨"SpineTablesModel", "goes", "(ZZZ)Z"⟩, 46) := ⟨⟨by decide +kernel, by decide +kernel⟩, List.mem_of_getElem? (i := 1318) (by decide +kernel), List.mem_of_getElem? (i := 1644) (by decide +kernel), List.mem_of_getElem? (i := 1645) (by decide +kernel)⟩
theorem lw_p100 : lw_okq (⟨"SpineTablesModel", "many", "(II)I"⟩, 46) := ⟨⟨by decide +kernel, by decide +kernel⟩, List.mem_of_getElem? (i := 1318) (by decide +kernel), List.mem_of_getElem? (i := 1655) (by decide +kernel), List.mem_of_getElem? (i := 1656) (by decide +kernel)⟩
theorem lw_p101 : lw_okq (⟨"SpineTablesModel", "isRow", "(II)Z"⟩, 46) := ⟨⟨by decide +kernel, by decide +kernel⟩, List.mem_of_getElem? (i := 1318) (by decide +kernel), List.mem_of_getElem? (i := 1663) (by decide +kernel), List.mem_of_getElem? (i := 1664) (by decide +kernel)⟩
theorem lw_p102 : lw_okq (⟨"SpineTablesModel", "isStrand", "(III)Z"⟩, 46) := ⟨⟨by decide +kernel, by decide +kernel⟩, List.mem_of_getElem? (i := 1318) (by decide +kernel), List.mem_of_getElem? (i := 1671) (by decide +kernel), List.mem_of_getElem? (i := 1672) (by decide +kernel)⟩
theorem lw_p103 : lw_okq (⟨"SpineTablesModel", "meter", "(IIZ)I"⟩, 46) := ⟨⟨by decide +kernel, by decide +kernel⟩, List.mem_of_getElem? (i := 1318) (by decide +kernel), List.mem_of_getElem? (i := 1704) (by decide +kernel), List.mem_of_getElem? (i := 1705) (by decide +kernel)⟩
theorem lw_p104 : lw_okq (⟨"SpineTablesModel", "head", "(I)I"⟩, 46) := ⟨⟨by decide +kernel, by decide +kernel⟩, List.mem_of_getElem? (i := 1318) (by decide +kernel), List.mem_of_getElem? (i := 1712) (by decide +kernel), List.mem_of_getElem? (i := 1713) (by decide +kernel)⟩
theorem lw_p105 : lw_okq (⟨"SpineTablesModel", "takeOut", "(III)V"⟩, 46) := ⟨⟨by decide +kernel, by decide +kernel⟩, List.mem_of_getElem? (i := 1318) (by decide +kernel), List.mem_of_getElem? (i := 1716) (by decide +kernel), List.mem_of_getElem? (i := 1717) (by decide +kernel)⟩
theorem lw_p106 : lw_okq (⟨"SpineTablesModel", "putToken", "(III)V"⟩, 46) := ⟨⟨by decide +kernel, by decide +kernel⟩, List.mem_of_getElem? (i := 1318) (by decide +kernel), List.mem_of_getElem? (i := 1720) (by decide +kernel), List.mem_of_getElem? (i := 1721) (by decide +kernel)⟩
theorem lw_p107 : lw_okq (⟨"SpineTablesModel", "put", "(I)V"⟩, 46) := ⟨⟨by decide +kernel, by decide +kernel⟩, List.mem_of_getElem? (i := 1318) (by decide +kernel), List.mem_of_getElem? (i := 1724) (by decide +kernel), List.mem_of_getElem? (i := 1725) (by decide +kernel)⟩
theorem lw_p108 : lw_okq (⟨"SpineTablesModel", "isMade", "(I)Z"⟩, 46) := ⟨⟨by decide +kernel, by decide +kernel⟩, List.mem_of_getElem? (i := 1318) (by decide +kernel), List.mem_of_getElem? (i := 1728) (by decide +kernel), List.mem_of_getElem? (i := 1729) (by decide +kernel)⟩
theorem lw_p109 : lw_okq (⟨"SpineTablesModel", "putRow", "(II)V"⟩, 46) := ⟨⟨by decide +kernel, by decide +kernel⟩, List.mem_of_getElem? (i := 1318) (by decide +kernel), List.mem_of_getElem? (i := 1736) (by decide +kernel), List.mem_of_getElem? (i := 1737) (by decide +kernel)⟩
theorem lw_p110 : lw_okq (⟨"SpineTablesModel", "putTokens", "(II)V"⟩, 46) := ⟨⟨by decide +kernel, by decide +kernel⟩, List.mem_of_getElem? (i := 1318) (by decide +kernel), List.mem_of_getElem? (i := 1740) (by decide +kernel), List.mem_of_getElem? (i := 1741) (by decide +kernel)⟩
theorem lw_p111 : lw_okq (⟨"SpineTablesModel", "there", "(II)I"⟩, 46) := ⟨⟨by decide +kernel, by decide +kernel⟩, List.mem_of_getElem? (i := 1318) (by decide +kernel), List.mem_of_getElem? (i := 1744) (by decide +kernel), List.mem_of_getElem? (i := 1745) (by decide +kernel)⟩
def lw_privs_7 : List (MethodName × Nat) := [(⟨"SpineTablesModel", "sound", "(I)I"⟩, 46), (⟨"SpineTablesModel", "ends", "(IIJJ)V"⟩, 46), (⟨"SpineTablesModel", "isTable", "(I)Z"⟩, 46), (⟨"SpineTablesModel", "goes", "(ZZZ)Z"⟩, 46), (⟨"SpineTablesModel", "many", "(II)I"⟩, 46), (⟨"SpineTablesModel", "isRow", "(II)Z"⟩, 46), (⟨"SpineTablesModel", "isStrand", "(III)Z"⟩, 46), (⟨"SpineTablesModel", "meter", "(IIZ)I"⟩, 46), (⟨"SpineTablesModel", "head", "(I)I"⟩, 46), (⟨"SpineTablesModel", "takeOut", "(III)V"⟩, 46), (⟨"SpineTablesModel", "putToken", "(III)V"⟩, 46), (⟨"SpineTablesModel", "put", "(I)V"⟩, 46), (⟨"SpineTablesModel", "isMade", "(I)Z"⟩, 46), (⟨"SpineTablesModel", "putRow", "(II)V"⟩, 46), (⟨"SpineTablesModel", "putTokens", "(II)V"⟩, 46), (⟨"SpineTablesModel", "there", "(II)I"⟩, 46)]
theorem lw_r7 : ∀ q ∈ lw_privs_7, lw_okq q := List.forall_mem_cons.mpr ⟨lw_p96, List.forall_mem_cons.mpr ⟨lw_p97, List.forall_mem_cons.mpr ⟨lw_p98, List.forall_mem_cons.mpr ⟨lw_p99, List.forall_mem_cons.mpr ⟨lw_p100, List.forall_mem_cons.mpr ⟨lw_p101, List.forall_mem_cons.mpr ⟨lw_p102, List.forall_mem_cons.mpr ⟨lw_p103, List.forall_mem_cons.mpr ⟨lw_p104, List.forall_mem_cons.mpr ⟨lw_p105, List.forall_mem_cons.mpr ⟨lw_p106, List.forall_mem_cons.mpr ⟨lw_p107, List.forall_mem_cons.mpr ⟨lw_p108, List.forall_mem_cons.mpr ⟨lw_p109, List.forall_mem_cons.mpr ⟨lw_p110, List.forall_mem_cons.mpr ⟨lw_p111, fun _ h => absurd h List.not_mem_nil⟩⟩⟩⟩⟩⟩⟩⟩⟩⟩⟩⟩⟩⟩⟩⟩
theorem lw_p112 : lw_okq (⟨"SpineTablesModel", "putAlone", "(IIIZ)V"⟩, 46) := ⟨⟨by decide +kernel, by decide +kernel⟩, List.mem_of_getElem? (i := 1318) (by decide +kernel), List.mem_of_getElem? (i := 1748) (by decide +kernel), List.mem_of_getElem? (i := 1749) (by decide +kernel)⟩
theorem lw_p113 : lw_okq (⟨"SpineTablesModel", "begins", "(II)Z"⟩, 46) := ⟨⟨by decide +kernel, by decide +kernel⟩, List.mem_of_getElem? (i := 1318) (by decide +kernel), List.mem_of_getElem? (i := 1752) (by decide +kernel), List.mem_of_getElem? (i := 1753) (by decide +kernel)⟩
theorem lw_p114 : lw_okq (⟨"SpineTablesModel", "isBars", "(IIII)Z"⟩, 46) := ⟨⟨by decide +kernel, by decide +kernel⟩, List.mem_of_getElem? (i := 1318) (by decide +kernel), List.mem_of_getElem? (i := 1756) (by decide +kernel), List.mem_of_getElem? (i := 1757) (by decide +kernel)⟩
def lw_privs_8 : List (MethodName × Nat) := [(⟨"SpineTablesModel", "putAlone", "(IIIZ)V"⟩, 46), (⟨"SpineTablesModel", "begins", "(II)Z"⟩, 46), (⟨"SpineTablesModel", "isBars", "(IIII)Z"⟩, 46)]
theorem lw_r8 : ∀ q ∈ lw_privs_8, lw_okq q := List.forall_mem_cons.mpr ⟨lw_p112, List.forall_mem_cons.mpr ⟨lw_p113, List.forall_mem_cons.mpr ⟨lw_p114, fun _ h => absurd h List.not_mem_nil⟩⟩⟩
def lw_privs : List (MethodName × Nat) := lw_privs_1 ++ (lw_privs_2 ++ (lw_privs_3 ++ (lw_privs_4 ++ (lw_privs_5 ++ (lw_privs_6 ++ (lw_privs_7 ++ (lw_privs_8)))))))
def lw_tbl : List Cond := k2_sels lw_privs ++ tables_1
theorem lw_privs_ok : ∀ q ∈ lw_privs, lw_okq q := by
  show ∀ q ∈ lw_privs_1 ++ (lw_privs_2 ++ (lw_privs_3 ++ (lw_privs_4 ++ (lw_privs_5 ++ (lw_privs_6 ++ (lw_privs_7 ++ (lw_privs_8))))))), lw_okq q
  exact List.forall_mem_append.mpr ⟨lw_r1, List.forall_mem_append.mpr ⟨lw_r2, List.forall_mem_append.mpr ⟨lw_r3, List.forall_mem_append.mpr ⟨lw_r4, List.forall_mem_append.mpr ⟨lw_r5, List.forall_mem_append.mpr ⟨lw_r6, List.forall_mem_append.mpr ⟨lw_r7, lw_r8⟩⟩⟩⟩⟩⟩⟩
end
section
/-! ===== BEGIN words of one list among another's, by their places ===== -/
theorem goodIn_r {big : List Cond} (ws : List Cond) (ps : List Nat) (hp : ws = ps.filterMap (fun i => big[i]?)) (h : ws.all goodWord = true) : GoodIn big ws := by
  intro w hw
  have h1 := List.all_eq_true.mp h w hw
  rw [hp] at hw
  obtain ⟨i, -, hi⟩ := List.mem_filterMap.mp hw
  have hm : w ∈ big := by first | exact List.mem_of_getElem? hi | exact List.getElem?_mem hi
  exact ⟨hm, good_of_word h1⟩
theorem goodIn_app {big a b : List Cond} (ha : GoodIn big a) (hb : GoodIn big b) : GoodIn big (a ++ b) := fun w h => (List.mem_append.mp h).elim (ha w) (hb w)
theorem goodIn_ca {big a b : List Cond} {c : Cond} (ha : GoodIn big (c :: a)) (hb : GoodIn big b) : GoodIn big (c :: (a ++ b)) := fun w h => (List.mem_cons.mp h).elim (fun e => ha w (List.mem_cons.mpr (Or.inl e))) (fun h => (List.mem_append.mp h).elim (fun h => ha w (List.mem_cons.mpr (Or.inr h))) (hb w))
theorem goodIn_sub {big ws : List Cond} (hm : ∀ w ∈ ws, w ∈ big) (h : ws.all goodWord = true) : GoodIn big ws := fun w hw => ⟨hm w hw, good_of_word (List.all_eq_true.mp h w hw)⟩
/-! ===== END ===== -/

/-! ===== BEGIN exceptions that leave a method, and their catching by the caller (launches without stack traces) ===== -/
section VXA
/-! The laws vx_back, vx_callV, vx_callS, vx_callSW, vx_throw0, vx_throwS follow proofs of the library, with one case more: JvmDerived/Free/Laws.lean (Back.of_free), Shelf42/LK1.lean (callV, callS), Shelf/KitTraced.lean (throwNew0V, throwNewS). -/
/-- where a method has thrown q: the class by its name, the cell, what was written, the world -/
def vx_T (XC : String → State → State → Prop) (st : State) (q : Addr) (t : State) (mc ms : Nat) (free : Addr → Prop) : Prop :=
  ∃ (E : String) (ce : Cell) (L : List Loc), XC E st t ∧ t.heap[q]? = some ce ∧ ce.vm = .none ∧ st.vm.findClass E = some ce.cls ∧ st.WarmedH t.vm ∧ st.sameButNew ({ t with vm := st.vm } : State) L mc ms ∧ ∀ z ∈ L, free z.base
def vx_Q (Qc : Array Value → State → Outcome → State → Prop) (XC : String → State → State → Prop) (mc ms : Nat) (free : Addr → Prop) : Array Value → State → Outcome → State → Prop := fun a st o t =>
  (Qc a st o t ∧ ∃ L, FrameEnd st o t L mc ms ∧ ∀ q ∈ L, free q.base) ∨ ∃ q, o = .threw q ∧ vx_T XC st q t mc ms free
/-- a callee that returns or throws -/
def vx_Met (l : Launch) (y : MethodName) (ws : List Cond) (rm : Room) (Pc : Array Value → State → Prop) (Qc : Array Value → State → Outcome → State → Prop) (XC : String → State → State → Prop) (mc ms : Nat) (free : Addr → Prop) : Prop :=
  MetFree l y (headSpec ws rm) Pc (fun _ _ _ _ _ => True) (vx_Q Qc XC mc ms free)
def vx_Post (XC : String → State → State → Prop) (mc ms : Nat) (free : Addr → Prop) : Pt → Array Value → Addr → Pt → Prop := fun A a q B =>
  ∃ (g : JFrame) (mk : MethodId) (t : State) (L : List Loc) (E : String) (ce : Cell), B.U.heap = t.heap ∧ B.U.vm = t.vm ∧ XC E (A.U.calling g mk a) t ∧ t.heap[q]? = some ce ∧ ce.vm = .none ∧ A.U.vm.findClass E = some ce.cls ∧ B.locs = A.locs ++ L ∧ (∀ z ∈ L, free z.base) ∧ B.cells = A.cells + mc ∧ B.slots = A.slots + ms
def vx_Back (l : Launch) (R : Room) (p : Program) (e : Env) (below : List Frame) (s : State) (sargs : Array Value) (y : MethodName) (len W9 : Nat)
    (Pre : Pt → Array Value → Prop) (Post : Pt → Array Value → Option Value → Pt → Prop) (PostX : Pt → Array Value → Addr → Pt → Prop) : Prop :=
  ∀ (m : MethodId) (meth : Method) (c : Code) (A : Pt) (g : JFrame) (ig : Instr) (mk : MethodId) (a : Array Value),
    Stand p l e R s m sargs below meth c A.U A.locs A.cells A.slots → g.method = m → g.locals.size = c.maxLocals → decode c.code g.pc = .ok (ig, len) →
    2 * g.monitorRoom + (g.stack.map fun v => v.category).sum ≤ W9 → A.U.methodNamed? y = some mk → Pre A a →
    (∃ (v : Option Value) (B : Pt), Stand p l e R s m sargs below meth c B.U B.locs B.cells B.slots ∧ Post A a v B ∧
      Steps p.tables e below (doInvoke e (A.U.setTop g) [] mk a).1 (B.U.setTop { g with pc := g.pc + len, stack := v.toList ++ g.stack })) ∨
    (∃ (q : Addr) (B : Pt), Stand p l e R s m sargs below meth c B.U B.locs B.cells B.slots ∧ PostX A a q B ∧
      Steps p.tables e below (doInvoke e (A.U.setTop g) [] mk a).1 ((B.U.setTop g).pushFrame (.throwing q)))
section Payer
variable {l : Launch} {R : Room} {p : Program} {e : Env} {below : List Frame} {s : State} {sargs : Array Value} {y : MethodName} {len W9 : Nat}
theorem vx_back {ws : List Cond} {rm : Room} {Pc : Array Value → State → Prop} {Qc : Array Value → State → Outcome → State → Prop} {XC : String → State → State → Prop} {mc ms : Nat} {free : Addr → Prop} {bytes : ByteArray} {maxL : Nat} {ret : Option FieldType}
    (hM : vx_Met l y ws rm Pc Qc XC mc ms free) (hblind : FrameBlind Pc) (hrc : rm.cells = mc) (hrs : rm.slots = ms)
    (hframes : rm.frames + 1 ≤ R.frames) (hlocals : W9 + (maxL + 11) + rm.locals ≤ R.locals)
    (hws : ∀ w ∈ ws, ∀ a' U, s.WarmedH U.vm → w.before a' U = true) (hcode : Cond.code y bytes maxL ret ∈ ws) (hinit : ∀ a' U, s.WarmedH U.vm → (Cond.initialized y.cls).before a' U = true) :
    vx_Back l R p e below s sargs y len W9 (PreOf R mc ms Pc) (PostOf Qc mc ms free) (vx_Post XC mc ms free) := by
  intro m meth c A g ig mk a X hg hsize hdg hW hn hp
  have h1 : (headSpec ws rm).pre.before a A.U = true := atoms_intro fun w hw => hws w hw _ _ X.warmed
  have h2 : (Cond.code y bytes maxL ret).before a A.U = true := hws _ hcode _ _ X.warmed
  have h3 : (Cond.initialized y.cls).before a A.U = true := hinit _ _ X.warmed
  have h4 : A.cells + (headSpec ws rm).room.cells ≤ R.cells := by rw [show (headSpec ws rm).room.cells = mc from hrc]; exact hp.1
  have h5 : A.slots + (headSpec ws rm).room.slots ≤ R.slots := by rw [show (headSpec ws rm).room.slots = ms from hrs]; exact hp.2.1
  have hPc : Pc a (A.U.calling g mk a) := hblind _ _ _ _ hp.2.2
  obtain ⟨U, Ls, c0, s0⟩ := A
  dsimp only [Pt.U, Pt.locs, Pt.cells, Pt.slots] at h1 h2 h3 h4 h5 X hn hPc ⊢
  obtain ⟨methY, cY, hmY, hcY, -, hlY, -, -, -, -⟩ := Cond.code_spec hn h2
  obtain ⟨kY, hkY, -⟩ := className_of_methodNamed hn
  have hinitY : kY.init = .initialized := Cond.initialized_spec (findClass_of_methodNamed hn) hkY h3
  have h : At U g.method c below := by rw [hg]; exact X.here
  have hlocals9 : W9 + (maxL + 11) + (headSpec ws rm).room.locals ≤ R.locals := hlocals
  have happ : (headSpec ws rm).appliesLoose y e.platform (U.calling g mk a) = true :=
    Spec.appliesLoose_calling (g := g) h hdg hn hkY hinitY
      (X.room_calling (g := g) (R' := (headSpec ws rm).room) hsize hmY hcY hframes (by rw [hlY]; omega) h4 h5) h1
  obtain ⟨mid, hmid⟩ := h.above
  have hfr : (U.setTop g).frames = (.java g :: mid) ++ below := by rw [State.frames_setTop' g h.top, hmid]; rfl
  obtain ⟨o, s₂, hsteps, -, hend, hq⟩ := Steps.callFree hM p X.admits X.cas X.clock (acts := []) hfr happ hPc trivial
  have hq' : vx_Q Qc XC mc ms free a (U.calling g mk a) o s₂ := hq
  rw [State.frames_setTop' g h.top] at hend
  obtain ⟨g₀, hg0⟩ := Option.isSome_iff_exists.mp h.top
  obtain ⟨r, hr⟩ := State.topJava?_eq_some.mp hg0
  have hr' : (({ U with heap := s₂.heap, slotsUsed := s₂.slotsUsed } : State).setVm s₂.vm).frames = .java g₀ :: r := hr
  rcases hq' with ⟨hqc, L, hfe, hL⟩ | ⟨q, rfl, E, ce, L, hx, hce, hcv, hcl, hW₂, hsm, hL⟩
  · obtain ⟨⟨v, rfl⟩, hW₂, e2, q2, q3, q4, q5, q6⟩ := id hfe
    have e3 : s₂ = ({ (U.calling g mk a).setFrames s₂.frames with heap := s₂.heap, slotsUsed := s₂.slotsUsed } : State).setVm s₂.vm := by
      have : s₂ = ({ s₂ with vm := (U.calling g mk a).vm } : State).setVm s₂.vm := rfl
      rw [e2] at this
      exact this
    obtain ⟨c₂, i₂, len₂, hc₂, hd₂, hf₂⟩ := hend
    have hW' : U.WarmedH s₂.vm := hW₂
    have hcc : c₂ = c := by
      have h1 : s₂.code? g.method = U.code? g.method := by
        rw [State.code?_eq, State.code?_eq, hW'.alike.method?]
      exact Option.some.inj (hc₂.symm.trans (h1.trans h.code))
    subst hcc
    have hlen : len₂ = len := by rw [hdg] at hd₂; cases hd₂; rfl
    subst hlen
    have hs₂ : s₂ = (({ U with heap := s₂.heap, slotsUsed := s₂.slotsUsed } : State).setVm s₂.vm).setTop { g with pc := g.pc + len₂, stack := v.toList ++ g.stack } := by
      refine e3.trans ?_
      rw [hf₂, State.calling_eq h.top, State.setFrames_setFrames, State.setTop_of_frames _ hr', hr]
      rfl
    have hsame : U.sameButNew ({ U with heap := s₂.heap, slotsUsed := s₂.slotsUsed } : State) L mc ms := by
      refine ⟨?_, q2, q3, q4, q5, q6⟩
      obtain ⟨t, ht, -⟩ := State.frames_cons hr
      show ({ U with heap := s₂.heap, slotsUsed := s₂.slotsUsed } : State) = { U.setFrames U.frames with heap := s₂.heap, slotsUsed := s₂.slotsUsed }
      rw [State.setFrames_self ht]
    subst hg
    refine Or.inl ⟨v, ⟨(({ U with heap := s₂.heap, slotsUsed := s₂.slotsUsed } : State).setVm s₂.vm), Ls ++ L, c0 + mc, s0 + ms⟩,
      ⟨X.admits, X.cas, X.clock, X.frames, X.room, X.hears, X.method, X.code, (X.here.setHeapUsed s₂.heap s₂.slotsUsed).setVm hW'.alike, X.tail, State.WarmedH.trans X.warmed hW', X.limits, X.bytes, X.same.trans (hsame.setVm s.vm)⟩,
      ⟨g, mk, s₂, L, rfl, rfl, hqc, rfl, hL, rfl, rfl⟩, ?_⟩
    show Steps p.tables e below _ ((({ U with heap := s₂.heap, slotsUsed := s₂.slotsUsed } : State).setVm s₂.vm).setTop { g with pc := g.pc + len₂, stack := v.toList ++ g.stack })
    rw [← hs₂]
    exact hsteps
  · obtain ⟨e2, q2, q3, q4, q5, q6⟩ := id hsm
    have e3 : s₂ = ({ (U.calling g mk a).setFrames s₂.frames with heap := s₂.heap, slotsUsed := s₂.slotsUsed } : State).setVm s₂.vm := by
      have : s₂ = ({ s₂ with vm := (U.calling g mk a).vm } : State).setVm s₂.vm := rfl
      rw [e2] at this
      exact this
    have hf₂ : s₂.frames = .throwing q :: .java g :: U.frames.tail := hend
    have hW' : U.WarmedH s₂.vm := hW₂
    have hs₂ : s₂ = ((({ U with heap := s₂.heap, slotsUsed := s₂.slotsUsed } : State).setVm s₂.vm).setTop g).pushFrame (.throwing q) := by
      refine e3.trans ?_
      rw [hf₂, State.calling_eq h.top, State.setFrames_setFrames, State.pushFrame, State.frames_setTop _ hr', State.setTop_of_frames _ hr', State.setFrames_setFrames, hr]
      rfl
    have hsame : U.sameButNew ({ U with heap := s₂.heap, slotsUsed := s₂.slotsUsed } : State) L mc ms := by
      refine ⟨?_, q2, q3, q4, q5, q6⟩
      obtain ⟨t, ht, -⟩ := State.frames_cons hr
      show ({ U with heap := s₂.heap, slotsUsed := s₂.slotsUsed } : State) = { U.setFrames U.frames with heap := s₂.heap, slotsUsed := s₂.slotsUsed }
      rw [State.setFrames_self ht]
    subst hg
    refine Or.inr ⟨q, ⟨(({ U with heap := s₂.heap, slotsUsed := s₂.slotsUsed } : State).setVm s₂.vm), Ls ++ L, c0 + mc, s0 + ms⟩,
      ⟨X.admits, X.cas, X.clock, X.frames, X.room, X.hears, X.method, X.code, (X.here.setHeapUsed s₂.heap s₂.slotsUsed).setVm hW'.alike, X.tail, State.WarmedH.trans X.warmed hW', X.limits, X.bytes, X.same.trans (hsame.setVm s.vm)⟩,
      ⟨g, mk, s₂, L, E, ce, rfl, rfl, hx, hce, hcv, hcl, rfl, hL, rfl, rfl⟩, ?_⟩
    show Steps p.tables e below _ (((({ U with heap := s₂.heap, slotsUsed := s₂.slotsUsed } : State).setVm s₂.vm).setTop g).pushFrame (.throwing q))
    rw [← hs₂]
    exact hsteps
end Payer
section Calls
variable {p : Program} {l : Launch} {e : Env} {R : Room} {s : State} {m : MethodId} {args : Array Value} {below : List Frame} {meth : Method} {c : Code} {T : State} {locs : List Loc} {cells slots : Nat}
theorem vx_callV (X : Stand p l e R s m args below meth c T locs cells slots) (hexec : p.tables.exec = Jvm.exec) {own C : String} {index : Nat} {y : MethodName} {bytes : ByteArray} {maxL : Nat} {ret : Option FieldType}
    (hown : s.vm.findClass own = some m.cls) (hlink : (Cond.methodLink own index y).before args s = true) (hinst : (Cond.instanceMethod y).before args s = true) (hsel : (Cond.selects C y y).before args s = true)
    (hcode : (Cond.code y bytes maxL ret).before args s = true) (hy : y.cls ≠ "java/lang/invoke/MethodHandle" ∧ y.cls ≠ "java/lang/invoke/VarHandle")
    {W9 : Nat} {Pre : Pt → Array Value → Prop} {Post : Pt → Array Value → Option Value → Pt → Prop} {PostX : Pt → Array Value → Addr → Pt → Prop} (hK : vx_Back l R p e below s args y 3 W9 Pre Post PostX)
    {b : Addr} {cellB : Cell} (hcell : T.heap[b]? = some cellB) (hobj : cellB.vm.isStatics = false) (hcls : s.vm.findClass C = some cellB.cls)
    {g : JFrame} (hg : g.method = m) (hsize : g.locals.size = c.maxLocals) {argsL rest : List Value} (hlen : ∀ sig, parseMethodDescriptor y.desc = some sig → argsL.length = sig.parameters.length)
    (hstack : g.stack = argsL.reverse ++ .ref b :: rest) (hW : 2 * g.monitorRoom + (rest.map fun v => v.category).sum ≤ W9) (hdg : decode c.code g.pc = .ok (.invokevirtual index, 3))
    (hpre : ∀ vm₁, s.WarmedH vm₁ → Pre ⟨T.setVm vm₁, locs, cells, slots⟩ (Value.ref b :: argsL).toArray) :
    (∃ (v : Option Value) (vm₁ : Vm) (B : Pt), s.WarmedH vm₁ ∧ Stand p l e R s m args below meth c B.U B.locs B.cells B.slots ∧ Post ⟨T.setVm vm₁, locs, cells, slots⟩ (Value.ref b :: argsL).toArray v B ∧
      ∀ target, Steps p.tables e below (B.U.setTop { g with pc := g.pc + 3, stack := v.toList ++ rest }) target → Steps p.tables e below (T.setTop g) target) ∨
    (∃ (q : Addr) (vm₁ : Vm) (B : Pt), s.WarmedH vm₁ ∧ Stand p l e R s m args below meth c B.U B.locs B.cells B.slots ∧ PostX ⟨T.setVm vm₁, locs, cells, slots⟩ (Value.ref b :: argsL).toArray q B ∧
      Steps p.tables e below (T.setTop g) ((B.U.setTop { g with stack := rest }).pushFrame (.throwing q))) := by
  obtain ⟨mk, methM, hnamed, hmethM, hstM, habM⟩ := Cond.instanceMethod_spec hinst
  obtain ⟨methM', cM, hmethM', -, -, -, -, -, -, hsigM⟩ := Cond.code_spec hnamed hcode
  cases hmethM.symm.trans hmethM'
  obtain ⟨c2, r2, m2, q1, q2, q3, q4, kP, hkP, hkPi⟩ := Cond.selects_spec hsel
  cases hcls.symm.trans q1
  cases (State.methodFound?_of_named hnamed hy).symm.trans q2
  cases hnamed.symm.trans q3
  have hselP : selectMethod e.platform s.vm cellB.cls mk = .method mk := by rw [Launch.admits_selectMethod X.admits]; exact q4
  obtain ⟨vm₁, X₁, hstep₁⟩ := X.invokevirtual hexec hown hlink hnamed hmethM hstM hkP hkPi hy (a := b) (cell := cellB) hcell
    (fun z h => by rw [h] at hobj; cases hobj) hselP hmethM habM hkP hkPi (g := g) hg (argsL := argsL) (rest := rest) (hlen _ hsigM) hstack hdg
  rcases hK m meth c ⟨T.setVm vm₁, locs, cells, slots⟩ { g with stack := rest } (.invokevirtual index) mk (Value.ref b :: argsL).toArray X₁ hg hsize hdg hW (X₁.named hnamed) (hpre vm₁ X₁.warmed) with ⟨v, B, X', hpost, hsteps⟩ | ⟨q, B, X', hpost, hsteps⟩
  · exact Or.inl ⟨v, vm₁, B, X₁.warmed, X', hpost, fun target h => hstep₁ _ fun acts => by rw [doInvoke_state]; exact hsteps.trans h⟩
  · exact Or.inr ⟨q, vm₁, B, X₁.warmed, X', hpost, hstep₁ _ fun acts => by rw [doInvoke_state]; exact hsteps⟩
theorem vx_callS (X : Stand p l e R s m args below meth c T locs cells slots) (hexec : p.tables.exec = Jvm.exec) {own : String} {index : Nat} {y : MethodName} {bytes : ByteArray} {maxL : Nat} {ret : Option FieldType}
    (hown : s.vm.findClass own = some m.cls) (hlink : (Cond.methodLink own index y).before args s = true) (hstat : (Cond.static y).before args s = true) (hinit : (Cond.initialized y.cls).before args s = true)
    (hcode : (Cond.code y bytes maxL ret).before args s = true) (hy : y.cls ≠ "java/lang/invoke/MethodHandle" ∧ y.cls ≠ "java/lang/invoke/VarHandle")
    {W9 : Nat} {Pre : Pt → Array Value → Prop} {Post : Pt → Array Value → Option Value → Pt → Prop} {PostX : Pt → Array Value → Addr → Pt → Prop} (hK : vx_Back l R p e below s args y 3 W9 Pre Post PostX)
    {g : JFrame} (hg : g.method = m) (hsize : g.locals.size = c.maxLocals) {argsL rest : List Value} (hlen : ∀ sig, parseMethodDescriptor y.desc = some sig → argsL.length = sig.parameters.length)
    (hstack : g.stack = argsL.reverse ++ rest) (hW : 2 * g.monitorRoom + (rest.map fun v => v.category).sum ≤ W9) (hdg : decode c.code g.pc = .ok (.invokestatic index, 3))
    (hpre : ∀ vm₁, s.WarmedH vm₁ → Pre ⟨T.setVm vm₁, locs, cells, slots⟩ argsL.toArray) :
    (∃ (v : Option Value) (vm₁ : Vm) (B : Pt), s.WarmedH vm₁ ∧ Stand p l e R s m args below meth c B.U B.locs B.cells B.slots ∧ Post ⟨T.setVm vm₁, locs, cells, slots⟩ argsL.toArray v B ∧
      ∀ target, Steps p.tables e below (B.U.setTop { g with pc := g.pc + 3, stack := v.toList ++ rest }) target → Steps p.tables e below (T.setTop g) target) ∨
    (∃ (q : Addr) (vm₁ : Vm) (B : Pt), s.WarmedH vm₁ ∧ Stand p l e R s m args below meth c B.U B.locs B.cells B.slots ∧ PostX ⟨T.setVm vm₁, locs, cells, slots⟩ argsL.toArray q B ∧
      Steps p.tables e below (T.setTop g) ((B.U.setTop { g with stack := rest }).pushFrame (.throwing q))) := by
  obtain ⟨mk, hnamed⟩ := Cond.code_named hcode
  obtain ⟨methM, cM, hmethM, -, -, -, -, -, -, hsigM⟩ := Cond.code_spec hnamed hcode
  have hstatic : methM.isStatic = true := Cond.static_spec hnamed hmethM hstat
  obtain ⟨kP, hkP, -⟩ := className_of_methodNamed hnamed
  have hinitP : kP.init = .initialized := Cond.initialized_spec (findClass_of_methodNamed hnamed) hkP hinit
  obtain ⟨vm₁, X₁, hstep₁⟩ := X.invokestatic hexec hown hlink hnamed hmethM hstatic hkP hinitP hy (g := g) hg (argsL := argsL) (rest := rest) (hlen _ hsigM) hstack hdg
  rcases hK m meth c ⟨T.setVm vm₁, locs, cells, slots⟩ { g with stack := rest } (.invokestatic index) mk argsL.toArray X₁ hg hsize hdg hW (X₁.named hnamed) (hpre vm₁ X₁.warmed) with ⟨v, B, X', hpost, hsteps⟩ | ⟨q, B, X', hpost, hsteps⟩
  · exact Or.inl ⟨v, vm₁, B, X₁.warmed, X', hpost, fun target h => hstep₁ _ fun acts => by rw [doInvoke_state]; exact hsteps.trans h⟩
  · exact Or.inr ⟨q, vm₁, B, X₁.warmed, X', hpost, hstep₁ _ fun acts => by rw [doInvoke_state]; exact hsteps⟩
end Calls
theorem vx_cls {s : State} {T : State} {vm₁ : Vm} {E : String} {k : ClassId} (hW : s.WarmedH vm₁) (h : (T.setVm vm₁).vm.findClass E = some k) : s.vm.findClass E = some k := by
  have h1 : vm₁.findClass E = some k := h
  rw [hW.alike.findClass] at h1
  exact h1
/-- the method's frame g, with q thrown over it -/
def vx_W (p : Program) (l : Launch) (e : Env) (R : Room) (s : State) (m : MethodId) (args : Array Value) (below : List Frame) (meth : Method) (c : Code) (H : Heap) (locs : List Loc) (cells slots : Nat) (Q : State → Prop) (g : JFrame) (q : Addr) : Prop :=
  ∀ T : State, T.heap = H → Stand p l e R s m args below meth c T locs cells slots → ∃ t, Steps p.tables e below ((T.setTop g).pushFrame (.throwing q)) t ∧ Q t
def vx_Run (p : Program) (l : Launch) (e : Env) (R : Room) (s : State) (m : MethodId) (args : Array Value) (below : List Frame) (meth : Method) (c : Code) (H : Heap) (locs : List Loc) (cells slots mc ms : Nat) (g : JFrame) (rest : List Value) (Qa : State → Outcome → State → Prop) (XC : String → State → State → Prop) (free : Addr → Prop) : Prop :=
  ∀ T : State, T.heap = H → Stand p l e R s m args below meth c T locs cells slots →
    (∃ (v : Option Value) (st₀ t T' : State) (L : List Loc), st₀.heap = H ∧ Stand p l e R s m args below meth c T' (locs ++ L) (cells + mc) (slots + ms) ∧ (∀ q ∈ L, free q.base) ∧ T'.heap = t.heap ∧ T'.vm = t.vm ∧ Qa st₀ (.returned v) t ∧
      Goes p e below T g T' { g with pc := g.pc + 3, stack := v.toList ++ rest }) ∨
    (∃ (q : Addr) (st₀ t T' : State) (L : List Loc) (E : String) (ce : Cell), st₀.heap = H ∧ Stand p l e R s m args below meth c T' (locs ++ L) (cells + mc) (slots + ms) ∧ (∀ z ∈ L, free z.base) ∧ T'.heap = t.heap ∧ T'.vm = t.vm ∧ XC E st₀ t ∧ t.heap[q]? = some ce ∧ ce.vm = .none ∧ s.vm.findClass E = some ce.cls ∧
      Steps p.tables e below (T.setTop g) ((T'.setTop { g with stack := rest }).pushFrame (.throwing q)))
def vx_X {S : Type} (px : S → Prop) (B : String → S → State → Prop) (A : Nat → Prop) : String → State → State → Prop := fun E st t => ∃ u : S, px u ∧ B E u t ∧ va_F A st t
section Runs
variable {p : Program} {l : Launch} {e : Env} {R : Room} {s : State} {m : MethodId} {args : Array Value} {below : List Frame} {meth : Method} {c : Code} {H : Heap} {locs : List Loc} {cells slots : Nat}
variable {y : MethodName} {bytes cc : ByteArray} {maxL nL mc ms n index : Nat} {ret : Option FieldType} {ws : List Cond} {rm : Room} {Pc : Array Value → State → Prop} {Qc : Array Value → State → Outcome → State → Prop} {XC : String → State → State → Prop} {free : Addr → Prop} {Ts : List Cond} {own C : String} {b : Addr} {As rest : List Value} {g : JFrame}
theorem vx_callBack (cb : CallB R s args own index y bytes maxL ret ws rm mc ms n) (hM : vx_Met l y ws rm Pc Qc XC mc ms free) (hbl : FrameBlind Pc) : vx_Back l R p e below s args y 3 8 (PreOf R mc ms Pc) (PostOf Qc mc ms free) (vx_Post XC mc ms free) := by
  obtain ⟨hrc, hrs, hfr, hlo, hws, hcw, -, hini, -⟩ := cb
  exact vx_back (bytes := bytes) (maxL := maxL) (ret := ret) hM hbl hrc hrs hfr hlo hws hcw (fun a' U hW => word_at hW (Or.inl (by first | rfl | simp [Cond.onTables, Cond.keeps, Cond.steady])) hini)
theorem vx_runV (S : CallFix p m c cc nL s args Ts own) (hM : vx_Met l y ws rm Pc Qc XC mc ms free) (cw : CallW R s args own C index y bytes maxL ret ws rm mc ms n) (hp : PreV s H C b Pc As)
    (hg : g.method = m) (hn : As.length = n) (hsize : g.locals.size = nL) (hstack : g.stack = As.reverse ++ .ref b :: rest) (hW : 2 * g.monitorRoom + (rest.map fun v => v.category).sum ≤ 8) (hdg : decode cc g.pc = .ok (.invokevirtual index, 3)) (hf : cells + mc ≤ R.cells ∧ slots + ms ≤ R.slots) :
    vx_Run p l e R s m args below meth c H locs cells slots mc ms g rest (Qc (Value.ref b :: As).toArray) XC free := by
  have hK : vx_Back l R p e below s args y 3 8 (PreOf R mc ms Pc) (PostOf Qc mc ms free) (vx_Post XC mc ms free) := vx_callBack cw.1 hM hp.1
  obtain ⟨⟨-, -, -, -, -, -, hcode, -, hy, hlen, hl⟩, hin, hse⟩ := cw
  obtain ⟨hx, hb, hml, ho, -⟩ := S
  obtain ⟨-, ⟨cellB, hcB, hoB, hclB⟩, hPc⟩ := hp
  intro T hT X
  rcases vx_callV X hx (C := C) (bytes := bytes) (maxL := maxL) (ret := ret) ho hl hin hse hcode hy hK (by rw [hT]; exact hcB) hoB hclB hg (hsize.trans hml.symm) (argsL := As) (rest := rest) (fun sig h => hn.trans (hlen sig h)) hstack hW (by rw [hb]; exact hdg)
    (fun vm₁ hW₁ => ⟨hf.1, hf.2, hPc (T.setVm vm₁) hT hW₁⟩) with ⟨v, vm₁, ⟨U', l2, c2, s2⟩, hW₁, X', ⟨g', mk, t, L, e1, e2, hq, h1, hL, h2, h3⟩, st⟩ | ⟨q, vm₁, ⟨U', l2, c2, s2⟩, hW₁, X', ⟨g', mk, t, L, E, ce, e1, e2, hq, hce, hcv, hcl, h1, hL, h2, h3⟩, st⟩
  · dsimp only [Pt.U, Pt.locs, Pt.cells, Pt.slots] at X' e1 e2 h1 h2 h3 st
    subst h1; subst h2; subst h3
    exact Or.inl ⟨v, (T.setVm vm₁).calling g' mk (Value.ref b :: As).toArray, t, U', L, hT, X', hL, e1, e2, hq, st⟩
  · dsimp only [Pt.U, Pt.locs, Pt.cells, Pt.slots] at X' e1 e2 h1 h2 h3 st hcl
    subst h1; subst h2; subst h3
    exact Or.inr ⟨q, (T.setVm vm₁).calling g' mk (Value.ref b :: As).toArray, t, U', L, E, ce, hT, X', hL, e1, e2, hq, hce, hcv, vx_cls hW₁ hcl, st⟩
theorem vx_runS (S : CallFix p m c cc nL s args Ts own) (hM : vx_Met l y ws rm Pc Qc XC mc ms free) (cw : CallB R s args own index y bytes maxL ret ws rm mc ms n ∧ (Cond.static y).before args s = true) (hp : PreS s H Pc As)
    (hg : g.method = m) (hn : As.length = n) (hsize : g.locals.size = nL) (hstack : g.stack = As.reverse ++ rest) (hW : 2 * g.monitorRoom + (rest.map fun v => v.category).sum ≤ 8) (hdg : decode cc g.pc = .ok (.invokestatic index, 3)) (hf : cells + mc ≤ R.cells ∧ slots + ms ≤ R.slots) :
    vx_Run p l e R s m args below meth c H locs cells slots mc ms g rest (Qc As.toArray) XC free := by
  have hK : vx_Back l R p e below s args y 3 8 (PreOf R mc ms Pc) (PostOf Qc mc ms free) (vx_Post XC mc ms free) := vx_callBack cw.1 hM hp.1
  obtain ⟨⟨-, -, -, -, -, -, hcode, hini, hy, hlen, hl⟩, hstt⟩ := cw
  obtain ⟨hx, hb, hml, ho, -⟩ := S
  intro T hT X
  rcases vx_callS X hx (bytes := bytes) (maxL := maxL) (ret := ret) ho hl hstt hini hcode hy hK hg (hsize.trans hml.symm) (argsL := As) (rest := rest) (fun sig h => hn.trans (hlen sig h)) hstack hW (by rw [hb]; exact hdg)
    (fun vm₁ hW₁ => ⟨hf.1, hf.2, hp.2 (T.setVm vm₁) hT hW₁⟩) with ⟨v, vm₁, ⟨U', l2, c2, s2⟩, hW₁, X', ⟨g', mk, t, L, e1, e2, hq, h1, hL, h2, h3⟩, st⟩ | ⟨q, vm₁, ⟨U', l2, c2, s2⟩, hW₁, X', ⟨g', mk, t, L, E, ce, e1, e2, hq, hce, hcv, hcl, h1, hL, h2, h3⟩, st⟩
  · dsimp only [Pt.U, Pt.locs, Pt.cells, Pt.slots] at X' e1 e2 h1 h2 h3 st
    subst h1; subst h2; subst h3
    exact Or.inl ⟨v, (T.setVm vm₁).calling g' mk As.toArray, t, U', L, hT, X', hL, e1, e2, hq, st⟩
  · dsimp only [Pt.U, Pt.locs, Pt.cells, Pt.slots] at X' e1 e2 h1 h2 h3 st hcl
    subst h1; subst h2; subst h3
    exact Or.inr ⟨q, (T.setVm vm₁).calling g' mk As.toArray, t, U', L, E, ce, hT, X', hL, e1, e2, hq, hce, hcv, vx_cls hW₁ hcl, st⟩
end Runs
section Rows
variable {p : Program} {l : Launch} {e : Env} {R : Room} {s : State} {m : MethodId} {args : Array Value} {below : List Frame} {meth : Method} {c : Code} {H : Heap} {locs : List Loc} {cells slots : Nat} {Q : State → Prop}
variable {mc ms : Nat} {free : Addr → Prop} {A0 A1 : Nat → Prop} {H0 : Heap} {a : Array Value} {pc : Nat} {ls : Array Slot} {st0 rest : List Value}
theorem vx_keep {st₀ t T' : State} {L : List Loc} (h0 : st₀.heap = H) (e1 : T'.heap = t.heap) (hS : va_S A0 H0 H locs) (hA : ∀ q, q < H.size → A1 q → A0 q) (hf : ∀ q, free q → A0 q) (hL : ∀ q ∈ L, free q.base) (hF : va_F A1 st₀ t) :
    H.size ≤ T'.heap.size ∧ (∀ q : Nat, q < H.size → ¬ A1 q → T'.heap[q]? = H[q]?) ∧ va_S A0 H0 T'.heap (locs ++ L) := by
  obtain ⟨hz, hk⟩ := hF
  rw [h0] at hz hk
  exact ⟨by rw [e1]; exact hz, fun q h1 h2 => by rw [e1]; exact hk q h1 h2,
    ⟨Nat.le_trans hS.1 (by rw [e1]; exact hz), fun q h1 h2 => by rw [e1, hk q (Nat.lt_of_lt_of_le h1 hS.1) (fun z => h2 (hA q (Nat.lt_of_lt_of_le h1 hS.1) z))]; exact hS.2.1 q h1 h2, fun q hq => by
      rcases List.mem_append.mp hq with h | h
      · exact hS.2.2 q h
      · exact hf _ (hL q h)⟩⟩
theorem vx_calli {S SX : Type} {post : Int32 → S → Prop} {px : SX → Prop} {B : S → State → Prop} {BX : String → SX → State → Prop} {AX : Nat → Prop} (hr : vx_Run p l e R s m args below meth c H locs cells slots mc ms (F0 m pc ls st0) rest (va_Qi post B A1 a) (vx_X px BX AX) free) (hS : va_S A0 H0 H locs) (hA : ∀ q, q < H.size → A1 q → A0 q) (hf : ∀ q, free q → A0 q) (hAX : ∀ q, q < H.size → AX q → A0 q)
    (kx : ∀ (E : String) (ce : Cell) (q9 : Addr) (u : SX) (t : State) (H1 : Heap) (locs1 : List Loc), t.heap = H1 → s.vm.Alike t.vm → px u → BX E u t → H.size ≤ H1.size → (∀ q : Nat, q < H.size → ¬ AX q → H1[q]? = H[q]?) → va_S A0 H0 H1 locs1 → H1[q9]? = some ce → ce.vm = .none → s.vm.findClass E = some ce.cls → vx_W p l e R s m args below meth c H1 locs1 (cells + mc) (slots + ms) Q (F0 m pc ls rest) q9)
    (kk : ∀ (r : Int32) (u : S) (t : State) (H1 : Heap) (locs1 : List Loc), t.heap = H1 → s.vm.Alike t.vm → post r u → B u t → H.size ≤ H1.size → (∀ q : Nat, q < H.size → ¬ A1 q → H1[q]? = H[q]?) → va_S A0 H0 H1 locs1 → W p l e R s m args below meth c H1 locs1 (cells + mc) (slots + ms) Q (F0 m (pc + 3) ls (.int r :: rest))) : W p l e R s m args below meth c H locs cells slots Q (F0 m pc ls st0) := by
  intro T hT X
  rcases hr T hT X with ⟨v, st₀, t, T', L, h0, X', hL, e1, e2, ⟨⟨r, u, hv, hp, hb⟩, hF⟩, st⟩ | ⟨q, st₀, t, T', L, E, ce, h0, X', hL, e1, e2, ⟨u, hp, hb, hF⟩, hce, hcv, hcl, st⟩
  · cases hv
    obtain ⟨k1, k2, k3⟩ := vx_keep h0 e1 hS hA hf hL hF
    obtain ⟨t2, a1, b1⟩ := kk r u t T'.heap (locs ++ L) e1.symm (by rw [← e2]; exact X'.warmed.alike) hp hb k1 k2 k3 T' rfl X'
    exact ⟨t2, st t2 a1, b1⟩
  · obtain ⟨k1, k2, k3⟩ := vx_keep h0 e1 hS hAX hf hL hF
    obtain ⟨t2, a1, b1⟩ := kx E ce q u t T'.heap (locs ++ L) e1.symm (by rw [← e2]; exact X'.warmed.alike) hp hb k1 k2 k3 (by rw [e1]; exact hce) hcv hcl T' rfl X'
    exact ⟨t2, st.trans a1, b1⟩
theorem vx_calll {S SX : Type} {post : Int64 → S → Prop} {px : SX → Prop} {B : S → State → Prop} {BX : String → SX → State → Prop} {AX : Nat → Prop} (hr : vx_Run p l e R s m args below meth c H locs cells slots mc ms (F0 m pc ls st0) rest (va_Ql post B A1 a) (vx_X px BX AX) free) (hS : va_S A0 H0 H locs) (hA : ∀ q, q < H.size → A1 q → A0 q) (hf : ∀ q, free q → A0 q) (hAX : ∀ q, q < H.size → AX q → A0 q)
    (kx : ∀ (E : String) (ce : Cell) (q9 : Addr) (u : SX) (t : State) (H1 : Heap) (locs1 : List Loc), t.heap = H1 → s.vm.Alike t.vm → px u → BX E u t → H.size ≤ H1.size → (∀ q : Nat, q < H.size → ¬ AX q → H1[q]? = H[q]?) → va_S A0 H0 H1 locs1 → H1[q9]? = some ce → ce.vm = .none → s.vm.findClass E = some ce.cls → vx_W p l e R s m args below meth c H1 locs1 (cells + mc) (slots + ms) Q (F0 m pc ls rest) q9)
    (kk : ∀ (r : Int64) (u : S) (t : State) (H1 : Heap) (locs1 : List Loc), t.heap = H1 → s.vm.Alike t.vm → post r u → B u t → H.size ≤ H1.size → (∀ q : Nat, q < H.size → ¬ A1 q → H1[q]? = H[q]?) → va_S A0 H0 H1 locs1 → W p l e R s m args below meth c H1 locs1 (cells + mc) (slots + ms) Q (F0 m (pc + 3) ls (.long r :: rest))) : W p l e R s m args below meth c H locs cells slots Q (F0 m pc ls st0) := by
  intro T hT X
  rcases hr T hT X with ⟨v, st₀, t, T', L, h0, X', hL, e1, e2, ⟨⟨r, u, hv, hp, hb⟩, hF⟩, st⟩ | ⟨q, st₀, t, T', L, E, ce, h0, X', hL, e1, e2, ⟨u, hp, hb, hF⟩, hce, hcv, hcl, st⟩
  · cases hv
    obtain ⟨k1, k2, k3⟩ := vx_keep h0 e1 hS hA hf hL hF
    obtain ⟨t2, a1, b1⟩ := kk r u t T'.heap (locs ++ L) e1.symm (by rw [← e2]; exact X'.warmed.alike) hp hb k1 k2 k3 T' rfl X'
    exact ⟨t2, st t2 a1, b1⟩
  · obtain ⟨k1, k2, k3⟩ := vx_keep h0 e1 hS hAX hf hL hF
    obtain ⟨t2, a1, b1⟩ := kx E ce q u t T'.heap (locs ++ L) e1.symm (by rw [← e2]; exact X'.warmed.alike) hp hb k1 k2 k3 (by rw [e1]; exact hce) hcv hcl T' rfl X'
    exact ⟨t2, st.trans a1, b1⟩
theorem vx_callf {S SX : Type} {post : UInt32 → S → Prop} {px : SX → Prop} {B : S → State → Prop} {BX : String → SX → State → Prop} {AX : Nat → Prop} (hr : vx_Run p l e R s m args below meth c H locs cells slots mc ms (F0 m pc ls st0) rest (va_Qf post B A1 a) (vx_X px BX AX) free) (hS : va_S A0 H0 H locs) (hA : ∀ q, q < H.size → A1 q → A0 q) (hf : ∀ q, free q → A0 q) (hAX : ∀ q, q < H.size → AX q → A0 q)
    (kx : ∀ (E : String) (ce : Cell) (q9 : Addr) (u : SX) (t : State) (H1 : Heap) (locs1 : List Loc), t.heap = H1 → s.vm.Alike t.vm → px u → BX E u t → H.size ≤ H1.size → (∀ q : Nat, q < H.size → ¬ AX q → H1[q]? = H[q]?) → va_S A0 H0 H1 locs1 → H1[q9]? = some ce → ce.vm = .none → s.vm.findClass E = some ce.cls → vx_W p l e R s m args below meth c H1 locs1 (cells + mc) (slots + ms) Q (F0 m pc ls rest) q9)
    (kk : ∀ (r : UInt32) (u : S) (t : State) (H1 : Heap) (locs1 : List Loc), t.heap = H1 → s.vm.Alike t.vm → post r u → B u t → H.size ≤ H1.size → (∀ q : Nat, q < H.size → ¬ A1 q → H1[q]? = H[q]?) → va_S A0 H0 H1 locs1 → W p l e R s m args below meth c H1 locs1 (cells + mc) (slots + ms) Q (F0 m (pc + 3) ls (.float r :: rest))) : W p l e R s m args below meth c H locs cells slots Q (F0 m pc ls st0) := by
  intro T hT X
  rcases hr T hT X with ⟨v, st₀, t, T', L, h0, X', hL, e1, e2, ⟨⟨r, u, hv, hp, hb⟩, hF⟩, st⟩ | ⟨q, st₀, t, T', L, E, ce, h0, X', hL, e1, e2, ⟨u, hp, hb, hF⟩, hce, hcv, hcl, st⟩
  · cases hv
    obtain ⟨k1, k2, k3⟩ := vx_keep h0 e1 hS hA hf hL hF
    obtain ⟨t2, a1, b1⟩ := kk r u t T'.heap (locs ++ L) e1.symm (by rw [← e2]; exact X'.warmed.alike) hp hb k1 k2 k3 T' rfl X'
    exact ⟨t2, st t2 a1, b1⟩
  · obtain ⟨k1, k2, k3⟩ := vx_keep h0 e1 hS hAX hf hL hF
    obtain ⟨t2, a1, b1⟩ := kx E ce q u t T'.heap (locs ++ L) e1.symm (by rw [← e2]; exact X'.warmed.alike) hp hb k1 k2 k3 (by rw [e1]; exact hce) hcv hcl T' rfl X'
    exact ⟨t2, st.trans a1, b1⟩
theorem vx_calld {S SX : Type} {post : UInt64 → S → Prop} {px : SX → Prop} {B : S → State → Prop} {BX : String → SX → State → Prop} {AX : Nat → Prop} (hr : vx_Run p l e R s m args below meth c H locs cells slots mc ms (F0 m pc ls st0) rest (va_Qd post B A1 a) (vx_X px BX AX) free) (hS : va_S A0 H0 H locs) (hA : ∀ q, q < H.size → A1 q → A0 q) (hf : ∀ q, free q → A0 q) (hAX : ∀ q, q < H.size → AX q → A0 q)
    (kx : ∀ (E : String) (ce : Cell) (q9 : Addr) (u : SX) (t : State) (H1 : Heap) (locs1 : List Loc), t.heap = H1 → s.vm.Alike t.vm → px u → BX E u t → H.size ≤ H1.size → (∀ q : Nat, q < H.size → ¬ AX q → H1[q]? = H[q]?) → va_S A0 H0 H1 locs1 → H1[q9]? = some ce → ce.vm = .none → s.vm.findClass E = some ce.cls → vx_W p l e R s m args below meth c H1 locs1 (cells + mc) (slots + ms) Q (F0 m pc ls rest) q9)
    (kk : ∀ (r : UInt64) (u : S) (t : State) (H1 : Heap) (locs1 : List Loc), t.heap = H1 → s.vm.Alike t.vm → post r u → B u t → H.size ≤ H1.size → (∀ q : Nat, q < H.size → ¬ A1 q → H1[q]? = H[q]?) → va_S A0 H0 H1 locs1 → W p l e R s m args below meth c H1 locs1 (cells + mc) (slots + ms) Q (F0 m (pc + 3) ls (.double r :: rest))) : W p l e R s m args below meth c H locs cells slots Q (F0 m pc ls st0) := by
  intro T hT X
  rcases hr T hT X with ⟨v, st₀, t, T', L, h0, X', hL, e1, e2, ⟨⟨r, u, hv, hp, hb⟩, hF⟩, st⟩ | ⟨q, st₀, t, T', L, E, ce, h0, X', hL, e1, e2, ⟨u, hp, hb, hF⟩, hce, hcv, hcl, st⟩
  · cases hv
    obtain ⟨k1, k2, k3⟩ := vx_keep h0 e1 hS hA hf hL hF
    obtain ⟨t2, a1, b1⟩ := kk r u t T'.heap (locs ++ L) e1.symm (by rw [← e2]; exact X'.warmed.alike) hp hb k1 k2 k3 T' rfl X'
    exact ⟨t2, st t2 a1, b1⟩
  · obtain ⟨k1, k2, k3⟩ := vx_keep h0 e1 hS hAX hf hL hF
    obtain ⟨t2, a1, b1⟩ := kx E ce q u t T'.heap (locs ++ L) e1.symm (by rw [← e2]; exact X'.warmed.alike) hp hb k1 k2 k3 (by rw [e1]; exact hce) hcv hcl T' rfl X'
    exact ⟨t2, st.trans a1, b1⟩
theorem vx_callv {S SX : Type} {post : S → Prop} {px : SX → Prop} {B : S → State → Prop} {BX : String → SX → State → Prop} {AX : Nat → Prop} (hr : vx_Run p l e R s m args below meth c H locs cells slots mc ms (F0 m pc ls st0) rest (va_Qv post B A1 a) (vx_X px BX AX) free) (hS : va_S A0 H0 H locs) (hA : ∀ q, q < H.size → A1 q → A0 q) (hf : ∀ q, free q → A0 q) (hAX : ∀ q, q < H.size → AX q → A0 q)
    (kx : ∀ (E : String) (ce : Cell) (q9 : Addr) (u : SX) (t : State) (H1 : Heap) (locs1 : List Loc), t.heap = H1 → s.vm.Alike t.vm → px u → BX E u t → H.size ≤ H1.size → (∀ q : Nat, q < H.size → ¬ AX q → H1[q]? = H[q]?) → va_S A0 H0 H1 locs1 → H1[q9]? = some ce → ce.vm = .none → s.vm.findClass E = some ce.cls → vx_W p l e R s m args below meth c H1 locs1 (cells + mc) (slots + ms) Q (F0 m pc ls rest) q9)
    (kk : ∀ (u : S) (t : State) (H1 : Heap) (locs1 : List Loc), t.heap = H1 → s.vm.Alike t.vm → post u → B u t → H.size ≤ H1.size → (∀ q : Nat, q < H.size → ¬ A1 q → H1[q]? = H[q]?) → va_S A0 H0 H1 locs1 → W p l e R s m args below meth c H1 locs1 (cells + mc) (slots + ms) Q (F0 m (pc + 3) ls (rest))) : W p l e R s m args below meth c H locs cells slots Q (F0 m pc ls st0) := by
  intro T hT X
  rcases hr T hT X with ⟨v, st₀, t, T', L, h0, X', hL, e1, e2, ⟨⟨u, hv, hp, hb⟩, hF⟩, st⟩ | ⟨q, st₀, t, T', L, E, ce, h0, X', hL, e1, e2, ⟨u, hp, hb, hF⟩, hce, hcv, hcl, st⟩
  · cases hv
    obtain ⟨k1, k2, k3⟩ := vx_keep h0 e1 hS hA hf hL hF
    obtain ⟨t2, a1, b1⟩ := kk u t T'.heap (locs ++ L) e1.symm (by rw [← e2]; exact X'.warmed.alike) hp hb k1 k2 k3 T' rfl X'
    exact ⟨t2, st t2 a1, b1⟩
  · obtain ⟨k1, k2, k3⟩ := vx_keep h0 e1 hS hAX hf hL hF
    obtain ⟨t2, a1, b1⟩ := kx E ce q u t T'.heap (locs ++ L) e1.symm (by rw [← e2]; exact X'.warmed.alike) hp hb k1 k2 k3 (by rw [e1]; exact hce) hcv hcl T' rfl X'
    exact ⟨t2, st.trans a1, b1⟩
end Rows
section Ends
variable {p : Program} {l : Launch} {e : Env} {R : Room} {s : State} {m : MethodId} {args : Array Value} {below : List Frame} {meth : Method} {c : Code} {H : Heap} {locs : List Loc} {cells slots : Nat} {Q : State → Prop}
variable {mc ms : Nat} {free : Addr → Prop} {A0 A1 : Nat → Prop} {H0 : Heap} {a : Array Value} {ls : Array Slot} {st0 rest : List Value}
variable {Qc : Array Value → State → Outcome → State → Prop} {XC : String → State → State → Prop}
/-- what a body that may throw owes at its end -/
def vx_MQ (below : List Frame) (Qc : Array Value → State → Outcome → State → Prop) (XC : String → State → State → Prop) (a : Array Value) (s : State) (mc ms : Nat) (free : Addr → Prop) : State → Prop := fun t =>
  ∃ o, t.status = .running ∧ Ended t below o ∧ vx_Q Qc XC mc ms free a s o t
theorem vx_ret {g : JFrame} {mc ms : Nat} (k : W p l e R s m args below meth c H locs cells slots (MQ below Qc args s mc ms free) g) : W p l e R s m args below meth c H locs cells slots (vx_MQ below Qc XC args s mc ms free) g := by
  intro T hT X
  obtain ⟨t, a1, o, b1, b2, b3, b4⟩ := k T hT X
  exact ⟨t, a1, o, b1, b2, Or.inl ⟨b3, b4⟩⟩
/-- not caught here: it goes on to the caller -/
theorem vx_widen {g : JFrame} {q : Addr} {k n : Nat} (h1 : cells ≤ k) (h2 : slots ≤ n) (kk : vx_W p l e R s m args below meth c H locs k n Q g q) : vx_W p l e R s m args below meth c H locs cells slots Q g q := fun T hT X => kk T hT (stand_widen X h1 h2)
theorem vx_out {pc : Nat} {E : String} {ce : Cell} {q : Addr} {mc ms : Nat} (hout : ∀ x ∈ c.exceptionTable.toList, covers x pc = false) (hlocks : meth.locks = false) (hcell : H[q]? = some ce) (hv : ce.vm = .none) (hcl : s.vm.findClass E = some ce.cls)
    (hx : ∀ t : State, t.heap = H → s.vm.Alike t.vm → XC E s t) (hf : ∀ z ∈ locs, free z.base) (hc : cells ≤ mc) (hs : slots ≤ ms) :
    vx_W p l e R s m args below meth c H locs cells slots (vx_MQ below Qc XC args s mc ms free) (F0 m pc ls rest) q := by
  intro T hT X
  obtain ⟨st1, hrun, hend, hW, hsm⟩ := X.leaveThrown q (g := F0 m pc ls rest) rfl rfl rfl hout hlocks
  have hcell9 : (T.setFrames (.throwing q :: below)).heap[q]? = some ce := by
    show T.heap[q]? = some ce
    rw [hT]; exact hcell
  exact ⟨_, st1, .threw q, hrun, hend, Or.inr ⟨q, rfl, E, ce, locs, hx _ hT hW.alike, hcell9, hv, hcl, hW, hsm.mono hc hs, hf⟩⟩
theorem vx_frame {U : State} {k n : Nat} (h : s.sameButNew ({ U with vm := s.vm } : State) locs k n) : s.heap.size ≤ U.heap.size ∧ ∀ q : Nat, q < s.heap.size → (∀ z ∈ locs, z.base ≠ q) → U.heap[q]? = s.heap[q]? := by
  obtain ⟨-, h2, -, -, -, h6⟩ := h
  refine ⟨h2, fun q hq hz => ?_⟩
  obtain ⟨c9, e1, e2, e3, e4⟩ := h6 q _ (Array.getElem?_eq_getElem hq)
  have hs : c9.slots = (s.heap[q]).slots := Array.ext_getElem? fun i => e4 i fun hm => hz _ hm rfl
  have h9 : c9 = s.heap[q] := by
    rw [hs] at e2
    exact e2
  have e5 : U.heap[q]? = some c9 := e1
  rw [e5, h9, Array.getElem?_eq_getElem hq]
/-- the words of a throw but the four that speak of the heap -/
def vx_no (w : Cond) : Bool := decide (w ≠ .isRef (.static Bundle.tN "UNASSIGNED_STACK" Bundle.steD)) && decide (w ≠ .isRef (.static Bundle.tN "SUPPRESSED_SENTINEL" Bundle.listD)) && decide (w ≠ .laysStatic Bundle.tN "UNASSIGNED_STACK" Bundle.steD) && decide (w ≠ .laysStatic Bundle.tN "SUPPRESSED_SENTINEL" Bundle.listD)
def vx_at0 (own : String) (ic : Nat) (X : String) (names : List String) : List Cond := (Bundle.ownAtoms0 own ic X names).filter vx_no
def vx_atS (own : String) (ic : Nat) (X : String) (names : List String) : List Cond := (Bundle.ownAtoms own ic X names).filter vx_no
/-- a word that the tables alone decide, or a good one -/
def vx_ot (w : Cond) : Bool := w.onTables || goodWord w
theorem vx_ot_at {args a' : Array Value} {s U : State} {w : Cond} (hW : s.WarmedH U.vm) (hvm : s.vm = U.vm) (hg : vx_ot w = true) (h : w.before args s = true) : w.before a' U = true := by
  simp only [vx_ot, Bool.or_eq_true] at hg
  rcases hg with hg | hg
  · exact va_tabs hg hvm h
  · exact word_at hW (good_of_word hg) h
/-- a list's words: the good ones out of the method's own list, the others by premises of their own -/
theorem vx_hat {args : Array Value} {s : State} {L B : List Cond} (h1 : ∀ w ∈ L.filter goodWord, w.before args s = true) (h2 : ∀ w ∈ L.filter (fun w => !goodWord w), w ∈ B) (h3 : ∀ w ∈ B, w.before args s = true) : ∀ w ∈ L, w.before args s = true := by
  intro w hw
  by_cases g : goodWord w = true
  · exact h1 w (List.mem_filter.mpr ⟨hw, g⟩)
  · refine h3 w (h2 w (List.mem_filter.mpr ⟨hw, ?_⟩))
    show (!goodWord w) = true
    cases hgw : goodWord w
    · rfl
    · exact absurd hgw g
theorem vx_c {args : Array Value} {s : State} {w : Cond} {B : List Cond} (h : w.before args s = true) (t : ∀ w ∈ B, w.before args s = true) : ∀ w' ∈ w :: B, w'.before args s = true := fun w' h' => (List.mem_cons.mp h').elim (fun e => by rw [e]; exact h) (t w')
theorem vx_n {args : Array Value} {s : State} : ∀ w ∈ ([] : List Cond), w.before args s = true := fun _ h => nomatch h
theorem vx_own {args : Array Value} {s : State} {L : List Cond} (h1 : ∀ w ∈ L.filter vx_no, w.before args s = true)
    (hU : (Cond.isRef (.static Bundle.tN "UNASSIGNED_STACK" Bundle.steD)).before args s = true) (hN : (Cond.isRef (.static Bundle.tN "SUPPRESSED_SENTINEL" Bundle.listD)).before args s = true)
    (lU : (Cond.laysStatic Bundle.tN "UNASSIGNED_STACK" Bundle.steD).before args s = true) (lN : (Cond.laysStatic Bundle.tN "SUPPRESSED_SENTINEL" Bundle.listD).before args s = true) : ∀ w ∈ L, w.before args s = true := by
  intro w hw
  by_cases e1 : w = .isRef (.static Bundle.tN "UNASSIGNED_STACK" Bundle.steD)
  · rw [e1]; exact hU
  · by_cases e2 : w = .isRef (.static Bundle.tN "SUPPRESSED_SENTINEL" Bundle.listD)
    · rw [e2]; exact hN
    · by_cases e3 : w = .laysStatic Bundle.tN "UNASSIGNED_STACK" Bundle.steD
      · rw [e3]; exact lU
      · by_cases e4 : w = .laysStatic Bundle.tN "SUPPRESSED_SENTINEL" Bundle.listD
        · rw [e4]; exact lN
        · exact h1 w (List.mem_filter.mpr ⟨hw, by unfold vx_no; rw [decide_eq_true e1, decide_eq_true e2, decide_eq_true e3, decide_eq_true e4]; rfl⟩)
/-- where a static field lies, its class's statics cell in H -/
def vx_L (C n d : String) (A : Nat → Prop) (U : State) (H : Heap) : Prop := ∃ (c : ClassId) (k : Class) (i : Nat) (f : Field) (a : Nat) (cell : Cell), U.vm.findClass C = some c ∧ U.fieldFound? C n d = some (c, k, i, f) ∧ f.isStatic = true ∧ k.statics = some a ∧ H[a]? = some cell ∧ cell.vm.isStatics = true ∧ cell.cls = c ∧ f.slot < cell.slots.size ∧ k.staticTypes[f.slot]? = some f.type ∧ ¬ A a
theorem vx_L.moved {C n d : String} {A : Nat → Prop} {u U : State} {H : Heap} (hvm : u.vm.Alike U.vm) (h : vx_L C n d A u H) : vx_L C n d A U H := by
  obtain ⟨c, k, i, f, a, cell, h1, h2, h3, h4, h5, h6, h7, h8, h9, h10⟩ := h
  obtain ⟨k', hi', he⟩ := State.fieldFound?_setVm hvm h2
  exact ⟨c, k', i, f, a, cell, by rw [hvm.findClass]; exact h1, hi', h3, by rw [he]; exact h4, h5, h6, h7, h8, by rw [he]; exact h9, h10⟩
theorem vx_L.kept {C n d : String} {A : Nat → Prop} {U : State} {H H1 : Heap} (h : vx_L C n d A U H) (hq : ∀ a : Nat, a < H.size → ¬ A a → H1[a]? = H[a]?) : vx_L C n d A U H1 := by
  obtain ⟨c, k, i, f, a, cell, h1, h2, h3, h4, h5, h6, h7, h8, h9, h10⟩ := h
  exact ⟨c, k, i, f, a, cell, h1, h2, h3, h4, by rw [hq a (Array.getElem?_eq_some_iff.mp h5).1 h10]; exact h5, h6, h7, h8, h9, h10⟩
theorem vx_L.narrow {C n d : String} {A B : Nat → Prop} {U : State} {H : Heap} (h : vx_L C n d A U H) (hAB : ∀ q, B q → A q) : vx_L C n d B U H := by
  obtain ⟨c, k, i, f, a, cell, h1, h2, h3, h4, h5, h6, h7, h8, h9, h10⟩ := h
  exact ⟨c, k, i, f, a, cell, h1, h2, h3, h4, h5, h6, h7, h8, h9, fun z => h10 (hAB _ z)⟩
theorem vx_L.word {C n d : String} {A : Nat → Prop} {s : State} {args : Array Value} (h : vx_L C n d A s s.heap) : (Cond.laysStatic C n d).before args s = true := by
  obtain ⟨c, k, i, f, a, cell, h1, h2, h3, h4, h5, h6, h7, h8, h9, -⟩ := h
  show (Cond.laysStatic C n d).holds args s none s [] = true
  exact Cond.laysStatic_of h1 h2 h3 h4 h5 h6 h7 h8 h9
/-- .. and what it holds: null or some reference -/
def vx_Zq (C n d : String) (A : Nat → Prop) (U : State) (H : Heap) : Prop := va_Zq C n d A U H ∧ vx_L C n d A U H
theorem vx_Zq.moved {C n d : String} {A : Nat → Prop} {u U : State} {H : Heap} (hvm : u.vm.Alike U.vm) (h : vx_Zq C n d A u H) : vx_Zq C n d A U H := ⟨va_Zq.moved hvm h.1, vx_L.moved hvm h.2⟩
theorem vx_Zq.kept {C n d : String} {A : Nat → Prop} {U : State} {H H1 : Heap} (h : vx_Zq C n d A U H) (hq : ∀ a : Nat, a < H.size → ¬ A a → H1[a]? = H[a]?) : vx_Zq C n d A U H1 := ⟨va_Zq.kept h.1 hq, vx_L.kept h.2 hq⟩
theorem vx_Zq.narrow {C n d : String} {A B : Nat → Prop} {U : State} {H : Heap} (h : vx_Zq C n d A U H) (hAB : ∀ q, B q → A q) : vx_Zq C n d B U H := ⟨va_Zq.narrow h.1 hAB, vx_L.narrow h.2 hAB⟩
theorem vx_Zqof {args : Array Value} {s : State} {C n d : String} {A : Nat → Prop} (hl : (Cond.laysStatic C n d).before args s = true) (hini : (Cond.initialized C).before args s = true) (h : (Cond.isRef (.static C n d)).before args s = true) (hA : ∀ a : Nat, a < s.heap.size → ¬ A a) : vx_Zq C n d A s s.heap := by
  refine ⟨va_Zqof hl hini h hA, ?_⟩
  obtain ⟨c, k, i, f, a, cell, h1, h2, h3, h4, h5, h6, h7, h8, h9⟩ := Cond.laysStatic_spec hl
  exact ⟨c, k, i, f, a, cell, h1, h2, h3, h4, h5, h6, h7, h8, h9, hA a (Array.getElem?_eq_some_iff.mp h5).1⟩
theorem vx_isRef {C n d : String} {v : Value} {A : Nat → Prop} {s : State} {args : Array Value} (h : va_Z C n d v A s s.heap) (hv : v.isRef = true) : (Cond.isRef (.static C n d)).before args s = true := by
  obtain ⟨cf, kf, fi, f, a, cell, h1, h2, h3, h4, h5, h6, h7, -⟩ := h
  have he : (Term.static C n d).eval args s none [] s = some v := by
    simp [Term.eval, State.fieldNamed?, h1, h2, h4, h5, h6, h7]
  simp only [Cond.before, Cond.holds, Cond.value, he]
  cases v <;> simp_all [Value.isRef]
theorem vx_isRefq {C n d : String} {A : Nat → Prop} {s : State} {args : Array Value} (h : va_Zq C n d A s s.heap) : (Cond.isRef (.static C n d)).before args s = true := by
  rcases h with h | ⟨t, h⟩
  · exact vx_isRef h rfl
  · exact vx_isRef h rfl
/-- the same frame, seen from here: as if the method were called anew in this heap -/
theorem vx_rebase {T : State} (X : Stand p l e R s m args below meth c T locs cells slots) {R' : Room} (hf : R'.frames ≤ R.frames) (hl : R'.locals ≤ R.locals) (hc : cells + R'.cells ≤ R.cells) (hs : slots + R'.slots ≤ R.slots) :
    Stand p l e R' ((T.setVm s.vm).setFrames (.invoking m args :: below)) m args below meth c T [] 0 0 := by
  have htop : (T.setVm s.vm).topJava?.isSome := X.here.top
  have hF : ((T.setVm s.vm).setFrames (.invoking m args :: below)).frames = .invoking m args :: below := State.frames_setFrames _ (State.cur_lt_of_top htop)
  obtain ⟨g₀, hg0⟩ := Option.isSome_iff_exists.mp htop
  obtain ⟨r, hr⟩ := State.topJava?_eq_some.mp hg0
  have hl9 : e.platform.stackLimits (T.setVm s.vm).me = e.platform.stackLimits s.me := X.limits
  have hb9 : (T.setVm s.vm).me.stackBytes = s.me.stackBytes := X.bytes
  refine ⟨X.admits, X.cas, X.clock, hF, ?_, X.hears, X.method, X.code, X.here, X.tail, X.warmed, ?_, ?_, ?_⟩
  · have h := X.room
    have hU : ((T.setVm s.vm).setFrames (.invoking m args :: below)).localsInUse = s.localsInUse := by
      rw [State.localsInUse_invoking hF (meth := meth) (c := c) X.method X.code, State.localsInUse_invoking X.frames X.method X.code]
    simp only [State.hasRoom, Bool.and_eq_true, decide_eq_true_eq] at h ⊢
    obtain ⟨⟨⟨⟨h1, h2, h3, h4, h5, h6⟩, h7⟩, h8⟩, h9⟩ := h
    rw [X.frames, List.length_cons] at h2 h3
    have q1 := X.heapSize
    have q2 := X.used
    simp only [hF, hU, List.length_cons, State.stackLimits_setFrames, State.stackBytes_setFrames, hl9, hb9]
    refine ⟨⟨⟨⟨by omega, by omega, by omega, by omega, by omega, h6⟩, ?_⟩, ?_⟩, X.book⟩
    · show T.heap.size + R'.cells ≤ e.platform.maxCells
      omega
    · show T.slotsUsed + R'.slots ≤ e.platform.maxSlots
      omega
  · rw [State.stackLimits_setFrames]; rfl
  · rw [State.stackBytes_setFrames]; rfl
  · refine ⟨?_, Nat.le_refl _, Nat.le_refl _, ?_, ?_, fun a c9 h9 => ⟨c9, h9, rfl, rfl, fun _ _ => rfl⟩⟩
    · obtain ⟨t, ht, -⟩ := State.frames_cons hr
      show T.setVm s.vm = { ((T.setVm s.vm).setFrames (.invoking m args :: below)).setFrames (T.setVm s.vm).frames with heap := T.heap, slotsUsed := T.slotsUsed }
      rw [State.setFrames_setFrames, State.setFrames_self ht]
      rfl
    · show T.slotsUsed = T.slotsUsed + ((T.heap.toList.drop T.heap.size).map (·.slots.size)).sum
      rw [List.drop_eq_nil_of_le (Nat.le_of_eq Array.length_toList)]
      rfl
    · show ((T.heap.toList.drop T.heap.size).map (·.slots.size)).sum ≤ 0
      rw [List.drop_eq_nil_of_le (Nat.le_of_eq Array.length_toList)]
      exact Nat.le_refl _
/-- 'throw new E()': new; dup; invokespecial; athrow -/
theorem vx_throw0 {cc : ByteArray} {pc : Nat} (hexec : p.tables.exec = Jvm.exec) (hb : c.code = cc) (hl : l.stackTraces = false) {own cls : String} {names : List String} {ik ic mc ms : Nat} {A : Nat → Prop}
    (hown : s.vm.findClass own = some m.cls) (hcls : Bundle.fit cls = true) (hnames : ∀ n ∈ names, Bundle.fit n = true)
    (hk : (Cond.classLink own ik cls).before args s = true) (hini : (Cond.initialized cls).before args s = true) (hat : ∀ w ∈ vx_at0 own ic cls names, w.before args s = true)
    (hgood : ∀ w ∈ Cond.classLink own ik cls :: Cond.initialized cls :: vx_at0 own ic cls names, vx_ot w = true)
    (hU : vx_Zq Bundle.tN "UNASSIGNED_STACK" Bundle.steD A s s.heap) (hN : vx_Zq Bundle.tN "SUPPRESSED_SENTINEL" Bundle.listD A s s.heap) (hS : va_S A s.heap H locs) (hsize : ls.size = c.maxLocals)
    (d0 : decode cc pc = .ok (.new ik, 3)) (d3 : decode cc (pc + 3) = .ok (.dup, 1)) (d4 : decode cc (pc + 4) = .ok (.invokespecial ic, 3)) (d7 : decode cc (pc + 7) = .ok (.athrow, 1))
    (hout : ∀ x ∈ c.exceptionTable.toList, covers x (pc + 7) = false)
    (hRframes : names.length + 3 < R.frames) (hRlocals : (rest.map fun v => v.category).sum + (13 * (names.length + 1) + 42) ≤ R.locals) (hRcells : cells + 1 ≤ R.cells) (hRslots : slots + 6 ≤ R.slots) (hlocks : meth.locks = false)
    (hx : ∀ t : State, s.vm.Alike t.vm → H.size ≤ t.heap.size → (∀ q : Nat, q < H.size → t.heap[q]? = H[q]?) → XC cls s t)
    (hf : ∀ z ∈ locs, free z.base) (hc : cells + 1 ≤ mc) (hs : slots + 6 ≤ ms) :
    W p l e R s m args below meth c H locs cells slots (vx_MQ below Qc XC args s mc ms free) (F0 m pc ls rest) := by
  intro T hT X
  have htr : e.platform.stackTraces = false := (show e.platform.stackTraces = l.stackTraces by rw [X.admits.platform]).trans hl
  have Y := vx_rebase X (R' := { frames := R.frames, locals := R.locals, cells := 1, slots := 6 }) (Nat.le_refl _) (Nat.le_refl _) hRcells hRslots
  obtain ⟨s', hA⟩ : ∃ z, z = (T.setVm s.vm).setFrames (.invoking m args :: below) := ⟨_, rfl⟩
  rw [← hA] at Y
  have hvm : s'.vm = s.vm := by rw [hA]; rfl
  have hhp : s'.heap = H := by rw [hA]; exact hT
  have hW0 : s.WarmedH s'.vm := by rw [hvm]; exact State.WarmedH.refl s
  have hat' : ∀ w ∈ vx_at0 own ic cls names, w.before args s' = true := fun w hw => vx_ot_at hW0 hvm.symm (hgood w (List.mem_cons_of_mem _ (List.mem_cons_of_mem _ hw))) (hat w hw)
  have hk' : (Cond.classLink own ik cls).before args s' = true := vx_ot_at hW0 hvm.symm (hgood _ List.mem_cons_self) hk
  have hini' : (Cond.initialized cls).before args s' = true := vx_ot_at hW0 hvm.symm (hgood _ (List.mem_cons_of_mem _ List.mem_cons_self)) hini
  have hU' : vx_Zq Bundle.tN "UNASSIGNED_STACK" Bundle.steD A s' s'.heap := by rw [hhp]; exact vx_Zq.moved hW0.alike (hU.kept hS.2.1)
  have hN' : vx_Zq Bundle.tN "SUPPRESSED_SENTINEL" Bundle.listD A s' s'.heap := by rw [hhp]; exact vx_Zq.moved hW0.alike (hN.kept hS.2.1)
  have h : ∀ w ∈ Bundle.ownAtoms0 own ic cls names, w.before args s' = true := vx_own hat' (vx_isRefq hU'.1) (vx_isRefq hN'.1) hU'.2.word hN'.2.word
  have hown' : s'.vm.findClass own = some m.cls := by rw [hvm]; exact hown
  have hins : (Cond.instantiable cls 6).before args s' = true := h _ (by simp [Bundle.ownAtoms0])
  obtain ⟨vm₁, cX, kX, hfX, hkX, -, -, X₁, st1⟩ := Y.newCold hexec (own := own) (C := cls) (index := ik) (n := 6) hown' hk' hins hini'
    (g := F0 m pc ls rest) rfl (by rw [hb]; exact d0) (Nat.le_refl _) (Nat.le_refl _)
  generalize hT1 : (T.setVm vm₁).pushCell { cls := cX, slots := kX.instanceTypes.map defaultValue, vm := .none } = T1 at X₁ st1
  have hcat : (Value.ref T.heap.size).category = 1 := rfl
  have hcellA : T1.heap[T.heap.size]? = some (freshCell cX kX) := by rw [← hT1]; exact State.heap_pushCell_size _ _
  have d3' : decode c.code (pc + 3) = .ok (.dup, 1) := by rw [hb]; exact d3
  obtain ⟨U, hsteps, hrun, hend, hW, hsame, ce, hce, hO⟩ := X₁.ctorThrow0 hexec htr (own := own) (cls := cls) (names := names) (ic := ic) hown' hcls hnames h (fun x hx => nomatch hx) hfX hkX hcellA (by rw [hhp, hT]; exact Nat.le_refl _)
    (g := { method := m, pc := pc + 4, locals := ls, stack := .ref T.heap.size :: .ref T.heap.size :: rest, locked := none }) rfl hsize rfl rfl (rest := rest) rfl
    (by rw [hb]; exact d4) (by rw [hb]; exact d7) hout hRframes (by simp only [List.map_cons, List.sum_cons, hcat]; omega) hlocks
  obtain ⟨f1, f2⟩ := vx_frame hsame
  rw [hhp] at f1 f2
  have hWs : s.WarmedH U.vm := State.WarmedH.trans hW0 hW
  have hcl : s.vm.findClass cls = some ce.cls := by
    have h9 := hO.cls
    rw [hvm] at h9
    exact h9
  have hall : s.sameButNew ({ U with vm := s.vm } : State) locs mc ms := by
    subst hA
    obtain ⟨e1, e2⟩ := hsame
    rw [State.setFrames_setFrames] at e1
    have h2 : (T.setVm s.vm).sameButNew ({ U with vm := s.vm } : State) [] (0 + 1) (0 + 6) := ⟨e1, e2⟩
    have h3 := X.same.trans h2
    rw [List.append_nil] at h3
    exact h3.mono hc hs
  refine ⟨U, ?_, .threw T.heap.size, hrun, hend, Or.inr ⟨T.heap.size, rfl, cls, ce, locs, hx U hWs.alike f1 (fun q hq => f2 q hq (fun z hz => nomatch hz)), hce, hO.vm, hcl, hWs, hall, hf⟩⟩
  refine st1 _ ?_
  show Steps p.tables e below (T1.setTop { method := m, pc := pc + 3, locals := ls, stack := .ref T.heap.size :: rest, locked := none }) _
  jvm_step X₁.here [X₁.here.top, hexec, d3', Value.category]
  exact hsteps
/-- 'throw new E("text")': new; dup; ldc; invokespecial; athrow -/
theorem vx_throwS {cc : ByteArray} {pc : Nat} (hexec : p.tables.exec = Jvm.exec) (hb : c.code = cc) (hl : l.stackTraces = false) {own cls text : String} {names : List String} {ik is ic mc ms sa : Nat} {A : Nat → Prop}
    (hown : s.vm.findClass own = some m.cls) (hcls : Bundle.fit cls = true) (hnames : ∀ n ∈ names, Bundle.fit n = true)
    (hk : (Cond.classLink own ik cls).before args s = true) (hini : (Cond.initialized cls).before args s = true) (hstr : vk_R own is text sa s) (hat : ∀ w ∈ vx_atS own ic cls names, w.before args s = true)
    (hgood : ∀ w ∈ Cond.classLink own ik cls :: Cond.initialized cls :: vx_atS own ic cls names, vx_ot w = true)
    (hU : vx_Zq Bundle.tN "UNASSIGNED_STACK" Bundle.steD A s s.heap) (hN : vx_Zq Bundle.tN "SUPPRESSED_SENTINEL" Bundle.listD A s s.heap) (hS : va_S A s.heap H locs) (hsize : ls.size = c.maxLocals)
    (d0 : decode cc pc = .ok (.new ik, 3)) (d3 : decode cc (pc + 3) = .ok (.dup, 1)) (d4 : decode cc (pc + 4) = .ok (.ldc is, 2)) (d6 : decode cc (pc + 6) = .ok (.invokespecial ic, 3)) (d9 : decode cc (pc + 9) = .ok (.athrow, 1))
    (hout : ∀ x ∈ c.exceptionTable.toList, covers x (pc + 9) = false)
    (hRframes : names.length + 3 < R.frames) (hRlocals : (rest.map fun v => v.category).sum + (13 * (names.length + 1) + 43) ≤ R.locals) (hRcells : cells + 1 ≤ R.cells) (hRslots : slots + 6 ≤ R.slots) (hlocks : meth.locks = false)
    (hx : ∀ t : State, s.vm.Alike t.vm → H.size ≤ t.heap.size → (∀ q : Nat, q < H.size → t.heap[q]? = H[q]?) → XC cls s t)
    (hf : ∀ z ∈ locs, free z.base) (hc : cells + 1 ≤ mc) (hs : slots + 6 ≤ ms) :
    W p l e R s m args below meth c H locs cells slots (vx_MQ below Qc XC args s mc ms free) (F0 m pc ls rest) := by
  intro T hT X
  have htr : e.platform.stackTraces = false := (show e.platform.stackTraces = l.stackTraces by rw [X.admits.platform]).trans hl
  have Y := vx_rebase X (R' := { frames := R.frames, locals := R.locals, cells := 1, slots := 6 }) (Nat.le_refl _) (Nat.le_refl _) hRcells hRslots
  obtain ⟨s', hA⟩ : ∃ z, z = (T.setVm s.vm).setFrames (.invoking m args :: below) := ⟨_, rfl⟩
  rw [← hA] at Y
  have hvm : s'.vm = s.vm := by rw [hA]; rfl
  have hhp : s'.heap = H := by rw [hA]; exact hT
  have hW0 : s.WarmedH s'.vm := by rw [hvm]; exact State.WarmedH.refl s
  have hat' : ∀ w ∈ vx_atS own ic cls names, w.before args s' = true := fun w hw => vx_ot_at hW0 hvm.symm (hgood w (List.mem_cons_of_mem _ (List.mem_cons_of_mem _ hw))) (hat w hw)
  have hk' : (Cond.classLink own ik cls).before args s' = true := vx_ot_at hW0 hvm.symm (hgood _ List.mem_cons_self) hk
  have hini' : (Cond.initialized cls).before args s' = true := vx_ot_at hW0 hvm.symm (hgood _ (List.mem_cons_of_mem _ List.mem_cons_self)) hini
  have hU' : vx_Zq Bundle.tN "UNASSIGNED_STACK" Bundle.steD A s' s'.heap := by rw [hhp]; exact vx_Zq.moved hW0.alike (hU.kept hS.2.1)
  have hN' : vx_Zq Bundle.tN "SUPPRESSED_SENTINEL" Bundle.listD A s' s'.heap := by rw [hhp]; exact vx_Zq.moved hW0.alike (hN.kept hS.2.1)
  have h : ∀ w ∈ Bundle.ownAtoms own ic cls names, w.before args s' = true := vx_own hat' (vx_isRefq hU'.1) (vx_isRefq hN'.1) hU'.2.word hN'.2.word
  have hown' : s'.vm.findClass own = some m.cls := by rw [hvm]; exact hown
  have hins : (Cond.instantiable cls 6).before args s' = true := h _ (by simp [Bundle.ownAtoms])
  obtain ⟨vm₁, cX, kX, hfX, hkX, -, -, X₁, st1⟩ := Y.newCold hexec (own := own) (C := cls) (index := ik) (n := 6) hown' hk' hins hini'
    (g := F0 m pc ls rest) rfl (by rw [hb]; exact d0) (Nat.le_refl _) (Nat.le_refl _)
  generalize hT1 : (T.setVm vm₁).pushCell { cls := cX, slots := kX.instanceTypes.map defaultValue, vm := .none } = T1 at X₁ st1
  have hcat : (Value.ref T.heap.size).category = 1 := rfl
  have hcellA : T1.heap[T.heap.size]? = some (freshCell cX kX) := by rw [← hT1]; exact State.heap_pushCell_size _ _
  have d3' : decode c.code (pc + 3) = .ok (.dup, 1) := by rw [hb]; exact d3
  have d4' : decode c.code (pc + 4) = .ok (.ldc is, 2) := by rw [hb]; exact d4
  have hstr' : vk_R own is text sa s' := vk_R.warm hW0 hstr
  obtain ⟨U, hsteps, hrun, hend, hW, hsame, ce, hce, hO⟩ := X₁.ctorThrowS hexec htr (own := own) (cls := cls) (names := names) (ic := ic) hown' hcls hnames h (fun x hx => nomatch hx) hfX hkX hcellA (by rw [hhp, hT]; exact Nat.le_refl _) (msg := .ref sa) rfl
    (g := { method := m, pc := pc + 6, locals := ls, stack := .ref sa :: .ref T.heap.size :: .ref T.heap.size :: rest, locked := none }) rfl hsize rfl rfl (rest := rest) rfl
    (by rw [hb]; exact d6) (by rw [hb]; exact d9) hout hRframes (by simp only [List.map_cons, List.sum_cons, hcat]; omega) hlocks
  obtain ⟨f1, f2⟩ := vx_frame hsame
  rw [hhp] at f1 f2
  have hWs : s.WarmedH U.vm := State.WarmedH.trans hW0 hW
  have hcl : s.vm.findClass cls = some ce.cls := by
    have h9 := hO.cls
    rw [hvm] at h9
    exact h9
  have hall : s.sameButNew ({ U with vm := s.vm } : State) locs mc ms := by
    subst hA
    obtain ⟨e1, e2⟩ := hsame
    rw [State.setFrames_setFrames] at e1
    have h2 : (T.setVm s.vm).sameButNew ({ U with vm := s.vm } : State) [] (0 + 1) (0 + 6) := ⟨e1, e2⟩
    have h3 := X.same.trans h2
    rw [List.append_nil] at h3
    exact h3.mono hc hs
  refine ⟨U, ?_, .threw T.heap.size, hrun, hend, Or.inr ⟨T.heap.size, rfl, cls, ce, locs, hx U hWs.alike f1 (fun q hq => f2 q hq (fun z hz => nomatch hz)), hce, hO.vm, hcl, hWs, hall, hf⟩⟩
  refine st1 _ ?_
  show Steps p.tables e below (T1.setTop { method := m, pc := pc + 3, locals := ls, stack := .ref T.heap.size :: rest, locked := none }) _
  jvm_step X₁.here [X₁.here.top, hexec, d3', Value.category]
  exact X₁.ldcString hexec (own := own) (text := text) (index := is) (a := sa) hown' hstr'.1 hstr'.2
    (g := { method := m, pc := pc + 4, locals := ls, stack := .ref T.heap.size :: .ref T.heap.size :: rest, locked := none }) rfl d4' _ hsteps
/-- 'throw new E("text")', the text by a wide index -/
theorem vx_throwSW {cc : ByteArray} {pc : Nat} (hexec : p.tables.exec = Jvm.exec) (hb : c.code = cc) (hl : l.stackTraces = false) {own cls text : String} {names : List String} {ik is ic mc ms sa : Nat} {A : Nat → Prop}
    (hown : s.vm.findClass own = some m.cls) (hcls : Bundle.fit cls = true) (hnames : ∀ n ∈ names, Bundle.fit n = true)
    (hk : (Cond.classLink own ik cls).before args s = true) (hini : (Cond.initialized cls).before args s = true) (hstr : vk_R own is text sa s) (hat : ∀ w ∈ vx_atS own ic cls names, w.before args s = true)
    (hgood : ∀ w ∈ Cond.classLink own ik cls :: Cond.initialized cls :: vx_atS own ic cls names, vx_ot w = true)
    (hU : vx_Zq Bundle.tN "UNASSIGNED_STACK" Bundle.steD A s s.heap) (hN : vx_Zq Bundle.tN "SUPPRESSED_SENTINEL" Bundle.listD A s s.heap) (hS : va_S A s.heap H locs) (hsize : ls.size = c.maxLocals)
    (d0 : decode cc pc = .ok (.new ik, 3)) (d3 : decode cc (pc + 3) = .ok (.dup, 1)) (d4 : decode cc (pc + 4) = .ok (.ldc_w is, 3)) (d7 : decode cc (pc + 7) = .ok (.invokespecial ic, 3)) (d10 : decode cc (pc + 10) = .ok (.athrow, 1))
    (hout : ∀ x ∈ c.exceptionTable.toList, covers x (pc + 10) = false)
    (hRframes : names.length + 3 < R.frames) (hRlocals : (rest.map fun v => v.category).sum + (13 * (names.length + 1) + 43) ≤ R.locals) (hRcells : cells + 1 ≤ R.cells) (hRslots : slots + 6 ≤ R.slots) (hlocks : meth.locks = false)
    (hx : ∀ t : State, s.vm.Alike t.vm → H.size ≤ t.heap.size → (∀ q : Nat, q < H.size → t.heap[q]? = H[q]?) → XC cls s t)
    (hf : ∀ z ∈ locs, free z.base) (hc : cells + 1 ≤ mc) (hs : slots + 6 ≤ ms) :
    W p l e R s m args below meth c H locs cells slots (vx_MQ below Qc XC args s mc ms free) (F0 m pc ls rest) := by
  intro T hT X
  have htr : e.platform.stackTraces = false := (show e.platform.stackTraces = l.stackTraces by rw [X.admits.platform]).trans hl
  have Y := vx_rebase X (R' := { frames := R.frames, locals := R.locals, cells := 1, slots := 6 }) (Nat.le_refl _) (Nat.le_refl _) hRcells hRslots
  obtain ⟨s', hA⟩ : ∃ z, z = (T.setVm s.vm).setFrames (.invoking m args :: below) := ⟨_, rfl⟩
  rw [← hA] at Y
  have hvm : s'.vm = s.vm := by rw [hA]; rfl
  have hhp : s'.heap = H := by rw [hA]; exact hT
  have hW0 : s.WarmedH s'.vm := by rw [hvm]; exact State.WarmedH.refl s
  have hat' : ∀ w ∈ vx_atS own ic cls names, w.before args s' = true := fun w hw => vx_ot_at hW0 hvm.symm (hgood w (List.mem_cons_of_mem _ (List.mem_cons_of_mem _ hw))) (hat w hw)
  have hk' : (Cond.classLink own ik cls).before args s' = true := vx_ot_at hW0 hvm.symm (hgood _ List.mem_cons_self) hk
  have hini' : (Cond.initialized cls).before args s' = true := vx_ot_at hW0 hvm.symm (hgood _ (List.mem_cons_of_mem _ List.mem_cons_self)) hini
  have hU' : vx_Zq Bundle.tN "UNASSIGNED_STACK" Bundle.steD A s' s'.heap := by rw [hhp]; exact vx_Zq.moved hW0.alike (hU.kept hS.2.1)
  have hN' : vx_Zq Bundle.tN "SUPPRESSED_SENTINEL" Bundle.listD A s' s'.heap := by rw [hhp]; exact vx_Zq.moved hW0.alike (hN.kept hS.2.1)
  have h : ∀ w ∈ Bundle.ownAtoms own ic cls names, w.before args s' = true := vx_own hat' (vx_isRefq hU'.1) (vx_isRefq hN'.1) hU'.2.word hN'.2.word
  have hown' : s'.vm.findClass own = some m.cls := by rw [hvm]; exact hown
  have hins : (Cond.instantiable cls 6).before args s' = true := h _ (by simp [Bundle.ownAtoms])
  obtain ⟨vm₁, cX, kX, hfX, hkX, -, -, X₁, st1⟩ := Y.newCold hexec (own := own) (C := cls) (index := ik) (n := 6) hown' hk' hins hini'
    (g := F0 m pc ls rest) rfl (by rw [hb]; exact d0) (Nat.le_refl _) (Nat.le_refl _)
  generalize hT1 : (T.setVm vm₁).pushCell { cls := cX, slots := kX.instanceTypes.map defaultValue, vm := .none } = T1 at X₁ st1
  have hcat : (Value.ref T.heap.size).category = 1 := rfl
  have hcellA : T1.heap[T.heap.size]? = some (freshCell cX kX) := by rw [← hT1]; exact State.heap_pushCell_size _ _
  have d3' : decode c.code (pc + 3) = .ok (.dup, 1) := by rw [hb]; exact d3
  have d4' : decode c.code (pc + 4) = .ok (.ldc_w is, 3) := by rw [hb]; exact d4
  have hstr' : vk_R own is text sa s' := vk_R.warm hW0 hstr
  obtain ⟨U, hsteps, hrun, hend, hW, hsame, ce, hce, hO⟩ := X₁.ctorThrowS hexec htr (own := own) (cls := cls) (names := names) (ic := ic) hown' hcls hnames h (fun x hx => nomatch hx) hfX hkX hcellA (by rw [hhp, hT]; exact Nat.le_refl _) (msg := .ref sa) rfl
    (g := { method := m, pc := pc + 7, locals := ls, stack := .ref sa :: .ref T.heap.size :: .ref T.heap.size :: rest, locked := none }) rfl hsize rfl rfl (rest := rest) rfl
    (by rw [hb]; exact d7) (by rw [hb]; exact d10) hout hRframes (by simp only [List.map_cons, List.sum_cons, hcat]; omega) hlocks
  obtain ⟨f1, f2⟩ := vx_frame hsame
  rw [hhp] at f1 f2
  have hWs : s.WarmedH U.vm := State.WarmedH.trans hW0 hW
  have hcl : s.vm.findClass cls = some ce.cls := by
    have h9 := hO.cls
    rw [hvm] at h9
    exact h9
  have hall : s.sameButNew ({ U with vm := s.vm } : State) locs mc ms := by
    subst hA
    obtain ⟨e1, e2⟩ := hsame
    rw [State.setFrames_setFrames] at e1
    have h2 : (T.setVm s.vm).sameButNew ({ U with vm := s.vm } : State) [] (0 + 1) (0 + 6) := ⟨e1, e2⟩
    have h3 := X.same.trans h2
    rw [List.append_nil] at h3
    exact h3.mono hc hs
  refine ⟨U, ?_, .threw T.heap.size, hrun, hend, Or.inr ⟨T.heap.size, rfl, cls, ce, locs, hx U hWs.alike f1 (fun q hq => f2 q hq (fun z hz => nomatch hz)), hce, hO.vm, hcl, hWs, hall, hf⟩⟩
  refine st1 _ ?_
  show Steps p.tables e below (T1.setTop { method := m, pc := pc + 3, locals := ls, stack := .ref T.heap.size :: rest, locked := none }) _
  jvm_step X₁.here [X₁.here.top, hexec, d3', Value.category]
  exact X₁.ldcStringW hexec (own := own) (text := text) (index := is) (a := sa) hown' hstr'.1 hstr'.2
    (g := { method := m, pc := pc + 4, locals := ls, stack := .ref T.heap.size :: .ref T.heap.size :: rest, locked := none }) rfl d4' _ hsteps
end Ends
section Bodies
variable {l : Launch}
theorem vx_ofW {y : MethodName} {ws ws' : List Cond} {rm : Room} {Pc : Array Value → State → Prop} {Qc : Array Value → State → Outcome → State → Prop} {XC : String → State → State → Prop} {mc ms : Nat} {free : Addr → Prop} {cc : ByteArray} {maxL : Nat} {ret : Option FieldType}
    (hy : plainName y.cls = true) (hw : ws = Cond.code y cc maxL ret :: ws')
    (body : ∀ p e s m args below meth c s₁, BodyLoose p l y (headSpec ws rm) cc maxL ret e s m args below meth c s₁ → c.maxLocals = maxL → (∀ x ∈ c.exceptionTable.toList, False) → Pc args s →
      W p l e (headSpec ws rm).room s m args below meth c s.heap [] 0 0 (vx_MQ below Qc XC args s mc ms free) (entryFrame m args maxL)) : vx_Met l y ws rm Pc Qc XC mc ms free := by
  refine MetFree.of_bodyS (code := cc) (maxLocals := maxL) (ret := ret) hy ?_ ?_
  · intro args s m h hn
    obtain ⟨meth, c, h1, h2, h3, h4, h5, h6, -, -⟩ := Cond.code_spec hn (atoms_spec (ws := ws) h _ (by rw [hw]; exact List.mem_cons_self))
    exact ⟨meth, c, h1, h2, h3, h4, h5, h6⟩
  · intro p e s m args below meth c s₁ B hml hP _
    have hh0 : s₁.heap = s.heap := by rw [B.state]; rfl
    have ht : ∀ x ∈ c.exceptionTable.toList, False := by
      obtain ⟨meth9, c9, h1, h2, -, -, -, -, h7, -⟩ := Cond.code_spec B.named (atoms_spec (ws := ws) B.pre _ (by rw [hw]; exact List.mem_cons_self))
      cases Option.some.inj (h1.symm.trans B.method)
      cases Option.some.inj (h2.symm.trans (Stand.of_body B).code)
      intro x hx
      rw [Array.isEmpty_iff.mp h7] at hx
      cases hx
    obtain ⟨t, a1, o, b1, b2, b3⟩ := body p e s m args below meth c s₁ B hml ht hP s₁ hh0 (Stand.of_body B)
    exact ⟨t, o, a1, b1, b2, b3⟩
/-- the table of a body with handlers -/
theorem vx_table {p : Program} {x y : MethodName} {S : Spec} {cc bytes : ByteArray} {maxL maxL' : Nat} {ret ret' : Option FieldType} {e : Env} {s s₁ : State} {m : MethodId} {args : Array Value} {below : List Frame} {meth : Method} {c : Code} {hh : List (Nat × Nat × Nat × Nat)}
    (B : BodyLoose p l y S cc maxL ret e s m args below meth c s₁) (h : (Cond.codeWith y bytes maxL' ret' hh).before args s = true) : c.exceptionTable.toList = tableOf hh := by
  obtain ⟨m9, meth9, c9, hn9, h1, h2, -, -, h6, -⟩ := Cond.codeWith_spec h
  cases Option.some.inj (hn9.symm.trans B.named)
  cases Option.some.inj (h1.symm.trans B.method)
  cases Option.some.inj (h2.symm.trans (Stand.of_body B).code)
  rw [← h6, table_eq]
end Bodies
end VXA
/-! ===== END ===== -/
/-! ===== BEGIN a static call of a method with an exception table ===== -/
section VXS
variable {p : Program} {l : Launch} {e : Env} {R : Room} {s : State} {m : MethodId} {args : Array Value} {below : List Frame} {meth : Method} {c : Code} {T : State} {H : Heap} {locs : List Loc} {cells slots : Nat}
abbrev vx_CSW (R : Room) (s : State) (args : Array Value) (own : String) (index : Nat) (y : MethodName) (bytes : ByteArray) (maxL : Nat) (ret : Option FieldType) (hh : List (Nat × Nat × Nat × Nat)) (ws : List Cond) (rm : Room) (mc ms n : Nat) : Prop :=
  (rm.cells = mc ∧ rm.slots = ms ∧ rm.frames + 1 ≤ R.frames ∧ 8 + (maxL + 11) + rm.locals ≤ R.locals ∧ (∀ w ∈ ws, ∀ (a' : Array Value) (U : State), s.WarmedH U.vm → w.before a' U = true) ∧ Cond.codeWith y bytes maxL ret hh ∈ ws) ∧
  (Cond.codeWith y bytes maxL ret hh).before args s = true ∧ (Cond.initialized y.cls).before args s = true ∧ (y.cls ≠ "java/lang/invoke/MethodHandle" ∧ y.cls ≠ "java/lang/invoke/VarHandle") ∧
  (∀ sig, parseMethodDescriptor y.desc = some sig → n = sig.parameters.length) ∧ (Cond.methodLink own index y).before args s = true ∧ (Cond.static y).before args s = true
theorem vx_cwSW {own : String} {index maxL mc ms : Nat} {y : MethodName} {bytes : ByteArray} {ret : Option FieldType} {hh : List (Nat × Nat × Nat × Nat)} {Ts ws ws' : List Cond} {rm : Room} (n : Nat) (ht : ∀ w ∈ Ts, w.before args s = true) (hT : GoodIn Ts (va_wsS own index y ws)) (hw : ws = Cond.codeWith y bytes maxL ret hh :: ws') (hrc : rm.cells = mc) (hrs : rm.slots = ms)
    (hd : y.cls ≠ "java/lang/invoke/MethodHandle" ∧ y.cls ≠ "java/lang/invoke/VarHandle" ∧ (parseMethodDescriptor y.desc).map (fun d => d.parameters.length) = some n) (hR : rm.frames + 1 ≤ R.frames ∧ 8 + (maxL + 11) + rm.locals ≤ R.locals) :
    vx_CSW R s args own index y bytes maxL ret hh ws rm mc ms n := by
  have ok : ∀ w ∈ va_wsS own index y ws, w.before args s = true := fun w h => ht w (hT w h).1
  have hG : GoodIn Ts ws := fun w h => hT w (by unfold va_wsS; exact List.mem_append_right _ h)
  have hc : Cond.codeWith y bytes maxL ret hh ∈ ws := by rw [hw]; exact List.mem_cons_self
  refine ⟨⟨hrc, hrs, hR.1, hR.2, pay_in ht hG, hc⟩, ht _ (hG _ hc).1, ok _ (by simp [va_wsS]), ⟨hd.1, hd.2.1⟩, fun sig h => ?_, ok _ (by simp [va_wsS]), ok _ (by simp [va_wsS])⟩
  have h2 := hd.2.2
  rw [h] at h2
  exact (Option.some.inj h2).symm
theorem vx_callSW (X : Stand p l e R s m args below meth c T locs cells slots) (hexec : p.tables.exec = Jvm.exec) {own : String} {index : Nat} {y : MethodName} {bytes : ByteArray} {maxL : Nat} {ret : Option FieldType} {hh : List (Nat × Nat × Nat × Nat)}
    (hown : s.vm.findClass own = some m.cls) (hlink : (Cond.methodLink own index y).before args s = true) (hstat : (Cond.static y).before args s = true) (hinit : (Cond.initialized y.cls).before args s = true)
    (hcode : (Cond.codeWith y bytes maxL ret hh).before args s = true) (hy : y.cls ≠ "java/lang/invoke/MethodHandle" ∧ y.cls ≠ "java/lang/invoke/VarHandle")
    {W9 : Nat} {Pre : Pt → Array Value → Prop} {Post : Pt → Array Value → Option Value → Pt → Prop} (hK : Back l R p e below s args y 3 W9 Pre Post)
    {g : JFrame} (hg : g.method = m) (hsize : g.locals.size = c.maxLocals) {argsL rest : List Value} (hlen : ∀ sig, parseMethodDescriptor y.desc = some sig → argsL.length = sig.parameters.length)
    (hstack : g.stack = argsL.reverse ++ rest) (hW : 2 * g.monitorRoom + (rest.map fun v => v.category).sum ≤ W9) (hdg : decode c.code g.pc = .ok (.invokestatic index, 3))
    (hpre : ∀ vm₁, s.WarmedH vm₁ → Pre ⟨T.setVm vm₁, locs, cells, slots⟩ argsL.toArray) :
    ∃ (v : Option Value) (vm₁ : Vm) (B : Pt), s.WarmedH vm₁ ∧ Stand p l e R s m args below meth c B.U B.locs B.cells B.slots ∧ Post ⟨T.setVm vm₁, locs, cells, slots⟩ argsL.toArray v B ∧
      ∀ target, Steps p.tables e below (B.U.setTop { g with pc := g.pc + 3, stack := v.toList ++ rest }) target → Steps p.tables e below (T.setTop g) target := by
  obtain ⟨mk, methM, cM, hnamed, hmethM, -, -, -, -, -, -, hsigM⟩ := Cond.codeWith_spec hcode
  have hstatic : methM.isStatic = true := Cond.static_spec hnamed hmethM hstat
  obtain ⟨kP, hkP, -⟩ := className_of_methodNamed hnamed
  have hinitP : kP.init = .initialized := Cond.initialized_spec (findClass_of_methodNamed hnamed) hkP hinit
  obtain ⟨vm₁, X₁, hstep₁⟩ := X.invokestatic hexec hown hlink hnamed hmethM hstatic hkP hinitP hy (g := g) hg (argsL := argsL) (rest := rest) (hlen _ hsigM) hstack hdg
  obtain ⟨v, B, X', hpost, hsteps⟩ := hK m meth c ⟨T.setVm vm₁, locs, cells, slots⟩ { g with stack := rest } (.invokestatic index) mk argsL.toArray X₁ hg hsize hdg hW (X₁.named hnamed) (hpre vm₁ X₁.warmed)
  exact ⟨v, vm₁, B, X₁.warmed, X', hpost, fun target h => hstep₁ _ fun acts => by rw [doInvoke_state]; exact hsteps.trans h⟩
theorem vx_runSW {y : MethodName} {bytes cc : ByteArray} {maxL nL mc ms n index : Nat} {ret : Option FieldType} {hh : List (Nat × Nat × Nat × Nat)} {ws : List Cond} {rm : Room} {Pc : Array Value → State → Prop} {Qc : Array Value → State → Outcome → State → Prop} {free : Addr → Prop} {Ts : List Cond} {own : String} {As rest : List Value} {g : JFrame}
    (S : CallFix p m c cc nL s args Ts own) (hM : Met l y ws rm Pc Qc mc ms free) (cw : vx_CSW R s args own index y bytes maxL ret hh ws rm mc ms n) (hp : PreS s H Pc As)
    (hg : g.method = m) (hn : As.length = n) (hsize : g.locals.size = nL) (hstack : g.stack = As.reverse ++ rest) (hW : 2 * g.monitorRoom + (rest.map fun v => v.category).sum ≤ 8) (hdg : decode cc g.pc = .ok (.invokestatic index, 3)) (hf : cells + mc ≤ R.cells ∧ slots + ms ≤ R.slots) :
    va_Run p l e R s m args below meth c H locs cells slots mc ms g rest (Qc As.toArray) (free) := by
  obtain ⟨⟨hrc, hrs, hfr, hlo, hws, hcw⟩, hcode, hini, hy, hlen, hl, hstt⟩ := cw
  have hK : Back l R p e below s args y 3 8 (PreOf R mc ms Pc) (PostOf Qc mc ms free) := va_backW (hh := hh) (bytes := bytes) (maxL := maxL) (ret := ret) hM hp.1 hrc hrs hfr hlo hws hcw (fun a' U hW => word_at hW (Or.inl (by first | rfl | simp [Cond.onTables, Cond.keeps, Cond.steady])) hini)
  obtain ⟨hx, hb, hml, ho, -⟩ := S
  intro T hT X
  obtain ⟨v, vm₁, ⟨U', l2, c2, s2⟩, hW₁, X', ⟨g', mk, t, L, e1, e2, hq, h1, hL, h2, h3⟩, st⟩ := vx_callSW X hx (hh := hh) (bytes := bytes) (maxL := maxL) (ret := ret) ho hl hstt hini hcode hy hK hg (hsize.trans hml.symm) (argsL := As) (rest := rest) (fun sig h => hn.trans (hlen sig h)) hstack hW (by rw [hb]; exact hdg)
    (fun vm₁ hW₁ => ⟨hf.1, hf.2, hp.2 (T.setVm vm₁) hT hW₁⟩)
  dsimp only [Pt.U, Pt.locs, Pt.cells, Pt.slots] at X' e1 e2 h1 h2 h3 st
  subst h1; subst h2; subst h3
  exact ⟨v, (T.setVm vm₁).calling g' mk As.toArray, t, U', L, hT, X', hL, e1, e2, hq, st⟩
/-- a thing of a world lies in the heap -/
theorem vx_lt {D : va_G} {cl : List vw_C} {ws : va_W} {H1 : Heap} (h : va_P D cl ws H1) {k : Nat} {q : Nat × va_E} (hk : ws[k]? = some q) : q.1 < H1.size := (h k q hk).lt
end VXS
/-! ===== END ===== -/
/-! ===== BEGIN methods with a table of their own: called by a name, returning or throwing ===== -/
section VXH
/-! vx_backW, vx_callVX, vx_callSX, vx_callVW, vx_runVW, vx_runVX, vx_runSX, vx_ofWH follow the same proofs as their sisters above (Free/Laws.lean, Shelf42/LK1.lean); vx_outP calls Shelf42/NT130.lean (outThrough). -/
section
variable {l : Launch} {R : Room} {p : Program} {e : Env} {below : List Frame} {s : State} {sargs : Array Value} {y : MethodName} {len W9 : Nat}
theorem vx_backW {ws : List Cond} {rm : Room} {Pc : Array Value → State → Prop} {Qc : Array Value → State → Outcome → State → Prop} {XC : String → State → State → Prop} {mc ms : Nat} {free : Addr → Prop} {bytes : ByteArray} {maxL : Nat} {ret : Option FieldType} {hh : List (Nat × Nat × Nat × Nat)}
    (hM : vx_Met l y ws rm Pc Qc XC mc ms free) (hblind : FrameBlind Pc) (hrc : rm.cells = mc) (hrs : rm.slots = ms)
    (hframes : rm.frames + 1 ≤ R.frames) (hlocals : W9 + (maxL + 11) + rm.locals ≤ R.locals)
    (hws : ∀ w ∈ ws, ∀ a' U, s.WarmedH U.vm → w.before a' U = true) (hcode : Cond.codeWith y bytes maxL ret hh ∈ ws) (hinit : ∀ a' U, s.WarmedH U.vm → (Cond.initialized y.cls).before a' U = true) :
    vx_Back l R p e below s sargs y len W9 (PreOf R mc ms Pc) (PostOf Qc mc ms free) (vx_Post XC mc ms free) := by
  intro m meth c A g ig mk a X hg hsize hdg hW hn hp
  have h1 : (headSpec ws rm).pre.before a A.U = true := atoms_intro fun w hw => hws w hw _ _ X.warmed
  have h2 : (Cond.codeWith y bytes maxL ret hh).before a A.U = true := hws _ hcode _ _ X.warmed
  have h3 : (Cond.initialized y.cls).before a A.U = true := hinit _ _ X.warmed
  have h4 : A.cells + (headSpec ws rm).room.cells ≤ R.cells := by rw [show (headSpec ws rm).room.cells = mc from hrc]; exact hp.1
  have h5 : A.slots + (headSpec ws rm).room.slots ≤ R.slots := by rw [show (headSpec ws rm).room.slots = ms from hrs]; exact hp.2.1
  have hPc : Pc a (A.U.calling g mk a) := hblind _ _ _ _ hp.2.2
  obtain ⟨U, Ls, c0, s0⟩ := A
  dsimp only [Pt.U, Pt.locs, Pt.cells, Pt.slots] at h1 h2 h3 h4 h5 X hn hPc ⊢
  obtain ⟨m9, methY, cY, hn9, hmY, hcY, -, hlY, -⟩ := Cond.codeWith_spec h2
  cases Option.some.inj (hn9.symm.trans hn)
  obtain ⟨kY, hkY, -⟩ := className_of_methodNamed hn
  have hinitY : kY.init = .initialized := Cond.initialized_spec (findClass_of_methodNamed hn) hkY h3
  have h : At U g.method c below := by rw [hg]; exact X.here
  have hlocals9 : W9 + (maxL + 11) + (headSpec ws rm).room.locals ≤ R.locals := hlocals
  have happ : (headSpec ws rm).appliesLoose y e.platform (U.calling g mk a) = true :=
    Spec.appliesLoose_calling (g := g) h hdg hn hkY hinitY
      (X.room_calling (g := g) (R' := (headSpec ws rm).room) hsize hmY hcY hframes (by rw [hlY]; omega) h4 h5) h1
  obtain ⟨mid, hmid⟩ := h.above
  have hfr : (U.setTop g).frames = (.java g :: mid) ++ below := by rw [State.frames_setTop' g h.top, hmid]; rfl
  obtain ⟨o, s₂, hsteps, -, hend, hq⟩ := Steps.callFree hM p X.admits X.cas X.clock (acts := []) hfr happ hPc trivial
  have hq' : vx_Q Qc XC mc ms free a (U.calling g mk a) o s₂ := hq
  rw [State.frames_setTop' g h.top] at hend
  obtain ⟨g₀, hg0⟩ := Option.isSome_iff_exists.mp h.top
  obtain ⟨r, hr⟩ := State.topJava?_eq_some.mp hg0
  have hr' : (({ U with heap := s₂.heap, slotsUsed := s₂.slotsUsed } : State).setVm s₂.vm).frames = .java g₀ :: r := hr
  rcases hq' with ⟨hqc, L, hfe, hL⟩ | ⟨q, rfl, E, ce, L, hx, hce, hcv, hcl, hW₂, hsm, hL⟩
  · obtain ⟨⟨v, rfl⟩, hW₂, e2, q2, q3, q4, q5, q6⟩ := id hfe
    have e3 : s₂ = ({ (U.calling g mk a).setFrames s₂.frames with heap := s₂.heap, slotsUsed := s₂.slotsUsed } : State).setVm s₂.vm := by
      have : s₂ = ({ s₂ with vm := (U.calling g mk a).vm } : State).setVm s₂.vm := rfl
      rw [e2] at this
      exact this
    obtain ⟨c₂, i₂, len₂, hc₂, hd₂, hf₂⟩ := hend
    have hW' : U.WarmedH s₂.vm := hW₂
    have hcc : c₂ = c := by
      have h1 : s₂.code? g.method = U.code? g.method := by
        rw [State.code?_eq, State.code?_eq, hW'.alike.method?]
      exact Option.some.inj (hc₂.symm.trans (h1.trans h.code))
    subst hcc
    have hlen : len₂ = len := by rw [hdg] at hd₂; cases hd₂; rfl
    subst hlen
    have hs₂ : s₂ = (({ U with heap := s₂.heap, slotsUsed := s₂.slotsUsed } : State).setVm s₂.vm).setTop { g with pc := g.pc + len₂, stack := v.toList ++ g.stack } := by
      refine e3.trans ?_
      rw [hf₂, State.calling_eq h.top, State.setFrames_setFrames, State.setTop_of_frames _ hr', hr]
      rfl
    have hsame : U.sameButNew ({ U with heap := s₂.heap, slotsUsed := s₂.slotsUsed } : State) L mc ms := by
      refine ⟨?_, q2, q3, q4, q5, q6⟩
      obtain ⟨t, ht, -⟩ := State.frames_cons hr
      show ({ U with heap := s₂.heap, slotsUsed := s₂.slotsUsed } : State) = { U.setFrames U.frames with heap := s₂.heap, slotsUsed := s₂.slotsUsed }
      rw [State.setFrames_self ht]
    subst hg
    refine Or.inl ⟨v, ⟨(({ U with heap := s₂.heap, slotsUsed := s₂.slotsUsed } : State).setVm s₂.vm), Ls ++ L, c0 + mc, s0 + ms⟩,
      ⟨X.admits, X.cas, X.clock, X.frames, X.room, X.hears, X.method, X.code, (X.here.setHeapUsed s₂.heap s₂.slotsUsed).setVm hW'.alike, X.tail, State.WarmedH.trans X.warmed hW', X.limits, X.bytes, X.same.trans (hsame.setVm s.vm)⟩,
      ⟨g, mk, s₂, L, rfl, rfl, hqc, rfl, hL, rfl, rfl⟩, ?_⟩
    show Steps p.tables e below _ ((({ U with heap := s₂.heap, slotsUsed := s₂.slotsUsed } : State).setVm s₂.vm).setTop { g with pc := g.pc + len₂, stack := v.toList ++ g.stack })
    rw [← hs₂]
    exact hsteps
  · obtain ⟨e2, q2, q3, q4, q5, q6⟩ := id hsm
    have e3 : s₂ = ({ (U.calling g mk a).setFrames s₂.frames with heap := s₂.heap, slotsUsed := s₂.slotsUsed } : State).setVm s₂.vm := by
      have : s₂ = ({ s₂ with vm := (U.calling g mk a).vm } : State).setVm s₂.vm := rfl
      rw [e2] at this
      exact this
    have hf₂ : s₂.frames = .throwing q :: .java g :: U.frames.tail := hend
    have hW' : U.WarmedH s₂.vm := hW₂
    have hs₂ : s₂ = ((({ U with heap := s₂.heap, slotsUsed := s₂.slotsUsed } : State).setVm s₂.vm).setTop g).pushFrame (.throwing q) := by
      refine e3.trans ?_
      rw [hf₂, State.calling_eq h.top, State.setFrames_setFrames, State.pushFrame, State.frames_setTop _ hr', State.setTop_of_frames _ hr', State.setFrames_setFrames, hr]
      rfl
    have hsame : U.sameButNew ({ U with heap := s₂.heap, slotsUsed := s₂.slotsUsed } : State) L mc ms := by
      refine ⟨?_, q2, q3, q4, q5, q6⟩
      obtain ⟨t, ht, -⟩ := State.frames_cons hr
      show ({ U with heap := s₂.heap, slotsUsed := s₂.slotsUsed } : State) = { U.setFrames U.frames with heap := s₂.heap, slotsUsed := s₂.slotsUsed }
      rw [State.setFrames_self ht]
    subst hg
    refine Or.inr ⟨q, ⟨(({ U with heap := s₂.heap, slotsUsed := s₂.slotsUsed } : State).setVm s₂.vm), Ls ++ L, c0 + mc, s0 + ms⟩,
      ⟨X.admits, X.cas, X.clock, X.frames, X.room, X.hears, X.method, X.code, (X.here.setHeapUsed s₂.heap s₂.slotsUsed).setVm hW'.alike, X.tail, State.WarmedH.trans X.warmed hW', X.limits, X.bytes, X.same.trans (hsame.setVm s.vm)⟩,
      ⟨g, mk, s₂, L, E, ce, rfl, rfl, hx, hce, hcv, hcl, rfl, hL, rfl, rfl⟩, ?_⟩
    show Steps p.tables e below _ (((({ U with heap := s₂.heap, slotsUsed := s₂.slotsUsed } : State).setVm s₂.vm).setTop g).pushFrame (.throwing q))
    rw [← hs₂]
    exact hsteps
end
variable {p : Program} {l : Launch} {e : Env} {R : Room} {s : State} {m : MethodId} {args : Array Value} {below : List Frame} {meth : Method} {c : Code} {T : State} {H : Heap} {locs : List Loc} {cells slots : Nat}
theorem vx_callVX (X : Stand p l e R s m args below meth c T locs cells slots) (hexec : p.tables.exec = Jvm.exec) {own C : String} {index : Nat} {y : MethodName} {bytes : ByteArray} {maxL : Nat} {ret : Option FieldType} {hh : List (Nat × Nat × Nat × Nat)}
    (hown : s.vm.findClass own = some m.cls) (hlink : (Cond.methodLink own index y).before args s = true) (hinst : (Cond.instanceMethod y).before args s = true) (hsel : (Cond.selects C y y).before args s = true)
    (hcode : (Cond.codeWith y bytes maxL ret hh).before args s = true) (hy : y.cls ≠ "java/lang/invoke/MethodHandle" ∧ y.cls ≠ "java/lang/invoke/VarHandle")
    {W9 : Nat} {Pre : Pt → Array Value → Prop} {Post : Pt → Array Value → Option Value → Pt → Prop} {PostX : Pt → Array Value → Addr → Pt → Prop} (hK : vx_Back l R p e below s args y 3 W9 Pre Post PostX)
    {b : Addr} {cellB : Cell} (hcell : T.heap[b]? = some cellB) (hobj : cellB.vm.isStatics = false) (hcls : s.vm.findClass C = some cellB.cls)
    {g : JFrame} (hg : g.method = m) (hsize : g.locals.size = c.maxLocals) {argsL rest : List Value} (hlen : ∀ sig, parseMethodDescriptor y.desc = some sig → argsL.length = sig.parameters.length)
    (hstack : g.stack = argsL.reverse ++ .ref b :: rest) (hW : 2 * g.monitorRoom + (rest.map fun v => v.category).sum ≤ W9) (hdg : decode c.code g.pc = .ok (.invokevirtual index, 3))
    (hpre : ∀ vm₁, s.WarmedH vm₁ → Pre ⟨T.setVm vm₁, locs, cells, slots⟩ (Value.ref b :: argsL).toArray) :
    (∃ (v : Option Value) (vm₁ : Vm) (B : Pt), s.WarmedH vm₁ ∧ Stand p l e R s m args below meth c B.U B.locs B.cells B.slots ∧ Post ⟨T.setVm vm₁, locs, cells, slots⟩ (Value.ref b :: argsL).toArray v B ∧
      ∀ target, Steps p.tables e below (B.U.setTop { g with pc := g.pc + 3, stack := v.toList ++ rest }) target → Steps p.tables e below (T.setTop g) target) ∨
    (∃ (q : Addr) (vm₁ : Vm) (B : Pt), s.WarmedH vm₁ ∧ Stand p l e R s m args below meth c B.U B.locs B.cells B.slots ∧ PostX ⟨T.setVm vm₁, locs, cells, slots⟩ (Value.ref b :: argsL).toArray q B ∧
      Steps p.tables e below (T.setTop g) ((B.U.setTop { g with stack := rest }).pushFrame (.throwing q))) := by
  obtain ⟨mk, methM, hnamed, hmethM, hstM, habM⟩ := Cond.instanceMethod_spec hinst
  obtain ⟨m8, methM', cM, hn8, hmethM', -, -, -, -, -, -, hsigM⟩ := Cond.codeWith_spec hcode
  cases Option.some.inj (hn8.symm.trans hnamed)
  cases hmethM.symm.trans hmethM'
  obtain ⟨c2, r2, m2, q1, q2, q3, q4, kP, hkP, hkPi⟩ := Cond.selects_spec hsel
  cases hcls.symm.trans q1
  cases (State.methodFound?_of_named hnamed hy).symm.trans q2
  cases hnamed.symm.trans q3
  have hselP : selectMethod e.platform s.vm cellB.cls mk = .method mk := by rw [Launch.admits_selectMethod X.admits]; exact q4
  obtain ⟨vm₁, X₁, hstep₁⟩ := X.invokevirtual hexec hown hlink hnamed hmethM hstM hkP hkPi hy (a := b) (cell := cellB) hcell
    (fun z h => by rw [h] at hobj; cases hobj) hselP hmethM habM hkP hkPi (g := g) hg (argsL := argsL) (rest := rest) (hlen _ hsigM) hstack hdg
  rcases hK m meth c ⟨T.setVm vm₁, locs, cells, slots⟩ { g with stack := rest } (.invokevirtual index) mk (Value.ref b :: argsL).toArray X₁ hg hsize hdg hW (X₁.named hnamed) (hpre vm₁ X₁.warmed) with ⟨v, B, X', hpost, hsteps⟩ | ⟨q, B, X', hpost, hsteps⟩
  · exact Or.inl ⟨v, vm₁, B, X₁.warmed, X', hpost, fun target h => hstep₁ _ fun acts => by rw [doInvoke_state]; exact hsteps.trans h⟩
  · exact Or.inr ⟨q, vm₁, B, X₁.warmed, X', hpost, hstep₁ _ fun acts => by rw [doInvoke_state]; exact hsteps⟩
theorem vx_callSX (X : Stand p l e R s m args below meth c T locs cells slots) (hexec : p.tables.exec = Jvm.exec) {own : String} {index : Nat} {y : MethodName} {bytes : ByteArray} {maxL : Nat} {ret : Option FieldType} {hh : List (Nat × Nat × Nat × Nat)}
    (hown : s.vm.findClass own = some m.cls) (hlink : (Cond.methodLink own index y).before args s = true) (hstat : (Cond.static y).before args s = true) (hinit : (Cond.initialized y.cls).before args s = true)
    (hcode : (Cond.codeWith y bytes maxL ret hh).before args s = true) (hy : y.cls ≠ "java/lang/invoke/MethodHandle" ∧ y.cls ≠ "java/lang/invoke/VarHandle")
    {W9 : Nat} {Pre : Pt → Array Value → Prop} {Post : Pt → Array Value → Option Value → Pt → Prop} {PostX : Pt → Array Value → Addr → Pt → Prop} (hK : vx_Back l R p e below s args y 3 W9 Pre Post PostX)
    {g : JFrame} (hg : g.method = m) (hsize : g.locals.size = c.maxLocals) {argsL rest : List Value} (hlen : ∀ sig, parseMethodDescriptor y.desc = some sig → argsL.length = sig.parameters.length)
    (hstack : g.stack = argsL.reverse ++ rest) (hW : 2 * g.monitorRoom + (rest.map fun v => v.category).sum ≤ W9) (hdg : decode c.code g.pc = .ok (.invokestatic index, 3))
    (hpre : ∀ vm₁, s.WarmedH vm₁ → Pre ⟨T.setVm vm₁, locs, cells, slots⟩ argsL.toArray) :
    (∃ (v : Option Value) (vm₁ : Vm) (B : Pt), s.WarmedH vm₁ ∧ Stand p l e R s m args below meth c B.U B.locs B.cells B.slots ∧ Post ⟨T.setVm vm₁, locs, cells, slots⟩ argsL.toArray v B ∧
      ∀ target, Steps p.tables e below (B.U.setTop { g with pc := g.pc + 3, stack := v.toList ++ rest }) target → Steps p.tables e below (T.setTop g) target) ∨
    (∃ (q : Addr) (vm₁ : Vm) (B : Pt), s.WarmedH vm₁ ∧ Stand p l e R s m args below meth c B.U B.locs B.cells B.slots ∧ PostX ⟨T.setVm vm₁, locs, cells, slots⟩ argsL.toArray q B ∧
      Steps p.tables e below (T.setTop g) ((B.U.setTop { g with stack := rest }).pushFrame (.throwing q))) := by
  obtain ⟨mk, methM, cM, hnamed, hmethM, -, -, -, -, -, -, hsigM⟩ := Cond.codeWith_spec hcode
  have hstatic : methM.isStatic = true := Cond.static_spec hnamed hmethM hstat
  obtain ⟨kP, hkP, -⟩ := className_of_methodNamed hnamed
  have hinitP : kP.init = .initialized := Cond.initialized_spec (findClass_of_methodNamed hnamed) hkP hinit
  obtain ⟨vm₁, X₁, hstep₁⟩ := X.invokestatic hexec hown hlink hnamed hmethM hstatic hkP hinitP hy (g := g) hg (argsL := argsL) (rest := rest) (hlen _ hsigM) hstack hdg
  rcases hK m meth c ⟨T.setVm vm₁, locs, cells, slots⟩ { g with stack := rest } (.invokestatic index) mk argsL.toArray X₁ hg hsize hdg hW (X₁.named hnamed) (hpre vm₁ X₁.warmed) with ⟨v, B, X', hpost, hsteps⟩ | ⟨q, B, X', hpost, hsteps⟩
  · exact Or.inl ⟨v, vm₁, B, X₁.warmed, X', hpost, fun target h => hstep₁ _ fun acts => by rw [doInvoke_state]; exact hsteps.trans h⟩
  · exact Or.inr ⟨q, vm₁, B, X₁.warmed, X', hpost, hstep₁ _ fun acts => by rw [doInvoke_state]; exact hsteps⟩
theorem vx_callVW (X : Stand p l e R s m args below meth c T locs cells slots) (hexec : p.tables.exec = Jvm.exec) {own C : String} {index : Nat} {y : MethodName} {bytes : ByteArray} {maxL : Nat} {ret : Option FieldType} {hh : List (Nat × Nat × Nat × Nat)}
    (hown : s.vm.findClass own = some m.cls) (hlink : (Cond.methodLink own index y).before args s = true) (hinst : (Cond.instanceMethod y).before args s = true) (hsel : (Cond.selects C y y).before args s = true)
    (hcode : (Cond.codeWith y bytes maxL ret hh).before args s = true) (hy : y.cls ≠ "java/lang/invoke/MethodHandle" ∧ y.cls ≠ "java/lang/invoke/VarHandle")
    {W9 : Nat} {Pre : Pt → Array Value → Prop} {Post : Pt → Array Value → Option Value → Pt → Prop} (hK : Back l R p e below s args y 3 W9 Pre Post)
    {b : Addr} {cellB : Cell} (hcell : T.heap[b]? = some cellB) (hobj : cellB.vm.isStatics = false) (hcls : s.vm.findClass C = some cellB.cls)
    {g : JFrame} (hg : g.method = m) (hsize : g.locals.size = c.maxLocals) {argsL rest : List Value} (hlen : ∀ sig, parseMethodDescriptor y.desc = some sig → argsL.length = sig.parameters.length)
    (hstack : g.stack = argsL.reverse ++ .ref b :: rest) (hW : 2 * g.monitorRoom + (rest.map fun v => v.category).sum ≤ W9) (hdg : decode c.code g.pc = .ok (.invokevirtual index, 3))
    (hpre : ∀ vm₁, s.WarmedH vm₁ → Pre ⟨T.setVm vm₁, locs, cells, slots⟩ (Value.ref b :: argsL).toArray) :
    ∃ (v : Option Value) (vm₁ : Vm) (B : Pt), s.WarmedH vm₁ ∧ Stand p l e R s m args below meth c B.U B.locs B.cells B.slots ∧ Post ⟨T.setVm vm₁, locs, cells, slots⟩ (Value.ref b :: argsL).toArray v B ∧
      ∀ target, Steps p.tables e below (B.U.setTop { g with pc := g.pc + 3, stack := v.toList ++ rest }) target → Steps p.tables e below (T.setTop g) target := by
  obtain ⟨mk, methM, hnamed, hmethM, hstM, habM⟩ := Cond.instanceMethod_spec hinst
  obtain ⟨m8, methM', cM, hn8, hmethM', -, -, -, -, -, -, hsigM⟩ := Cond.codeWith_spec hcode
  cases Option.some.inj (hn8.symm.trans hnamed)
  cases hmethM.symm.trans hmethM'
  obtain ⟨c2, r2, m2, q1, q2, q3, q4, kP, hkP, hkPi⟩ := Cond.selects_spec hsel
  cases hcls.symm.trans q1
  cases (State.methodFound?_of_named hnamed hy).symm.trans q2
  cases hnamed.symm.trans q3
  have hselP : selectMethod e.platform s.vm cellB.cls mk = .method mk := by rw [Launch.admits_selectMethod X.admits]; exact q4
  obtain ⟨vm₁, X₁, hstep₁⟩ := X.invokevirtual hexec hown hlink hnamed hmethM hstM hkP hkPi hy (a := b) (cell := cellB) hcell
    (fun z h => by rw [h] at hobj; cases hobj) hselP hmethM habM hkP hkPi (g := g) hg (argsL := argsL) (rest := rest) (hlen _ hsigM) hstack hdg
  obtain ⟨v, B, X', hpost, hsteps⟩ := hK m meth c ⟨T.setVm vm₁, locs, cells, slots⟩ { g with stack := rest } (.invokevirtual index) mk (Value.ref b :: argsL).toArray X₁ hg hsize hdg hW (X₁.named hnamed) (hpre vm₁ X₁.warmed)
  exact ⟨v, vm₁, B, X₁.warmed, X', hpost, fun target h => hstep₁ _ fun acts => by rw [doInvoke_state]; exact hsteps.trans h⟩
abbrev vx_CVW (R : Room) (s : State) (args : Array Value) (own C : String) (index : Nat) (y : MethodName) (bytes : ByteArray) (maxL : Nat) (ret : Option FieldType) (hh : List (Nat × Nat × Nat × Nat)) (ws : List Cond) (rm : Room) (mc ms n : Nat) : Prop :=
  (rm.cells = mc ∧ rm.slots = ms ∧ rm.frames + 1 ≤ R.frames ∧ 8 + (maxL + 11) + rm.locals ≤ R.locals ∧ (∀ w ∈ ws, ∀ (a' : Array Value) (U : State), s.WarmedH U.vm → w.before a' U = true) ∧ Cond.codeWith y bytes maxL ret hh ∈ ws) ∧
  (Cond.codeWith y bytes maxL ret hh).before args s = true ∧ (Cond.initialized y.cls).before args s = true ∧ (y.cls ≠ "java/lang/invoke/MethodHandle" ∧ y.cls ≠ "java/lang/invoke/VarHandle") ∧
  (∀ sig, parseMethodDescriptor y.desc = some sig → n = sig.parameters.length) ∧ (Cond.methodLink own index y).before args s = true ∧ (Cond.instanceMethod y).before args s = true ∧ (Cond.selects C y y).before args s = true
theorem vx_cwVW {own C : String} {index maxL mc ms : Nat} {y : MethodName} {bytes : ByteArray} {ret : Option FieldType} {hh : List (Nat × Nat × Nat × Nat)} {Ts ws ws' : List Cond} {rm : Room} (n : Nat) (ht : ∀ w ∈ Ts, w.before args s = true) (hT : GoodIn Ts (wsV own index C y ws)) (hw : ws = Cond.codeWith y bytes maxL ret hh :: ws') (hrc : rm.cells = mc) (hrs : rm.slots = ms)
    (hd : y.cls = C ∧ y.cls ≠ "java/lang/invoke/MethodHandle" ∧ y.cls ≠ "java/lang/invoke/VarHandle" ∧ (parseMethodDescriptor y.desc).map (fun d => d.parameters.length) = some n) (hR : rm.frames + 1 ≤ R.frames ∧ 8 + (maxL + 11) + rm.locals ≤ R.locals) :
    vx_CVW R s args own C index y bytes maxL ret hh ws rm mc ms n := by
  obtain ⟨hC, hd⟩ := hd
  subst hC
  have ok : ∀ w ∈ wsV own index y.cls y ws, w.before args s = true := fun w h => ht w (hT w h).1
  have hG : GoodIn Ts ws := fun w h => hT w (by unfold wsV; exact List.mem_append_right _ h)
  have hc : Cond.codeWith y bytes maxL ret hh ∈ ws := by rw [hw]; exact List.mem_cons_self
  refine ⟨⟨hrc, hrs, hR.1, hR.2, pay_in ht hG, hc⟩, ht _ (hG _ hc).1, ok _ (by simp [wsV]), ⟨hd.1, hd.2.1⟩, fun sig h => ?_, ok _ (by simp [wsV]), ok _ (by simp [wsV]), ok _ (by simp [wsV])⟩
  have h2 := hd.2.2
  rw [h] at h2
  exact (Option.some.inj h2).symm
theorem vx_runVW {y : MethodName} {bytes cc : ByteArray} {maxL nL mc ms n index : Nat} {ret : Option FieldType} {hh : List (Nat × Nat × Nat × Nat)} {ws : List Cond} {rm : Room} {Pc : Array Value → State → Prop} {Qc : Array Value → State → Outcome → State → Prop} {free : Addr → Prop} {Ts : List Cond} {own C : String} {b : Addr} {As rest : List Value} {g : JFrame}
    (S : CallFix p m c cc nL s args Ts own) (hM : Met l y ws rm Pc Qc mc ms free) (cw : vx_CVW R s args own C index y bytes maxL ret hh ws rm mc ms n) (hp : PreV s H C b Pc As)
    (hg : g.method = m) (hn : As.length = n) (hsize : g.locals.size = nL) (hstack : g.stack = As.reverse ++ .ref b :: rest) (hW : 2 * g.monitorRoom + (rest.map fun v => v.category).sum ≤ 8) (hdg : decode cc g.pc = .ok (.invokevirtual index, 3)) (hf : cells + mc ≤ R.cells ∧ slots + ms ≤ R.slots) :
    va_Run p l e R s m args below meth c H locs cells slots mc ms g rest (Qc (Value.ref b :: As).toArray) free := by
  obtain ⟨⟨hrc, hrs, hfr, hlo, hws, hcw⟩, hcode, hini, hy, hlen, hl, hin, hse⟩ := cw
  have hK : Back l R p e below s args y 3 8 (PreOf R mc ms Pc) (PostOf Qc mc ms free) := va_backW (hh := hh) (bytes := bytes) (maxL := maxL) (ret := ret) hM hp.1 hrc hrs hfr hlo hws hcw (fun a' U hW => word_at hW (Or.inl (by first | rfl | simp [Cond.onTables, Cond.keeps, Cond.steady])) hini)
  obtain ⟨hx, hb, hml, ho, -⟩ := S
  obtain ⟨-, ⟨cellB, hcB, hoB, hclB⟩, hPc⟩ := hp
  intro T hT X
  obtain ⟨v, vm₁, ⟨U', l2, c2, s2⟩, hW₁, X', ⟨g', mk, t, L, e1, e2, hq, h1, hL, h2, h3⟩, st⟩ := vx_callVW X hx (C := C) (hh := hh) (bytes := bytes) (maxL := maxL) (ret := ret) ho hl hin hse hcode hy hK (by rw [hT]; exact hcB) hoB hclB hg (hsize.trans hml.symm) (argsL := As) (rest := rest) (fun sig h => hn.trans (hlen sig h)) hstack hW (by rw [hb]; exact hdg)
    (fun vm₁ hW₁ => ⟨hf.1, hf.2, hPc (T.setVm vm₁) hT hW₁⟩)
  dsimp only [Pt.U, Pt.locs, Pt.cells, Pt.slots] at X' e1 e2 h1 h2 h3 st
  subst h1; subst h2; subst h3
  exact ⟨v, (T.setVm vm₁).calling g' mk (Value.ref b :: As).toArray, t, U', L, hT, X', hL, e1, e2, hq, st⟩
section
variable {y : MethodName} {bytes cc : ByteArray} {maxL nL mc ms n index : Nat} {ret : Option FieldType} {ws : List Cond} {rm : Room} {Pc : Array Value → State → Prop} {Qc : Array Value → State → Outcome → State → Prop} {XC : String → State → State → Prop} {free : Addr → Prop} {Ts : List Cond} {own C : String} {b : Addr} {As rest : List Value} {g : JFrame}
theorem vx_runVX {hh : List (Nat × Nat × Nat × Nat)} (S : CallFix p m c cc nL s args Ts own) (hM : vx_Met l y ws rm Pc Qc XC mc ms free) (cw : vx_CVW R s args own C index y bytes maxL ret hh ws rm mc ms n) (hp : PreV s H C b Pc As)
    (hg : g.method = m) (hn : As.length = n) (hsize : g.locals.size = nL) (hstack : g.stack = As.reverse ++ .ref b :: rest) (hW : 2 * g.monitorRoom + (rest.map fun v => v.category).sum ≤ 8) (hdg : decode cc g.pc = .ok (.invokevirtual index, 3)) (hf : cells + mc ≤ R.cells ∧ slots + ms ≤ R.slots) :
    vx_Run p l e R s m args below meth c H locs cells slots mc ms g rest (Qc (Value.ref b :: As).toArray) XC free := by
  obtain ⟨⟨hrc, hrs, hfr, hlo, hws, hcw⟩, hcode, hini, hy, hlen, hl, hin, hse⟩ := cw
  have hK : vx_Back l R p e below s args y 3 8 (PreOf R mc ms Pc) (PostOf Qc mc ms free) (vx_Post XC mc ms free) := vx_backW (hh := hh) (bytes := bytes) (maxL := maxL) (ret := ret) hM hp.1 hrc hrs hfr hlo hws hcw (fun a' U hW => word_at hW (Or.inl (by first | rfl | simp [Cond.onTables, Cond.keeps, Cond.steady])) hini)
  obtain ⟨hx, hb, hml, ho, -⟩ := S
  obtain ⟨-, ⟨cellB, hcB, hoB, hclB⟩, hPc⟩ := hp
  intro T hT X
  rcases vx_callVX X hx (C := C) (hh := hh) (bytes := bytes) (maxL := maxL) (ret := ret) ho hl hin hse hcode hy hK (by rw [hT]; exact hcB) hoB hclB hg (hsize.trans hml.symm) (argsL := As) (rest := rest) (fun sig h => hn.trans (hlen sig h)) hstack hW (by rw [hb]; exact hdg)
    (fun vm₁ hW₁ => ⟨hf.1, hf.2, hPc (T.setVm vm₁) hT hW₁⟩) with ⟨v, vm₁, ⟨U', l2, c2, s2⟩, hW₁, X', ⟨g', mk, t, L, e1, e2, hq, h1, hL, h2, h3⟩, st⟩ | ⟨q, vm₁, ⟨U', l2, c2, s2⟩, hW₁, X', ⟨g', mk, t, L, E, ce, e1, e2, hq, hce, hcv, hcl, h1, hL, h2, h3⟩, st⟩
  · dsimp only [Pt.U, Pt.locs, Pt.cells, Pt.slots] at X' e1 e2 h1 h2 h3 st
    subst h1; subst h2; subst h3
    exact Or.inl ⟨v, (T.setVm vm₁).calling g' mk (Value.ref b :: As).toArray, t, U', L, hT, X', hL, e1, e2, hq, st⟩
  · dsimp only [Pt.U, Pt.locs, Pt.cells, Pt.slots] at X' e1 e2 h1 h2 h3 st hcl
    subst h1; subst h2; subst h3
    exact Or.inr ⟨q, (T.setVm vm₁).calling g' mk (Value.ref b :: As).toArray, t, U', L, E, ce, hT, X', hL, e1, e2, hq, hce, hcv, vx_cls hW₁ hcl, st⟩
theorem vx_runSX {hh : List (Nat × Nat × Nat × Nat)} (S : CallFix p m c cc nL s args Ts own) (hM : vx_Met l y ws rm Pc Qc XC mc ms free) (cw : vx_CSW R s args own index y bytes maxL ret hh ws rm mc ms n) (hp : PreS s H Pc As)
    (hg : g.method = m) (hn : As.length = n) (hsize : g.locals.size = nL) (hstack : g.stack = As.reverse ++ rest) (hW : 2 * g.monitorRoom + (rest.map fun v => v.category).sum ≤ 8) (hdg : decode cc g.pc = .ok (.invokestatic index, 3)) (hf : cells + mc ≤ R.cells ∧ slots + ms ≤ R.slots) :
    vx_Run p l e R s m args below meth c H locs cells slots mc ms g rest (Qc As.toArray) XC free := by
  obtain ⟨⟨hrc, hrs, hfr, hlo, hws, hcw⟩, hcode, hini, hy, hlen, hl, hstt⟩ := cw
  have hK : vx_Back l R p e below s args y 3 8 (PreOf R mc ms Pc) (PostOf Qc mc ms free) (vx_Post XC mc ms free) := vx_backW (hh := hh) (bytes := bytes) (maxL := maxL) (ret := ret) hM hp.1 hrc hrs hfr hlo hws hcw (fun a' U hW => word_at hW (Or.inl (by first | rfl | simp [Cond.onTables, Cond.keeps, Cond.steady])) hini)
  obtain ⟨hx, hb, hml, ho, -⟩ := S
  intro T hT X
  rcases vx_callSX X hx (hh := hh) (bytes := bytes) (maxL := maxL) (ret := ret) ho hl hstt hini hcode hy hK hg (hsize.trans hml.symm) (argsL := As) (rest := rest) (fun sig h => hn.trans (hlen sig h)) hstack hW (by rw [hb]; exact hdg)
    (fun vm₁ hW₁ => ⟨hf.1, hf.2, hp.2 (T.setVm vm₁) hT hW₁⟩) with ⟨v, vm₁, ⟨U', l2, c2, s2⟩, hW₁, X', ⟨g', mk, t, L, e1, e2, hq, h1, hL, h2, h3⟩, st⟩ | ⟨q, vm₁, ⟨U', l2, c2, s2⟩, hW₁, X', ⟨g', mk, t, L, E, ce, e1, e2, hq, hce, hcv, hcl, h1, hL, h2, h3⟩, st⟩
  · dsimp only [Pt.U, Pt.locs, Pt.cells, Pt.slots] at X' e1 e2 h1 h2 h3 st
    subst h1; subst h2; subst h3
    exact Or.inl ⟨v, (T.setVm vm₁).calling g' mk As.toArray, t, U', L, hT, X', hL, e1, e2, hq, st⟩
  · dsimp only [Pt.U, Pt.locs, Pt.cells, Pt.slots] at X' e1 e2 h1 h2 h3 st hcl
    subst h1; subst h2; subst h3
    exact Or.inr ⟨q, (T.setVm vm₁).calling g' mk As.toArray, t, U', L, E, ce, hT, X', hL, e1, e2, hq, hce, hcv, vx_cls hW₁ hcl, st⟩
end
end VXH
theorem vx_ofWH {l : Launch} {y : MethodName} {ws ws' : List Cond} {rm : Room} {Pc : Array Value → State → Prop} {Qc : Array Value → State → Outcome → State → Prop} {XC : String → State → State → Prop} {mc ms : Nat} {free : Addr → Prop} {cc : ByteArray} {maxL : Nat} {ret : Option FieldType} {hh : List (Nat × Nat × Nat × Nat)}
    (hy : plainName y.cls = true) (hw : ws = Cond.codeWith y cc maxL ret hh :: ws')
    (body : ∀ p e s m args below meth c s₁, BodyLoose p l y (headSpec ws rm) cc maxL ret e s m args below meth c s₁ → c.maxLocals = maxL → Pc args s →
      W p l e (headSpec ws rm).room s m args below meth c s.heap [] 0 0 (vx_MQ below Qc XC args s mc ms free) (entryFrame m args maxL)) : vx_Met l y ws rm Pc Qc XC mc ms free := by
  refine MetFree.of_bodyS (code := cc) (maxLocals := maxL) (ret := ret) hy ?_ ?_
  · intro args s m h hn
    obtain ⟨m9, meth, c, hn9, h1, h2, h3, h4, -, h5, h6, -⟩ := Cond.codeWith_spec (atoms_spec (ws := ws) h _ (by rw [hw]; exact List.mem_cons_self))
    cases hn.symm.trans hn9
    exact ⟨meth, c, h1, h2, h3, h4, h5, h6⟩
  · intro p e s m args below meth c s₁ B hml hP _
    have hh0 : s₁.heap = s.heap := by rw [B.state]; rfl
    obtain ⟨t, a1, o, b1, b2, b3⟩ := body p e s m args below meth c s₁ B hml hP s₁ hh0 (Stand.of_body B)
    exact ⟨t, o, a1, b1, b2, b3⟩
/-! ===== END ===== -/
end
section
section VY
variable {p : Program} {l : Launch} {e : Env} {R : Room} {s : State} {m : MethodId} {args : Array Value} {below : List Frame} {meth : Method} {c : Code} {H : Heap} {locs : List Loc} {cells slots : Nat} {Q : State → Prop} {pc : Nat} {ls : Array Slot} {rest : List Value}
/-- the search ends at the first row, whose class is linked now -/
theorem vy_go {Qh : Handler → Pre} {Ec : CtlPost} {d : Bool} {acts : List Action} {u : State} {f : JFrame} {a : Addr} {x : ExceptionTableEntry} {t : List ExceptionTableEntry} {k : ClassId} {cell : Cell}
    (hx : covers x f.pc = true) (h0 : x.catchType ≠ 0) (hl : u.vm.ClassLinks e.platform f.method.cls x.catchType k) (hcell : u.heap[a]? = some cell) (hobj : ∀ z, cell.vm ≠ .statics z)
    (h1 : ∃ z, u.vm.classes[cell.cls]? = some z) (h2 : ∃ z, u.vm.classes[k]? = some z) (hfit : u.vm.assignable cell.cls k = true) :
    wp (findHandler.go f a (x :: t)) Qh Ec e d acts u ↔ Qh (.found x.handlerPc) d acts (u.setVm (u.vm.noted f.method.cls x.catchType (.cls k))) := by
  obtain ⟨ha, ht⟩ := (resolveClass_links e.toSetting hl).op (op := VmOp.resolveClass f.method.cls x.catchType) rfl
  have hal : u.vm.Alike (u.vm.noted f.method.cls x.catchType (.cls k)) := (Vm.Alike.refl u.vm).noted _ _ _
  obtain ⟨z1, e1⟩ := h1
  obtain ⟨z2, e2⟩ := h2
  obtain ⟨y1, g1, -⟩ := hal.2.2 _ _ e1
  obtain ⟨y2, g2, -⟩ := hal.2.2 _ _ e2
  have hf : (u.vm.noted f.method.cls x.catchType (.cls k)).assignable cell.cls k = true := by rw [hal.assignable]; exact hfit
  simp only [covers] at hx
  simp [findHandler.go, hx, h0, ha, ht, hcell, hobj, g1, g2, hf, VmOp.dirties, VmOp.acts]
/-- thrown over this frame, caught by the first row of its table -/
theorem vy_catch {own name E : String} {ce : Cell} {q : Addr} (hown : s.vm.findClass own = some m.cls) (x : ExceptionTableEntry) (suf : List ExceptionTableEntry) (hsplit : c.exceptionTable.toList = x :: suf) (hx : covers x pc = true) (h0 : x.catchType ≠ 0)
    (hlink : (Cond.classLink own x.catchType name).before args s = true) (hcast : (Cond.castable E name).before args s = true) (hcell : H[q]? = some ce) (hv : ce.vm = .none) (hcl : s.vm.findClass E = some ce.cls)
    (kk : W p l e R s m args below meth c H locs cells slots Q (F0 m x.handlerPc ls [.ref q])) : vx_W p l e R s m args below meth c H locs cells slots Q (F0 m pc ls rest) q := by
  intro T hT X
  have hpl : e.platform.magicAccessors = ({} : Platform).magicAccessors := by rw [X.admits.platform]
  obtain ⟨c3, c4, hc3, hc4, hasg⟩ := Cond.castable_spec hcast
  cases Option.some.inj (hc3.symm.trans hcl)
  obtain ⟨c5, hc5, hcl5⟩ := Cond.classLink_spec hown hlink e.platform hpl
  cases Option.some.inj (hc4.symm.trans hc5)
  obtain ⟨dk, _, _, kt, hd, _, _, _, _, hkt, _, hopen⟩ := hcl5.here
  have hlT := X.warmed.classLinks hcl5
  have hWn : s.WarmedH (T.vm.noted m.cls x.catchType (.cls c4)) := X.warmed.noted hd hopen (State.rightAt_cls hcl5)
  have hal := X.warmed.alike
  obtain ⟨kt2, hkt2, -⟩ := hal.2.2 _ _ hkt
  have hfit : T.vm.assignable ce.cls c4 = true := by rw [hal.assignable]; exact hasg
  have hcT : T.heap[q]? = some ce := by rw [hT]; exact hcell
  have hob : ∀ z, ce.vm ≠ .statics z := fun z h => by rw [hv] at h; cases h
  obtain ⟨t, a1, b1⟩ := kk (T.setVm (T.vm.noted m.cls x.catchType (.cls c4))) hT (X.noted hWn)
  refine ⟨t, ?_, b1⟩
  have hA : At T (F0 m pc ls rest).method c below := X.here
  obtain ⟨hgo, hw⟩ := hA.throwing q
  refine Steps.head hgo hw ?_
  have key : (stepThrowing e ((T.setTop (F0 m pc ls rest)).pushFrame (.throwing q)) q (.java (F0 m pc ls rest) :: T.frames.tail)).Is ((((T.setTop (F0 m pc ls rest)).pushFrame (.throwing q)).setVm (T.vm.noted m.cls x.catchType (.cls c4))).setFrames (.java (F0 m x.handlerPc ls [.ref q]) :: T.frames.tail)) [] := by
    simp only [stepThrowing, searchFrame, vmDo]
    generalize hr : Sem.go _ e false [] ((T.setTop (F0 m pc ls rest)).pushFrame (.throwing q)) = res
    have hf : ∀ (Qh : Handler → Pre) (Ec : CtlPost) (d : Bool) (acts : List Action), wp (findHandler (F0 m pc ls rest) q) Qh Ec e d acts ((T.setTop (F0 m pc ls rest)).pushFrame (.throwing q)) ↔ Qh (.found x.handlerPc) d acts (((T.setTop (F0 m pc ls rest)).pushFrame (.throwing q)).setVm (T.vm.noted m.cls x.catchType (.cls c4))) := by
      intro Qh Ec d acts
      rw [W.findHandler_eq (s := (T.setTop (F0 m pc ls rest)).pushFrame (.throwing q)) (f := F0 m pc ls rest) (meth := meth) (code := c) X.method' X.code, hsplit]
      exact vy_go (u := (T.setTop (F0 m pc ls rest)).pushFrame (.throwing q)) (f := F0 m pc ls rest) (k := c4) (cell := ce) hx h0 hlT hcT hob (Vm.classAt_of_assignable hfit ⟨kt2, hkt2⟩) ⟨kt2, hkt2⟩ hfit
    obtain ⟨as, rfl, ha⟩ := Sem.eq_ok_of hr (a := Handler.found x.handlerPc) (s' := ((T.setTop (F0 m pc ls rest)).pushFrame (.throwing q)).setVm (T.vm.noted m.cls x.catchType (.cls c4))) (acts' := []) (by simp [hf _ _ _ _])
    exact ⟨rfl, ha⟩
  obtain ⟨g₀, hg⟩ := Option.isSome_iff_exists.mp hA.top
  obtain ⟨r, hr⟩ := State.topJava?_eq_some.mp hg
  rw [stepThread_throwing (frames_entered hA.top _), key.1]
  have hr' : (T.setVm (T.vm.noted m.cls x.catchType (.cls c4))).frames = .java g₀ :: r := hr
  rw [State.setTop_of_frames _ hr'] at a1
  rw [hr, List.tail_cons]
  have e9 : ∀ (u : State) (v : Vm) (F G : List Frame), ((u.setFrames F).setVm v).setFrames G = (u.setVm v).setFrames G := fun u v F G => by
    rw [show (u.setFrames F).setVm v = (u.setVm v).setFrames F from rfl, State.setFrames_setFrames]
  rw [State.pushFrame, e9, State.setTop_of_frames _ hr, e9]
  exact a1
end VY
end
section
/-! names: classes, fields, words, decode rows, out of the claim by program -/
def RX0 : String := "SpineTables$Assembler"
def RX1 : String := "SpineTables$BarCheck"
def RX2 : String := "SpineTables$Extractor"
def RX3 : String := "SpineTables$Fraction"
def RX4 : String := "SpineTables$Lengths"
def RX5 : String := "SpineTables$Reader"
def RX6 : String := "SpineTables$Rows"
def RX7 : String := "SpineTables$Side"
def RX8 : String := "SpineTables$Table"
def RX9 : String := "SpineTables$Walker"
def RX11 : String := "SpineTables"
def RX12 : String := "SpineTablesModel"
def RX10 : String := "SpineTables$Words"
def RL : String := "SpineTablesLaw"
def TX0 : u_T := fun k => match k with
  | 0 => ("SpineTables$Assembler", "left", "LSpineTables$Side;", true)
  | 1 => ("SpineTables$Assembler", "right", "LSpineTables$Side;", true)
  | _ => ("SpineTables$Assembler", "into", "LSpineTables$Rows;", false)
def tyX0 : Nat → FieldType := fun k => match k with
  | 0 => .object "SpineTables$Side"
  | 1 => .object "SpineTables$Side"
  | _ => .object "SpineTables$Rows"
theorem nmX0 : ∀ a, a < 3 → ∀ b, b < 3 → a ≠ b → (TX0 a).2.1 ≠ (TX0 b).2.1 := by decide +kernel
theorem tyX0_ok : ∀ k, k < 3 → parseFieldDescriptor (TX0 k).2.2.1 = some (tyX0 k) := by decide +kernel
def TX1 : u_T := fun k => match k with
  | 0 => ("SpineTables$BarCheck", "gap", "LSpineTables$Fraction;", true)
  | 1 => ("SpineTables$BarCheck", "meterAbove", "I", false)
  | 2 => ("SpineTables$BarCheck", "meterBelow", "I", false)
  | 3 => ("SpineTables$BarCheck", "dueAbove", "I", false)
  | _ => ("SpineTables$BarCheck", "dueBelow", "I", false)
def tyX1 : Nat → FieldType := fun k => match k with
  | 0 => .object "SpineTables$Fraction"
  | 1 => .int
  | 2 => .int
  | 3 => .int
  | _ => .int
theorem nmX1 : ∀ a, a < 5 → ∀ b, b < 5 → a ≠ b → (TX1 a).2.1 ≠ (TX1 b).2.1 := by decide +kernel
theorem tyX1_ok : ∀ k, k < 5 → parseFieldDescriptor (TX1 k).2.2.1 = some (tyX1 k) := by decide +kernel
def TX2 : u_T := fun k => match k with
  | _ => ("SpineTables$Extractor", "from", "[I", true)
def tyX2 : Nat → FieldType := fun k => match k with
  | _ => .array .int
theorem nmX2 : ∀ a, a < 1 → ∀ b, b < 1 → a ≠ b → (TX2 a).2.1 ≠ (TX2 b).2.1 := by decide +kernel
theorem tyX2_ok : ∀ k, k < 1 → parseFieldDescriptor (TX2 k).2.2.1 = some (tyX2 k) := by decide +kernel
def TX3 : u_T := fun k => match k with
  | 0 => ("SpineTables$Fraction", "above", "J", false)
  | _ => ("SpineTables$Fraction", "below", "J", false)
def tyX3 : Nat → FieldType := fun k => match k with
  | 0 => .long
  | _ => .long
theorem nmX3 : ∀ a, a < 2 → ∀ b, b < 2 → a ≠ b → (TX3 a).2.1 ≠ (TX3 b).2.1 := by decide +kernel
theorem tyX3_ok : ∀ k, k < 2 → parseFieldDescriptor (TX3 k).2.2.1 = some (tyX3 k) := by decide +kernel
def TX4 : u_T := fun k => match k with
  | 0 => ("SpineTables$Lengths", "above", "I", false)
  | 1 => ("SpineTables$Lengths", "below", "I", false)
  | 2 => ("SpineTables$Lengths", "value", "LSpineTables$Fraction;", true)
  | 3 => ("SpineTables$Lengths", "text", "[B", false)
  | 4 => ("SpineTables$Lengths", "at", "I", false)
  | _ => ("SpineTables$Lengths", "end", "I", false)
def tyX4 : Nat → FieldType := fun k => match k with
  | 0 => .int
  | 1 => .int
  | 2 => .object "SpineTables$Fraction"
  | 3 => .array .byte
  | 4 => .int
  | _ => .int
theorem nmX4 : ∀ a, a < 6 → ∀ b, b < 6 → a ≠ b → (TX4 a).2.1 ≠ (TX4 b).2.1 := by decide +kernel
theorem tyX4_ok : ∀ k, k < 6 → parseFieldDescriptor (TX4 k).2.2.1 = some (tyX4 k) := by decide +kernel
def TX5 : u_T := fun k => match k with
  | 0 => ("SpineTables$Reader", "code", "I", false)
  | 1 => ("SpineTables$Reader", "place", "I", false)
  | 2 => ("SpineTables$Reader", "text", "[B", false)
  | 3 => ("SpineTables$Reader", "size", "I", false)
  | 4 => ("SpineTables$Reader", "into", "LSpineTables$Table;", false)
  | 5 => ("SpineTables$Reader", "lineEnd", "I", false)
  | 6 => ("SpineTables$Reader", "sort", "I", false)
  | 7 => ("SpineTables$Reader", "tokens", "I", false)
  | 8 => ("SpineTables$Reader", "starts", "[I", true)
  | 9 => ("SpineTables$Reader", "ends", "[I", true)
  | 10 => ("SpineTables$Reader", "acts", "[I", true)
  | 11 => ("SpineTables$Reader", "firstJoin", "I", false)
  | 12 => ("SpineTables$Reader", "latestJoin", "I", false)
  | 13 => ("SpineTables$Reader", "swaps", "I", false)
  | 14 => ("SpineTables$Reader", "adds", "I", false)
  | _ => ("SpineTables$Reader", "grown", "I", false)
def tyX5 : Nat → FieldType := fun k => match k with
  | 0 => .int
  | 1 => .int
  | 2 => .array .byte
  | 3 => .int
  | 4 => .object "SpineTables$Table"
  | 5 => .int
  | 6 => .int
  | 7 => .int
  | 8 => .array .int
  | 9 => .array .int
  | 10 => .array .int
  | 11 => .int
  | 12 => .int
  | 13 => .int
  | 14 => .int
  | _ => .int
theorem nmX5 : ∀ a, a < 16 → ∀ b, b < 16 → a ≠ b → (TX5 a).2.1 ≠ (TX5 b).2.1 := by decide +kernel
theorem tyX5_ok : ∀ k, k < 16 → parseFieldDescriptor (TX5 k).2.2.1 = some (tyX5 k) := by decide +kernel
def TX6 : u_T := fun k => match k with
  | 0 => ("SpineTables$Rows", "text", "[B", true)
  | 1 => ("SpineTables$Rows", "starts", "[I", true)
  | 2 => ("SpineTables$Rows", "sorts", "[I", true)
  | 3 => ("SpineTables$Rows", "firsts", "[I", true)
  | 4 => ("SpineTables$Rows", "tokenStarts", "[I", true)
  | 5 => ("SpineTables$Rows", "tokenEnds", "[I", true)
  | 6 => ("SpineTables$Rows", "acts", "[I", true)
  | 7 => ("SpineTables$Rows", "size", "I", false)
  | 8 => ("SpineTables$Rows", "count", "I", false)
  | 9 => ("SpineTables$Rows", "tokens", "I", false)
  | _ => ("SpineTables$Rows", "overfull", "Z", false)
def tyX6 : Nat → FieldType := fun k => match k with
  | 0 => .array .byte
  | 1 => .array .int
  | 2 => .array .int
  | 3 => .array .int
  | 4 => .array .int
  | 5 => .array .int
  | 6 => .array .int
  | 7 => .int
  | 8 => .int
  | 9 => .int
  | _ => .boolean
theorem nmX6 : ∀ a, a < 11 → ∀ b, b < 11 → a ≠ b → (TX6 a).2.1 ≠ (TX6 b).2.1 := by decide +kernel
theorem tyX6_ok : ∀ k, k < 11 → parseFieldDescriptor (TX6 k).2.2.1 = some (tyX6 k) := by decide +kernel
def TX7 : u_T := fun k => match k with
  | 0 => ("SpineTables$Side", "table", "LSpineTables$Table;", false)
  | 1 => ("SpineTables$Side", "next", "I", false)
  | 2 => ("SpineTables$Side", "strands", "I", false)
  | 3 => ("SpineTables$Side", "isUrgent", "Z", false)
  | _ => ("SpineTables$Side", "from", "[I", true)
def tyX7 : Nat → FieldType := fun k => match k with
  | 0 => .object "SpineTables$Table"
  | 1 => .int
  | 2 => .int
  | 3 => .boolean
  | _ => .array .int
theorem nmX7 : ∀ a, a < 5 → ∀ b, b < 5 → a ≠ b → (TX7 a).2.1 ≠ (TX7 b).2.1 := by decide +kernel
theorem tyX7_ok : ∀ k, k < 5 → parseFieldDescriptor (TX7 k).2.2.1 = some (tyX7 k) := by decide +kernel
def TX8 : u_T := fun k => match k with
  | 0 => ("SpineTables$Table", "rows", "LSpineTables$Rows;", true)
  | 1 => ("SpineTables$Table", "tokenKinds", "[I", true)
  | 2 => ("SpineTables$Table", "tokenNumbers", "[I", true)
  | 3 => ("SpineTables$Table", "tokenHelds", "[I", true)
  | 4 => ("SpineTables$Table", "lengthsAbove", "[I", true)
  | 5 => ("SpineTables$Table", "lengthsBelow", "[I", true)
  | 6 => ("SpineTables$Table", "kindTokens", "[I", true)
  | 7 => ("SpineTables$Table", "kindRhythms", "[I", true)
  | 8 => ("SpineTables$Table", "kinds", "I", false)
  | 9 => ("SpineTables$Table", "numbers", "I", false)
  | 10 => ("SpineTables$Table", "latest", "I", false)
  | 11 => ("SpineTables$Table", "strands", "I", false)
  | 12 => ("SpineTables$Table", "sources", "[I", true)
  | 13 => ("SpineTables$Table", "timesAbove", "[I", true)
  | 14 => ("SpineTables$Table", "timesBelow", "[I", true)
  | 15 => ("SpineTables$Table", "misfitRow", "I", false)
  | _ => ("SpineTables$Table", "misfitCode", "I", false)
def tyX8 : Nat → FieldType := fun k => match k with
  | 0 => .object "SpineTables$Rows"
  | 1 => .array .int
  | 2 => .array .int
  | 3 => .array .int
  | 4 => .array .int
  | 5 => .array .int
  | 6 => .array .int
  | 7 => .array .int
  | 8 => .int
  | 9 => .int
  | 10 => .int
  | 11 => .int
  | 12 => .array .int
  | 13 => .array .int
  | 14 => .array .int
  | 15 => .int
  | _ => .int
theorem nmX8 : ∀ a, a < 17 → ∀ b, b < 17 → a ≠ b → (TX8 a).2.1 ≠ (TX8 b).2.1 := by decide +kernel
theorem tyX8_ok : ∀ k, k < 17 → parseFieldDescriptor (TX8 k).2.2.1 = some (tyX8 k) := by decide +kernel
def TX9 : u_T := fun k => match k with
  | 0 => ("SpineTables$Walker", "endAbove", "[I", true)
  | 1 => ("SpineTables$Walker", "endBelow", "[I", true)
  | 2 => ("SpineTables$Walker", "oldAbove", "[I", true)
  | 3 => ("SpineTables$Walker", "oldBelow", "[I", true)
  | 4 => ("SpineTables$Walker", "from", "[I", true)
  | 5 => ("SpineTables$Walker", "sum", "LSpineTables$Fraction;", true)
  | 6 => ("SpineTables$Walker", "table", "LSpineTables$Table;", false)
  | 7 => ("SpineTables$Walker", "nowAbove", "I", false)
  | _ => ("SpineTables$Walker", "nowBelow", "I", false)
def tyX9 : Nat → FieldType := fun k => match k with
  | 0 => .array .int
  | 1 => .array .int
  | 2 => .array .int
  | 3 => .array .int
  | 4 => .array .int
  | 5 => .object "SpineTables$Fraction"
  | 6 => .object "SpineTables$Table"
  | 7 => .int
  | _ => .int
theorem nmX9 : ∀ a, a < 9 → ∀ b, b < 9 → a ≠ b → (TX9 a).2.1 ≠ (TX9 b).2.1 := by decide +kernel
theorem tyX9_ok : ∀ k, k < 9 → parseFieldDescriptor (TX9 k).2.2.1 = some (tyX9 k) := by decide +kernel
def TX11 : u_T := fun k => match k with
  | 0 => ("SpineTables", "tape", "[B", true)
  | 1 => ("SpineTables", "tapeSize", "I", false)
  | 2 => ("SpineTables", "written", "[B", true)
  | 3 => ("SpineTables", "writtenSize", "I", false)
  | 4 => ("SpineTables", "faultCode", "I", false)
  | 5 => ("SpineTables", "tables", "[LSpineTables$Table;", true)
  | 6 => ("SpineTables", "taken", "[Z", true)
  | 7 => ("SpineTables", "bench", "LSpineTables$Table;", false)
  | 8 => ("SpineTables", "reader", "LSpineTables$Reader;", true)
  | 9 => ("SpineTables", "walker", "LSpineTables$Walker;", true)
  | 10 => ("SpineTables", "lengths", "LSpineTables$Lengths;", true)
  | 11 => ("SpineTables", "assembler", "LSpineTables$Assembler;", true)
  | 12 => ("SpineTables", "extractor", "LSpineTables$Extractor;", true)
  | _ => ("SpineTables", "barCheck", "LSpineTables$BarCheck;", true)
def tyX11 : Nat → FieldType := fun k => match k with
  | 0 => .array .byte
  | 1 => .int
  | 2 => .array .byte
  | 3 => .int
  | 4 => .int
  | 5 => .array (.object "SpineTables$Table")
  | 6 => .array .boolean
  | 7 => .object "SpineTables$Table"
  | 8 => .object "SpineTables$Reader"
  | 9 => .object "SpineTables$Walker"
  | 10 => .object "SpineTables$Lengths"
  | 11 => .object "SpineTables$Assembler"
  | 12 => .object "SpineTables$Extractor"
  | _ => .object "SpineTables$BarCheck"
theorem nmX11 : ∀ a, a < 14 → ∀ b, b < 14 → a ≠ b → (TX11 a).2.1 ≠ (TX11 b).2.1 := by decide +kernel
theorem tyX11_ok : ∀ k, k < 14 → parseFieldDescriptor (TX11 k).2.2.1 = some (tyX11 k) := by decide +kernel
def TX12 : u_T := fun k => match k with
  | 0 => ("SpineTablesModel", "thrown", "I", false)
  | 1 => ("SpineTablesModel", "tape", "[I", true)
  | 2 => ("SpineTablesModel", "size", "I", false)
  | 3 => ("SpineTablesModel", "fault", "I", false)
  | 4 => ("SpineTablesModel", "faultAt", "I", false)
  | 5 => ("SpineTablesModel", "told", "I", false)
  | 6 => ("SpineTablesModel", "out", "[I", true)
  | 7 => ("SpineTablesModel", "outSize", "I", false)
  | 8 => ("SpineTablesModel", "used", "[Z", true)
  | 9 => ("SpineTablesModel", "text", "[I", true)
  | 10 => ("SpineTablesModel", "sizes", "[I", true)
  | 11 => ("SpineTablesModel", "rows", "[I", true)
  | 12 => ("SpineTablesModel", "kinds", "[I", true)
  | 13 => ("SpineTablesModel", "names", "[J", true)
  | 14 => ("SpineTablesModel", "numbers", "[I", true)
  | 15 => ("SpineTablesModel", "kindOf", "[I", true)
  | 16 => ("SpineTablesModel", "makerKind", "[I", true)
  | 17 => ("SpineTablesModel", "sorts", "[I", true)
  | 18 => ("SpineTablesModel", "starts", "[I", true)
  | 19 => ("SpineTablesModel", "stops", "[I", true)
  | 20 => ("SpineTablesModel", "widths", "[I", true)
  | 21 => ("SpineTablesModel", "young", "[I", true)
  | 22 => ("SpineTablesModel", "ups", "[J", true)
  | 23 => ("SpineTablesModel", "downs", "[J", true)
  | 24 => ("SpineTablesModel", "tokenAt", "[I", true)
  | 25 => ("SpineTablesModel", "tokenEnd", "[I", true)
  | 26 => ("SpineTablesModel", "strand", "[I", true)
  | 27 => ("SpineTablesModel", "held", "[I", true)
  | 28 => ("SpineTablesModel", "misfits", "[I", true)
  | 29 => ("SpineTablesModel", "misfitRows", "[I", true)
  | 30 => ("SpineTablesModel", "now", "I", false)
  | 31 => ("SpineTablesModel", "nowStrand", "[I", true)
  | 32 => ("SpineTablesModel", "nowHeld", "[I", true)
  | 33 => ("SpineTablesModel", "nowUp", "[J", true)
  | 34 => ("SpineTablesModel", "nowDown", "[J", true)
  | 35 => ("SpineTablesModel", "then", "I", false)
  | 36 => ("SpineTablesModel", "thenStrand", "[I", true)
  | 37 => ("SpineTablesModel", "thenHeld", "[I", true)
  | 38 => ("SpineTablesModel", "thenUp", "[J", true)
  | 39 => ("SpineTablesModel", "thenDown", "[J", true)
  | 40 => ("SpineTablesModel", "lengthUp", "J", false)
  | 41 => ("SpineTablesModel", "lengthDown", "J", false)
  | 42 => ("SpineTablesModel", "stop", "I", false)
  | 43 => ("SpineTablesModel", "made", "[I", true)
  | 44 => ("SpineTablesModel", "madeSize", "I", false)
  | _ => ("SpineTablesModel", "madeTokens", "I", false)
def tyX12 : Nat → FieldType := fun k => match k with
  | 0 => .int
  | 1 => .array .int
  | 2 => .int
  | 3 => .int
  | 4 => .int
  | 5 => .int
  | 6 => .array .int
  | 7 => .int
  | 8 => .array .boolean
  | 9 => .array .int
  | 10 => .array .int
  | 11 => .array .int
  | 12 => .array .int
  | 13 => .array .long
  | 14 => .array .int
  | 15 => .array .int
  | 16 => .array .int
  | 17 => .array .int
  | 18 => .array .int
  | 19 => .array .int
  | 20 => .array .int
  | 21 => .array .int
  | 22 => .array .long
  | 23 => .array .long
  | 24 => .array .int
  | 25 => .array .int
  | 26 => .array .int
  | 27 => .array .int
  | 28 => .array .int
  | 29 => .array .int
  | 30 => .int
  | 31 => .array .int
  | 32 => .array .int
  | 33 => .array .long
  | 34 => .array .long
  | 35 => .int
  | 36 => .array .int
  | 37 => .array .int
  | 38 => .array .long
  | 39 => .array .long
  | 40 => .long
  | 41 => .long
  | 42 => .int
  | 43 => .array .int
  | 44 => .int
  | _ => .int
theorem nmX12 : ∀ a, a < 46 → ∀ b, b < 46 → a ≠ b → (TX12 a).2.1 ≠ (TX12 b).2.1 := by decide +kernel
theorem tyX12_ok : ∀ k, k < 46 → parseFieldDescriptor (TX12 k).2.2.1 = some (tyX12 k) := by decide +kernel
abbrev classes : List vw_C := [(RX0, TX0, 3), (RX1, TX1, 5), (RX2, TX2, 1), (RX3, TX3, 2), (RX4, TX4, 6), (RX5, TX5, 16), (RX6, TX6, 11), (RX7, TX7, 5), (RX8, TX8, 17), (RX9, TX9, 9), (RX11, TX11, 14), (RX12, TX12, 46)]
theorem dfX0 : ∀ j, j < 3 → defaultValue (tyX0 j) = vp_V [.null, .null, .null] j := fun j hj => by rcases (show j = 0 ∨ j = 1 ∨ j = 2 by omega) with rfl | rfl | rfl <;> rfl
theorem dfX1 : ∀ j, j < 5 → defaultValue (tyX1 j) = vp_V [.null, .int 0, .int 0, .int 0, .int 0] j := fun j hj => by rcases (show j = 0 ∨ j = 1 ∨ j = 2 ∨ j = 3 ∨ j = 4 by omega) with rfl | rfl | rfl | rfl | rfl <;> rfl
theorem dfX2 : ∀ j, j < 1 → defaultValue (tyX2 j) = vp_V [.null] j := fun j hj => by rcases (show j = 0 by omega) with rfl <;> rfl
theorem dfX3 : ∀ j, j < 2 → defaultValue (tyX3 j) = vp_V [.long 0, .long 0] j := fun j hj => by rcases (show j = 0 ∨ j = 1 by omega) with rfl | rfl <;> rfl
theorem dfX4 : ∀ j, j < 6 → defaultValue (tyX4 j) = vp_V [.int 0, .int 0, .null, .null, .int 0, .int 0] j := fun j hj => by rcases (show j = 0 ∨ j = 1 ∨ j = 2 ∨ j = 3 ∨ j = 4 ∨ j = 5 by omega) with rfl | rfl | rfl | rfl | rfl | rfl <;> rfl
theorem dfX5 : ∀ j, j < 16 → defaultValue (tyX5 j) = vp_V [.int 0, .int 0, .null, .int 0, .null, .int 0, .int 0, .int 0, .null, .null, .null, .int 0, .int 0, .int 0, .int 0, .int 0] j := fun j hj => by rcases (show j = 0 ∨ j = 1 ∨ j = 2 ∨ j = 3 ∨ j = 4 ∨ j = 5 ∨ j = 6 ∨ j = 7 ∨ j = 8 ∨ j = 9 ∨ j = 10 ∨ j = 11 ∨ j = 12 ∨ j = 13 ∨ j = 14 ∨ j = 15 by omega) with rfl | rfl | rfl | rfl | rfl | rfl | rfl | rfl | rfl | rfl | rfl | rfl | rfl | rfl | rfl | rfl <;> rfl
theorem dfX6 : ∀ j, j < 11 → defaultValue (tyX6 j) = vp_V [.null, .null, .null, .null, .null, .null, .null, .int 0, .int 0, .int 0, .int 0] j := fun j hj => by rcases (show j = 0 ∨ j = 1 ∨ j = 2 ∨ j = 3 ∨ j = 4 ∨ j = 5 ∨ j = 6 ∨ j = 7 ∨ j = 8 ∨ j = 9 ∨ j = 10 by omega) with rfl | rfl | rfl | rfl | rfl | rfl | rfl | rfl | rfl | rfl | rfl <;> rfl
theorem dfX7 : ∀ j, j < 5 → defaultValue (tyX7 j) = vp_V [.null, .int 0, .int 0, .int 0, .null] j := fun j hj => by rcases (show j = 0 ∨ j = 1 ∨ j = 2 ∨ j = 3 ∨ j = 4 by omega) with rfl | rfl | rfl | rfl | rfl <;> rfl
theorem dfX8 : ∀ j, j < 17 → defaultValue (tyX8 j) = vp_V [.null, .null, .null, .null, .null, .null, .null, .null, .int 0, .int 0, .int 0, .int 0, .null, .null, .null, .int 0, .int 0] j := fun j hj => by rcases (show j = 0 ∨ j = 1 ∨ j = 2 ∨ j = 3 ∨ j = 4 ∨ j = 5 ∨ j = 6 ∨ j = 7 ∨ j = 8 ∨ j = 9 ∨ j = 10 ∨ j = 11 ∨ j = 12 ∨ j = 13 ∨ j = 14 ∨ j = 15 ∨ j = 16 by omega) with rfl | rfl | rfl | rfl | rfl | rfl | rfl | rfl | rfl | rfl | rfl | rfl | rfl | rfl | rfl | rfl | rfl <;> rfl
theorem dfX9 : ∀ j, j < 9 → defaultValue (tyX9 j) = vp_V [.null, .null, .null, .null, .null, .null, .null, .int 0, .int 0] j := fun j hj => by rcases (show j = 0 ∨ j = 1 ∨ j = 2 ∨ j = 3 ∨ j = 4 ∨ j = 5 ∨ j = 6 ∨ j = 7 ∨ j = 8 by omega) with rfl | rfl | rfl | rfl | rfl | rfl | rfl | rfl | rfl <;> rfl
theorem dfX11 : ∀ j, j < 14 → defaultValue (tyX11 j) = vp_V [.null, .int 0, .null, .int 0, .int 0, .null, .null, .null, .null, .null, .null, .null, .null, .null] j := fun j hj => by rcases (show j = 0 ∨ j = 1 ∨ j = 2 ∨ j = 3 ∨ j = 4 ∨ j = 5 ∨ j = 6 ∨ j = 7 ∨ j = 8 ∨ j = 9 ∨ j = 10 ∨ j = 11 ∨ j = 12 ∨ j = 13 by omega) with rfl | rfl | rfl | rfl | rfl | rfl | rfl | rfl | rfl | rfl | rfl | rfl | rfl | rfl <;> rfl
theorem dfX12 : ∀ j, j < 46 → defaultValue (tyX12 j) = vp_V [.int 0, .null, .int 0, .int 0, .int 0, .int 0, .null, .int 0, .null, .null, .null, .null, .null, .null, .null, .null, .null, .null, .null, .null, .null, .null, .null, .null, .null, .null, .null, .null, .null, .null, .int 0, .null, .null, .null, .null, .int 0, .null, .null, .null, .null, .long 0, .long 0, .int 0, .null, .int 0, .int 0] j := fun j hj => by rcases (show j = 0 ∨ j = 1 ∨ j = 2 ∨ j = 3 ∨ j = 4 ∨ j = 5 ∨ j = 6 ∨ j = 7 ∨ j = 8 ∨ j = 9 ∨ j = 10 ∨ j = 11 ∨ j = 12 ∨ j = 13 ∨ j = 14 ∨ j = 15 ∨ j = 16 ∨ j = 17 ∨ j = 18 ∨ j = 19 ∨ j = 20 ∨ j = 21 ∨ j = 22 ∨ j = 23 ∨ j = 24 ∨ j = 25 ∨ j = 26 ∨ j = 27 ∨ j = 28 ∨ j = 29 ∨ j = 30 ∨ j = 31 ∨ j = 32 ∨ j = 33 ∨ j = 34 ∨ j = 35 ∨ j = 36 ∨ j = 37 ∨ j = 38 ∨ j = 39 ∨ j = 40 ∨ j = 41 ∨ j = 42 ∨ j = 43 ∨ j = 44 ∨ j = 45 by omega) with rfl | rfl | rfl | rfl | rfl | rfl | rfl | rfl | rfl | rfl | rfl | rfl | rfl | rfl | rfl | rfl | rfl | rfl | rfl | rfl | rfl | rfl | rfl | rfl | rfl | rfl | rfl | rfl | rfl | rfl | rfl | rfl | rfl | rfl | rfl | rfl | rfl | rfl | rfl | rfl | rfl | rfl | rfl | rfl | rfl | rfl <;> rfl
abbrev cL_assemble : ByteArray := method_15_code
def yL_assemble : MethodName := ⟨RL, "assemble", "(LSpineTables;II[J)I"⟩
abbrev cL_bars : ByteArray := method_13_code
def yL_bars : MethodName := ⟨RL, "bars", "(LSpineTables;I[J)I"⟩
abbrev cL_drop : ByteArray := method_3_code
def yL_drop : MethodName := ⟨RL, "drop", "(LSpineTables;I[J)I"⟩
abbrev cL_extract : ByteArray := method_14_code
def yL_extract : MethodName := ⟨RL, "extract", "(LSpineTables;I[J)I"⟩
abbrev cL_kind : ByteArray := method_7_code
def yL_kind : MethodName := ⟨RL, "kind", "(LSpineTables;III[J)I"⟩
abbrev cL_length : ByteArray := method_12_code
def yL_length : MethodName := ⟨RL, "length", "(LSpineTables;IIII[J)I"⟩
abbrev cL_misfit : ByteArray := method_10_code
def yL_misfit : MethodName := ⟨RL, "misfit", "(LSpineTables;I[J)I"⟩
abbrev cL_row : ByteArray := method_5_code
def yL_row : MethodName := ⟨RL, "row", "(LSpineTables;III[J)I"⟩
abbrev cL_same : ByteArray := method_16_code
def yL_same : MethodName := ⟨RL, "same", "(LSpineTables;II[J)I"⟩
abbrev cL_strand : ByteArray := method_6_code
def yL_strand : MethodName := ⟨RL, "strand", "(LSpineTables;IIII[J)I"⟩
abbrev cL_time : ByteArray := method_11_code
def yL_time : MethodName := ⟨RL, "time", "(LSpineTables;III[J)I"⟩
abbrev cL_token : ByteArray := method_8_code
def yL_token : MethodName := ⟨RL, "token", "(LSpineTables;IIII[J)I"⟩
abbrev cL_told : ByteArray := method_4_code
def yL_told : MethodName := ⟨RL, "told", "(LSpineTables;II[J)I"⟩
abbrev cL_walk : ByteArray := method_9_code
def yL_walk : MethodName := ⟨RL, "walk", "(LSpineTables;I[J)I"⟩
abbrev cL_write : ByteArray := method_17_code
def yL_write : MethodName := ⟨RL, "write", "(LSpineTables;I[J)I"⟩
abbrev cX0_init : ByteArray := prog_2_method_1_code
def yX0_init : MethodName := ⟨RX0, "<init>", "()V"⟩
abbrev cX11_assemble : ByteArray := prog_1_method_18_code
def yX11_assemble : MethodName := ⟨RX11, "assemble", "(II)I"⟩
abbrev cX11_bars : ByteArray := prog_1_method_16_code
def yX11_bars : MethodName := ⟨RX11, "bars", "(I)I"⟩
abbrev cX11_cut : ByteArray := prog_1_method_3_code
def yX11_cut : MethodName := ⟨RX11, "cut", "(I)I"⟩
abbrev cX11_drop : ByteArray := prog_1_method_6_code
def yX11_drop : MethodName := ⟨RX11, "drop", "(I)I"⟩
abbrev cX11_extract : ByteArray := prog_1_method_17_code
def yX11_extract : MethodName := ⟨RX11, "extract", "(I)I"⟩
abbrev cX11_fault : ByteArray := prog_1_method_5_code
def yX11_fault : MethodName := ⟨RX11, "fault", "()I"⟩
abbrev cX11_feed : ByteArray := prog_1_method_2_code
def yX11_feed : MethodName := ⟨RX11, "feed", "(IIIII)I"⟩
abbrev cX11_feedNumber : ByteArray := prog_1_method_22_code
def yX11_feedNumber : MethodName := ⟨RX11, "feedNumber", "(I)V"⟩
abbrev cX11_freePlace : ByteArray := prog_1_method_23_code
def yX11_freePlace : MethodName := ⟨RX11, "freePlace", "()I"⟩
abbrev cX11_init : ByteArray := prog_1_method_1_code
def yX11_init : MethodName := ⟨RX11, "<init>", "()V"⟩
abbrev cX11_kind : ByteArray := prog_1_method_10_code
def yX11_kind : MethodName := ⟨RX11, "kind", "(III)I"⟩
abbrev cX11_length : ByteArray := prog_1_method_15_code
def yX11_length : MethodName := ⟨RX11, "length", "(IIII)I"⟩
abbrev cX11_misfit : ByteArray := prog_1_method_13_code
def yX11_misfit : MethodName := ⟨RX11, "misfit", "(I)I"⟩
abbrev cX11_out : ByteArray := prog_1_method_21_code
def yX11_out : MethodName := ⟨RX11, "out", "(I)I"⟩
abbrev cX11_row : ByteArray := prog_1_method_8_code
def yX11_row : MethodName := ⟨RX11, "row", "(III)I"⟩
abbrev cX11_same : ByteArray := prog_1_method_19_code
def yX11_same : MethodName := ⟨RX11, "same", "(II)Z"⟩
abbrev cX11_strand : ByteArray := prog_1_method_9_code
def yX11_strand : MethodName := ⟨RX11, "strand", "(IIII)I"⟩
abbrev cX11_tableAt : ByteArray := prog_1_method_26_code
def yX11_tableAt : MethodName := ⟨RX11, "tableAt", "(I)LSpineTables$Table;"⟩
abbrev cX11_time : ByteArray := prog_1_method_14_code
def yX11_time : MethodName := ⟨RX11, "time", "(III)I"⟩
abbrev cX11_token : ByteArray := prog_1_method_11_code
def yX11_token : MethodName := ⟨RX11, "token", "(IIII)I"⟩
abbrev cX11_told : ByteArray := prog_1_method_7_code
def yX11_told : MethodName := ⟨RX11, "told", "(II)I"⟩
abbrev cX11_walk : ByteArray := prog_1_method_12_code
def yX11_walk : MethodName := ⟨RX11, "walk", "(I)I"⟩
abbrev cX11_write : ByteArray := prog_1_method_20_code
def yX11_write : MethodName := ⟨RX11, "write", "(I)I"⟩
abbrev cX12_init : ByteArray := prog_14_method_1_code
def yX12_init : MethodName := ⟨RX12, "<init>", "()V"⟩
abbrev cX1_init : ByteArray := prog_3_method_1_code
def yX1_init : MethodName := ⟨RX1, "<init>", "()V"⟩
abbrev cX2_init : ByteArray := prog_4_method_1_code
def yX2_init : MethodName := ⟨RX2, "<init>", "()V"⟩
abbrev cX3_init : ByteArray := prog_5_method_1_code
def yX3_init : MethodName := ⟨RX3, "<init>", "()V"⟩
abbrev cX4_init : ByteArray := prog_6_method_1_code
def yX4_init : MethodName := ⟨RX4, "<init>", "()V"⟩
abbrev cX5_init : ByteArray := prog_7_method_1_code
def yX5_init : MethodName := ⟨RX5, "<init>", "()V"⟩
abbrev cX6_init : ByteArray := prog_8_method_1_code
def yX6_init : MethodName := ⟨RX6, "<init>", "()V"⟩
abbrev cX7_init : ByteArray := prog_9_method_1_code
def yX7_init : MethodName := ⟨RX7, "<init>", "()V"⟩
abbrev cX8_init : ByteArray := prog_10_method_1_code
def yX8_init : MethodName := ⟨RX8, "<init>", "()V"⟩
abbrev cX9_init : ByteArray := prog_11_method_1_code
def yX9_init : MethodName := ⟨RX9, "<init>", "()V"⟩
def nU : List Cond := [Cond.methodLinkNest "SpineTables$Walker" 29 ⟨"SpineTables$Fraction", "<init>", "()V"⟩ "SpineTables", Cond.methodLinkNest "SpineTables$Lengths" 20 ⟨"SpineTables$Fraction", "<init>", "()V"⟩ "SpineTables", Cond.methodLinkNest "SpineTables$Assembler" 11 ⟨"SpineTables$Side", "<init>", "()V"⟩ "SpineTables", Cond.methodLinkNest "SpineTables$BarCheck" 11 ⟨"SpineTables$Fraction", "<init>", "()V"⟩ "SpineTables", Cond.methodLinkNest "SpineTables$Table" 11 ⟨"SpineTables$Rows", "<init>", "()V"⟩ "SpineTables", Cond.methodLinkNest "SpineTables" 42 ⟨"SpineTables$Reader", "<init>", "()V"⟩ "SpineTables", Cond.methodLinkNest "SpineTables" 49 ⟨"SpineTables$Walker", "<init>", "()V"⟩ "SpineTables", Cond.methodLinkNest "SpineTables" 56 ⟨"SpineTables$Lengths", "<init>", "()V"⟩ "SpineTables", Cond.methodLinkNest "SpineTables" 63 ⟨"SpineTables$Assembler", "<init>", "()V"⟩ "SpineTables", Cond.methodLinkNest "SpineTables" 70 ⟨"SpineTables$Extractor", "<init>", "()V"⟩ "SpineTables", Cond.methodLinkNest "SpineTables" 77 ⟨"SpineTables$BarCheck", "<init>", "()V"⟩ "SpineTables", Cond.castable "java/lang/IndexOutOfBoundsException" "java/lang/IndexOutOfBoundsException", Cond.declares ⟨"java/lang/RuntimeException", "<init>", "(Ljava/lang/String;)V"⟩, Cond.declares ⟨"java/lang/Exception", "<init>", "(Ljava/lang/String;)V"⟩, Cond.declares ⟨"java/lang/Throwable", "<init>", "(Ljava/lang/String;)V"⟩]
theorem nU_cast : Cond.castable "java/lang/IndexOutOfBoundsException" "java/lang/IndexOutOfBoundsException" ∈ nU := List.mem_of_getElem? (i := 11) rfl
theorem nU_d1 : Cond.declares ⟨"java/lang/RuntimeException", "<init>", "(Ljava/lang/String;)V"⟩ ∈ nU := List.mem_of_getElem? (i := 12) rfl
theorem nU_d2 : Cond.declares ⟨"java/lang/Exception", "<init>", "(Ljava/lang/String;)V"⟩ ∈ nU := List.mem_of_getElem? (i := 13) rfl
theorem nU_d3 : Cond.declares ⟨"java/lang/Throwable", "<init>", "(Ljava/lang/String;)V"⟩ ∈ nU := List.mem_of_getElem? (i := 14) rfl
end
section
/-- the good words of the tables: every method of this claim has them -/
def wU : List Cond := lw_tbl.filter goodWord
theorem mU {w : Cond} (h : w ∈ lw_tbl) (g : goodWord w = true) : w ∈ wU := List.mem_filter.mpr ⟨h, g⟩
theorem wU_in : ∀ w ∈ wU, w ∈ lw_tbl := fun _ h => (List.mem_filter.mp h).1
theorem tin_0 : ∀ w ∈ k2_sels lw_privs, w ∈ lw_tbl := fun _ h => List.mem_append_left _ h
theorem tin_1 : ∀ w ∈ tables_1_1, w ∈ lw_tbl := fun _ h => List.mem_append_right _ (List.mem_append_left _ h)
theorem tin_2 : ∀ w ∈ tables_1_2, w ∈ lw_tbl := fun _ h => List.mem_append_right _ (List.mem_append_right _ (List.mem_append_left _ h))
theorem tin_3 : ∀ w ∈ tables_1_3, w ∈ lw_tbl := fun _ h => List.mem_append_right _ (List.mem_append_right _ (List.mem_append_right _ (List.mem_append_left _ h)))
theorem tin_4 : ∀ w ∈ tables_1_4, w ∈ lw_tbl := fun _ h => List.mem_append_right _ (List.mem_append_right _ (List.mem_append_right _ (List.mem_append_right _ (List.mem_append_left _ h))))
theorem tin_5 : ∀ w ∈ tables_1_5, w ∈ lw_tbl := fun _ h => List.mem_append_right _ (List.mem_append_right _ (List.mem_append_right _ (List.mem_append_right _ (List.mem_append_right _ (List.mem_append_left _ h)))))
theorem tin_6 : ∀ w ∈ tables_1_6, w ∈ lw_tbl := fun _ h => List.mem_append_right _ (List.mem_append_right _ (List.mem_append_right _ (List.mem_append_right _ (List.mem_append_right _ (List.mem_append_right _ (List.mem_append_left _ h))))))
theorem tin_7 : ∀ w ∈ tables_1_7, w ∈ lw_tbl := fun _ h => List.mem_append_right _ (List.mem_append_right _ (List.mem_append_right _ (List.mem_append_right _ (List.mem_append_right _ (List.mem_append_right _ (List.mem_append_right _ (List.mem_append_left _ h)))))))
theorem tin_8 : ∀ w ∈ tables_1_8, w ∈ lw_tbl := fun _ h => List.mem_append_right _ (List.mem_append_right _ (List.mem_append_right _ (List.mem_append_right _ (List.mem_append_right _ (List.mem_append_right _ (List.mem_append_right _ (List.mem_append_right _ h)))))))
theorem gU {w : Cond} (h : w ∈ wU) : w ∈ wU ∧ ((w.onTables && w.keeps) = true ∨ ∃ ty, w = .arrayClass ty) := ⟨h, good_of_word (List.mem_filter.mp h).2⟩
theorem goC {c : Cond} (h : c ∈ wU) : GoodIn wU (c :: wU) := fun w hw => (List.mem_cons.mp hw).elim (fun e => by rw [e]; exact gU h) (fun h => gU h)
theorem goV {own C : String} {k : Nat} {y : MethodName} {c : Cond} (h1 : Cond.methodLink own k y ∈ wU) (h2 : Cond.instanceMethod y ∈ wU) (h3 : Cond.selects C y y ∈ wU) (h4 : Cond.initialized C ∈ wU) (h5 : c ∈ wU) : GoodIn wU (wsV own k C y (c :: wU)) := by
  intro w hw
  unfold wsV at hw
  rcases List.mem_append.mp hw with h | h
  · simp only [List.mem_cons, List.not_mem_nil, or_false] at h
    rcases h with rfl | rfl | rfl | rfl
    · exact gU h1
    · exact gU h2
    · exact gU h3
    · exact gU h4
  · exact goC h5 w h
theorem goS {own : String} {k : Nat} {y : MethodName} {c : Cond} (h1 : Cond.methodLink own k y ∈ wU) (h2 : Cond.static y ∈ wU) (h3 : Cond.initialized own ∈ wU) (h5 : c ∈ wU) : GoodIn wU (wsS own k y (c :: wU)) := by
  intro w hw
  unfold wsS at hw
  rcases List.mem_append.mp hw with h | h
  · simp only [List.mem_cons, List.not_mem_nil, or_false] at h
    rcases h with rfl | rfl | rfl
    · exact gU h1
    · exact gU h2
    · exact gU h3
  · exact goC h5 w h
theorem goSW {own : String} {k : Nat} {y : MethodName} {c : Cond} (h1 : Cond.methodLink own k y ∈ wU) (h2 : Cond.static y ∈ wU) (h3 : Cond.initialized y.cls ∈ wU) (h5 : c ∈ wU) : GoodIn wU (va_wsS own k y (c :: wU)) := by
  intro w hw
  unfold va_wsS at hw
  rcases List.mem_append.mp hw with h | h
  · simp only [List.mem_cons, List.not_mem_nil, or_false] at h
    rcases h with rfl | rfl | rfl
    · exact gU h1
    · exact gU h2
    · exact gU h3
  · exact goC h5 w h
theorem w_heap {p : Program} {l : Launch} {e : Env} {R : Room} {s : State} {m : MethodId} {args : Array Value} {below : List Frame} {meth : Method} {c : Code} {H : Heap} {locs : List Loc} {cells slots : Nat} {Q : State → Prop} {g : JFrame} (h : H = s.heap) (k : W p l e R s m args below meth c H locs cells slots Q g) : W p l e R s m args below meth c s.heap locs cells slots Q g := by rw [← h]; exact k
theorem upd_z (k : Nat) : upd (fun _ => (0 : Int32)) k 0 = fun _ => 0 := by
  funext j
  unfold upd
  split <;> rfl
/-- words of the tables that aren't good, with what keeps them -/
def nKind (w : Cond) : Bool := match w with
  | .methodLinkNest .. => true
  | .castable .. => true
  | .declares _ => true
  | _ => false
theorem n_warm {L : List Cond} (hL : ∀ w ∈ L, nKind w = true) {s U : State} (hW : s.WarmedH U.vm) (h : ∀ w ∈ L, va_Nw w s) : ∀ w ∈ L, va_Nw w U := by
  intro w hw
  have h1 := hL w hw
  have h2 := h w hw
  cases w with
  | methodLinkNest a b c d => exact va_Nw.warmM hW h2
  | castable a b => exact va_Nw.warmC hW h2
  | declares a => exact va_Nw.warmD hW h2
  | _ => simp [nKind] at h1
theorem n_same {L : List Cond} (hL : ∀ w ∈ L, nKind w = true) {s U : State} (hv : s.vm = U.vm) (h : ∀ w ∈ L, va_Nw w s) : ∀ w ∈ L, va_Nw w U := by
  intro w hw
  have h1 := hL w hw
  have h2 := h w hw
  cases w with
  | methodLinkNest a b c d => exact va_Nw.same rfl hv h2
  | castable a b => exact va_Nw.same rfl hv h2
  | declares a => exact va_Nw.same rfl hv h2
  | _ => simp [nKind] at h1
theorem nU_kind : ∀ w ∈ nU, nKind w = true := by decide +kernel
def En (U : State) : Prop := (∀ w ∈ nU, va_Nw w U) ∧ va_AO "SpineTables$Table" U
theorem En.warm {s U : State} (hW : s.WarmedH U.vm) (h : En s) : En U := ⟨n_warm nU_kind hW h.1, h.2.moved hW.alike⟩
theorem En.same {s U : State} (hv : s.vm = U.vm) (h : En s) : En U := ⟨n_same nU_kind hv h.1, h.2.moved (by rw [hv]; exact Vm.Alike.refl _)⟩
abbrev P5 (dC : Nat → ClassId) (dI : Nat → Nat → Nat) (ws : va_W) (tys : List (ClassId × FieldType)) (sz : Nat) (U : State) : Prop := U.heap.size = sz ∧ va_P (dC, dI) classes ws U.heap ∧ va_K (dC, dI) classes tys U ∧ va_D (fun _ => True) ws ∧ En U
abbrev P3 (dC : Nat → ClassId) (dI : Nat → Nat → Nat) (A : Nat → Prop) (ws : va_W) (tys : List (ClassId × FieldType)) (t : State) : Prop := va_P (dC, dI) classes ws t.heap ∧ va_K (dC, dI) classes tys t ∧ va_D A ws
/-- what a throw of tableAt needs of the heap -/
def Tn (A : Nat → Prop) (sa : Nat) (U : State) : Prop := vk_R "SpineTables" 274 "no such table" sa U ∧ vx_Zq Bundle.tN "UNASSIGNED_STACK" Bundle.steD A U U.heap ∧ vx_Zq Bundle.tN "SUPPRESSED_SENTINEL" Bundle.listD A U U.heap
theorem Tn.call {A B : Nat → Prop} {sa : Nat} {s : State} {H : Heap} {locs : List Loc} (h : Tn A sa s) (hS : va_S A s.heap H locs) (hF : ∀ q, B q → A q) : ∀ U : State, U.heap = H → s.WarmedH U.vm → Tn B sa U := fun U hU hW => ⟨vk_R.warm hW h.1, by rw [hU]; exact ((h.2.1.kept hS.2.1).moved hW.alike).narrow hF, by rw [hU]; exact ((h.2.2.kept hS.2.1).moved hW.alike).narrow hF⟩
theorem blind5 {av : List Value} {dC : Nat → ClassId} {dI : Nat → Nat → Nat} {ws : va_W} {tys : List (ClassId × FieldType)} {sz : Nat} : FrameBlind (va_Pc av (fun U => P5 dC dI ws tys sz U)) := by
  intro a U g mk q
  obtain ⟨q0, q1, qP, qK, qD, qE⟩ := q
  exact ⟨q0, q1, qP, va_K.moved (u := U) (U := U.calling g mk a) (Vm.Alike.refl U.vm) qK, qD, En.same (s := U) (U := U.calling g mk a) rfl qE⟩
theorem blind6 {av : List Value} {dC : Nat → ClassId} {dI : Nat → Nat → Nat} {ws : va_W} {tys : List (ClassId × FieldType)} {sz : Nat} {A : Nat → Prop} {sa : Nat} : FrameBlind (va_Pc av (fun U => P5 dC dI ws tys sz U ∧ Tn A sa U)) := by
  intro a U g mk q
  obtain ⟨q0, ⟨q1, qP, qK, qD, qE⟩, qT⟩ := q
  exact ⟨q0, ⟨q1, qP, va_K.moved (u := U) (U := U.calling g mk a) (Vm.Alike.refl U.vm) qK, qD, En.same (s := U) (U := U.calling g mk a) rfl qE⟩, vk_R.same (u := U) (U := U.calling g mk a) rfl qT.1, vx_Zq.moved (u := U) (U := U.calling g mk a) (Vm.Alike.refl U.vm) qT.2.1, vx_Zq.moved (u := U) (U := U.calling g mk a) (Vm.Alike.refl U.vm) qT.2.2⟩
theorem pre5 {dC : Nat → ClassId} {dI : Nat → Nat → Nat} {ws : va_W} {tys : List (ClassId × FieldType)} {A : Nat → Prop} {s U : State} {H : Heap} (hU : U.heap = H) (hW : s.WarmedH U.vm) (hP : va_P (dC, dI) classes ws H) (hK : va_K (dC, dI) classes tys s) (hD : va_D A ws) (hE : En s) : P5 dC dI ws tys H.size U := ⟨by rw [hU], by rw [hU]; exact hP, va_K.moved hW.alike hK, hD.weaken (fun _ _ _ _ => trivial), hE.warm hW⟩
theorem pre6 {dC : Nat → ClassId} {dI : Nat → Nat → Nat} {ws : va_W} {tys : List (ClassId × FieldType)} {A B : Nat → Prop} {sa : Nat} {s U : State} {H : Heap} (hU : U.heap = H) (hW : s.WarmedH U.vm) (hP : va_P (dC, dI) classes ws H) (hK : va_K (dC, dI) classes tys s) (hD : va_D A ws) (hE : En s) (hT : ∀ U : State, U.heap = H → s.WarmedH U.vm → Tn B sa U) : P5 dC dI ws tys H.size U ∧ Tn B sa U := ⟨pre5 hU hW hP hK hD hE, hT U hU hW⟩
/-- a callee that always throws -/
theorem vy_callX {p : Program} {l : Launch} {e : Env} {R : Room} {s : State} {m : MethodId} {args : Array Value} {below : List Frame} {meth : Method} {c : Code} {H : Heap} {locs : List Loc} {cells slots : Nat} {Q : State → Prop} {mc ms : Nat} {free : Addr → Prop} {A0 : Nat → Prop} {H0 : Heap} {pc : Nat} {ls : Array Slot} {st0 rest : List Value} {SX : Type} {px : SX → Prop} {BX : String → SX → State → Prop} {AX : Nat → Prop}
    (hr : vx_Run p l e R s m args below meth c H locs cells slots mc ms (F0 m pc ls st0) rest (fun _ _ _ => False) (vx_X px BX AX) free) (hS : va_S A0 H0 H locs) (hf : ∀ q, free q → A0 q) (hAX : ∀ q, q < H.size → AX q → A0 q)
    (kx : ∀ (E : String) (ce : Cell) (q9 : Addr) (u : SX) (t : State) (H1 : Heap) (locs1 : List Loc), t.heap = H1 → s.vm.Alike t.vm → px u → BX E u t → H.size ≤ H1.size → (∀ q : Nat, q < H.size → ¬ AX q → H1[q]? = H[q]?) → va_S A0 H0 H1 locs1 → H1[q9]? = some ce → ce.vm = .none → s.vm.findClass E = some ce.cls → vx_W p l e R s m args below meth c H1 locs1 (cells + mc) (slots + ms) Q (F0 m pc ls rest) q9) : W p l e R s m args below meth c H locs cells slots Q (F0 m pc ls st0) := by
  intro T hT X
  rcases hr T hT X with ⟨v, st₀, t, T', L, h0, X', hL, e1, e2, hF, st⟩ | ⟨q, st₀, t, T', L, E, ce, h0, X', hL, e1, e2, ⟨u, hp, hb, hF⟩, hce, hcv, hcl, st⟩
  · exact hF.elim
  · obtain ⟨k1, k2, k3⟩ := vx_keep h0 e1 hS hAX hf hL hF
    obtain ⟨t2, a1, b1⟩ := kx E ce q u t T'.heap (locs ++ L) e1.symm (by rw [← e2]; exact X'.warmed.alike) hp hb k1 k2 k3 (by rw [e1]; exact hce) hcv hcl T' rfl X'
    exact ⟨t2, st.trans a1, b1⟩
theorem thr_F {A : Nat → Prop} {s t : State} {H : Heap} {locs : List Loc} (hS : va_S A s.heap H locs) (hz : H.size ≤ t.heap.size) (hq : ∀ q : Nat, q < H.size → t.heap[q]? = H[q]?) : va_F A s t := ⟨Nat.le_trans hS.1 hz, fun q h1 h2 => (hq q (Nat.lt_of_lt_of_le h1 hS.1)).trans (hS.2.1 q h1 h2)⟩
theorem thr_ot : ∀ w ∈ Cond.classLink "SpineTables" 177 "java/lang/IndexOutOfBoundsException" :: Cond.initialized "java/lang/IndexOutOfBoundsException" :: vx_atS "SpineTables" 181 "java/lang/IndexOutOfBoundsException" ["java/lang/RuntimeException", "java/lang/Exception"], vx_ot w = true := by decide +kernel
theorem thr_in : ∀ w ∈ (vx_atS "SpineTables" 181 "java/lang/IndexOutOfBoundsException" ["java/lang/RuntimeException", "java/lang/Exception"]).filter goodWord, w ∈ lw_tbl := by decide +kernel
theorem thr_rest : ∀ w ∈ (vx_atS "SpineTables" 181 "java/lang/IndexOutOfBoundsException" ["java/lang/RuntimeException", "java/lang/Exception"]).filter (fun w => !goodWord w), w ∈ ([Cond.castable "java/lang/IndexOutOfBoundsException" "java/lang/IndexOutOfBoundsException", Cond.declares ⟨"java/lang/RuntimeException", "<init>", "(Ljava/lang/String;)V"⟩, Cond.declares ⟨"java/lang/Exception", "<init>", "(Ljava/lang/String;)V"⟩, Cond.declares ⟨"java/lang/Throwable", "<init>", "(Ljava/lang/String;)V"⟩] : List Cond) := by decide +kernel
theorem thr_at {args : Array Value} {s : State} (hts : ∀ w ∈ wU, w.before args s = true) (hE : En s) : ∀ w ∈ vx_atS "SpineTables" 181 "java/lang/IndexOutOfBoundsException" ["java/lang/RuntimeException", "java/lang/Exception"], w.before args s = true :=
  vx_hat (fun w h => hts w (mU (thr_in w h) (List.mem_filter.mp h).2)) thr_rest (vx_c (va_Nw.use rfl (hE.1 _ nU_cast)) (vx_c (va_Nw.use rfl (hE.1 _ nU_d1)) (vx_c (va_Nw.use rfl (hE.1 _ nU_d2)) (vx_c (va_Nw.use rfl (hE.1 _ nU_d3)) vx_n))))
theorem in8 {t : Int32} (h1 : ¬ t < 0) (h2 : ¬ 8 ≤ t) : vp_in t 8 := by
  refine vp_in_iff.mpr ?_
  have a1 : ¬ t.toInt < (0 : Int32).toInt := fun h => h1 (Int32.lt_iff_toInt_lt.mpr h)
  have a2 : ¬ (8 : Int32).toInt ≤ t.toInt := fun h => h2 (Int32.le_iff_toInt_le.mpr h)
  have b1 : (0 : Int32).toInt = 0 := by decide
  have b2 : (8 : Int32).toInt = 8 := by decide
  omega
def cutA (k : Int32) : Int32 := if k < 0 then -1 else if k ≤ 0 then 0 - k else -1
end
section
theorem wd_oi : (.code objectInit ⟨#[0xb1]⟩ 1 none) ∈ wU := mU (tin_1 _ (List.mem_of_getElem? (i := 29) rfl)) rfl
theorem inX0 : ∀ w ∈ u_ws RX0 TX0 3, w ∈ wU := fun w h => List.mem_filter.mpr ⟨(by decide +kernel : ∀ w ∈ u_ws RX0 TX0 3, w ∈ lw_tbl) w h, (by decide +kernel : ∀ w ∈ u_ws RX0 TX0 3, goodWord w = true) w h⟩
theorem inX1 : ∀ w ∈ u_ws RX1 TX1 5, w ∈ wU := fun w h => List.mem_filter.mpr ⟨(by decide +kernel : ∀ w ∈ u_ws RX1 TX1 5, w ∈ lw_tbl) w h, (by decide +kernel : ∀ w ∈ u_ws RX1 TX1 5, goodWord w = true) w h⟩
theorem inX2 : ∀ w ∈ u_ws RX2 TX2 1, w ∈ wU := fun w h => List.mem_filter.mpr ⟨(by decide +kernel : ∀ w ∈ u_ws RX2 TX2 1, w ∈ lw_tbl) w h, (by decide +kernel : ∀ w ∈ u_ws RX2 TX2 1, goodWord w = true) w h⟩
theorem inX3 : ∀ w ∈ u_ws RX3 TX3 2, w ∈ wU := fun w h => List.mem_filter.mpr ⟨(by decide +kernel : ∀ w ∈ u_ws RX3 TX3 2, w ∈ lw_tbl) w h, (by decide +kernel : ∀ w ∈ u_ws RX3 TX3 2, goodWord w = true) w h⟩
theorem inX4 : ∀ w ∈ u_ws RX4 TX4 6, w ∈ wU := fun w h => List.mem_filter.mpr ⟨(by decide +kernel : ∀ w ∈ u_ws RX4 TX4 6, w ∈ lw_tbl) w h, (by decide +kernel : ∀ w ∈ u_ws RX4 TX4 6, goodWord w = true) w h⟩
theorem inX5 : ∀ w ∈ u_ws RX5 TX5 16, w ∈ wU := fun w h => List.mem_filter.mpr ⟨(by decide +kernel : ∀ w ∈ u_ws RX5 TX5 16, w ∈ lw_tbl) w h, (by decide +kernel : ∀ w ∈ u_ws RX5 TX5 16, goodWord w = true) w h⟩
theorem inX6 : ∀ w ∈ u_ws RX6 TX6 11, w ∈ wU := fun w h => List.mem_filter.mpr ⟨(by decide +kernel : ∀ w ∈ u_ws RX6 TX6 11, w ∈ lw_tbl) w h, (by decide +kernel : ∀ w ∈ u_ws RX6 TX6 11, goodWord w = true) w h⟩
theorem inX7 : ∀ w ∈ u_ws RX7 TX7 5, w ∈ wU := fun w h => List.mem_filter.mpr ⟨(by decide +kernel : ∀ w ∈ u_ws RX7 TX7 5, w ∈ lw_tbl) w h, (by decide +kernel : ∀ w ∈ u_ws RX7 TX7 5, goodWord w = true) w h⟩
theorem inX8 : ∀ w ∈ u_ws RX8 TX8 17, w ∈ wU := fun w h => List.mem_filter.mpr ⟨(by decide +kernel : ∀ w ∈ u_ws RX8 TX8 17, w ∈ lw_tbl) w h, (by decide +kernel : ∀ w ∈ u_ws RX8 TX8 17, goodWord w = true) w h⟩
theorem inX9 : ∀ w ∈ u_ws RX9 TX9 9, w ∈ wU := fun w h => List.mem_filter.mpr ⟨(by decide +kernel : ∀ w ∈ u_ws RX9 TX9 9, w ∈ lw_tbl) w h, (by decide +kernel : ∀ w ∈ u_ws RX9 TX9 9, goodWord w = true) w h⟩
theorem inX11 : ∀ w ∈ u_ws RX11 TX11 14, w ∈ wU := fun w h => List.mem_filter.mpr ⟨(by decide +kernel : ∀ w ∈ u_ws RX11 TX11 14, w ∈ lw_tbl) w h, (by decide +kernel : ∀ w ∈ u_ws RX11 TX11 14, goodWord w = true) w h⟩
theorem inX12 : ∀ w ∈ u_ws RX12 TX12 46, w ∈ wU := fun w h => List.mem_filter.mpr ⟨(by decide +kernel : ∀ w ∈ u_ws RX12 TX12 46, w ∈ lw_tbl) w h, (by decide +kernel : ∀ w ∈ u_ws RX12 TX12 46, goodWord w = true) w h⟩
theorem wd_0 : (Cond.methodLink "SpineTables$Fraction" 1 ⟨"java/lang/Object", "<init>", "()V"⟩) ∈ wU := mU (tin_1 _ (List.mem_of_getElem? (i := 103) rfl)) rfl
theorem wd_1 : (Cond.instanceMethod ⟨"java/lang/Object", "<init>", "()V"⟩) ∈ wU := mU (tin_1 _ (List.mem_of_getElem? (i := 28) rfl)) rfl
theorem wd_2 : (Cond.fieldLink "SpineTables$Fraction" 7 "SpineTables$Fraction" "above" "J") ∈ wU := mU (tin_1 _ (List.mem_of_getElem? (i := 104) rfl)) rfl
theorem wd_3 : (Cond.fieldLink "SpineTables$Fraction" 13 "SpineTables$Fraction" "below" "J") ∈ wU := mU (tin_1 _ (List.mem_of_getElem? (i := 107) rfl)) rfl
theorem wd_4 : (Cond.methodLink "SpineTables$Reader" 3 ⟨"java/lang/Object", "<init>", "()V"⟩) ∈ wU := mU (tin_1 _ (List.mem_of_getElem? (i := 37) rfl)) rfl
theorem wd_5 : (Cond.fieldLink "SpineTables$Reader" 9 "SpineTables$Reader" "code" "I") ∈ wU := mU (tin_1 _ (List.mem_of_getElem? (i := 38) rfl)) rfl
theorem wd_6 : (Cond.fieldLink "SpineTables$Reader" 15 "SpineTables$Reader" "place" "I") ∈ wU := mU (tin_1 _ (List.mem_of_getElem? (i := 40) rfl)) rfl
theorem wd_7 : (Cond.fieldLink "SpineTables$Reader" 18 "SpineTables$Reader" "text" "[B") ∈ wU := mU (tin_1 _ (List.mem_of_getElem? (i := 42) rfl)) rfl
theorem wd_8 : (Cond.fieldLink "SpineTables$Reader" 22 "SpineTables$Reader" "size" "I") ∈ wU := mU (tin_1 _ (List.mem_of_getElem? (i := 43) rfl)) rfl
theorem wd_9 : (Cond.fieldLink "SpineTables$Reader" 25 "SpineTables$Reader" "into" "LSpineTables$Table;") ∈ wU := mU (tin_1 _ (List.mem_of_getElem? (i := 44) rfl)) rfl
theorem wd_10 : (Cond.fieldLink "SpineTables$Reader" 29 "SpineTables$Reader" "lineEnd" "I") ∈ wU := mU (tin_1 _ (List.mem_of_getElem? (i := 45) rfl)) rfl
theorem wd_11 : (Cond.fieldLink "SpineTables$Reader" 32 "SpineTables$Reader" "sort" "I") ∈ wU := mU (tin_1 _ (List.mem_of_getElem? (i := 46) rfl)) rfl
theorem wd_12 : (Cond.fieldLink "SpineTables$Reader" 35 "SpineTables$Reader" "tokens" "I") ∈ wU := mU (tin_1 _ (List.mem_of_getElem? (i := 47) rfl)) rfl
theorem wd_13 : (Cond.arrayClass .int) ∈ wU := mU (tin_1 _ (List.mem_of_getElem? (i := 91) rfl)) rfl
theorem wd_14 : (Cond.fieldLink "SpineTables$Reader" 38 "SpineTables$Reader" "starts" "[I") ∈ wU := mU (tin_1 _ (List.mem_of_getElem? (i := 48) rfl)) rfl
theorem wd_15 : (Cond.fieldLink "SpineTables$Reader" 42 "SpineTables$Reader" "ends" "[I") ∈ wU := mU (tin_1 _ (List.mem_of_getElem? (i := 49) rfl)) rfl
theorem wd_16 : (Cond.fieldLink "SpineTables$Reader" 45 "SpineTables$Reader" "acts" "[I") ∈ wU := mU (tin_1 _ (List.mem_of_getElem? (i := 50) rfl)) rfl
theorem wd_17 : (Cond.fieldLink "SpineTables$Reader" 48 "SpineTables$Reader" "firstJoin" "I") ∈ wU := mU (tin_1 _ (List.mem_of_getElem? (i := 51) rfl)) rfl
theorem wd_18 : (Cond.fieldLink "SpineTables$Reader" 51 "SpineTables$Reader" "latestJoin" "I") ∈ wU := mU (tin_1 _ (List.mem_of_getElem? (i := 52) rfl)) rfl
theorem wd_19 : (Cond.fieldLink "SpineTables$Reader" 54 "SpineTables$Reader" "swaps" "I") ∈ wU := mU (tin_1 _ (List.mem_of_getElem? (i := 53) rfl)) rfl
theorem wd_20 : (Cond.fieldLink "SpineTables$Reader" 57 "SpineTables$Reader" "adds" "I") ∈ wU := mU (tin_1 _ (List.mem_of_getElem? (i := 54) rfl)) rfl
theorem wd_21 : (Cond.fieldLink "SpineTables$Reader" 60 "SpineTables$Reader" "grown" "I") ∈ wU := mU (tin_1 _ (List.mem_of_getElem? (i := 55) rfl)) rfl
theorem wd_22 : (Cond.methodLink "SpineTables$Walker" 3 ⟨"java/lang/Object", "<init>", "()V"⟩) ∈ wU := mU (tin_1 _ (List.mem_of_getElem? (i := 97) rfl)) rfl
theorem wd_23 : (Cond.fieldLink "SpineTables$Walker" 9 "SpineTables$Walker" "endAbove" "[I") ∈ wU := mU (tin_1 _ (List.mem_of_getElem? (i := 115) rfl)) rfl
theorem wd_24 : (Cond.fieldLink "SpineTables$Walker" 15 "SpineTables$Walker" "endBelow" "[I") ∈ wU := mU (tin_1 _ (List.mem_of_getElem? (i := 116) rfl)) rfl
theorem wd_25 : (Cond.fieldLink "SpineTables$Walker" 18 "SpineTables$Walker" "oldAbove" "[I") ∈ wU := mU (tin_1 _ (List.mem_of_getElem? (i := 117) rfl)) rfl
theorem wd_26 : (Cond.fieldLink "SpineTables$Walker" 21 "SpineTables$Walker" "oldBelow" "[I") ∈ wU := mU (tin_1 _ (List.mem_of_getElem? (i := 118) rfl)) rfl
theorem wd_27 : (Cond.fieldLink "SpineTables$Walker" 24 "SpineTables$Walker" "from" "[I") ∈ wU := mU (tin_1 _ (List.mem_of_getElem? (i := 119) rfl)) rfl
theorem wd_28 : (Cond.classLink "SpineTables$Walker" 27 "SpineTables$Fraction") ∈ wU := mU (tin_1 _ (List.mem_of_getElem? (i := 98) rfl)) rfl
theorem wd_29 : (Cond.instantiable "SpineTables$Fraction" 2) ∈ wU := mU (tin_1 _ (List.mem_of_getElem? (i := 99) rfl)) rfl
theorem wd_30 : (Cond.initialized "SpineTables$Fraction") ∈ wU := mU (tin_1 _ (List.mem_of_getElem? (i := 4) rfl)) rfl
theorem wd_31 : (.code yX3_init cX3_init 1 none) ∈ wU := mU (tin_1 _ (List.mem_of_getElem? (i := 102) rfl)) rfl
theorem wd_32 : (Cond.instanceMethod yX3_init) ∈ wU := mU (tin_1 _ (List.mem_of_getElem? (i := 101) rfl)) rfl
theorem wd_33 : (Cond.fieldLink "SpineTables$Walker" 30 "SpineTables$Walker" "sum" "LSpineTables$Fraction;") ∈ wU := mU (tin_1 _ (List.mem_of_getElem? (i := 120) rfl)) rfl
theorem wd_34 : (Cond.fieldLink "SpineTables$Walker" 34 "SpineTables$Walker" "table" "LSpineTables$Table;") ∈ wU := mU (tin_1 _ (List.mem_of_getElem? (i := 121) rfl)) rfl
theorem wd_35 : (Cond.fieldLink "SpineTables$Walker" 38 "SpineTables$Walker" "nowAbove" "I") ∈ wU := mU (tin_1 _ (List.mem_of_getElem? (i := 122) rfl)) rfl
theorem wd_36 : (Cond.fieldLink "SpineTables$Walker" 42 "SpineTables$Walker" "nowBelow" "I") ∈ wU := mU (tin_1 _ (List.mem_of_getElem? (i := 123) rfl)) rfl
theorem wd_37 : (Cond.methodLink "SpineTables$Lengths" 3 ⟨"java/lang/Object", "<init>", "()V"⟩) ∈ wU := mU (tin_1 _ (List.mem_of_getElem? (i := 148) rfl)) rfl
theorem wd_38 : (Cond.fieldLink "SpineTables$Lengths" 9 "SpineTables$Lengths" "above" "I") ∈ wU := mU (tin_1 _ (List.mem_of_getElem? (i := 151) rfl)) rfl
theorem wd_39 : (Cond.fieldLink "SpineTables$Lengths" 15 "SpineTables$Lengths" "below" "I") ∈ wU := mU (tin_1 _ (List.mem_of_getElem? (i := 153) rfl)) rfl
theorem wd_40 : (Cond.classLink "SpineTables$Lengths" 18 "SpineTables$Fraction") ∈ wU := mU (tin_1 _ (List.mem_of_getElem? (i := 149) rfl)) rfl
theorem wd_41 : (Cond.fieldLink "SpineTables$Lengths" 21 "SpineTables$Lengths" "value" "LSpineTables$Fraction;") ∈ wU := mU (tin_1 _ (List.mem_of_getElem? (i := 155) rfl)) rfl
theorem wd_42 : (Cond.fieldLink "SpineTables$Lengths" 25 "SpineTables$Lengths" "text" "[B") ∈ wU := mU (tin_1 _ (List.mem_of_getElem? (i := 156) rfl)) rfl
theorem wd_43 : (Cond.fieldLink "SpineTables$Lengths" 29 "SpineTables$Lengths" "at" "I") ∈ wU := mU (tin_1 _ (List.mem_of_getElem? (i := 157) rfl)) rfl
theorem wd_44 : (Cond.fieldLink "SpineTables$Lengths" 32 "SpineTables$Lengths" "end" "I") ∈ wU := mU (tin_1 _ (List.mem_of_getElem? (i := 158) rfl)) rfl
theorem wd_45 : (Cond.methodLink "SpineTables$Side" 3 ⟨"java/lang/Object", "<init>", "()V"⟩) ∈ wU := mU (tin_1 _ (List.mem_of_getElem? (i := 183) rfl)) rfl
theorem wd_46 : (Cond.fieldLink "SpineTables$Side" 9 "SpineTables$Side" "table" "LSpineTables$Table;") ∈ wU := mU (tin_1 _ (List.mem_of_getElem? (i := 184) rfl)) rfl
theorem wd_47 : (Cond.fieldLink "SpineTables$Side" 15 "SpineTables$Side" "next" "I") ∈ wU := mU (tin_1 _ (List.mem_of_getElem? (i := 186) rfl)) rfl
theorem wd_48 : (Cond.fieldLink "SpineTables$Side" 19 "SpineTables$Side" "strands" "I") ∈ wU := mU (tin_1 _ (List.mem_of_getElem? (i := 188) rfl)) rfl
theorem wd_49 : (Cond.fieldLink "SpineTables$Side" 22 "SpineTables$Side" "isUrgent" "Z") ∈ wU := mU (tin_1 _ (List.mem_of_getElem? (i := 190) rfl)) rfl
theorem wd_50 : (Cond.fieldLink "SpineTables$Side" 26 "SpineTables$Side" "from" "[I") ∈ wU := mU (tin_1 _ (List.mem_of_getElem? (i := 192) rfl)) rfl
theorem wd_51 : (Cond.methodLink "SpineTables$Assembler" 3 ⟨"java/lang/Object", "<init>", "()V"⟩) ∈ wU := mU (tin_1 _ (List.mem_of_getElem? (i := 177) rfl)) rfl
theorem wd_52 : (Cond.classLink "SpineTables$Assembler" 9 "SpineTables$Side") ∈ wU := mU (tin_1 _ (List.mem_of_getElem? (i := 178) rfl)) rfl
theorem wd_53 : (Cond.instantiable "SpineTables$Side" 5) ∈ wU := mU (tin_1 _ (List.mem_of_getElem? (i := 179) rfl)) rfl
theorem wd_54 : (Cond.initialized "SpineTables$Side") ∈ wU := mU (tin_1 _ (List.mem_of_getElem? (i := 7) rfl)) rfl
theorem wd_55 : (.code yX7_init cX7_init 1 none) ∈ wU := mU (tin_1 _ (List.mem_of_getElem? (i := 182) rfl)) rfl
theorem wd_56 : (Cond.instanceMethod yX7_init) ∈ wU := mU (tin_1 _ (List.mem_of_getElem? (i := 181) rfl)) rfl
theorem wd_57 : (Cond.fieldLink "SpineTables$Assembler" 12 "SpineTables$Assembler" "left" "LSpineTables$Side;") ∈ wU := mU (tin_1 _ (List.mem_of_getElem? (i := 204) rfl)) rfl
theorem wd_58 : (Cond.fieldLink "SpineTables$Assembler" 18 "SpineTables$Assembler" "right" "LSpineTables$Side;") ∈ wU := mU (tin_1 _ (List.mem_of_getElem? (i := 205) rfl)) rfl
theorem wd_59 : (Cond.fieldLink "SpineTables$Assembler" 21 "SpineTables$Assembler" "into" "LSpineTables$Rows;") ∈ wU := mU (tin_1 _ (List.mem_of_getElem? (i := 206) rfl)) rfl
theorem wd_60 : (Cond.methodLink "SpineTables$Extractor" 3 ⟨"java/lang/Object", "<init>", "()V"⟩) ∈ wU := mU (tin_1 _ (List.mem_of_getElem? (i := 219) rfl)) rfl
theorem wd_61 : (Cond.fieldLink "SpineTables$Extractor" 9 "SpineTables$Extractor" "from" "[I") ∈ wU := mU (tin_1 _ (List.mem_of_getElem? (i := 220) rfl)) rfl
theorem wd_62 : (Cond.methodLink "SpineTables$BarCheck" 3 ⟨"java/lang/Object", "<init>", "()V"⟩) ∈ wU := mU (tin_1 _ (List.mem_of_getElem? (i := 229) rfl)) rfl
theorem wd_63 : (Cond.classLink "SpineTables$BarCheck" 9 "SpineTables$Fraction") ∈ wU := mU (tin_1 _ (List.mem_of_getElem? (i := 230) rfl)) rfl
theorem wd_64 : (Cond.fieldLink "SpineTables$BarCheck" 12 "SpineTables$BarCheck" "gap" "LSpineTables$Fraction;") ∈ wU := mU (tin_1 _ (List.mem_of_getElem? (i := 232) rfl)) rfl
theorem wd_65 : (Cond.fieldLink "SpineTables$BarCheck" 18 "SpineTables$BarCheck" "meterAbove" "I") ∈ wU := mU (tin_1 _ (List.mem_of_getElem? (i := 233) rfl)) rfl
theorem wd_66 : (Cond.fieldLink "SpineTables$BarCheck" 22 "SpineTables$BarCheck" "meterBelow" "I") ∈ wU := mU (tin_1 _ (List.mem_of_getElem? (i := 234) rfl)) rfl
theorem wd_67 : (Cond.fieldLink "SpineTables$BarCheck" 25 "SpineTables$BarCheck" "dueAbove" "I") ∈ wU := mU (tin_1 _ (List.mem_of_getElem? (i := 235) rfl)) rfl
theorem wd_68 : (Cond.fieldLink "SpineTables$BarCheck" 28 "SpineTables$BarCheck" "dueBelow" "I") ∈ wU := mU (tin_1 _ (List.mem_of_getElem? (i := 236) rfl)) rfl
theorem wd_69 : (Cond.methodLink "SpineTables$Rows" 3 ⟨"java/lang/Object", "<init>", "()V"⟩) ∈ wU := mU (tin_2 _ (List.mem_of_getElem? (i := 85) rfl)) rfl
theorem wd_70 : (Cond.arrayClass .byte) ∈ wU := mU (tin_1 _ (List.mem_of_getElem? (i := 89) rfl)) rfl
theorem wd_71 : (Cond.fieldLink "SpineTables$Rows" 9 "SpineTables$Rows" "text" "[B") ∈ wU := mU (tin_2 _ (List.mem_of_getElem? (i := 86) rfl)) rfl
theorem wd_72 : (Cond.fieldLink "SpineTables$Rows" 15 "SpineTables$Rows" "starts" "[I") ∈ wU := mU (tin_2 _ (List.mem_of_getElem? (i := 91) rfl)) rfl
theorem wd_73 : (Cond.fieldLink "SpineTables$Rows" 19 "SpineTables$Rows" "sorts" "[I") ∈ wU := mU (tin_2 _ (List.mem_of_getElem? (i := 92) rfl)) rfl
theorem wd_74 : (Cond.fieldLink "SpineTables$Rows" 22 "SpineTables$Rows" "firsts" "[I") ∈ wU := mU (tin_2 _ (List.mem_of_getElem? (i := 93) rfl)) rfl
theorem wd_75 : (Cond.fieldLink "SpineTables$Rows" 25 "SpineTables$Rows" "tokenStarts" "[I") ∈ wU := mU (tin_2 _ (List.mem_of_getElem? (i := 94) rfl)) rfl
theorem wd_76 : (Cond.fieldLink "SpineTables$Rows" 28 "SpineTables$Rows" "tokenEnds" "[I") ∈ wU := mU (tin_2 _ (List.mem_of_getElem? (i := 95) rfl)) rfl
theorem wd_77 : (Cond.fieldLink "SpineTables$Rows" 31 "SpineTables$Rows" "acts" "[I") ∈ wU := mU (tin_2 _ (List.mem_of_getElem? (i := 96) rfl)) rfl
theorem wd_78 : (Cond.fieldLink "SpineTables$Rows" 34 "SpineTables$Rows" "size" "I") ∈ wU := mU (tin_2 _ (List.mem_of_getElem? (i := 97) rfl)) rfl
theorem wd_79 : (Cond.fieldLink "SpineTables$Rows" 38 "SpineTables$Rows" "count" "I") ∈ wU := mU (tin_2 _ (List.mem_of_getElem? (i := 99) rfl)) rfl
theorem wd_80 : (Cond.fieldLink "SpineTables$Rows" 41 "SpineTables$Rows" "tokens" "I") ∈ wU := mU (tin_2 _ (List.mem_of_getElem? (i := 107) rfl)) rfl
theorem wd_81 : (Cond.fieldLink "SpineTables$Rows" 44 "SpineTables$Rows" "overfull" "Z") ∈ wU := mU (tin_2 _ (List.mem_of_getElem? (i := 108) rfl)) rfl
theorem wd_82 : (Cond.methodLink "SpineTables$Table" 3 ⟨"java/lang/Object", "<init>", "()V"⟩) ∈ wU := mU (tin_2 _ (List.mem_of_getElem? (i := 79) rfl)) rfl
theorem wd_83 : (Cond.classLink "SpineTables$Table" 9 "SpineTables$Rows") ∈ wU := mU (tin_2 _ (List.mem_of_getElem? (i := 80) rfl)) rfl
theorem wd_84 : (Cond.instantiable "SpineTables$Rows" 11) ∈ wU := mU (tin_2 _ (List.mem_of_getElem? (i := 81) rfl)) rfl
theorem wd_85 : (Cond.initialized "SpineTables$Rows") ∈ wU := mU (tin_1 _ (List.mem_of_getElem? (i := 12) rfl)) rfl
theorem wd_86 : (.code yX6_init cX6_init 1 none) ∈ wU := mU (tin_2 _ (List.mem_of_getElem? (i := 84) rfl)) rfl
theorem wd_87 : (Cond.instanceMethod yX6_init) ∈ wU := mU (tin_2 _ (List.mem_of_getElem? (i := 83) rfl)) rfl
theorem wd_88 : (Cond.fieldLink "SpineTables$Table" 12 "SpineTables$Table" "rows" "LSpineTables$Rows;") ∈ wU := mU (tin_2 _ (List.mem_of_getElem? (i := 134) rfl)) rfl
theorem wd_89 : (Cond.fieldLink "SpineTables$Table" 18 "SpineTables$Table" "tokenKinds" "[I") ∈ wU := mU (tin_2 _ (List.mem_of_getElem? (i := 143) rfl)) rfl
theorem wd_90 : (Cond.fieldLink "SpineTables$Table" 22 "SpineTables$Table" "tokenNumbers" "[I") ∈ wU := mU (tin_2 _ (List.mem_of_getElem? (i := 144) rfl)) rfl
theorem wd_91 : (Cond.fieldLink "SpineTables$Table" 25 "SpineTables$Table" "tokenHelds" "[I") ∈ wU := mU (tin_2 _ (List.mem_of_getElem? (i := 145) rfl)) rfl
theorem wd_92 : (Cond.fieldLink "SpineTables$Table" 28 "SpineTables$Table" "lengthsAbove" "[I") ∈ wU := mU (tin_2 _ (List.mem_of_getElem? (i := 146) rfl)) rfl
theorem wd_93 : (Cond.fieldLink "SpineTables$Table" 31 "SpineTables$Table" "lengthsBelow" "[I") ∈ wU := mU (tin_2 _ (List.mem_of_getElem? (i := 147) rfl)) rfl
theorem wd_94 : (Cond.fieldLink "SpineTables$Table" 34 "SpineTables$Table" "kindTokens" "[I") ∈ wU := mU (tin_2 _ (List.mem_of_getElem? (i := 148) rfl)) rfl
theorem wd_95 : (Cond.fieldLink "SpineTables$Table" 37 "SpineTables$Table" "kindRhythms" "[I") ∈ wU := mU (tin_2 _ (List.mem_of_getElem? (i := 149) rfl)) rfl
theorem wd_96 : (Cond.fieldLink "SpineTables$Table" 40 "SpineTables$Table" "kinds" "I") ∈ wU := mU (tin_2 _ (List.mem_of_getElem? (i := 150) rfl)) rfl
theorem wd_97 : (Cond.fieldLink "SpineTables$Table" 44 "SpineTables$Table" "numbers" "I") ∈ wU := mU (tin_2 _ (List.mem_of_getElem? (i := 152) rfl)) rfl
theorem wd_98 : (Cond.fieldLink "SpineTables$Table" 47 "SpineTables$Table" "latest" "I") ∈ wU := mU (tin_2 _ (List.mem_of_getElem? (i := 153) rfl)) rfl
theorem wd_99 : (Cond.fieldLink "SpineTables$Table" 50 "SpineTables$Table" "strands" "I") ∈ wU := mU (tin_2 _ (List.mem_of_getElem? (i := 155) rfl)) rfl
theorem wd_100 : (Cond.fieldLink "SpineTables$Table" 53 "SpineTables$Table" "sources" "[I") ∈ wU := mU (tin_2 _ (List.mem_of_getElem? (i := 157) rfl)) rfl
theorem wd_101 : (Cond.fieldLink "SpineTables$Table" 56 "SpineTables$Table" "timesAbove" "[I") ∈ wU := mU (tin_2 _ (List.mem_of_getElem? (i := 158) rfl)) rfl
theorem wd_102 : (Cond.fieldLink "SpineTables$Table" 59 "SpineTables$Table" "timesBelow" "[I") ∈ wU := mU (tin_2 _ (List.mem_of_getElem? (i := 159) rfl)) rfl
theorem wd_103 : (Cond.fieldLink "SpineTables$Table" 62 "SpineTables$Table" "misfitRow" "I") ∈ wU := mU (tin_2 _ (List.mem_of_getElem? (i := 160) rfl)) rfl
theorem wd_104 : (Cond.fieldLink "SpineTables$Table" 65 "SpineTables$Table" "misfitCode" "I") ∈ wU := mU (tin_2 _ (List.mem_of_getElem? (i := 163) rfl)) rfl
theorem wd_105 : (Cond.methodLink "SpineTables" 1 ⟨"java/lang/Object", "<init>", "()V"⟩) ∈ wU := mU (tin_1 _ (List.mem_of_getElem? (i := 27) rfl)) rfl
theorem wd_106 : (Cond.fieldLink "SpineTables" 9 "SpineTables" "tape" "[B") ∈ wU := mU (tin_2 _ (List.mem_of_getElem? (i := 8) rfl)) rfl
theorem wd_107 : (Cond.fieldLink "SpineTables" 13 "SpineTables" "tapeSize" "I") ∈ wU := mU (tin_2 _ (List.mem_of_getElem? (i := 9) rfl)) rfl
theorem wd_108 : (Cond.fieldLink "SpineTables" 17 "SpineTables" "written" "[B") ∈ wU := mU (tin_2 _ (List.mem_of_getElem? (i := 10) rfl)) rfl
theorem wd_109 : (Cond.fieldLink "SpineTables" 20 "SpineTables" "writtenSize" "I") ∈ wU := mU (tin_2 _ (List.mem_of_getElem? (i := 11) rfl)) rfl
theorem wd_110 : (Cond.fieldLink "SpineTables" 23 "SpineTables" "faultCode" "I") ∈ wU := mU (tin_2 _ (List.mem_of_getElem? (i := 12) rfl)) rfl
theorem wd_111 : (Cond.classLink "SpineTables" 26 "SpineTables$Table") ∈ wU := mU (tin_1 _ (List.mem_of_getElem? (i := 30) rfl)) rfl
theorem wd_112 : (Cond.fieldLink "SpineTables" 28 "SpineTables" "tables" "[LSpineTables$Table;") ∈ wU := mU (tin_2 _ (List.mem_of_getElem? (i := 13) rfl)) rfl
theorem wd_113 : (Cond.arrayClass .boolean) ∈ wU := mU (tin_1 _ (List.mem_of_getElem? (i := 90) rfl)) rfl
theorem wd_114 : (Cond.fieldLink "SpineTables" 32 "SpineTables" "taken" "[Z") ∈ wU := mU (tin_2 _ (List.mem_of_getElem? (i := 14) rfl)) rfl
theorem wd_115 : (Cond.fieldLink "SpineTables" 36 "SpineTables" "bench" "LSpineTables$Table;") ∈ wU := mU (tin_2 _ (List.mem_of_getElem? (i := 15) rfl)) rfl
theorem wd_116 : (Cond.classLink "SpineTables" 40 "SpineTables$Reader") ∈ wU := mU (tin_1 _ (List.mem_of_getElem? (i := 32) rfl)) rfl
theorem wd_117 : (Cond.instantiable "SpineTables$Reader" 16) ∈ wU := mU (tin_1 _ (List.mem_of_getElem? (i := 33) rfl)) rfl
theorem wd_118 : (Cond.initialized "SpineTables$Reader") ∈ wU := mU (tin_1 _ (List.mem_of_getElem? (i := 2) rfl)) rfl
theorem wd_119 : (.code yX5_init cX5_init 1 none) ∈ wU := mU (tin_1 _ (List.mem_of_getElem? (i := 36) rfl)) rfl
theorem wd_120 : (Cond.instanceMethod yX5_init) ∈ wU := mU (tin_1 _ (List.mem_of_getElem? (i := 35) rfl)) rfl
theorem wd_121 : (Cond.fieldLink "SpineTables" 43 "SpineTables" "reader" "LSpineTables$Reader;") ∈ wU := mU (tin_2 _ (List.mem_of_getElem? (i := 16) rfl)) rfl
theorem wd_122 : (Cond.classLink "SpineTables" 47 "SpineTables$Walker") ∈ wU := mU (tin_1 _ (List.mem_of_getElem? (i := 92) rfl)) rfl
theorem wd_123 : (Cond.instantiable "SpineTables$Walker" 9) ∈ wU := mU (tin_1 _ (List.mem_of_getElem? (i := 93) rfl)) rfl
theorem wd_124 : (Cond.initialized "SpineTables$Walker") ∈ wU := mU (tin_1 _ (List.mem_of_getElem? (i := 3) rfl)) rfl
theorem wd_125 : (.code yX9_init cX9_init 1 none) ∈ wU := mU (tin_1 _ (List.mem_of_getElem? (i := 96) rfl)) rfl
theorem wd_126 : (Cond.instanceMethod yX9_init) ∈ wU := mU (tin_1 _ (List.mem_of_getElem? (i := 95) rfl)) rfl
theorem wd_127 : (Cond.fieldLink "SpineTables" 50 "SpineTables" "walker" "LSpineTables$Walker;") ∈ wU := mU (tin_2 _ (List.mem_of_getElem? (i := 17) rfl)) rfl
theorem wd_128 : (Cond.classLink "SpineTables" 54 "SpineTables$Lengths") ∈ wU := mU (tin_1 _ (List.mem_of_getElem? (i := 143) rfl)) rfl
theorem wd_129 : (Cond.instantiable "SpineTables$Lengths" 6) ∈ wU := mU (tin_1 _ (List.mem_of_getElem? (i := 144) rfl)) rfl
theorem wd_130 : (Cond.initialized "SpineTables$Lengths") ∈ wU := mU (tin_1 _ (List.mem_of_getElem? (i := 5) rfl)) rfl
theorem wd_131 : (.code yX4_init cX4_init 1 none) ∈ wU := mU (tin_1 _ (List.mem_of_getElem? (i := 147) rfl)) rfl
theorem wd_132 : (Cond.instanceMethod yX4_init) ∈ wU := mU (tin_1 _ (List.mem_of_getElem? (i := 146) rfl)) rfl
theorem wd_133 : (Cond.fieldLink "SpineTables" 57 "SpineTables" "lengths" "LSpineTables$Lengths;") ∈ wU := mU (tin_2 _ (List.mem_of_getElem? (i := 18) rfl)) rfl
theorem wd_134 : (Cond.classLink "SpineTables" 61 "SpineTables$Assembler") ∈ wU := mU (tin_1 _ (List.mem_of_getElem? (i := 172) rfl)) rfl
theorem wd_135 : (Cond.instantiable "SpineTables$Assembler" 3) ∈ wU := mU (tin_1 _ (List.mem_of_getElem? (i := 173) rfl)) rfl
theorem wd_136 : (Cond.initialized "SpineTables$Assembler") ∈ wU := mU (tin_1 _ (List.mem_of_getElem? (i := 6) rfl)) rfl
theorem wd_137 : (.code yX0_init cX0_init 1 none) ∈ wU := mU (tin_1 _ (List.mem_of_getElem? (i := 176) rfl)) rfl
theorem wd_138 : (Cond.instanceMethod yX0_init) ∈ wU := mU (tin_1 _ (List.mem_of_getElem? (i := 175) rfl)) rfl
theorem wd_139 : (Cond.fieldLink "SpineTables" 64 "SpineTables" "assembler" "LSpineTables$Assembler;") ∈ wU := mU (tin_2 _ (List.mem_of_getElem? (i := 19) rfl)) rfl
theorem wd_140 : (Cond.classLink "SpineTables" 68 "SpineTables$Extractor") ∈ wU := mU (tin_1 _ (List.mem_of_getElem? (i := 214) rfl)) rfl
theorem wd_141 : (Cond.instantiable "SpineTables$Extractor" 1) ∈ wU := mU (tin_1 _ (List.mem_of_getElem? (i := 215) rfl)) rfl
theorem wd_142 : (Cond.initialized "SpineTables$Extractor") ∈ wU := mU (tin_1 _ (List.mem_of_getElem? (i := 8) rfl)) rfl
theorem wd_143 : (.code yX2_init cX2_init 1 none) ∈ wU := mU (tin_1 _ (List.mem_of_getElem? (i := 218) rfl)) rfl
theorem wd_144 : (Cond.instanceMethod yX2_init) ∈ wU := mU (tin_1 _ (List.mem_of_getElem? (i := 217) rfl)) rfl
theorem wd_145 : (Cond.fieldLink "SpineTables" 71 "SpineTables" "extractor" "LSpineTables$Extractor;") ∈ wU := mU (tin_2 _ (List.mem_of_getElem? (i := 20) rfl)) rfl
theorem wd_146 : (Cond.classLink "SpineTables" 75 "SpineTables$BarCheck") ∈ wU := mU (tin_1 _ (List.mem_of_getElem? (i := 224) rfl)) rfl
theorem wd_147 : (Cond.instantiable "SpineTables$BarCheck" 5) ∈ wU := mU (tin_1 _ (List.mem_of_getElem? (i := 225) rfl)) rfl
theorem wd_148 : (Cond.initialized "SpineTables$BarCheck") ∈ wU := mU (tin_1 _ (List.mem_of_getElem? (i := 9) rfl)) rfl
theorem wd_149 : (.code yX1_init cX1_init 1 none) ∈ wU := mU (tin_1 _ (List.mem_of_getElem? (i := 228) rfl)) rfl
theorem wd_150 : (Cond.instanceMethod yX1_init) ∈ wU := mU (tin_1 _ (List.mem_of_getElem? (i := 227) rfl)) rfl
theorem wd_151 : (Cond.fieldLink "SpineTables" 78 "SpineTables" "barCheck" "LSpineTables$BarCheck;") ∈ wU := mU (tin_2 _ (List.mem_of_getElem? (i := 21) rfl)) rfl
theorem wd_152 : (Cond.methodLink "SpineTablesModel" 1 ⟨"java/lang/Object", "<init>", "()V"⟩) ∈ wU := mU (tin_6 _ (List.mem_of_getElem? (i := 122) rfl)) rfl
theorem wd_153 : (Cond.fieldLink "SpineTablesModel" 7 "SpineTablesModel" "tape" "[I") ∈ wU := mU (tin_6 _ (List.mem_of_getElem? (i := 124) rfl)) rfl
theorem wd_154 : (Cond.fieldLink "SpineTablesModel" 13 "SpineTablesModel" "out" "[I") ∈ wU := mU (tin_6 _ (List.mem_of_getElem? (i := 129) rfl)) rfl
theorem wd_155 : (Cond.fieldLink "SpineTablesModel" 16 "SpineTablesModel" "used" "[Z") ∈ wU := mU (tin_6 _ (List.mem_of_getElem? (i := 131) rfl)) rfl
theorem wd_156 : (Cond.fieldLink "SpineTablesModel" 20 "SpineTablesModel" "text" "[I") ∈ wU := mU (tin_6 _ (List.mem_of_getElem? (i := 132) rfl)) rfl
theorem wd_157 : (Cond.fieldLink "SpineTablesModel" 23 "SpineTablesModel" "sizes" "[I") ∈ wU := mU (tin_6 _ (List.mem_of_getElem? (i := 133) rfl)) rfl
theorem wd_158 : (Cond.fieldLink "SpineTablesModel" 26 "SpineTablesModel" "rows" "[I") ∈ wU := mU (tin_6 _ (List.mem_of_getElem? (i := 134) rfl)) rfl
theorem wd_159 : (Cond.fieldLink "SpineTablesModel" 29 "SpineTablesModel" "kinds" "[I") ∈ wU := mU (tin_6 _ (List.mem_of_getElem? (i := 135) rfl)) rfl
theorem wd_160 : (Cond.arrayClass .long) ∈ wU := mU (tin_7 _ (List.mem_of_getElem? (i := 22) rfl)) rfl
theorem wd_161 : (Cond.fieldLink "SpineTablesModel" 32 "SpineTablesModel" "names" "[J") ∈ wU := mU (tin_6 _ (List.mem_of_getElem? (i := 136) rfl)) rfl
theorem wd_162 : (Cond.fieldLink "SpineTablesModel" 36 "SpineTablesModel" "numbers" "[I") ∈ wU := mU (tin_6 _ (List.mem_of_getElem? (i := 137) rfl)) rfl
theorem wd_163 : (Cond.fieldLink "SpineTablesModel" 39 "SpineTablesModel" "kindOf" "[I") ∈ wU := mU (tin_6 _ (List.mem_of_getElem? (i := 138) rfl)) rfl
theorem wd_164 : (Cond.fieldLink "SpineTablesModel" 42 "SpineTablesModel" "makerKind" "[I") ∈ wU := mU (tin_6 _ (List.mem_of_getElem? (i := 139) rfl)) rfl
theorem wd_165 : (Cond.fieldLink "SpineTablesModel" 45 "SpineTablesModel" "sorts" "[I") ∈ wU := mU (tin_6 _ (List.mem_of_getElem? (i := 140) rfl)) rfl
theorem wd_166 : (Cond.fieldLink "SpineTablesModel" 48 "SpineTablesModel" "starts" "[I") ∈ wU := mU (tin_6 _ (List.mem_of_getElem? (i := 141) rfl)) rfl
theorem wd_167 : (Cond.fieldLink "SpineTablesModel" 51 "SpineTablesModel" "stops" "[I") ∈ wU := mU (tin_6 _ (List.mem_of_getElem? (i := 142) rfl)) rfl
theorem wd_168 : (Cond.fieldLink "SpineTablesModel" 54 "SpineTablesModel" "widths" "[I") ∈ wU := mU (tin_6 _ (List.mem_of_getElem? (i := 143) rfl)) rfl
theorem wd_169 : (Cond.fieldLink "SpineTablesModel" 57 "SpineTablesModel" "young" "[I") ∈ wU := mU (tin_6 _ (List.mem_of_getElem? (i := 144) rfl)) rfl
theorem wd_170 : (Cond.fieldLink "SpineTablesModel" 60 "SpineTablesModel" "ups" "[J") ∈ wU := mU (tin_6 _ (List.mem_of_getElem? (i := 145) rfl)) rfl
theorem wd_171 : (Cond.fieldLink "SpineTablesModel" 63 "SpineTablesModel" "downs" "[J") ∈ wU := mU (tin_6 _ (List.mem_of_getElem? (i := 146) rfl)) rfl
theorem wd_172 : (Cond.fieldLink "SpineTablesModel" 66 "SpineTablesModel" "tokenAt" "[I") ∈ wU := mU (tin_6 _ (List.mem_of_getElem? (i := 147) rfl)) rfl
theorem wd_173 : (Cond.fieldLink "SpineTablesModel" 69 "SpineTablesModel" "tokenEnd" "[I") ∈ wU := mU (tin_6 _ (List.mem_of_getElem? (i := 148) rfl)) rfl
theorem wd_174 : (Cond.fieldLink "SpineTablesModel" 72 "SpineTablesModel" "strand" "[I") ∈ wU := mU (tin_6 _ (List.mem_of_getElem? (i := 149) rfl)) rfl
theorem wd_175 : (Cond.fieldLink "SpineTablesModel" 75 "SpineTablesModel" "held" "[I") ∈ wU := mU (tin_6 _ (List.mem_of_getElem? (i := 150) rfl)) rfl
theorem wd_176 : (Cond.fieldLink "SpineTablesModel" 78 "SpineTablesModel" "misfits" "[I") ∈ wU := mU (tin_6 _ (List.mem_of_getElem? (i := 151) rfl)) rfl
theorem wd_177 : (Cond.fieldLink "SpineTablesModel" 81 "SpineTablesModel" "misfitRows" "[I") ∈ wU := mU (tin_6 _ (List.mem_of_getElem? (i := 152) rfl)) rfl
theorem wd_178 : (Cond.fieldLink "SpineTablesModel" 84 "SpineTablesModel" "nowStrand" "[I") ∈ wU := mU (tin_6 _ (List.mem_of_getElem? (i := 154) rfl)) rfl
theorem wd_179 : (Cond.fieldLink "SpineTablesModel" 87 "SpineTablesModel" "nowHeld" "[I") ∈ wU := mU (tin_6 _ (List.mem_of_getElem? (i := 155) rfl)) rfl
theorem wd_180 : (Cond.fieldLink "SpineTablesModel" 90 "SpineTablesModel" "nowUp" "[J") ∈ wU := mU (tin_6 _ (List.mem_of_getElem? (i := 156) rfl)) rfl
theorem wd_181 : (Cond.fieldLink "SpineTablesModel" 93 "SpineTablesModel" "nowDown" "[J") ∈ wU := mU (tin_6 _ (List.mem_of_getElem? (i := 157) rfl)) rfl
theorem wd_182 : (Cond.fieldLink "SpineTablesModel" 96 "SpineTablesModel" "thenStrand" "[I") ∈ wU := mU (tin_6 _ (List.mem_of_getElem? (i := 159) rfl)) rfl
theorem wd_183 : (Cond.fieldLink "SpineTablesModel" 99 "SpineTablesModel" "thenHeld" "[I") ∈ wU := mU (tin_6 _ (List.mem_of_getElem? (i := 160) rfl)) rfl
theorem wd_184 : (Cond.fieldLink "SpineTablesModel" 102 "SpineTablesModel" "thenUp" "[J") ∈ wU := mU (tin_6 _ (List.mem_of_getElem? (i := 161) rfl)) rfl
theorem wd_185 : (Cond.fieldLink "SpineTablesModel" 105 "SpineTablesModel" "thenDown" "[J") ∈ wU := mU (tin_6 _ (List.mem_of_getElem? (i := 162) rfl)) rfl
theorem wd_186 : (Cond.fieldLink "SpineTablesModel" 108 "SpineTablesModel" "made" "[I") ∈ wU := mU (tin_6 _ (List.mem_of_getElem? (i := 166) rfl)) rfl
theorem wd_187 : (.code yX11_feedNumber cX11_feedNumber 3 none) ∈ wU := mU (tin_2 _ (List.mem_of_getElem? (i := 58) rfl)) rfl
theorem wd_188 : (Cond.selects "SpineTables" yX11_feedNumber yX11_feedNumber) ∈ wU := mU (tin_0 _ (List.mem_of_getElem? (i := 0) rfl)) rfl
theorem wd_189 : (Cond.methodLink "SpineTables" 82 yX11_feedNumber) ∈ wU := mU (tin_2 _ (List.mem_of_getElem? (i := 55) rfl)) rfl
theorem wd_190 : (Cond.instanceMethod yX11_feedNumber) ∈ wU := mU (tin_2 _ (List.mem_of_getElem? (i := 57) rfl)) rfl
theorem wd_191 : (Cond.initialized "SpineTables") ∈ wU := mU (tin_1 _ (List.mem_of_getElem? (i := 1) rfl)) rfl
theorem wd_192 : (Cond.classLink "SpineTables" 177 "java/lang/IndexOutOfBoundsException") ∈ wU := mU (tin_4 _ (List.mem_of_getElem? (i := 144) rfl)) rfl
theorem wd_193 : (Cond.initialized "java/lang/IndexOutOfBoundsException") ∈ wU := mU (tin_1 _ (List.mem_of_getElem? (i := 19) rfl)) rfl
theorem wd_194 : (.code yX11_tableAt cX11_tableAt 3 (some (.object "SpineTables$Table"))) ∈ wU := mU (tin_4 _ (List.mem_of_getElem? (i := 143) rfl)) rfl
theorem wd_195 : (Cond.selects "SpineTables" yX11_tableAt yX11_tableAt) ∈ wU := mU (tin_0 _ (List.mem_of_getElem? (i := 51) rfl)) rfl
theorem wd_196 : (Cond.methodLink "SpineTables" 115 yX11_tableAt) ∈ wU := mU (tin_4 _ (List.mem_of_getElem? (i := 140) rfl)) rfl
theorem wd_197 : (Cond.instanceMethod yX11_tableAt) ∈ wU := mU (tin_4 _ (List.mem_of_getElem? (i := 142) rfl)) rfl
theorem wd_198 : (.code yX11_drop cX11_drop 3 (some .int)) ∈ wU := mU (tin_4 _ (List.mem_of_getElem? (i := 139) rfl)) rfl
theorem wd_199 : (Cond.selects "SpineTables" yX11_drop yX11_drop) ∈ wU := mU (tin_4 _ (List.mem_of_getElem? (i := 138) rfl)) rfl
theorem wd_200 : (Cond.methodLink "SpineTablesLaw" 7 yX11_drop) ∈ wU := mU (tin_4 _ (List.mem_of_getElem? (i := 136) rfl)) rfl
theorem wd_201 : (Cond.instanceMethod yX11_drop) ∈ wU := mU (tin_4 _ (List.mem_of_getElem? (i := 137) rfl)) rfl
theorem wd_202 : (Cond.classLink "SpineTablesLaw" 13 "java/lang/IndexOutOfBoundsException") ∈ wU := mU (tin_4 _ (List.mem_of_getElem? (i := 135) rfl)) rfl
theorem wd_203 : (.code yX11_told cX11_told 4 (some .int)) ∈ wU := mU (tin_4 _ (List.mem_of_getElem? (i := 218) rfl)) rfl
theorem wd_204 : (Cond.selects "SpineTables" yX11_told yX11_told) ∈ wU := mU (tin_4 _ (List.mem_of_getElem? (i := 217) rfl)) rfl
theorem wd_205 : (Cond.methodLink "SpineTablesLaw" 15 yX11_told) ∈ wU := mU (tin_4 _ (List.mem_of_getElem? (i := 215) rfl)) rfl
theorem wd_206 : (Cond.instanceMethod yX11_told) ∈ wU := mU (tin_4 _ (List.mem_of_getElem? (i := 216) rfl)) rfl
theorem wd_207 : (.code yX11_row cX11_row 5 (some .int)) ∈ wU := mU (tin_5 _ (List.mem_of_getElem? (i := 9) rfl)) rfl
theorem wd_208 : (Cond.selects "SpineTables" yX11_row yX11_row) ∈ wU := mU (tin_5 _ (List.mem_of_getElem? (i := 8) rfl)) rfl
theorem wd_209 : (Cond.methodLink "SpineTablesLaw" 21 yX11_row) ∈ wU := mU (tin_5 _ (List.mem_of_getElem? (i := 6) rfl)) rfl
theorem wd_210 : (Cond.instanceMethod yX11_row) ∈ wU := mU (tin_5 _ (List.mem_of_getElem? (i := 7) rfl)) rfl
theorem wd_211 : (.code yX11_strand cX11_strand 7 (some .int)) ∈ wU := mU (tin_5 _ (List.mem_of_getElem? (i := 26) rfl)) rfl
theorem wd_212 : (Cond.selects "SpineTables" yX11_strand yX11_strand) ∈ wU := mU (tin_5 _ (List.mem_of_getElem? (i := 25) rfl)) rfl
theorem wd_213 : (Cond.methodLink "SpineTablesLaw" 25 yX11_strand) ∈ wU := mU (tin_5 _ (List.mem_of_getElem? (i := 23) rfl)) rfl
theorem wd_214 : (Cond.instanceMethod yX11_strand) ∈ wU := mU (tin_5 _ (List.mem_of_getElem? (i := 24) rfl)) rfl
theorem wd_215 : (.code yX11_kind cX11_kind 5 (some .int)) ∈ wU := mU (tin_5 _ (List.mem_of_getElem? (i := 45) rfl)) rfl
theorem wd_216 : (Cond.selects "SpineTables" yX11_kind yX11_kind) ∈ wU := mU (tin_5 _ (List.mem_of_getElem? (i := 44) rfl)) rfl
theorem wd_217 : (Cond.methodLink "SpineTablesLaw" 29 yX11_kind) ∈ wU := mU (tin_5 _ (List.mem_of_getElem? (i := 42) rfl)) rfl
theorem wd_218 : (Cond.instanceMethod yX11_kind) ∈ wU := mU (tin_5 _ (List.mem_of_getElem? (i := 43) rfl)) rfl
theorem wd_219 : (.code yX11_token cX11_token 7 (some .int)) ∈ wU := mU (tin_5 _ (List.mem_of_getElem? (i := 61) rfl)) rfl
theorem wd_220 : (Cond.selects "SpineTables" yX11_token yX11_token) ∈ wU := mU (tin_5 _ (List.mem_of_getElem? (i := 60) rfl)) rfl
theorem wd_221 : (Cond.methodLink "SpineTablesLaw" 32 yX11_token) ∈ wU := mU (tin_5 _ (List.mem_of_getElem? (i := 58) rfl)) rfl
theorem wd_222 : (Cond.instanceMethod yX11_token) ∈ wU := mU (tin_5 _ (List.mem_of_getElem? (i := 59) rfl)) rfl
theorem wd_223 : (.code yX11_walk cX11_walk 2 (some .int)) ∈ wU := mU (tin_5 _ (List.mem_of_getElem? (i := 80) rfl)) rfl
theorem wd_224 : (Cond.selects "SpineTables" yX11_walk yX11_walk) ∈ wU := mU (tin_5 _ (List.mem_of_getElem? (i := 79) rfl)) rfl
theorem wd_225 : (Cond.methodLink "SpineTablesLaw" 35 yX11_walk) ∈ wU := mU (tin_5 _ (List.mem_of_getElem? (i := 77) rfl)) rfl
theorem wd_226 : (Cond.instanceMethod yX11_walk) ∈ wU := mU (tin_5 _ (List.mem_of_getElem? (i := 78) rfl)) rfl
theorem wd_227 : (.code yX11_misfit cX11_misfit 2 (some .int)) ∈ wU := mU (tin_5 _ (List.mem_of_getElem? (i := 87) rfl)) rfl
theorem wd_228 : (Cond.selects "SpineTables" yX11_misfit yX11_misfit) ∈ wU := mU (tin_5 _ (List.mem_of_getElem? (i := 86) rfl)) rfl
theorem wd_229 : (Cond.methodLink "SpineTablesLaw" 38 yX11_misfit) ∈ wU := mU (tin_5 _ (List.mem_of_getElem? (i := 84) rfl)) rfl
theorem wd_230 : (Cond.instanceMethod yX11_misfit) ∈ wU := mU (tin_5 _ (List.mem_of_getElem? (i := 85) rfl)) rfl
theorem wd_231 : (.code yX11_time cX11_time 5 (some .int)) ∈ wU := mU (tin_5 _ (List.mem_of_getElem? (i := 95) rfl)) rfl
theorem wd_232 : (Cond.selects "SpineTables" yX11_time yX11_time) ∈ wU := mU (tin_5 _ (List.mem_of_getElem? (i := 94) rfl)) rfl
theorem wd_233 : (Cond.methodLink "SpineTablesLaw" 41 yX11_time) ∈ wU := mU (tin_5 _ (List.mem_of_getElem? (i := 92) rfl)) rfl
theorem wd_234 : (Cond.instanceMethod yX11_time) ∈ wU := mU (tin_5 _ (List.mem_of_getElem? (i := 93) rfl)) rfl
theorem wd_235 : (.code yX11_length cX11_length 7 (some .int)) ∈ wU := mU (tin_5 _ (List.mem_of_getElem? (i := 129) rfl)) rfl
theorem wd_236 : (Cond.selects "SpineTables" yX11_length yX11_length) ∈ wU := mU (tin_5 _ (List.mem_of_getElem? (i := 128) rfl)) rfl
theorem wd_237 : (Cond.methodLink "SpineTablesLaw" 46 yX11_length) ∈ wU := mU (tin_5 _ (List.mem_of_getElem? (i := 126) rfl)) rfl
theorem wd_238 : (Cond.instanceMethod yX11_length) ∈ wU := mU (tin_5 _ (List.mem_of_getElem? (i := 127) rfl)) rfl
theorem wd_239 : (.code yX11_bars cX11_bars 3 (some .int)) ∈ wU := mU (tin_5 _ (List.mem_of_getElem? (i := 139) rfl)) rfl
theorem wd_240 : (Cond.selects "SpineTables" yX11_bars yX11_bars) ∈ wU := mU (tin_5 _ (List.mem_of_getElem? (i := 138) rfl)) rfl
theorem wd_241 : (Cond.methodLink "SpineTablesLaw" 49 yX11_bars) ∈ wU := mU (tin_5 _ (List.mem_of_getElem? (i := 136) rfl)) rfl
theorem wd_242 : (Cond.instanceMethod yX11_bars) ∈ wU := mU (tin_5 _ (List.mem_of_getElem? (i := 137) rfl)) rfl
theorem wd_243 : (.code yX11_extract cX11_extract 7 (some .int)) ∈ wU := mU (tin_5 _ (List.mem_of_getElem? (i := 172) rfl)) rfl
theorem wd_244 : (Cond.selects "SpineTables" yX11_extract yX11_extract) ∈ wU := mU (tin_5 _ (List.mem_of_getElem? (i := 171) rfl)) rfl
theorem wd_245 : (Cond.methodLink "SpineTablesLaw" 52 yX11_extract) ∈ wU := mU (tin_5 _ (List.mem_of_getElem? (i := 169) rfl)) rfl
theorem wd_246 : (Cond.instanceMethod yX11_extract) ∈ wU := mU (tin_5 _ (List.mem_of_getElem? (i := 170) rfl)) rfl
theorem wd_247 : (.code yX11_assemble cX11_assemble 7 (some .int)) ∈ wU := mU (tin_5 _ (List.mem_of_getElem? (i := 239) rfl)) rfl
theorem wd_248 : (Cond.selects "SpineTables" yX11_assemble yX11_assemble) ∈ wU := mU (tin_5 _ (List.mem_of_getElem? (i := 238) rfl)) rfl
theorem wd_249 : (Cond.methodLink "SpineTablesLaw" 55 yX11_assemble) ∈ wU := mU (tin_5 _ (List.mem_of_getElem? (i := 236) rfl)) rfl
theorem wd_250 : (Cond.instanceMethod yX11_assemble) ∈ wU := mU (tin_5 _ (List.mem_of_getElem? (i := 237) rfl)) rfl
theorem wd_251 : (.code yX11_same cX11_same 5 (some .boolean)) ∈ wU := mU (tin_6 _ (List.mem_of_getElem? (i := 100) rfl)) rfl
theorem wd_252 : (Cond.selects "SpineTables" yX11_same yX11_same) ∈ wU := mU (tin_6 _ (List.mem_of_getElem? (i := 99) rfl)) rfl
theorem wd_253 : (Cond.methodLink "SpineTablesLaw" 58 yX11_same) ∈ wU := mU (tin_6 _ (List.mem_of_getElem? (i := 97) rfl)) rfl
theorem wd_254 : (Cond.instanceMethod yX11_same) ∈ wU := mU (tin_6 _ (List.mem_of_getElem? (i := 98) rfl)) rfl
theorem wd_255 : (.code yX11_write cX11_write 3 (some .int)) ∈ wU := mU (tin_6 _ (List.mem_of_getElem? (i := 112) rfl)) rfl
theorem wd_256 : (Cond.selects "SpineTables" yX11_write yX11_write) ∈ wU := mU (tin_6 _ (List.mem_of_getElem? (i := 111) rfl)) rfl
theorem wd_257 : (Cond.methodLink "SpineTablesLaw" 62 yX11_write) ∈ wU := mU (tin_6 _ (List.mem_of_getElem? (i := 109) rfl)) rfl
theorem wd_258 : (Cond.instanceMethod yX11_write) ∈ wU := mU (tin_6 _ (List.mem_of_getElem? (i := 110) rfl)) rfl
theorem dL_assemble_0 : decode cL_assemble 0 = .ok (.aload_n 3, 1) := by decide +kernel
theorem dL_assemble_1 : decode cL_assemble 1 = .ok (.iconst 0, 1) := by decide +kernel
theorem dL_assemble_2 : decode cL_assemble 2 = .ok (.aload_n 0, 1) := by decide +kernel
theorem dL_assemble_3 : decode cL_assemble 3 = .ok (.iload_n 1, 1) := by decide +kernel
theorem dL_assemble_4 : decode cL_assemble 4 = .ok (.iload_n 2, 1) := by decide +kernel
theorem dL_assemble_5 : decode cL_assemble 5 = .ok (.invokevirtual 55, 3) := by decide +kernel
theorem dL_assemble_13 : decode cL_assemble 13 = .ok (.astore 4, 2) := by decide +kernel
theorem dL_assemble_15 : decode cL_assemble 15 = .ok (.iconst 1, 1) := by decide +kernel
theorem dL_assemble_16 : decode cL_assemble 16 = .ok (.ireturn, 1) := by decide +kernel
theorem dL_bars_0 : decode cL_bars 0 = .ok (.aload_n 2, 1) := by decide +kernel
theorem dL_bars_1 : decode cL_bars 1 = .ok (.iconst 0, 1) := by decide +kernel
theorem dL_bars_2 : decode cL_bars 2 = .ok (.aload_n 0, 1) := by decide +kernel
theorem dL_bars_3 : decode cL_bars 3 = .ok (.iload_n 1, 1) := by decide +kernel
theorem dL_bars_4 : decode cL_bars 4 = .ok (.invokevirtual 49, 3) := by decide +kernel
theorem dL_bars_12 : decode cL_bars 12 = .ok (.astore_n 3, 1) := by decide +kernel
theorem dL_bars_13 : decode cL_bars 13 = .ok (.iconst 1, 1) := by decide +kernel
theorem dL_bars_14 : decode cL_bars 14 = .ok (.ireturn, 1) := by decide +kernel
theorem dL_drop_0 : decode cL_drop 0 = .ok (.aload_n 2, 1) := by decide +kernel
theorem dL_drop_1 : decode cL_drop 1 = .ok (.iconst 0, 1) := by decide +kernel
theorem dL_drop_2 : decode cL_drop 2 = .ok (.aload_n 0, 1) := by decide +kernel
theorem dL_drop_3 : decode cL_drop 3 = .ok (.iload_n 1, 1) := by decide +kernel
theorem dL_drop_4 : decode cL_drop 4 = .ok (.invokevirtual 7, 3) := by decide +kernel
theorem dL_drop_12 : decode cL_drop 12 = .ok (.astore_n 3, 1) := by decide +kernel
theorem dL_drop_13 : decode cL_drop 13 = .ok (.iconst 1, 1) := by decide +kernel
theorem dL_drop_14 : decode cL_drop 14 = .ok (.ireturn, 1) := by decide +kernel
theorem dL_extract_0 : decode cL_extract 0 = .ok (.aload_n 2, 1) := by decide +kernel
theorem dL_extract_1 : decode cL_extract 1 = .ok (.iconst 0, 1) := by decide +kernel
theorem dL_extract_2 : decode cL_extract 2 = .ok (.aload_n 0, 1) := by decide +kernel
theorem dL_extract_3 : decode cL_extract 3 = .ok (.iload_n 1, 1) := by decide +kernel
theorem dL_extract_4 : decode cL_extract 4 = .ok (.invokevirtual 52, 3) := by decide +kernel
theorem dL_extract_12 : decode cL_extract 12 = .ok (.astore_n 3, 1) := by decide +kernel
theorem dL_extract_13 : decode cL_extract 13 = .ok (.iconst 1, 1) := by decide +kernel
theorem dL_extract_14 : decode cL_extract 14 = .ok (.ireturn, 1) := by decide +kernel
theorem dL_kind_0 : decode cL_kind 0 = .ok (.aload 4, 2) := by decide +kernel
theorem dL_kind_2 : decode cL_kind 2 = .ok (.iconst 0, 1) := by decide +kernel
theorem dL_kind_3 : decode cL_kind 3 = .ok (.aload_n 0, 1) := by decide +kernel
theorem dL_kind_4 : decode cL_kind 4 = .ok (.iload_n 1, 1) := by decide +kernel
theorem dL_kind_5 : decode cL_kind 5 = .ok (.iload_n 2, 1) := by decide +kernel
theorem dL_kind_6 : decode cL_kind 6 = .ok (.iload_n 3, 1) := by decide +kernel
theorem dL_kind_7 : decode cL_kind 7 = .ok (.invokevirtual 29, 3) := by decide +kernel
theorem dL_kind_15 : decode cL_kind 15 = .ok (.astore 5, 2) := by decide +kernel
theorem dL_kind_17 : decode cL_kind 17 = .ok (.iconst 1, 1) := by decide +kernel
theorem dL_kind_18 : decode cL_kind 18 = .ok (.ireturn, 1) := by decide +kernel
theorem dL_length_0 : decode cL_length 0 = .ok (.aload 5, 2) := by decide +kernel
theorem dL_length_2 : decode cL_length 2 = .ok (.iconst 0, 1) := by decide +kernel
theorem dL_length_3 : decode cL_length 3 = .ok (.aload_n 0, 1) := by decide +kernel
theorem dL_length_4 : decode cL_length 4 = .ok (.iload_n 1, 1) := by decide +kernel
theorem dL_length_5 : decode cL_length 5 = .ok (.iload_n 2, 1) := by decide +kernel
theorem dL_length_6 : decode cL_length 6 = .ok (.iload_n 3, 1) := by decide +kernel
theorem dL_length_7 : decode cL_length 7 = .ok (.iload 4, 2) := by decide +kernel
theorem dL_length_9 : decode cL_length 9 = .ok (.invokevirtual 46, 3) := by decide +kernel
theorem dL_length_17 : decode cL_length 17 = .ok (.astore 6, 2) := by decide +kernel
theorem dL_length_19 : decode cL_length 19 = .ok (.iconst 1, 1) := by decide +kernel
theorem dL_length_20 : decode cL_length 20 = .ok (.ireturn, 1) := by decide +kernel
theorem dL_misfit_0 : decode cL_misfit 0 = .ok (.aload_n 2, 1) := by decide +kernel
theorem dL_misfit_1 : decode cL_misfit 1 = .ok (.iconst 0, 1) := by decide +kernel
theorem dL_misfit_2 : decode cL_misfit 2 = .ok (.aload_n 0, 1) := by decide +kernel
theorem dL_misfit_3 : decode cL_misfit 3 = .ok (.iload_n 1, 1) := by decide +kernel
theorem dL_misfit_4 : decode cL_misfit 4 = .ok (.invokevirtual 38, 3) := by decide +kernel
theorem dL_misfit_12 : decode cL_misfit 12 = .ok (.astore_n 3, 1) := by decide +kernel
theorem dL_misfit_13 : decode cL_misfit 13 = .ok (.iconst 1, 1) := by decide +kernel
theorem dL_misfit_14 : decode cL_misfit 14 = .ok (.ireturn, 1) := by decide +kernel
theorem dL_row_0 : decode cL_row 0 = .ok (.aload 4, 2) := by decide +kernel
theorem dL_row_2 : decode cL_row 2 = .ok (.iconst 0, 1) := by decide +kernel
theorem dL_row_3 : decode cL_row 3 = .ok (.aload_n 0, 1) := by decide +kernel
theorem dL_row_4 : decode cL_row 4 = .ok (.iload_n 1, 1) := by decide +kernel
theorem dL_row_5 : decode cL_row 5 = .ok (.iload_n 2, 1) := by decide +kernel
theorem dL_row_6 : decode cL_row 6 = .ok (.iload_n 3, 1) := by decide +kernel
theorem dL_row_7 : decode cL_row 7 = .ok (.invokevirtual 21, 3) := by decide +kernel
theorem dL_row_15 : decode cL_row 15 = .ok (.astore 5, 2) := by decide +kernel
theorem dL_row_17 : decode cL_row 17 = .ok (.iconst 1, 1) := by decide +kernel
theorem dL_row_18 : decode cL_row 18 = .ok (.ireturn, 1) := by decide +kernel
theorem dL_same_0 : decode cL_same 0 = .ok (.aload_n 3, 1) := by decide +kernel
theorem dL_same_1 : decode cL_same 1 = .ok (.iconst 0, 1) := by decide +kernel
theorem dL_same_2 : decode cL_same 2 = .ok (.aload_n 0, 1) := by decide +kernel
theorem dL_same_3 : decode cL_same 3 = .ok (.iload_n 1, 1) := by decide +kernel
theorem dL_same_4 : decode cL_same 4 = .ok (.iload_n 2, 1) := by decide +kernel
theorem dL_same_5 : decode cL_same 5 = .ok (.invokevirtual 58, 3) := by decide +kernel
theorem dL_same_20 : decode cL_same 20 = .ok (.astore 4, 2) := by decide +kernel
theorem dL_same_22 : decode cL_same 22 = .ok (.iconst 1, 1) := by decide +kernel
theorem dL_same_23 : decode cL_same 23 = .ok (.ireturn, 1) := by decide +kernel
theorem dL_strand_0 : decode cL_strand 0 = .ok (.aload 5, 2) := by decide +kernel
theorem dL_strand_2 : decode cL_strand 2 = .ok (.iconst 0, 1) := by decide +kernel
theorem dL_strand_3 : decode cL_strand 3 = .ok (.aload_n 0, 1) := by decide +kernel
theorem dL_strand_4 : decode cL_strand 4 = .ok (.iload_n 1, 1) := by decide +kernel
theorem dL_strand_5 : decode cL_strand 5 = .ok (.iload_n 2, 1) := by decide +kernel
theorem dL_strand_6 : decode cL_strand 6 = .ok (.iload_n 3, 1) := by decide +kernel
theorem dL_strand_7 : decode cL_strand 7 = .ok (.iload 4, 2) := by decide +kernel
theorem dL_strand_9 : decode cL_strand 9 = .ok (.invokevirtual 25, 3) := by decide +kernel
theorem dL_strand_17 : decode cL_strand 17 = .ok (.astore 6, 2) := by decide +kernel
theorem dL_strand_19 : decode cL_strand 19 = .ok (.iconst 1, 1) := by decide +kernel
theorem dL_strand_20 : decode cL_strand 20 = .ok (.ireturn, 1) := by decide +kernel
theorem dL_time_0 : decode cL_time 0 = .ok (.aload 4, 2) := by decide +kernel
theorem dL_time_2 : decode cL_time 2 = .ok (.iconst 0, 1) := by decide +kernel
theorem dL_time_3 : decode cL_time 3 = .ok (.aload_n 0, 1) := by decide +kernel
theorem dL_time_4 : decode cL_time 4 = .ok (.iload_n 1, 1) := by decide +kernel
theorem dL_time_5 : decode cL_time 5 = .ok (.iload_n 2, 1) := by decide +kernel
theorem dL_time_6 : decode cL_time 6 = .ok (.iload_n 3, 1) := by decide +kernel
theorem dL_time_7 : decode cL_time 7 = .ok (.invokevirtual 41, 3) := by decide +kernel
theorem dL_time_15 : decode cL_time 15 = .ok (.astore 5, 2) := by decide +kernel
theorem dL_time_17 : decode cL_time 17 = .ok (.iconst 1, 1) := by decide +kernel
theorem dL_time_18 : decode cL_time 18 = .ok (.ireturn, 1) := by decide +kernel
theorem dL_token_0 : decode cL_token 0 = .ok (.aload 5, 2) := by decide +kernel
theorem dL_token_2 : decode cL_token 2 = .ok (.iconst 0, 1) := by decide +kernel
theorem dL_token_3 : decode cL_token 3 = .ok (.aload_n 0, 1) := by decide +kernel
theorem dL_token_4 : decode cL_token 4 = .ok (.iload_n 1, 1) := by decide +kernel
theorem dL_token_5 : decode cL_token 5 = .ok (.iload_n 2, 1) := by decide +kernel
theorem dL_token_6 : decode cL_token 6 = .ok (.iload_n 3, 1) := by decide +kernel
theorem dL_token_7 : decode cL_token 7 = .ok (.iload 4, 2) := by decide +kernel
theorem dL_token_9 : decode cL_token 9 = .ok (.invokevirtual 32, 3) := by decide +kernel
theorem dL_token_17 : decode cL_token 17 = .ok (.astore 6, 2) := by decide +kernel
theorem dL_token_19 : decode cL_token 19 = .ok (.iconst 1, 1) := by decide +kernel
theorem dL_token_20 : decode cL_token 20 = .ok (.ireturn, 1) := by decide +kernel
theorem dL_told_0 : decode cL_told 0 = .ok (.aload_n 3, 1) := by decide +kernel
theorem dL_told_1 : decode cL_told 1 = .ok (.iconst 0, 1) := by decide +kernel
theorem dL_told_2 : decode cL_told 2 = .ok (.aload_n 0, 1) := by decide +kernel
theorem dL_told_3 : decode cL_told 3 = .ok (.iload_n 1, 1) := by decide +kernel
theorem dL_told_4 : decode cL_told 4 = .ok (.iload_n 2, 1) := by decide +kernel
theorem dL_told_5 : decode cL_told 5 = .ok (.invokevirtual 15, 3) := by decide +kernel
theorem dL_told_13 : decode cL_told 13 = .ok (.astore 4, 2) := by decide +kernel
theorem dL_told_15 : decode cL_told 15 = .ok (.iconst 1, 1) := by decide +kernel
theorem dL_told_16 : decode cL_told 16 = .ok (.ireturn, 1) := by decide +kernel
theorem dL_walk_0 : decode cL_walk 0 = .ok (.aload_n 2, 1) := by decide +kernel
theorem dL_walk_1 : decode cL_walk 1 = .ok (.iconst 0, 1) := by decide +kernel
theorem dL_walk_2 : decode cL_walk 2 = .ok (.aload_n 0, 1) := by decide +kernel
theorem dL_walk_3 : decode cL_walk 3 = .ok (.iload_n 1, 1) := by decide +kernel
theorem dL_walk_4 : decode cL_walk 4 = .ok (.invokevirtual 35, 3) := by decide +kernel
theorem dL_walk_12 : decode cL_walk 12 = .ok (.astore_n 3, 1) := by decide +kernel
theorem dL_walk_13 : decode cL_walk 13 = .ok (.iconst 1, 1) := by decide +kernel
theorem dL_walk_14 : decode cL_walk 14 = .ok (.ireturn, 1) := by decide +kernel
theorem dL_write_0 : decode cL_write 0 = .ok (.aload_n 2, 1) := by decide +kernel
theorem dL_write_1 : decode cL_write 1 = .ok (.iconst 0, 1) := by decide +kernel
theorem dL_write_2 : decode cL_write 2 = .ok (.aload_n 0, 1) := by decide +kernel
theorem dL_write_3 : decode cL_write 3 = .ok (.iload_n 1, 1) := by decide +kernel
theorem dL_write_4 : decode cL_write 4 = .ok (.invokevirtual 62, 3) := by decide +kernel
theorem dL_write_12 : decode cL_write 12 = .ok (.astore_n 3, 1) := by decide +kernel
theorem dL_write_13 : decode cL_write 13 = .ok (.iconst 1, 1) := by decide +kernel
theorem dL_write_14 : decode cL_write 14 = .ok (.ireturn, 1) := by decide +kernel
theorem dX0_init_0 : decode cX0_init 0 = .ok (.aload_n 0, 1) := by decide +kernel
theorem dX0_init_1 : decode cX0_init 1 = .ok (.invokespecial 3, 3) := by decide +kernel
theorem dX0_init_4 : decode cX0_init 4 = .ok (.aload_n 0, 1) := by decide +kernel
theorem dX0_init_5 : decode cX0_init 5 = .ok (.new 9, 3) := by decide +kernel
theorem dX0_init_8 : decode cX0_init 8 = .ok (.dup, 1) := by decide +kernel
theorem dX0_init_9 : decode cX0_init 9 = .ok (.invokespecial 11, 3) := by decide +kernel
theorem dX0_init_12 : decode cX0_init 12 = .ok (.putfield 12, 3) := by decide +kernel
theorem dX0_init_15 : decode cX0_init 15 = .ok (.aload_n 0, 1) := by decide +kernel
theorem dX0_init_16 : decode cX0_init 16 = .ok (.new 9, 3) := by decide +kernel
theorem dX0_init_19 : decode cX0_init 19 = .ok (.dup, 1) := by decide +kernel
theorem dX0_init_20 : decode cX0_init 20 = .ok (.invokespecial 11, 3) := by decide +kernel
theorem dX0_init_23 : decode cX0_init 23 = .ok (.putfield 18, 3) := by decide +kernel
theorem dX0_init_26 : decode cX0_init 26 = .ok (.aload_n 0, 1) := by decide +kernel
theorem dX0_init_27 : decode cX0_init 27 = .ok (.aconst_null, 1) := by decide +kernel
theorem dX0_init_28 : decode cX0_init 28 = .ok (.putfield 21, 3) := by decide +kernel
theorem dX0_init_31 : decode cX0_init 31 = .ok (.return_, 1) := by decide +kernel
theorem dX11_assemble_0 : decode cX11_assemble 0 = .ok (.aload_n 0, 1) := by decide +kernel
theorem dX11_assemble_1 : decode cX11_assemble 1 = .ok (.iload_n 1, 1) := by decide +kernel
theorem dX11_assemble_2 : decode cX11_assemble 2 = .ok (.invokevirtual 115, 3) := by decide +kernel
theorem dX11_bars_0 : decode cX11_bars 0 = .ok (.aload_n 0, 1) := by decide +kernel
theorem dX11_bars_1 : decode cX11_bars 1 = .ok (.iload_n 1, 1) := by decide +kernel
theorem dX11_bars_2 : decode cX11_bars 2 = .ok (.invokevirtual 115, 3) := by decide +kernel
theorem dX11_cut_0 : decode cX11_cut 0 = .ok (.iload_n 1, 1) := by decide +kernel
theorem dX11_cut_1 : decode cX11_cut 1 = .ok (.ifCond .lt 11, 3) := by decide +kernel
theorem dX11_cut_4 : decode cX11_cut 4 = .ok (.iload_n 1, 1) := by decide +kernel
theorem dX11_cut_5 : decode cX11_cut 5 = .ok (.aload_n 0, 1) := by decide +kernel
theorem dX11_cut_6 : decode cX11_cut 6 = .ok (.getfield 13, 3) := by decide +kernel
theorem dX11_cut_9 : decode cX11_cut 9 = .ok (.if_icmp .le 5, 3) := by decide +kernel
theorem dX11_cut_12 : decode cX11_cut 12 = .ok (.iconst (-1), 1) := by decide +kernel
theorem dX11_cut_13 : decode cX11_cut 13 = .ok (.ireturn, 1) := by decide +kernel
theorem dX11_cut_14 : decode cX11_cut 14 = .ok (.aload_n 0, 1) := by decide +kernel
theorem dX11_cut_15 : decode cX11_cut 15 = .ok (.getfield 13, 3) := by decide +kernel
theorem dX11_cut_18 : decode cX11_cut 18 = .ok (.iload_n 1, 1) := by decide +kernel
theorem dX11_cut_19 : decode cX11_cut 19 = .ok (.isub, 1) := by decide +kernel
theorem dX11_cut_20 : decode cX11_cut 20 = .ok (.istore_n 2, 1) := by decide +kernel
theorem dX11_cut_21 : decode cX11_cut 21 = .ok (.aload_n 0, 1) := by decide +kernel
theorem dX11_cut_22 : decode cX11_cut 22 = .ok (.iload_n 1, 1) := by decide +kernel
theorem dX11_cut_23 : decode cX11_cut 23 = .ok (.putfield 13, 3) := by decide +kernel
theorem dX11_cut_26 : decode cX11_cut 26 = .ok (.iload_n 2, 1) := by decide +kernel
theorem dX11_cut_27 : decode cX11_cut 27 = .ok (.ireturn, 1) := by decide +kernel
theorem dX11_drop_0 : decode cX11_drop 0 = .ok (.aload_n 0, 1) := by decide +kernel
theorem dX11_drop_1 : decode cX11_drop 1 = .ok (.iload_n 1, 1) := by decide +kernel
theorem dX11_drop_2 : decode cX11_drop 2 = .ok (.invokevirtual 115, 3) := by decide +kernel
theorem dX11_extract_0 : decode cX11_extract 0 = .ok (.aload_n 0, 1) := by decide +kernel
theorem dX11_extract_1 : decode cX11_extract 1 = .ok (.iload_n 1, 1) := by decide +kernel
theorem dX11_extract_2 : decode cX11_extract 2 = .ok (.invokevirtual 115, 3) := by decide +kernel
theorem dX11_fault_0 : decode cX11_fault 0 = .ok (.aload_n 0, 1) := by decide +kernel
theorem dX11_fault_1 : decode cX11_fault 1 = .ok (.getfield 23, 3) := by decide +kernel
theorem dX11_fault_4 : decode cX11_fault 4 = .ok (.ireturn, 1) := by decide +kernel
theorem dX11_feed_0 : decode cX11_feed 0 = .ok (.aload_n 0, 1) := by decide +kernel
theorem dX11_feed_1 : decode cX11_feed 1 = .ok (.getfield 13, 3) := by decide +kernel
theorem dX11_feed_4 : decode cX11_feed 4 = .ok (.bipush 20, 2) := by decide +kernel
theorem dX11_feed_6 : decode cX11_feed 6 = .ok (.iadd, 1) := by decide +kernel
theorem dX11_feed_7 : decode cX11_feed 7 = .ok (.sipush 3000, 3) := by decide +kernel
theorem dX11_feed_10 : decode cX11_feed 10 = .ok (.if_icmp .le 5, 3) := by decide +kernel
theorem dX11_feed_15 : decode cX11_feed 15 = .ok (.aload_n 0, 1) := by decide +kernel
theorem dX11_feed_16 : decode cX11_feed 16 = .ok (.iload_n 1, 1) := by decide +kernel
theorem dX11_feed_17 : decode cX11_feed 17 = .ok (.invokevirtual 82, 3) := by decide +kernel
theorem dX11_feed_20 : decode cX11_feed 20 = .ok (.aload_n 0, 1) := by decide +kernel
theorem dX11_feed_21 : decode cX11_feed 21 = .ok (.iload_n 2, 1) := by decide +kernel
theorem dX11_feed_22 : decode cX11_feed 22 = .ok (.invokevirtual 82, 3) := by decide +kernel
theorem dX11_feed_25 : decode cX11_feed 25 = .ok (.aload_n 0, 1) := by decide +kernel
theorem dX11_feed_26 : decode cX11_feed 26 = .ok (.iload_n 3, 1) := by decide +kernel
theorem dX11_feed_27 : decode cX11_feed 27 = .ok (.invokevirtual 82, 3) := by decide +kernel
theorem dX11_feed_30 : decode cX11_feed 30 = .ok (.aload_n 0, 1) := by decide +kernel
theorem dX11_feed_31 : decode cX11_feed 31 = .ok (.iload 4, 2) := by decide +kernel
theorem dX11_feed_33 : decode cX11_feed 33 = .ok (.invokevirtual 82, 3) := by decide +kernel
theorem dX11_feed_36 : decode cX11_feed 36 = .ok (.aload_n 0, 1) := by decide +kernel
theorem dX11_feed_37 : decode cX11_feed 37 = .ok (.iload 5, 2) := by decide +kernel
theorem dX11_feed_39 : decode cX11_feed 39 = .ok (.invokevirtual 82, 3) := by decide +kernel
theorem dX11_feed_42 : decode cX11_feed 42 = .ok (.aload_n 0, 1) := by decide +kernel
theorem dX11_feed_43 : decode cX11_feed 43 = .ok (.getfield 13, 3) := by decide +kernel
theorem dX11_feed_46 : decode cX11_feed 46 = .ok (.ireturn, 1) := by decide +kernel
theorem dX11_feedNumber_0 : decode cX11_feedNumber 0 = .ok (.bipush 24, 2) := by decide +kernel
theorem dX11_feedNumber_2 : decode cX11_feedNumber 2 = .ok (.istore_n 2, 1) := by decide +kernel
theorem dX11_feedNumber_3 : decode cX11_feedNumber 3 = .ok (.iload_n 2, 1) := by decide +kernel
theorem dX11_feedNumber_4 : decode cX11_feedNumber 4 = .ok (.ifCond .lt 42, 3) := by decide +kernel
theorem dX11_feedNumber_7 : decode cX11_feedNumber 7 = .ok (.aload_n 0, 1) := by decide +kernel
theorem dX11_feedNumber_8 : decode cX11_feedNumber 8 = .ok (.getfield 13, 3) := by decide +kernel
theorem dX11_feedNumber_11 : decode cX11_feedNumber 11 = .ok (.sipush 3000, 3) := by decide +kernel
theorem dX11_feedNumber_14 : decode cX11_feedNumber 14 = .ok (.if_icmp .ge 32, 3) := by decide +kernel
theorem dX11_feedNumber_17 : decode cX11_feedNumber 17 = .ok (.aload_n 0, 1) := by decide +kernel
theorem dX11_feedNumber_18 : decode cX11_feedNumber 18 = .ok (.getfield 9, 3) := by decide +kernel
theorem dX11_feedNumber_21 : decode cX11_feedNumber 21 = .ok (.aload_n 0, 1) := by decide +kernel
theorem dX11_feedNumber_22 : decode cX11_feedNumber 22 = .ok (.getfield 13, 3) := by decide +kernel
theorem dX11_feedNumber_25 : decode cX11_feedNumber 25 = .ok (.iload_n 1, 1) := by decide +kernel
theorem dX11_feedNumber_26 : decode cX11_feedNumber 26 = .ok (.iload_n 2, 1) := by decide +kernel
theorem dX11_feedNumber_27 : decode cX11_feedNumber 27 = .ok (.ishr, 1) := by decide +kernel
theorem dX11_feedNumber_28 : decode cX11_feedNumber 28 = .ok (.i2b, 1) := by decide +kernel
theorem dX11_feedNumber_29 : decode cX11_feedNumber 29 = .ok (.bastore, 1) := by decide +kernel
theorem dX11_feedNumber_30 : decode cX11_feedNumber 30 = .ok (.aload_n 0, 1) := by decide +kernel
theorem dX11_feedNumber_31 : decode cX11_feedNumber 31 = .ok (.dup, 1) := by decide +kernel
theorem dX11_feedNumber_32 : decode cX11_feedNumber 32 = .ok (.getfield 13, 3) := by decide +kernel
theorem dX11_feedNumber_35 : decode cX11_feedNumber 35 = .ok (.iconst 1, 1) := by decide +kernel
theorem dX11_feedNumber_36 : decode cX11_feedNumber 36 = .ok (.iadd, 1) := by decide +kernel
theorem dX11_feedNumber_37 : decode cX11_feedNumber 37 = .ok (.putfield 13, 3) := by decide +kernel
theorem dX11_feedNumber_40 : decode cX11_feedNumber 40 = .ok (.iinc 2 (-8), 3) := by decide +kernel
theorem dX11_feedNumber_43 : decode cX11_feedNumber 43 = .ok (.goto (-40), 3) := by decide +kernel
theorem dX11_feedNumber_46 : decode cX11_feedNumber 46 = .ok (.return_, 1) := by decide +kernel
theorem dX11_freePlace_0 : decode cX11_freePlace 0 = .ok (.iconst 0, 1) := by decide +kernel
theorem dX11_freePlace_1 : decode cX11_freePlace 1 = .ok (.istore_n 1, 1) := by decide +kernel
theorem dX11_freePlace_2 : decode cX11_freePlace 2 = .ok (.iload_n 1, 1) := by decide +kernel
theorem dX11_freePlace_3 : decode cX11_freePlace 3 = .ok (.bipush 8, 2) := by decide +kernel
theorem dX11_freePlace_5 : decode cX11_freePlace 5 = .ok (.if_icmp .ge 20, 3) := by decide +kernel
theorem dX11_freePlace_8 : decode cX11_freePlace 8 = .ok (.aload_n 0, 1) := by decide +kernel
theorem dX11_freePlace_9 : decode cX11_freePlace 9 = .ok (.getfield 32, 3) := by decide +kernel
theorem dX11_freePlace_12 : decode cX11_freePlace 12 = .ok (.iload_n 1, 1) := by decide +kernel
theorem dX11_freePlace_13 : decode cX11_freePlace 13 = .ok (.baload, 1) := by decide +kernel
theorem dX11_freePlace_14 : decode cX11_freePlace 14 = .ok (.ifCond .ne 5, 3) := by decide +kernel
theorem dX11_freePlace_17 : decode cX11_freePlace 17 = .ok (.iload_n 1, 1) := by decide +kernel
theorem dX11_freePlace_18 : decode cX11_freePlace 18 = .ok (.ireturn, 1) := by decide +kernel
theorem dX11_init_0 : decode cX11_init 0 = .ok (.aload_n 0, 1) := by decide +kernel
theorem dX11_init_1 : decode cX11_init 1 = .ok (.invokespecial 1, 3) := by decide +kernel
theorem dX11_init_4 : decode cX11_init 4 = .ok (.aload_n 0, 1) := by decide +kernel
theorem dX11_init_5 : decode cX11_init 5 = .ok (.sipush 3000, 3) := by decide +kernel
theorem dX11_init_8 : decode cX11_init 8 = .ok (.newarray .byte, 2) := by decide +kernel
theorem dX11_init_10 : decode cX11_init 10 = .ok (.putfield 9, 3) := by decide +kernel
theorem dX11_init_13 : decode cX11_init 13 = .ok (.aload_n 0, 1) := by decide +kernel
theorem dX11_init_14 : decode cX11_init 14 = .ok (.iconst 0, 1) := by decide +kernel
theorem dX11_init_15 : decode cX11_init 15 = .ok (.putfield 13, 3) := by decide +kernel
theorem dX11_init_18 : decode cX11_init 18 = .ok (.aload_n 0, 1) := by decide +kernel
theorem dX11_init_19 : decode cX11_init 19 = .ok (.sipush 3001, 3) := by decide +kernel
theorem dX11_init_22 : decode cX11_init 22 = .ok (.newarray .byte, 2) := by decide +kernel
theorem dX11_init_24 : decode cX11_init 24 = .ok (.putfield 17, 3) := by decide +kernel
theorem dX11_init_27 : decode cX11_init 27 = .ok (.aload_n 0, 1) := by decide +kernel
theorem dX11_init_28 : decode cX11_init 28 = .ok (.iconst 0, 1) := by decide +kernel
theorem dX11_init_29 : decode cX11_init 29 = .ok (.putfield 20, 3) := by decide +kernel
theorem dX11_init_32 : decode cX11_init 32 = .ok (.aload_n 0, 1) := by decide +kernel
theorem dX11_init_33 : decode cX11_init 33 = .ok (.iconst 0, 1) := by decide +kernel
theorem dX11_init_34 : decode cX11_init 34 = .ok (.putfield 23, 3) := by decide +kernel
theorem dX11_init_37 : decode cX11_init 37 = .ok (.aload_n 0, 1) := by decide +kernel
theorem dX11_init_38 : decode cX11_init 38 = .ok (.bipush 8, 2) := by decide +kernel
theorem dX11_init_40 : decode cX11_init 40 = .ok (.anewarray 26, 3) := by decide +kernel
theorem dX11_init_43 : decode cX11_init 43 = .ok (.putfield 28, 3) := by decide +kernel
theorem dX11_init_46 : decode cX11_init 46 = .ok (.aload_n 0, 1) := by decide +kernel
theorem dX11_init_47 : decode cX11_init 47 = .ok (.bipush 8, 2) := by decide +kernel
theorem dX11_init_49 : decode cX11_init 49 = .ok (.newarray .boolean, 2) := by decide +kernel
theorem dX11_init_51 : decode cX11_init 51 = .ok (.putfield 32, 3) := by decide +kernel
theorem dX11_init_54 : decode cX11_init 54 = .ok (.aload_n 0, 1) := by decide +kernel
theorem dX11_init_55 : decode cX11_init 55 = .ok (.aconst_null, 1) := by decide +kernel
theorem dX11_init_56 : decode cX11_init 56 = .ok (.putfield 36, 3) := by decide +kernel
theorem dX11_init_59 : decode cX11_init 59 = .ok (.aload_n 0, 1) := by decide +kernel
theorem dX11_init_60 : decode cX11_init 60 = .ok (.new 40, 3) := by decide +kernel
theorem dX11_init_63 : decode cX11_init 63 = .ok (.dup, 1) := by decide +kernel
theorem dX11_init_64 : decode cX11_init 64 = .ok (.invokespecial 42, 3) := by decide +kernel
theorem dX11_init_67 : decode cX11_init 67 = .ok (.putfield 43, 3) := by decide +kernel
theorem dX11_init_70 : decode cX11_init 70 = .ok (.aload_n 0, 1) := by decide +kernel
theorem dX11_init_71 : decode cX11_init 71 = .ok (.new 47, 3) := by decide +kernel
theorem dX11_init_74 : decode cX11_init 74 = .ok (.dup, 1) := by decide +kernel
theorem dX11_init_75 : decode cX11_init 75 = .ok (.invokespecial 49, 3) := by decide +kernel
theorem dX11_init_78 : decode cX11_init 78 = .ok (.putfield 50, 3) := by decide +kernel
theorem dX11_init_81 : decode cX11_init 81 = .ok (.aload_n 0, 1) := by decide +kernel
theorem dX11_init_82 : decode cX11_init 82 = .ok (.new 54, 3) := by decide +kernel
theorem dX11_init_85 : decode cX11_init 85 = .ok (.dup, 1) := by decide +kernel
theorem dX11_init_86 : decode cX11_init 86 = .ok (.invokespecial 56, 3) := by decide +kernel
theorem dX11_init_89 : decode cX11_init 89 = .ok (.putfield 57, 3) := by decide +kernel
theorem dX11_init_92 : decode cX11_init 92 = .ok (.aload_n 0, 1) := by decide +kernel
theorem dX11_init_93 : decode cX11_init 93 = .ok (.new 61, 3) := by decide +kernel
theorem dX11_init_96 : decode cX11_init 96 = .ok (.dup, 1) := by decide +kernel
theorem dX11_init_97 : decode cX11_init 97 = .ok (.invokespecial 63, 3) := by decide +kernel
theorem dX11_init_100 : decode cX11_init 100 = .ok (.putfield 64, 3) := by decide +kernel
theorem dX11_init_103 : decode cX11_init 103 = .ok (.aload_n 0, 1) := by decide +kernel
theorem dX11_init_104 : decode cX11_init 104 = .ok (.new 68, 3) := by decide +kernel
theorem dX11_init_107 : decode cX11_init 107 = .ok (.dup, 1) := by decide +kernel
theorem dX11_init_108 : decode cX11_init 108 = .ok (.invokespecial 70, 3) := by decide +kernel
theorem dX11_init_111 : decode cX11_init 111 = .ok (.putfield 71, 3) := by decide +kernel
theorem dX11_init_114 : decode cX11_init 114 = .ok (.aload_n 0, 1) := by decide +kernel
theorem dX11_init_115 : decode cX11_init 115 = .ok (.new 75, 3) := by decide +kernel
theorem dX11_init_118 : decode cX11_init 118 = .ok (.dup, 1) := by decide +kernel
theorem dX11_init_119 : decode cX11_init 119 = .ok (.invokespecial 77, 3) := by decide +kernel
theorem dX11_init_122 : decode cX11_init 122 = .ok (.putfield 78, 3) := by decide +kernel
theorem dX11_init_125 : decode cX11_init 125 = .ok (.return_, 1) := by decide +kernel
theorem dX11_kind_0 : decode cX11_kind 0 = .ok (.aload_n 0, 1) := by decide +kernel
theorem dX11_kind_1 : decode cX11_kind 1 = .ok (.iload_n 1, 1) := by decide +kernel
theorem dX11_kind_2 : decode cX11_kind 2 = .ok (.invokevirtual 115, 3) := by decide +kernel
theorem dX11_length_0 : decode cX11_length 0 = .ok (.aload_n 0, 1) := by decide +kernel
theorem dX11_length_1 : decode cX11_length 1 = .ok (.iload_n 1, 1) := by decide +kernel
theorem dX11_length_2 : decode cX11_length 2 = .ok (.invokevirtual 115, 3) := by decide +kernel
theorem dX11_misfit_0 : decode cX11_misfit 0 = .ok (.aload_n 0, 1) := by decide +kernel
theorem dX11_misfit_1 : decode cX11_misfit 1 = .ok (.iload_n 1, 1) := by decide +kernel
theorem dX11_misfit_2 : decode cX11_misfit 2 = .ok (.invokevirtual 115, 3) := by decide +kernel
theorem dX11_out_0 : decode cX11_out 0 = .ok (.iload_n 1, 1) := by decide +kernel
theorem dX11_out_1 : decode cX11_out 1 = .ok (.ifCond .lt 18, 3) := by decide +kernel
theorem dX11_out_4 : decode cX11_out 4 = .ok (.iload_n 1, 1) := by decide +kernel
theorem dX11_out_5 : decode cX11_out 5 = .ok (.aload_n 0, 1) := by decide +kernel
theorem dX11_out_6 : decode cX11_out 6 = .ok (.getfield 20, 3) := by decide +kernel
theorem dX11_out_9 : decode cX11_out 9 = .ok (.if_icmp .ge 10, 3) := by decide +kernel
theorem dX11_out_19 : decode cX11_out 19 = .ok (.iconst (-1), 1) := by decide +kernel
theorem dX11_out_20 : decode cX11_out 20 = .ok (.goto 9, 3) := by decide +kernel
theorem dX11_out_29 : decode cX11_out 29 = .ok (.ireturn, 1) := by decide +kernel
theorem dX11_row_0 : decode cX11_row 0 = .ok (.aload_n 0, 1) := by decide +kernel
theorem dX11_row_1 : decode cX11_row 1 = .ok (.iload_n 1, 1) := by decide +kernel
theorem dX11_row_2 : decode cX11_row 2 = .ok (.invokevirtual 115, 3) := by decide +kernel
theorem dX11_same_0 : decode cX11_same 0 = .ok (.aload_n 0, 1) := by decide +kernel
theorem dX11_same_1 : decode cX11_same 1 = .ok (.iload_n 1, 1) := by decide +kernel
theorem dX11_same_2 : decode cX11_same 2 = .ok (.invokevirtual 115, 3) := by decide +kernel
theorem dX11_strand_0 : decode cX11_strand 0 = .ok (.aload_n 0, 1) := by decide +kernel
theorem dX11_strand_1 : decode cX11_strand 1 = .ok (.iload_n 1, 1) := by decide +kernel
theorem dX11_strand_2 : decode cX11_strand 2 = .ok (.invokevirtual 115, 3) := by decide +kernel
theorem dX11_tableAt_0 : decode cX11_tableAt 0 = .ok (.iload_n 1, 1) := by decide +kernel
theorem dX11_tableAt_1 : decode cX11_tableAt 1 = .ok (.ifCond .lt 18, 3) := by decide +kernel
theorem dX11_tableAt_4 : decode cX11_tableAt 4 = .ok (.iload_n 1, 1) := by decide +kernel
theorem dX11_tableAt_5 : decode cX11_tableAt 5 = .ok (.bipush 8, 2) := by decide +kernel
theorem dX11_tableAt_7 : decode cX11_tableAt 7 = .ok (.if_icmp .ge 12, 3) := by decide +kernel
theorem dX11_tableAt_10 : decode cX11_tableAt 10 = .ok (.aload_n 0, 1) := by decide +kernel
theorem dX11_tableAt_11 : decode cX11_tableAt 11 = .ok (.getfield 32, 3) := by decide +kernel
theorem dX11_tableAt_14 : decode cX11_tableAt 14 = .ok (.iload_n 1, 1) := by decide +kernel
theorem dX11_tableAt_15 : decode cX11_tableAt 15 = .ok (.baload, 1) := by decide +kernel
theorem dX11_tableAt_16 : decode cX11_tableAt 16 = .ok (.ifCond .ne 7, 3) := by decide +kernel
theorem dX11_tableAt_19 : decode cX11_tableAt 19 = .ok (.aconst_null, 1) := by decide +kernel
theorem dX11_tableAt_20 : decode cX11_tableAt 20 = .ok (.goto 9, 3) := by decide +kernel
theorem dX11_tableAt_29 : decode cX11_tableAt 29 = .ok (.astore_n 2, 1) := by decide +kernel
theorem dX11_tableAt_30 : decode cX11_tableAt 30 = .ok (.aload_n 2, 1) := by decide +kernel
theorem dX11_tableAt_31 : decode cX11_tableAt 31 = .ok (.ifnonnull 14, 3) := by decide +kernel
theorem dX11_tableAt_34 : decode cX11_tableAt 34 = .ok (.new 177, 3) := by decide +kernel
theorem dX11_tableAt_37 : decode cX11_tableAt 37 = .ok (.dup, 1) := by decide +kernel
theorem dX11_tableAt_38 : decode cX11_tableAt 38 = .ok (.ldc_w 274, 3) := by decide +kernel
theorem dX11_tableAt_41 : decode cX11_tableAt 41 = .ok (.invokespecial 181, 3) := by decide +kernel
theorem dX11_tableAt_44 : decode cX11_tableAt 44 = .ok (.athrow, 1) := by decide +kernel
theorem dX11_time_0 : decode cX11_time 0 = .ok (.aload_n 0, 1) := by decide +kernel
theorem dX11_time_1 : decode cX11_time 1 = .ok (.iload_n 1, 1) := by decide +kernel
theorem dX11_time_2 : decode cX11_time 2 = .ok (.invokevirtual 115, 3) := by decide +kernel
theorem dX11_token_0 : decode cX11_token 0 = .ok (.aload_n 0, 1) := by decide +kernel
theorem dX11_token_1 : decode cX11_token 1 = .ok (.iload_n 1, 1) := by decide +kernel
theorem dX11_token_2 : decode cX11_token 2 = .ok (.invokevirtual 115, 3) := by decide +kernel
theorem dX11_told_0 : decode cX11_told 0 = .ok (.aload_n 0, 1) := by decide +kernel
theorem dX11_told_1 : decode cX11_told 1 = .ok (.iload_n 1, 1) := by decide +kernel
theorem dX11_told_2 : decode cX11_told 2 = .ok (.invokevirtual 115, 3) := by decide +kernel
theorem dX11_walk_0 : decode cX11_walk 0 = .ok (.aload_n 0, 1) := by decide +kernel
theorem dX11_walk_1 : decode cX11_walk 1 = .ok (.iload_n 1, 1) := by decide +kernel
theorem dX11_walk_2 : decode cX11_walk 2 = .ok (.invokevirtual 115, 3) := by decide +kernel
theorem dX11_write_0 : decode cX11_write 0 = .ok (.aload_n 0, 1) := by decide +kernel
theorem dX11_write_1 : decode cX11_write 1 = .ok (.iload_n 1, 1) := by decide +kernel
theorem dX11_write_2 : decode cX11_write 2 = .ok (.invokevirtual 115, 3) := by decide +kernel
theorem dX12_init_0 : decode cX12_init 0 = .ok (.aload_n 0, 1) := by decide +kernel
theorem dX12_init_1 : decode cX12_init 1 = .ok (.invokespecial 1, 3) := by decide +kernel
theorem dX12_init_4 : decode cX12_init 4 = .ok (.aload_n 0, 1) := by decide +kernel
theorem dX12_init_5 : decode cX12_init 5 = .ok (.sipush 3000, 3) := by decide +kernel
theorem dX12_init_8 : decode cX12_init 8 = .ok (.newarray .int, 2) := by decide +kernel
theorem dX12_init_10 : decode cX12_init 10 = .ok (.putfield 7, 3) := by decide +kernel
theorem dX12_init_13 : decode cX12_init 13 = .ok (.aload_n 0, 1) := by decide +kernel
theorem dX12_init_14 : decode cX12_init 14 = .ok (.sipush 3002, 3) := by decide +kernel
theorem dX12_init_17 : decode cX12_init 17 = .ok (.newarray .int, 2) := by decide +kernel
theorem dX12_init_19 : decode cX12_init 19 = .ok (.putfield 13, 3) := by decide +kernel
theorem dX12_init_22 : decode cX12_init 22 = .ok (.aload_n 0, 1) := by decide +kernel
theorem dX12_init_23 : decode cX12_init 23 = .ok (.bipush 8, 2) := by decide +kernel
theorem dX12_init_25 : decode cX12_init 25 = .ok (.newarray .boolean, 2) := by decide +kernel
theorem dX12_init_27 : decode cX12_init 27 = .ok (.putfield 16, 3) := by decide +kernel
theorem dX12_init_30 : decode cX12_init 30 = .ok (.aload_n 0, 1) := by decide +kernel
theorem dX12_init_31 : decode cX12_init 31 = .ok (.sipush 24016, 3) := by decide +kernel
theorem dX12_init_34 : decode cX12_init 34 = .ok (.newarray .int, 2) := by decide +kernel
theorem dX12_init_36 : decode cX12_init 36 = .ok (.putfield 20, 3) := by decide +kernel
theorem dX12_init_39 : decode cX12_init 39 = .ok (.aload_n 0, 1) := by decide +kernel
theorem dX12_init_40 : decode cX12_init 40 = .ok (.bipush 8, 2) := by decide +kernel
theorem dX12_init_42 : decode cX12_init 42 = .ok (.newarray .int, 2) := by decide +kernel
theorem dX12_init_44 : decode cX12_init 44 = .ok (.putfield 23, 3) := by decide +kernel
theorem dX12_init_47 : decode cX12_init 47 = .ok (.aload_n 0, 1) := by decide +kernel
theorem dX12_init_48 : decode cX12_init 48 = .ok (.bipush 8, 2) := by decide +kernel
theorem dX12_init_50 : decode cX12_init 50 = .ok (.newarray .int, 2) := by decide +kernel
theorem dX12_init_52 : decode cX12_init 52 = .ok (.putfield 26, 3) := by decide +kernel
theorem dX12_init_55 : decode cX12_init 55 = .ok (.aload_n 0, 1) := by decide +kernel
theorem dX12_init_56 : decode cX12_init 56 = .ok (.bipush 8, 2) := by decide +kernel
theorem dX12_init_58 : decode cX12_init 58 = .ok (.newarray .int, 2) := by decide +kernel
theorem dX12_init_60 : decode cX12_init 60 = .ok (.putfield 29, 3) := by decide +kernel
theorem dX12_init_63 : decode cX12_init 63 = .ok (.aload_n 0, 1) := by decide +kernel
theorem dX12_init_64 : decode cX12_init 64 = .ok (.sipush 1760, 3) := by decide +kernel
theorem dX12_init_67 : decode cX12_init 67 = .ok (.newarray .long, 2) := by decide +kernel
theorem dX12_init_69 : decode cX12_init 69 = .ok (.putfield 32, 3) := by decide +kernel
theorem dX12_init_72 : decode cX12_init 72 = .ok (.aload_n 0, 1) := by decide +kernel
theorem dX12_init_73 : decode cX12_init 73 = .ok (.bipush 8, 2) := by decide +kernel
theorem dX12_init_75 : decode cX12_init 75 = .ok (.newarray .int, 2) := by decide +kernel
theorem dX12_init_77 : decode cX12_init 77 = .ok (.putfield 36, 3) := by decide +kernel
theorem dX12_init_80 : decode cX12_init 80 = .ok (.aload_n 0, 1) := by decide +kernel
theorem dX12_init_81 : decode cX12_init 81 = .ok (.sipush 1760, 3) := by decide +kernel
theorem dX12_init_84 : decode cX12_init 84 = .ok (.newarray .int, 2) := by decide +kernel
theorem dX12_init_86 : decode cX12_init 86 = .ok (.putfield 39, 3) := by decide +kernel
theorem dX12_init_89 : decode cX12_init 89 = .ok (.aload_n 0, 1) := by decide +kernel
theorem dX12_init_90 : decode cX12_init 90 = .ok (.sipush 1760, 3) := by decide +kernel
theorem dX12_init_93 : decode cX12_init 93 = .ok (.newarray .int, 2) := by decide +kernel
theorem dX12_init_95 : decode cX12_init 95 = .ok (.putfield 42, 3) := by decide +kernel
theorem dX12_init_98 : decode cX12_init 98 = .ok (.aload_n 0, 1) := by decide +kernel
theorem dX12_init_99 : decode cX12_init 99 = .ok (.sipush 1600, 3) := by decide +kernel
theorem dX12_init_102 : decode cX12_init 102 = .ok (.newarray .int, 2) := by decide +kernel
theorem dX12_init_104 : decode cX12_init 104 = .ok (.putfield 45, 3) := by decide +kernel
theorem dX12_init_107 : decode cX12_init 107 = .ok (.aload_n 0, 1) := by decide +kernel
theorem dX12_init_108 : decode cX12_init 108 = .ok (.sipush 1600, 3) := by decide +kernel
theorem dX12_init_111 : decode cX12_init 111 = .ok (.newarray .int, 2) := by decide +kernel
theorem dX12_init_113 : decode cX12_init 113 = .ok (.putfield 48, 3) := by decide +kernel
theorem dX12_init_116 : decode cX12_init 116 = .ok (.aload_n 0, 1) := by decide +kernel
theorem dX12_init_117 : decode cX12_init 117 = .ok (.sipush 1600, 3) := by decide +kernel
theorem dX12_init_120 : decode cX12_init 120 = .ok (.newarray .int, 2) := by decide +kernel
theorem dX12_init_122 : decode cX12_init 122 = .ok (.putfield 51, 3) := by decide +kernel
theorem dX12_init_125 : decode cX12_init 125 = .ok (.aload_n 0, 1) := by decide +kernel
theorem dX12_init_126 : decode cX12_init 126 = .ok (.sipush 1600, 3) := by decide +kernel
theorem dX12_init_129 : decode cX12_init 129 = .ok (.newarray .int, 2) := by decide +kernel
theorem dX12_init_131 : decode cX12_init 131 = .ok (.putfield 54, 3) := by decide +kernel
theorem dX12_init_134 : decode cX12_init 134 = .ok (.aload_n 0, 1) := by decide +kernel
theorem dX12_init_135 : decode cX12_init 135 = .ok (.sipush 1600, 3) := by decide +kernel
theorem dX12_init_138 : decode cX12_init 138 = .ok (.newarray .int, 2) := by decide +kernel
theorem dX12_init_140 : decode cX12_init 140 = .ok (.putfield 57, 3) := by decide +kernel
theorem dX12_init_143 : decode cX12_init 143 = .ok (.aload_n 0, 1) := by decide +kernel
theorem dX12_init_144 : decode cX12_init 144 = .ok (.sipush 1608, 3) := by decide +kernel
theorem dX12_init_147 : decode cX12_init 147 = .ok (.newarray .long, 2) := by decide +kernel
theorem dX12_init_149 : decode cX12_init 149 = .ok (.putfield 60, 3) := by decide +kernel
theorem dX12_init_152 : decode cX12_init 152 = .ok (.aload_n 0, 1) := by decide +kernel
theorem dX12_init_153 : decode cX12_init 153 = .ok (.sipush 1608, 3) := by decide +kernel
theorem dX12_init_156 : decode cX12_init 156 = .ok (.newarray .long, 2) := by decide +kernel
theorem dX12_init_158 : decode cX12_init 158 = .ok (.putfield 63, 3) := by decide +kernel
theorem dX12_init_161 : decode cX12_init 161 = .ok (.aload_n 0, 1) := by decide +kernel
theorem dX12_init_162 : decode cX12_init 162 = .ok (.sipush 19200, 3) := by decide +kernel
theorem dX12_init_165 : decode cX12_init 165 = .ok (.newarray .int, 2) := by decide +kernel
theorem dX12_init_167 : decode cX12_init 167 = .ok (.putfield 66, 3) := by decide +kernel
theorem dX12_init_170 : decode cX12_init 170 = .ok (.aload_n 0, 1) := by decide +kernel
theorem dX12_init_171 : decode cX12_init 171 = .ok (.sipush 19200, 3) := by decide +kernel
theorem dX12_init_174 : decode cX12_init 174 = .ok (.newarray .int, 2) := by decide +kernel
theorem dX12_init_176 : decode cX12_init 176 = .ok (.putfield 69, 3) := by decide +kernel
theorem dX12_init_179 : decode cX12_init 179 = .ok (.aload_n 0, 1) := by decide +kernel
theorem dX12_init_180 : decode cX12_init 180 = .ok (.sipush 19200, 3) := by decide +kernel
theorem dX12_init_183 : decode cX12_init 183 = .ok (.newarray .int, 2) := by decide +kernel
theorem dX12_init_185 : decode cX12_init 185 = .ok (.putfield 72, 3) := by decide +kernel
theorem dX12_init_188 : decode cX12_init 188 = .ok (.aload_n 0, 1) := by decide +kernel
theorem dX12_init_189 : decode cX12_init 189 = .ok (.sipush 19200, 3) := by decide +kernel
theorem dX12_init_192 : decode cX12_init 192 = .ok (.newarray .int, 2) := by decide +kernel
theorem dX12_init_194 : decode cX12_init 194 = .ok (.putfield 75, 3) := by decide +kernel
theorem dX12_init_197 : decode cX12_init 197 = .ok (.aload_n 0, 1) := by decide +kernel
theorem dX12_init_198 : decode cX12_init 198 = .ok (.bipush 8, 2) := by decide +kernel
theorem dX12_init_200 : decode cX12_init 200 = .ok (.newarray .int, 2) := by decide +kernel
theorem dX12_init_202 : decode cX12_init 202 = .ok (.putfield 78, 3) := by decide +kernel
theorem dX12_init_205 : decode cX12_init 205 = .ok (.aload_n 0, 1) := by decide +kernel
theorem dX12_init_206 : decode cX12_init 206 = .ok (.bipush 8, 2) := by decide +kernel
theorem dX12_init_208 : decode cX12_init 208 = .ok (.newarray .int, 2) := by decide +kernel
theorem dX12_init_210 : decode cX12_init 210 = .ok (.putfield 81, 3) := by decide +kernel
theorem dX12_init_213 : decode cX12_init 213 = .ok (.aload_n 0, 1) := by decide +kernel
theorem dX12_init_214 : decode cX12_init 214 = .ok (.bipush 32, 2) := by decide +kernel
theorem dX12_init_216 : decode cX12_init 216 = .ok (.newarray .int, 2) := by decide +kernel
theorem dX12_init_218 : decode cX12_init 218 = .ok (.putfield 84, 3) := by decide +kernel
theorem dX12_init_221 : decode cX12_init 221 = .ok (.aload_n 0, 1) := by decide +kernel
theorem dX12_init_222 : decode cX12_init 222 = .ok (.bipush 32, 2) := by decide +kernel
theorem dX12_init_224 : decode cX12_init 224 = .ok (.newarray .int, 2) := by decide +kernel
theorem dX12_init_226 : decode cX12_init 226 = .ok (.putfield 87, 3) := by decide +kernel
theorem dX12_init_229 : decode cX12_init 229 = .ok (.aload_n 0, 1) := by decide +kernel
theorem dX12_init_230 : decode cX12_init 230 = .ok (.bipush 32, 2) := by decide +kernel
theorem dX12_init_232 : decode cX12_init 232 = .ok (.newarray .long, 2) := by decide +kernel
theorem dX12_init_234 : decode cX12_init 234 = .ok (.putfield 90, 3) := by decide +kernel
theorem dX12_init_237 : decode cX12_init 237 = .ok (.aload_n 0, 1) := by decide +kernel
theorem dX12_init_238 : decode cX12_init 238 = .ok (.bipush 32, 2) := by decide +kernel
theorem dX12_init_240 : decode cX12_init 240 = .ok (.newarray .long, 2) := by decide +kernel
theorem dX12_init_242 : decode cX12_init 242 = .ok (.putfield 93, 3) := by decide +kernel
theorem dX12_init_245 : decode cX12_init 245 = .ok (.aload_n 0, 1) := by decide +kernel
theorem dX12_init_246 : decode cX12_init 246 = .ok (.bipush 32, 2) := by decide +kernel
theorem dX12_init_248 : decode cX12_init 248 = .ok (.newarray .int, 2) := by decide +kernel
theorem dX12_init_250 : decode cX12_init 250 = .ok (.putfield 96, 3) := by decide +kernel
theorem dX12_init_253 : decode cX12_init 253 = .ok (.aload_n 0, 1) := by decide +kernel
theorem dX12_init_254 : decode cX12_init 254 = .ok (.bipush 32, 2) := by decide +kernel
theorem dX12_init_256 : decode cX12_init 256 = .ok (.newarray .int, 2) := by decide +kernel
theorem dX12_init_258 : decode cX12_init 258 = .ok (.putfield 99, 3) := by decide +kernel
theorem dX12_init_261 : decode cX12_init 261 = .ok (.aload_n 0, 1) := by decide +kernel
theorem dX12_init_262 : decode cX12_init 262 = .ok (.bipush 32, 2) := by decide +kernel
theorem dX12_init_264 : decode cX12_init 264 = .ok (.newarray .long, 2) := by decide +kernel
theorem dX12_init_266 : decode cX12_init 266 = .ok (.putfield 102, 3) := by decide +kernel
theorem dX12_init_269 : decode cX12_init 269 = .ok (.aload_n 0, 1) := by decide +kernel
theorem dX12_init_270 : decode cX12_init 270 = .ok (.bipush 32, 2) := by decide +kernel
theorem dX12_init_272 : decode cX12_init 272 = .ok (.newarray .long, 2) := by decide +kernel
theorem dX12_init_274 : decode cX12_init 274 = .ok (.putfield 105, 3) := by decide +kernel
theorem dX12_init_277 : decode cX12_init 277 = .ok (.aload_n 0, 1) := by decide +kernel
theorem dX12_init_278 : decode cX12_init 278 = .ok (.sipush 20000, 3) := by decide +kernel
theorem dX12_init_281 : decode cX12_init 281 = .ok (.newarray .int, 2) := by decide +kernel
theorem dX12_init_283 : decode cX12_init 283 = .ok (.putfield 108, 3) := by decide +kernel
theorem dX12_init_286 : decode cX12_init 286 = .ok (.return_, 1) := by decide +kernel
theorem dX1_init_0 : decode cX1_init 0 = .ok (.aload_n 0, 1) := by decide +kernel
theorem dX1_init_1 : decode cX1_init 1 = .ok (.invokespecial 3, 3) := by decide +kernel
theorem dX1_init_4 : decode cX1_init 4 = .ok (.aload_n 0, 1) := by decide +kernel
theorem dX1_init_5 : decode cX1_init 5 = .ok (.new 9, 3) := by decide +kernel
theorem dX1_init_8 : decode cX1_init 8 = .ok (.dup, 1) := by decide +kernel
theorem dX1_init_9 : decode cX1_init 9 = .ok (.invokespecial 11, 3) := by decide +kernel
theorem dX1_init_12 : decode cX1_init 12 = .ok (.putfield 12, 3) := by decide +kernel
theorem dX1_init_15 : decode cX1_init 15 = .ok (.aload_n 0, 1) := by decide +kernel
theorem dX1_init_16 : decode cX1_init 16 = .ok (.iconst 0, 1) := by decide +kernel
theorem dX1_init_17 : decode cX1_init 17 = .ok (.putfield 18, 3) := by decide +kernel
theorem dX1_init_20 : decode cX1_init 20 = .ok (.aload_n 0, 1) := by decide +kernel
theorem dX1_init_21 : decode cX1_init 21 = .ok (.iconst 1, 1) := by decide +kernel
theorem dX1_init_22 : decode cX1_init 22 = .ok (.putfield 22, 3) := by decide +kernel
theorem dX1_init_25 : decode cX1_init 25 = .ok (.aload_n 0, 1) := by decide +kernel
theorem dX1_init_26 : decode cX1_init 26 = .ok (.iconst 0, 1) := by decide +kernel
theorem dX1_init_27 : decode cX1_init 27 = .ok (.putfield 25, 3) := by decide +kernel
theorem dX1_init_30 : decode cX1_init 30 = .ok (.aload_n 0, 1) := by decide +kernel
theorem dX1_init_31 : decode cX1_init 31 = .ok (.iconst 1, 1) := by decide +kernel
theorem dX1_init_32 : decode cX1_init 32 = .ok (.putfield 28, 3) := by decide +kernel
theorem dX1_init_35 : decode cX1_init 35 = .ok (.return_, 1) := by decide +kernel
theorem dX2_init_0 : decode cX2_init 0 = .ok (.aload_n 0, 1) := by decide +kernel
theorem dX2_init_1 : decode cX2_init 1 = .ok (.invokespecial 3, 3) := by decide +kernel
theorem dX2_init_4 : decode cX2_init 4 = .ok (.aload_n 0, 1) := by decide +kernel
theorem dX2_init_5 : decode cX2_init 5 = .ok (.bipush 12, 2) := by decide +kernel
theorem dX2_init_7 : decode cX2_init 7 = .ok (.newarray .int, 2) := by decide +kernel
theorem dX2_init_9 : decode cX2_init 9 = .ok (.putfield 9, 3) := by decide +kernel
theorem dX2_init_12 : decode cX2_init 12 = .ok (.return_, 1) := by decide +kernel
theorem dX3_init_0 : decode cX3_init 0 = .ok (.aload_n 0, 1) := by decide +kernel
theorem dX3_init_1 : decode cX3_init 1 = .ok (.invokespecial 1, 3) := by decide +kernel
theorem dX3_init_4 : decode cX3_init 4 = .ok (.aload_n 0, 1) := by decide +kernel
theorem dX3_init_5 : decode cX3_init 5 = .ok (.lconst 0, 1) := by decide +kernel
theorem dX3_init_6 : decode cX3_init 6 = .ok (.putfield 7, 3) := by decide +kernel
theorem dX3_init_9 : decode cX3_init 9 = .ok (.aload_n 0, 1) := by decide +kernel
theorem dX3_init_10 : decode cX3_init 10 = .ok (.lconst 1, 1) := by decide +kernel
theorem dX3_init_11 : decode cX3_init 11 = .ok (.putfield 13, 3) := by decide +kernel
theorem dX3_init_14 : decode cX3_init 14 = .ok (.return_, 1) := by decide +kernel
theorem dX4_init_0 : decode cX4_init 0 = .ok (.aload_n 0, 1) := by decide +kernel
theorem dX4_init_1 : decode cX4_init 1 = .ok (.invokespecial 3, 3) := by decide +kernel
theorem dX4_init_4 : decode cX4_init 4 = .ok (.aload_n 0, 1) := by decide +kernel
theorem dX4_init_5 : decode cX4_init 5 = .ok (.iconst 0, 1) := by decide +kernel
theorem dX4_init_6 : decode cX4_init 6 = .ok (.putfield 9, 3) := by decide +kernel
theorem dX4_init_9 : decode cX4_init 9 = .ok (.aload_n 0, 1) := by decide +kernel
theorem dX4_init_10 : decode cX4_init 10 = .ok (.iconst 1, 1) := by decide +kernel
theorem dX4_init_11 : decode cX4_init 11 = .ok (.putfield 15, 3) := by decide +kernel
theorem dX4_init_14 : decode cX4_init 14 = .ok (.aload_n 0, 1) := by decide +kernel
theorem dX4_init_15 : decode cX4_init 15 = .ok (.new 18, 3) := by decide +kernel
theorem dX4_init_18 : decode cX4_init 18 = .ok (.dup, 1) := by decide +kernel
theorem dX4_init_19 : decode cX4_init 19 = .ok (.invokespecial 20, 3) := by decide +kernel
theorem dX4_init_22 : decode cX4_init 22 = .ok (.putfield 21, 3) := by decide +kernel
theorem dX4_init_25 : decode cX4_init 25 = .ok (.aload_n 0, 1) := by decide +kernel
theorem dX4_init_26 : decode cX4_init 26 = .ok (.aconst_null, 1) := by decide +kernel
theorem dX4_init_27 : decode cX4_init 27 = .ok (.putfield 25, 3) := by decide +kernel
theorem dX4_init_30 : decode cX4_init 30 = .ok (.aload_n 0, 1) := by decide +kernel
theorem dX4_init_31 : decode cX4_init 31 = .ok (.iconst 0, 1) := by decide +kernel
theorem dX4_init_32 : decode cX4_init 32 = .ok (.putfield 29, 3) := by decide +kernel
theorem dX4_init_35 : decode cX4_init 35 = .ok (.aload_n 0, 1) := by decide +kernel
theorem dX4_init_36 : decode cX4_init 36 = .ok (.iconst 0, 1) := by decide +kernel
theorem dX4_init_37 : decode cX4_init 37 = .ok (.putfield 32, 3) := by decide +kernel
theorem dX4_init_40 : decode cX4_init 40 = .ok (.return_, 1) := by decide +kernel
theorem dX5_init_0 : decode cX5_init 0 = .ok (.aload_n 0, 1) := by decide +kernel
theorem dX5_init_1 : decode cX5_init 1 = .ok (.invokespecial 3, 3) := by decide +kernel
theorem dX5_init_4 : decode cX5_init 4 = .ok (.aload_n 0, 1) := by decide +kernel
theorem dX5_init_5 : decode cX5_init 5 = .ok (.iconst 0, 1) := by decide +kernel
theorem dX5_init_6 : decode cX5_init 6 = .ok (.putfield 9, 3) := by decide +kernel
theorem dX5_init_9 : decode cX5_init 9 = .ok (.aload_n 0, 1) := by decide +kernel
theorem dX5_init_10 : decode cX5_init 10 = .ok (.iconst 0, 1) := by decide +kernel
theorem dX5_init_11 : decode cX5_init 11 = .ok (.putfield 15, 3) := by decide +kernel
theorem dX5_init_14 : decode cX5_init 14 = .ok (.aload_n 0, 1) := by decide +kernel
theorem dX5_init_15 : decode cX5_init 15 = .ok (.aconst_null, 1) := by decide +kernel
theorem dX5_init_16 : decode cX5_init 16 = .ok (.putfield 18, 3) := by decide +kernel
theorem dX5_init_19 : decode cX5_init 19 = .ok (.aload_n 0, 1) := by decide +kernel
theorem dX5_init_20 : decode cX5_init 20 = .ok (.iconst 0, 1) := by decide +kernel
theorem dX5_init_21 : decode cX5_init 21 = .ok (.putfield 22, 3) := by decide +kernel
theorem dX5_init_24 : decode cX5_init 24 = .ok (.aload_n 0, 1) := by decide +kernel
theorem dX5_init_25 : decode cX5_init 25 = .ok (.aconst_null, 1) := by decide +kernel
theorem dX5_init_26 : decode cX5_init 26 = .ok (.putfield 25, 3) := by decide +kernel
theorem dX5_init_29 : decode cX5_init 29 = .ok (.aload_n 0, 1) := by decide +kernel
theorem dX5_init_30 : decode cX5_init 30 = .ok (.iconst 0, 1) := by decide +kernel
theorem dX5_init_31 : decode cX5_init 31 = .ok (.putfield 29, 3) := by decide +kernel
theorem dX5_init_34 : decode cX5_init 34 = .ok (.aload_n 0, 1) := by decide +kernel
theorem dX5_init_35 : decode cX5_init 35 = .ok (.iconst 4, 1) := by decide +kernel
theorem dX5_init_36 : decode cX5_init 36 = .ok (.putfield 32, 3) := by decide +kernel
theorem dX5_init_39 : decode cX5_init 39 = .ok (.aload_n 0, 1) := by decide +kernel
theorem dX5_init_40 : decode cX5_init 40 = .ok (.iconst 0, 1) := by decide +kernel
theorem dX5_init_41 : decode cX5_init 41 = .ok (.putfield 35, 3) := by decide +kernel
theorem dX5_init_44 : decode cX5_init 44 = .ok (.aload_n 0, 1) := by decide +kernel
theorem dX5_init_45 : decode cX5_init 45 = .ok (.bipush 13, 2) := by decide +kernel
theorem dX5_init_47 : decode cX5_init 47 = .ok (.newarray .int, 2) := by decide +kernel
theorem dX5_init_49 : decode cX5_init 49 = .ok (.putfield 38, 3) := by decide +kernel
theorem dX5_init_52 : decode cX5_init 52 = .ok (.aload_n 0, 1) := by decide +kernel
theorem dX5_init_53 : decode cX5_init 53 = .ok (.bipush 13, 2) := by decide +kernel
theorem dX5_init_55 : decode cX5_init 55 = .ok (.newarray .int, 2) := by decide +kernel
theorem dX5_init_57 : decode cX5_init 57 = .ok (.putfield 42, 3) := by decide +kernel
theorem dX5_init_60 : decode cX5_init 60 = .ok (.aload_n 0, 1) := by decide +kernel
theorem dX5_init_61 : decode cX5_init 61 = .ok (.bipush 13, 2) := by decide +kernel
theorem dX5_init_63 : decode cX5_init 63 = .ok (.newarray .int, 2) := by decide +kernel
theorem dX5_init_65 : decode cX5_init 65 = .ok (.putfield 45, 3) := by decide +kernel
theorem dX5_init_68 : decode cX5_init 68 = .ok (.aload_n 0, 1) := by decide +kernel
theorem dX5_init_69 : decode cX5_init 69 = .ok (.iconst (-1), 1) := by decide +kernel
theorem dX5_init_70 : decode cX5_init 70 = .ok (.putfield 48, 3) := by decide +kernel
theorem dX5_init_73 : decode cX5_init 73 = .ok (.aload_n 0, 1) := by decide +kernel
theorem dX5_init_74 : decode cX5_init 74 = .ok (.iconst (-1), 1) := by decide +kernel
theorem dX5_init_75 : decode cX5_init 75 = .ok (.putfield 51, 3) := by decide +kernel
theorem dX5_init_78 : decode cX5_init 78 = .ok (.aload_n 0, 1) := by decide +kernel
theorem dX5_init_79 : decode cX5_init 79 = .ok (.iconst 0, 1) := by decide +kernel
theorem dX5_init_80 : decode cX5_init 80 = .ok (.putfield 54, 3) := by decide +kernel
theorem dX5_init_83 : decode cX5_init 83 = .ok (.aload_n 0, 1) := by decide +kernel
theorem dX5_init_84 : decode cX5_init 84 = .ok (.iconst 0, 1) := by decide +kernel
theorem dX5_init_85 : decode cX5_init 85 = .ok (.putfield 57, 3) := by decide +kernel
theorem dX5_init_88 : decode cX5_init 88 = .ok (.aload_n 0, 1) := by decide +kernel
theorem dX5_init_89 : decode cX5_init 89 = .ok (.iconst 0, 1) := by decide +kernel
theorem dX5_init_90 : decode cX5_init 90 = .ok (.putfield 60, 3) := by decide +kernel
theorem dX5_init_93 : decode cX5_init 93 = .ok (.return_, 1) := by decide +kernel
theorem dX6_init_0 : decode cX6_init 0 = .ok (.aload_n 0, 1) := by decide +kernel
theorem dX6_init_1 : decode cX6_init 1 = .ok (.invokespecial 3, 3) := by decide +kernel
theorem dX6_init_4 : decode cX6_init 4 = .ok (.aload_n 0, 1) := by decide +kernel
theorem dX6_init_5 : decode cX6_init 5 = .ok (.sipush 3001, 3) := by decide +kernel
theorem dX6_init_8 : decode cX6_init 8 = .ok (.newarray .byte, 2) := by decide +kernel
theorem dX6_init_10 : decode cX6_init 10 = .ok (.putfield 9, 3) := by decide +kernel
theorem dX6_init_13 : decode cX6_init 13 = .ok (.aload_n 0, 1) := by decide +kernel
theorem dX6_init_14 : decode cX6_init 14 = .ok (.sipush 201, 3) := by decide +kernel
theorem dX6_init_17 : decode cX6_init 17 = .ok (.newarray .int, 2) := by decide +kernel
theorem dX6_init_19 : decode cX6_init 19 = .ok (.putfield 15, 3) := by decide +kernel
theorem dX6_init_22 : decode cX6_init 22 = .ok (.aload_n 0, 1) := by decide +kernel
theorem dX6_init_23 : decode cX6_init 23 = .ok (.sipush 200, 3) := by decide +kernel
theorem dX6_init_26 : decode cX6_init 26 = .ok (.newarray .int, 2) := by decide +kernel
theorem dX6_init_28 : decode cX6_init 28 = .ok (.putfield 19, 3) := by decide +kernel
theorem dX6_init_31 : decode cX6_init 31 = .ok (.aload_n 0, 1) := by decide +kernel
theorem dX6_init_32 : decode cX6_init 32 = .ok (.sipush 201, 3) := by decide +kernel
theorem dX6_init_35 : decode cX6_init 35 = .ok (.newarray .int, 2) := by decide +kernel
theorem dX6_init_37 : decode cX6_init 37 = .ok (.putfield 22, 3) := by decide +kernel
theorem dX6_init_40 : decode cX6_init 40 = .ok (.aload_n 0, 1) := by decide +kernel
theorem dX6_init_41 : decode cX6_init 41 = .ok (.sipush 1500, 3) := by decide +kernel
theorem dX6_init_44 : decode cX6_init 44 = .ok (.newarray .int, 2) := by decide +kernel
theorem dX6_init_46 : decode cX6_init 46 = .ok (.putfield 25, 3) := by decide +kernel
theorem dX6_init_49 : decode cX6_init 49 = .ok (.aload_n 0, 1) := by decide +kernel
theorem dX6_init_50 : decode cX6_init 50 = .ok (.sipush 1500, 3) := by decide +kernel
theorem dX6_init_53 : decode cX6_init 53 = .ok (.newarray .int, 2) := by decide +kernel
theorem dX6_init_55 : decode cX6_init 55 = .ok (.putfield 28, 3) := by decide +kernel
theorem dX6_init_58 : decode cX6_init 58 = .ok (.aload_n 0, 1) := by decide +kernel
theorem dX6_init_59 : decode cX6_init 59 = .ok (.sipush 1500, 3) := by decide +kernel
theorem dX6_init_62 : decode cX6_init 62 = .ok (.newarray .int, 2) := by decide +kernel
theorem dX6_init_64 : decode cX6_init 64 = .ok (.putfield 31, 3) := by decide +kernel
theorem dX6_init_67 : decode cX6_init 67 = .ok (.aload_n 0, 1) := by decide +kernel
theorem dX6_init_68 : decode cX6_init 68 = .ok (.iconst 0, 1) := by decide +kernel
theorem dX6_init_69 : decode cX6_init 69 = .ok (.putfield 34, 3) := by decide +kernel
theorem dX6_init_72 : decode cX6_init 72 = .ok (.aload_n 0, 1) := by decide +kernel
theorem dX6_init_73 : decode cX6_init 73 = .ok (.iconst 0, 1) := by decide +kernel
theorem dX6_init_74 : decode cX6_init 74 = .ok (.putfield 38, 3) := by decide +kernel
theorem dX6_init_77 : decode cX6_init 77 = .ok (.aload_n 0, 1) := by decide +kernel
theorem dX6_init_78 : decode cX6_init 78 = .ok (.iconst 0, 1) := by decide +kernel
theorem dX6_init_79 : decode cX6_init 79 = .ok (.putfield 41, 3) := by decide +kernel
theorem dX6_init_82 : decode cX6_init 82 = .ok (.aload_n 0, 1) := by decide +kernel
theorem dX6_init_83 : decode cX6_init 83 = .ok (.iconst 0, 1) := by decide +kernel
theorem dX6_init_84 : decode cX6_init 84 = .ok (.putfield 44, 3) := by decide +kernel
theorem dX6_init_87 : decode cX6_init 87 = .ok (.return_, 1) := by decide +kernel
theorem dX7_init_0 : decode cX7_init 0 = .ok (.aload_n 0, 1) := by decide +kernel
theorem dX7_init_1 : decode cX7_init 1 = .ok (.invokespecial 3, 3) := by decide +kernel
theorem dX7_init_4 : decode cX7_init 4 = .ok (.aload_n 0, 1) := by decide +kernel
theorem dX7_init_5 : decode cX7_init 5 = .ok (.aconst_null, 1) := by decide +kernel
theorem dX7_init_6 : decode cX7_init 6 = .ok (.putfield 9, 3) := by decide +kernel
theorem dX7_init_9 : decode cX7_init 9 = .ok (.aload_n 0, 1) := by decide +kernel
theorem dX7_init_10 : decode cX7_init 10 = .ok (.iconst 0, 1) := by decide +kernel
theorem dX7_init_11 : decode cX7_init 11 = .ok (.putfield 15, 3) := by decide +kernel
theorem dX7_init_14 : decode cX7_init 14 = .ok (.aload_n 0, 1) := by decide +kernel
theorem dX7_init_15 : decode cX7_init 15 = .ok (.iconst 0, 1) := by decide +kernel
theorem dX7_init_16 : decode cX7_init 16 = .ok (.putfield 19, 3) := by decide +kernel
theorem dX7_init_19 : decode cX7_init 19 = .ok (.aload_n 0, 1) := by decide +kernel
theorem dX7_init_20 : decode cX7_init 20 = .ok (.iconst 0, 1) := by decide +kernel
theorem dX7_init_21 : decode cX7_init 21 = .ok (.putfield 22, 3) := by decide +kernel
theorem dX7_init_24 : decode cX7_init 24 = .ok (.aload_n 0, 1) := by decide +kernel
theorem dX7_init_25 : decode cX7_init 25 = .ok (.bipush 12, 2) := by decide +kernel
theorem dX7_init_27 : decode cX7_init 27 = .ok (.newarray .int, 2) := by decide +kernel
theorem dX7_init_29 : decode cX7_init 29 = .ok (.putfield 26, 3) := by decide +kernel
theorem dX7_init_32 : decode cX7_init 32 = .ok (.return_, 1) := by decide +kernel
theorem dX8_init_0 : decode cX8_init 0 = .ok (.aload_n 0, 1) := by decide +kernel
theorem dX8_init_1 : decode cX8_init 1 = .ok (.invokespecial 3, 3) := by decide +kernel
theorem dX8_init_4 : decode cX8_init 4 = .ok (.aload_n 0, 1) := by decide +kernel
theorem dX8_init_5 : decode cX8_init 5 = .ok (.new 9, 3) := by decide +kernel
theorem dX8_init_8 : decode cX8_init 8 = .ok (.dup, 1) := by decide +kernel
theorem dX8_init_9 : decode cX8_init 9 = .ok (.invokespecial 11, 3) := by decide +kernel
theorem dX8_init_12 : decode cX8_init 12 = .ok (.putfield 12, 3) := by decide +kernel
theorem dX8_init_15 : decode cX8_init 15 = .ok (.aload_n 0, 1) := by decide +kernel
theorem dX8_init_16 : decode cX8_init 16 = .ok (.sipush 1500, 3) := by decide +kernel
theorem dX8_init_19 : decode cX8_init 19 = .ok (.newarray .int, 2) := by decide +kernel
theorem dX8_init_21 : decode cX8_init 21 = .ok (.putfield 18, 3) := by decide +kernel
theorem dX8_init_24 : decode cX8_init 24 = .ok (.aload_n 0, 1) := by decide +kernel
theorem dX8_init_25 : decode cX8_init 25 = .ok (.sipush 1500, 3) := by decide +kernel
theorem dX8_init_28 : decode cX8_init 28 = .ok (.newarray .int, 2) := by decide +kernel
theorem dX8_init_30 : decode cX8_init 30 = .ok (.putfield 22, 3) := by decide +kernel
theorem dX8_init_33 : decode cX8_init 33 = .ok (.aload_n 0, 1) := by decide +kernel
theorem dX8_init_34 : decode cX8_init 34 = .ok (.sipush 1500, 3) := by decide +kernel
theorem dX8_init_37 : decode cX8_init 37 = .ok (.newarray .int, 2) := by decide +kernel
theorem dX8_init_39 : decode cX8_init 39 = .ok (.putfield 25, 3) := by decide +kernel
theorem dX8_init_42 : decode cX8_init 42 = .ok (.aload_n 0, 1) := by decide +kernel
theorem dX8_init_43 : decode cX8_init 43 = .ok (.sipush 1500, 3) := by decide +kernel
theorem dX8_init_46 : decode cX8_init 46 = .ok (.newarray .int, 2) := by decide +kernel
theorem dX8_init_48 : decode cX8_init 48 = .ok (.putfield 28, 3) := by decide +kernel
theorem dX8_init_51 : decode cX8_init 51 = .ok (.aload_n 0, 1) := by decide +kernel
theorem dX8_init_52 : decode cX8_init 52 = .ok (.sipush 1500, 3) := by decide +kernel
theorem dX8_init_55 : decode cX8_init 55 = .ok (.newarray .int, 2) := by decide +kernel
theorem dX8_init_57 : decode cX8_init 57 = .ok (.putfield 31, 3) := by decide +kernel
theorem dX8_init_60 : decode cX8_init 60 = .ok (.aload_n 0, 1) := by decide +kernel
theorem dX8_init_61 : decode cX8_init 61 = .ok (.sipush 212, 3) := by decide +kernel
theorem dX8_init_64 : decode cX8_init 64 = .ok (.newarray .int, 2) := by decide +kernel
theorem dX8_init_66 : decode cX8_init 66 = .ok (.putfield 34, 3) := by decide +kernel
theorem dX8_init_69 : decode cX8_init 69 = .ok (.aload_n 0, 1) := by decide +kernel
theorem dX8_init_70 : decode cX8_init 70 = .ok (.sipush 212, 3) := by decide +kernel
theorem dX8_init_73 : decode cX8_init 73 = .ok (.newarray .int, 2) := by decide +kernel
theorem dX8_init_75 : decode cX8_init 75 = .ok (.putfield 37, 3) := by decide +kernel
theorem dX8_init_78 : decode cX8_init 78 = .ok (.aload_n 0, 1) := by decide +kernel
theorem dX8_init_79 : decode cX8_init 79 = .ok (.iconst 0, 1) := by decide +kernel
theorem dX8_init_80 : decode cX8_init 80 = .ok (.putfield 40, 3) := by decide +kernel
theorem dX8_init_83 : decode cX8_init 83 = .ok (.aload_n 0, 1) := by decide +kernel
theorem dX8_init_84 : decode cX8_init 84 = .ok (.iconst 0, 1) := by decide +kernel
theorem dX8_init_85 : decode cX8_init 85 = .ok (.putfield 44, 3) := by decide +kernel
theorem dX8_init_88 : decode cX8_init 88 = .ok (.aload_n 0, 1) := by decide +kernel
theorem dX8_init_89 : decode cX8_init 89 = .ok (.iconst (-1), 1) := by decide +kernel
theorem dX8_init_90 : decode cX8_init 90 = .ok (.putfield 47, 3) := by decide +kernel
theorem dX8_init_93 : decode cX8_init 93 = .ok (.aload_n 0, 1) := by decide +kernel
theorem dX8_init_94 : decode cX8_init 94 = .ok (.iconst 0, 1) := by decide +kernel
theorem dX8_init_95 : decode cX8_init 95 = .ok (.putfield 50, 3) := by decide +kernel
theorem dX8_init_98 : decode cX8_init 98 = .ok (.aload_n 0, 1) := by decide +kernel
theorem dX8_init_99 : decode cX8_init 99 = .ok (.bipush 12, 2) := by decide +kernel
theorem dX8_init_101 : decode cX8_init 101 = .ok (.newarray .int, 2) := by decide +kernel
theorem dX8_init_103 : decode cX8_init 103 = .ok (.putfield 53, 3) := by decide +kernel
theorem dX8_init_106 : decode cX8_init 106 = .ok (.aload_n 0, 1) := by decide +kernel
theorem dX8_init_107 : decode cX8_init 107 = .ok (.sipush 201, 3) := by decide +kernel
theorem dX8_init_110 : decode cX8_init 110 = .ok (.newarray .int, 2) := by decide +kernel
theorem dX8_init_112 : decode cX8_init 112 = .ok (.putfield 56, 3) := by decide +kernel
theorem dX8_init_115 : decode cX8_init 115 = .ok (.aload_n 0, 1) := by decide +kernel
theorem dX8_init_116 : decode cX8_init 116 = .ok (.sipush 201, 3) := by decide +kernel
theorem dX8_init_119 : decode cX8_init 119 = .ok (.newarray .int, 2) := by decide +kernel
theorem dX8_init_121 : decode cX8_init 121 = .ok (.putfield 59, 3) := by decide +kernel
theorem dX8_init_124 : decode cX8_init 124 = .ok (.aload_n 0, 1) := by decide +kernel
theorem dX8_init_125 : decode cX8_init 125 = .ok (.iconst (-1), 1) := by decide +kernel
theorem dX8_init_126 : decode cX8_init 126 = .ok (.putfield 62, 3) := by decide +kernel
theorem dX8_init_129 : decode cX8_init 129 = .ok (.aload_n 0, 1) := by decide +kernel
theorem dX8_init_130 : decode cX8_init 130 = .ok (.iconst 0, 1) := by decide +kernel
theorem dX8_init_131 : decode cX8_init 131 = .ok (.putfield 65, 3) := by decide +kernel
theorem dX8_init_134 : decode cX8_init 134 = .ok (.return_, 1) := by decide +kernel
theorem dX9_init_0 : decode cX9_init 0 = .ok (.aload_n 0, 1) := by decide +kernel
theorem dX9_init_1 : decode cX9_init 1 = .ok (.invokespecial 3, 3) := by decide +kernel
theorem dX9_init_4 : decode cX9_init 4 = .ok (.aload_n 0, 1) := by decide +kernel
theorem dX9_init_5 : decode cX9_init 5 = .ok (.bipush 12, 2) := by decide +kernel
theorem dX9_init_7 : decode cX9_init 7 = .ok (.newarray .int, 2) := by decide +kernel
theorem dX9_init_9 : decode cX9_init 9 = .ok (.putfield 9, 3) := by decide +kernel
theorem dX9_init_12 : decode cX9_init 12 = .ok (.aload_n 0, 1) := by decide +kernel
theorem dX9_init_13 : decode cX9_init 13 = .ok (.bipush 12, 2) := by decide +kernel
theorem dX9_init_15 : decode cX9_init 15 = .ok (.newarray .int, 2) := by decide +kernel
theorem dX9_init_17 : decode cX9_init 17 = .ok (.putfield 15, 3) := by decide +kernel
theorem dX9_init_20 : decode cX9_init 20 = .ok (.aload_n 0, 1) := by decide +kernel
theorem dX9_init_21 : decode cX9_init 21 = .ok (.bipush 12, 2) := by decide +kernel
theorem dX9_init_23 : decode cX9_init 23 = .ok (.newarray .int, 2) := by decide +kernel
theorem dX9_init_25 : decode cX9_init 25 = .ok (.putfield 18, 3) := by decide +kernel
theorem dX9_init_28 : decode cX9_init 28 = .ok (.aload_n 0, 1) := by decide +kernel
theorem dX9_init_29 : decode cX9_init 29 = .ok (.bipush 12, 2) := by decide +kernel
theorem dX9_init_31 : decode cX9_init 31 = .ok (.newarray .int, 2) := by decide +kernel
theorem dX9_init_33 : decode cX9_init 33 = .ok (.putfield 21, 3) := by decide +kernel
theorem dX9_init_36 : decode cX9_init 36 = .ok (.aload_n 0, 1) := by decide +kernel
theorem dX9_init_37 : decode cX9_init 37 = .ok (.bipush 12, 2) := by decide +kernel
theorem dX9_init_39 : decode cX9_init 39 = .ok (.newarray .int, 2) := by decide +kernel
theorem dX9_init_41 : decode cX9_init 41 = .ok (.putfield 24, 3) := by decide +kernel
theorem dX9_init_44 : decode cX9_init 44 = .ok (.aload_n 0, 1) := by decide +kernel
theorem dX9_init_45 : decode cX9_init 45 = .ok (.new 27, 3) := by decide +kernel
theorem dX9_init_48 : decode cX9_init 48 = .ok (.dup, 1) := by decide +kernel
theorem dX9_init_49 : decode cX9_init 49 = .ok (.invokespecial 29, 3) := by decide +kernel
theorem dX9_init_52 : decode cX9_init 52 = .ok (.putfield 30, 3) := by decide +kernel
theorem dX9_init_55 : decode cX9_init 55 = .ok (.aload_n 0, 1) := by decide +kernel
theorem dX9_init_56 : decode cX9_init 56 = .ok (.aconst_null, 1) := by decide +kernel
theorem dX9_init_57 : decode cX9_init 57 = .ok (.putfield 34, 3) := by decide +kernel
theorem dX9_init_60 : decode cX9_init 60 = .ok (.aload_n 0, 1) := by decide +kernel
theorem dX9_init_61 : decode cX9_init 61 = .ok (.iconst 0, 1) := by decide +kernel
theorem dX9_init_62 : decode cX9_init 62 = .ok (.putfield 38, 3) := by decide +kernel
theorem dX9_init_65 : decode cX9_init 65 = .ok (.aload_n 0, 1) := by decide +kernel
theorem dX9_init_66 : decode cX9_init 66 = .ok (.iconst 1, 1) := by decide +kernel
theorem dX9_init_67 : decode cX9_init 67 = .ok (.putfield 42, 3) := by decide +kernel
theorem dX9_init_70 : decode cX9_init 70 = .ok (.return_, 1) := by decide +kernel
end
section
set_option maxHeartbeats 4000000 in
set_option maxRecDepth 100000 in
/-- Fraction -/
theorem c_Fraction (l : Launch) (dC : Nat → ClassId) (dI : Nat → Nat → Nat) (h0 : Nat) (sz : Nat) : Met l yX3_init (.code yX3_init cX3_init 1 none :: wU) ({ frames := 1, cells := 0, slots := 0, locals := 12 } : Room) (va_Pc [.ref h0] (fun U => P5 dC dI [(h0, .inr (3, [.long 0, .long 0]))] [] sz U)) (va_Qv (fun _ : Unit => True) (fun _ t => P3 dC dI (va_A [(h0, .inr (3, [.long 0, .long 0]))] sz) [(h0, .inr (3, [.long 0, .long 1]))] [] t) (va_A [(h0, .inr (3, [.long 0, .long 0]))] sz)) 0 0 (va_A [(h0, .inr (3, [.long 0, .long 0]))] sz) := by
  refine Met.ofW (cc := cX3_init) (maxL := 1) (ret := none) (by decide) rfl ?_
  intro p e s m args below meth c s₁ B hml hv
  obtain ⟨rfl, hsz, hP, hK, hD0, hE⟩ := hv
  have hx := B.exec
  have hb := B.bytes
  have hr := B.returns
  have hts0 := atoms_spec (ws := (.code yX3_init cX3_init 1 none :: wU)) B.pre
  have hts : ∀ w ∈ wU, w.before _ s = true := fun w h => hts0 w (List.mem_cons_of_mem _ h)
  have hown : s.vm.findClass "SpineTables$Fraction" = some m.cls := findClass_of_methodNamed B.named
  have hlocks := B.notSynchronized
  have hin : meth.name = "<init>" := (name_of_methodNamed B.named B.method).1
  subst hsz
  have hD := hD0.self (sz := s.heap.size)
  generalize hAe : va_A [(h0, .inr (3, [.long 0, .long 0]))] s.heap.size = A at hD ⊢
  have hA : ∀ q : Nat, s.heap.size ≤ q → A q := fun q h => by rw [← hAe]; exact Or.inr h
  have hP : va_P (dC, dI) classes [(h0, .inr (3, [.long 0, .long 0]))] s.heap := hP
  have hl := lv_entry ([.ref h0]) (n := 1) (Nat.le_of_ble_eq_true rfl)
  rw [lg_entry_eq]
  generalize (lg_sl ([.ref h0]) ++ List.replicate (1 - (lg_sl ([.ref h0])).length) Slot.unset).toArray = ls at hl ⊢
  have hl : lv_has ls 1 [(0, .ref h0)] := hl
  obtain ⟨H, hH⟩ : ∃ H, H = s.heap := ⟨_, rfl⟩
  rw [← hH] at hP
  have hS : va_S A s.heap H [] := by rw [hH]; exact va_S.rf
  refine w_heap hH ?_
  refine lv_aload_n hx hb dX3_init_0 rfl (lv_at hl 0 rfl) ?_
  refine W.objInit hx hb hown (hts _ wd_0) (hts _ wd_1) (hts _ wd_oi) rfl (by rw [hml]; exact hl.1) rfl dX3_init_1 (Nat.le_of_ble_eq_true rfl) (Nat.le_of_ble_eq_true rfl) ?_
  refine W.eq (g2 := F0 m 4 ls []) rfl ?_
  refine lv_aload_n hx hb dX3_init_4 rfl (lv_at hl 0 rfl) ?_
  refine lv_lconst (v := 0) hx hb dX3_init_5 (by decide) ?_
  refine va_put (D := (dC, dI)) (ci := 3) (v := .long 0) (ty := .long) (C := RX3) (T := TX3) (N := 2) hx hb hts inX3 tyX3 tyX3_ok nmX3 hown hK hP hD hS 0 rfl rfl 0 (by decide) (hts _ wd_2) (fun _ h9 => h9) rfl (by decide +kernel) rfl rfl (Nat.le_of_ble_eq_true rfl) dX3_init_6 (fun H locs hP hD hS => ?_)
  have hP : va_P (dC, dI) classes [(h0, .inr (3, [.long 0, .long 0]))] H := hP
  have hD : va_D A [(h0, .inr (3, [.long 0, .long 0]))] := hD
  refine lv_aload_n hx hb dX3_init_9 rfl (lv_at hl 0 rfl) ?_
  refine lv_lconst (v := 1) hx hb dX3_init_10 (by decide) ?_
  refine va_put (D := (dC, dI)) (ci := 3) (v := .long 1) (ty := .long) (C := RX3) (T := TX3) (N := 2) hx hb hts inX3 tyX3 tyX3_ok nmX3 hown hK hP hD hS 0 rfl rfl 1 (by decide) (hts _ wd_3) (fun _ h9 => h9) rfl (by decide +kernel) rfl rfl (Nat.le_of_ble_eq_true rfl) dX3_init_11 (fun H locs hP hD hS => ?_)
  have hP : va_P (dC, dI) classes [(h0, .inr (3, [.long 0, .long 1]))] H := hP
  have hD : va_D A [(h0, .inr (3, [.long 0, .long 1]))] := hD
  have hP9 := hP.sub (ws' := [(h0, .inr (3, [.long 0, .long 1]))]) [0] rfl
  have hD9 := hD.sub (ws' := [(h0, .inr (3, [.long 0, .long 1]))]) [0] (by decide) rfl
  have hK9 := hK.sub (tys' := []) [] rfl
  refine W.widen (k := 0) (n := 0) (Nat.le_of_ble_eq_true rfl) (Nat.le_of_ble_eq_true rfl) ?_
  exact W.vret hx hb hr (fun t ht hW => ⟨⟨(), rfl, trivial, by rw [ht]; exact hP9, va_K.moved hW.alike hK9, hD9⟩, hS.F ht⟩) hS.2.2 dX3_init_14
set_option maxHeartbeats 4000000 in
set_option maxRecDepth 100000 in
/-- Reader -/
theorem c_Reader (l : Launch) (dC : Nat → ClassId) (dI : Nat → Nat → Nat) (h0 : Nat) (sz : Nat) : Met l yX5_init (.code yX5_init cX5_init 1 none :: wU) ({ frames := 1, cells := 3, slots := 39, locals := 12 } : Room) (va_Pc [.ref h0] (fun U => P5 dC dI [(h0, .inr (5, [.int 0, .int 0, .null, .int 0, .null, .int 0, .int 0, .int 0, .null, .null, .null, .int 0, .int 0, .int 0, .int 0, .int 0]))] [] sz U)) (va_Qv (fun _ : Unit => True) (fun _ t => ∃ e_q1 : Nat, ∃ e_q3 : Nat, ∃ e_q5 : Nat, P3 dC dI (va_A [(h0, .inr (5, [.int 0, .int 0, .null, .int 0, .null, .int 0, .int 0, .int 0, .null, .null, .null, .int 0, .int 0, .int 0, .int 0, .int 0]))] sz) [(h0, .inr (5, [.int 0, .int 0, .null, .int 0, .null, .int 0, .int 4, .int 0, .ref e_q1, .ref e_q3, .ref e_q5, .int (-1), .int (-1), .int 0, .int 0, .int 0]))] [] t) (va_A [(h0, .inr (5, [.int 0, .int 0, .null, .int 0, .null, .int 0, .int 0, .int 0, .null, .null, .null, .int 0, .int 0, .int 0, .int 0, .int 0]))] sz)) 3 39 (va_A [(h0, .inr (5, [.int 0, .int 0, .null, .int 0, .null, .int 0, .int 0, .int 0, .null, .null, .null, .int 0, .int 0, .int 0, .int 0, .int 0]))] sz) := by
  refine Met.ofW (cc := cX5_init) (maxL := 1) (ret := none) (by decide) rfl ?_
  intro p e s m args below meth c s₁ B hml hv
  obtain ⟨rfl, hsz, hP, hK, hD0, hE⟩ := hv
  have hx := B.exec
  have hb := B.bytes
  have hr := B.returns
  have hts0 := atoms_spec (ws := (.code yX5_init cX5_init 1 none :: wU)) B.pre
  have hts : ∀ w ∈ wU, w.before _ s = true := fun w h => hts0 w (List.mem_cons_of_mem _ h)
  have hown : s.vm.findClass "SpineTables$Reader" = some m.cls := findClass_of_methodNamed B.named
  have hlocks := B.notSynchronized
  have hin : meth.name = "<init>" := (name_of_methodNamed B.named B.method).1
  subst hsz
  have hD := hD0.self (sz := s.heap.size)
  generalize hAe : va_A [(h0, .inr (5, [.int 0, .int 0, .null, .int 0, .null, .int 0, .int 0, .int 0, .null, .null, .null, .int 0, .int 0, .int 0, .int 0, .int 0]))] s.heap.size = A at hD ⊢
  have hA : ∀ q : Nat, s.heap.size ≤ q → A q := fun q h => by rw [← hAe]; exact Or.inr h
  have hP : va_P (dC, dI) classes [(h0, .inr (5, [.int 0, .int 0, .null, .int 0, .null, .int 0, .int 0, .int 0, .null, .null, .null, .int 0, .int 0, .int 0, .int 0, .int 0]))] s.heap := hP
  have hl := lv_entry ([.ref h0]) (n := 1) (Nat.le_of_ble_eq_true rfl)
  rw [lg_entry_eq]
  generalize (lg_sl ([.ref h0]) ++ List.replicate (1 - (lg_sl ([.ref h0])).length) Slot.unset).toArray = ls at hl ⊢
  have hl : lv_has ls 1 [(0, .ref h0)] := hl
  obtain ⟨H, hH⟩ : ∃ H, H = s.heap := ⟨_, rfl⟩
  rw [← hH] at hP
  have hS : va_S A s.heap H [] := by rw [hH]; exact va_S.rf
  refine w_heap hH ?_
  refine lv_aload_n hx hb dX5_init_0 rfl (lv_at hl 0 rfl) ?_
  refine W.objInit hx hb hown (hts _ wd_4) (hts _ wd_1) (hts _ wd_oi) rfl (by rw [hml]; exact hl.1) rfl dX5_init_1 (Nat.le_of_ble_eq_true rfl) (Nat.le_of_ble_eq_true rfl) ?_
  refine W.eq (g2 := F0 m 4 ls []) rfl ?_
  refine lv_aload_n hx hb dX5_init_4 rfl (lv_at hl 0 rfl) ?_
  refine lv_iconst (v := 0) hx hb dX5_init_5 (by decide) ?_
  refine va_put (D := (dC, dI)) (ci := 5) (v := .int 0) (ty := .int) (C := RX5) (T := TX5) (N := 16) hx hb hts inX5 tyX5 tyX5_ok nmX5 hown hK hP hD hS 0 rfl rfl 0 (by decide) (hts _ wd_5) (fun _ h9 => h9) rfl (by decide +kernel) rfl rfl (Nat.le_of_ble_eq_true rfl) dX5_init_6 (fun H locs hP hD hS => ?_)
  have hP : va_P (dC, dI) classes [(h0, .inr (5, [.int 0, .int 0, .null, .int 0, .null, .int 0, .int 0, .int 0, .null, .null, .null, .int 0, .int 0, .int 0, .int 0, .int 0]))] H := hP
  have hD : va_D A [(h0, .inr (5, [.int 0, .int 0, .null, .int 0, .null, .int 0, .int 0, .int 0, .null, .null, .null, .int 0, .int 0, .int 0, .int 0, .int 0]))] := hD
  refine lv_aload_n hx hb dX5_init_9 rfl (lv_at hl 0 rfl) ?_
  refine lv_iconst (v := 0) hx hb dX5_init_10 (by decide) ?_
  refine va_put (D := (dC, dI)) (ci := 5) (v := .int 0) (ty := .int) (C := RX5) (T := TX5) (N := 16) hx hb hts inX5 tyX5 tyX5_ok nmX5 hown hK hP hD hS 0 rfl rfl 1 (by decide) (hts _ wd_6) (fun _ h9 => h9) rfl (by decide +kernel) rfl rfl (Nat.le_of_ble_eq_true rfl) dX5_init_11 (fun H locs hP hD hS => ?_)
  have hP : va_P (dC, dI) classes [(h0, .inr (5, [.int 0, .int 0, .null, .int 0, .null, .int 0, .int 0, .int 0, .null, .null, .null, .int 0, .int 0, .int 0, .int 0, .int 0]))] H := hP
  have hD : va_D A [(h0, .inr (5, [.int 0, .int 0, .null, .int 0, .null, .int 0, .int 0, .int 0, .null, .null, .null, .int 0, .int 0, .int 0, .int 0, .int 0]))] := hD
  refine lv_aload_n hx hb dX5_init_14 rfl (lv_at hl 0 rfl) ?_
  refine lv_null hx hb dX5_init_15 ?_
  refine va_put (D := (dC, dI)) (ci := 5) (v := .null) (ty := (.array .byte)) (C := RX5) (T := TX5) (N := 16) hx hb hts inX5 tyX5 tyX5_ok nmX5 hown hK hP hD hS 0 rfl rfl 2 (by decide) (hts _ wd_7) (fun _ h9 => h9) rfl (by decide +kernel) rfl rfl (Nat.le_of_ble_eq_true rfl) dX5_init_16 (fun H locs hP hD hS => ?_)
  have hP : va_P (dC, dI) classes [(h0, .inr (5, [.int 0, .int 0, .null, .int 0, .null, .int 0, .int 0, .int 0, .null, .null, .null, .int 0, .int 0, .int 0, .int 0, .int 0]))] H := hP
  have hD : va_D A [(h0, .inr (5, [.int 0, .int 0, .null, .int 0, .null, .int 0, .int 0, .int 0, .null, .null, .null, .int 0, .int 0, .int 0, .int 0, .int 0]))] := hD
  refine lv_aload_n hx hb dX5_init_19 rfl (lv_at hl 0 rfl) ?_
  refine lv_iconst (v := 0) hx hb dX5_init_20 (by decide) ?_
  refine va_put (D := (dC, dI)) (ci := 5) (v := .int 0) (ty := .int) (C := RX5) (T := TX5) (N := 16) hx hb hts inX5 tyX5 tyX5_ok nmX5 hown hK hP hD hS 0 rfl rfl 3 (by decide) (hts _ wd_8) (fun _ h9 => h9) rfl (by decide +kernel) rfl rfl (Nat.le_of_ble_eq_true rfl) dX5_init_21 (fun H locs hP hD hS => ?_)
  have hP : va_P (dC, dI) classes [(h0, .inr (5, [.int 0, .int 0, .null, .int 0, .null, .int 0, .int 0, .int 0, .null, .null, .null, .int 0, .int 0, .int 0, .int 0, .int 0]))] H := hP
  have hD : va_D A [(h0, .inr (5, [.int 0, .int 0, .null, .int 0, .null, .int 0, .int 0, .int 0, .null, .null, .null, .int 0, .int 0, .int 0, .int 0, .int 0]))] := hD
  refine lv_aload_n hx hb dX5_init_24 rfl (lv_at hl 0 rfl) ?_
  refine lv_null hx hb dX5_init_25 ?_
  refine va_put (D := (dC, dI)) (ci := 5) (v := .null) (ty := (.object "SpineTables$Table")) (C := RX5) (T := TX5) (N := 16) hx hb hts inX5 tyX5 tyX5_ok nmX5 hown hK hP hD hS 0 rfl rfl 4 (by decide) (hts _ wd_9) (fun _ h9 => h9) rfl (by decide +kernel) rfl rfl (Nat.le_of_ble_eq_true rfl) dX5_init_26 (fun H locs hP hD hS => ?_)
  have hP : va_P (dC, dI) classes [(h0, .inr (5, [.int 0, .int 0, .null, .int 0, .null, .int 0, .int 0, .int 0, .null, .null, .null, .int 0, .int 0, .int 0, .int 0, .int 0]))] H := hP
  have hD : va_D A [(h0, .inr (5, [.int 0, .int 0, .null, .int 0, .null, .int 0, .int 0, .int 0, .null, .null, .null, .int 0, .int 0, .int 0, .int 0, .int 0]))] := hD
  refine lv_aload_n hx hb dX5_init_29 rfl (lv_at hl 0 rfl) ?_
  refine lv_iconst (v := 0) hx hb dX5_init_30 (by decide) ?_
  refine va_put (D := (dC, dI)) (ci := 5) (v := .int 0) (ty := .int) (C := RX5) (T := TX5) (N := 16) hx hb hts inX5 tyX5 tyX5_ok nmX5 hown hK hP hD hS 0 rfl rfl 5 (by decide) (hts _ wd_10) (fun _ h9 => h9) rfl (by decide +kernel) rfl rfl (Nat.le_of_ble_eq_true rfl) dX5_init_31 (fun H locs hP hD hS => ?_)
  have hP : va_P (dC, dI) classes [(h0, .inr (5, [.int 0, .int 0, .null, .int 0, .null, .int 0, .int 0, .int 0, .null, .null, .null, .int 0, .int 0, .int 0, .int 0, .int 0]))] H := hP
  have hD : va_D A [(h0, .inr (5, [.int 0, .int 0, .null, .int 0, .null, .int 0, .int 0, .int 0, .null, .null, .null, .int 0, .int 0, .int 0, .int 0, .int 0]))] := hD
  refine lv_aload_n hx hb dX5_init_34 rfl (lv_at hl 0 rfl) ?_
  refine lv_iconst (v := 4) hx hb dX5_init_35 (by decide) ?_
  refine va_put (D := (dC, dI)) (ci := 5) (v := .int 4) (ty := .int) (C := RX5) (T := TX5) (N := 16) hx hb hts inX5 tyX5 tyX5_ok nmX5 hown hK hP hD hS 0 rfl rfl 6 (by decide) (hts _ wd_11) (fun _ h9 => h9) rfl (by decide +kernel) rfl rfl (Nat.le_of_ble_eq_true rfl) dX5_init_36 (fun H locs hP hD hS => ?_)
  have hP : va_P (dC, dI) classes [(h0, .inr (5, [.int 0, .int 0, .null, .int 0, .null, .int 0, .int 4, .int 0, .null, .null, .null, .int 0, .int 0, .int 0, .int 0, .int 0]))] H := hP
  have hD : va_D A [(h0, .inr (5, [.int 0, .int 0, .null, .int 0, .null, .int 0, .int 4, .int 0, .null, .null, .null, .int 0, .int 0, .int 0, .int 0, .int 0]))] := hD
  refine lv_aload_n hx hb dX5_init_39 rfl (lv_at hl 0 rfl) ?_
  refine lv_iconst (v := 0) hx hb dX5_init_40 (by decide) ?_
  refine va_put (D := (dC, dI)) (ci := 5) (v := .int 0) (ty := .int) (C := RX5) (T := TX5) (N := 16) hx hb hts inX5 tyX5 tyX5_ok nmX5 hown hK hP hD hS 0 rfl rfl 7 (by decide) (hts _ wd_12) (fun _ h9 => h9) rfl (by decide +kernel) rfl rfl (Nat.le_of_ble_eq_true rfl) dX5_init_41 (fun H locs hP hD hS => ?_)
  have hP : va_P (dC, dI) classes [(h0, .inr (5, [.int 0, .int 0, .null, .int 0, .null, .int 0, .int 4, .int 0, .null, .null, .null, .int 0, .int 0, .int 0, .int 0, .int 0]))] H := hP
  have hD : va_D A [(h0, .inr (5, [.int 0, .int 0, .null, .int 0, .null, .int 0, .int 4, .int 0, .null, .null, .null, .int 0, .int 0, .int 0, .int 0, .int 0]))] := hD
  refine lv_aload_n hx hb dX5_init_44 rfl (lv_at hl 0 rfl) ?_
  refine lv_bipush (v := 13) hx hb dX5_init_45 (by decide) ?_
  refine va_newa (atype := .int) (ty := .int) (N' := 13) (a0 := (13, .inl (fun _ => 0))) hx hb (hts _ wd_13) rfl hK hP hD hS hA (fun _ => rfl) (by decide) (by decide) (by decide) (Nat.le_of_ble_eq_true rfl) (Nat.le_of_ble_eq_true rfl) dX5_init_47 (fun q1 y2 H hK hP hD hS => ?_)
  have hK : va_K (dC, dI) classes [(y2, .int)] s := hK
  have hP : va_P (dC, dI) classes [(h0, .inr (5, [.int 0, .int 0, .null, .int 0, .null, .int 0, .int 4, .int 0, .null, .null, .null, .int 0, .int 0, .int 0, .int 0, .int 0])), (q1, .inl (y2, 13, .inl (fun _ => 0)))] H := hP
  have hD : va_D A [(h0, .inr (5, [.int 0, .int 0, .null, .int 0, .null, .int 0, .int 4, .int 0, .null, .null, .null, .int 0, .int 0, .int 0, .int 0, .int 0])), (q1, .inl (y2, 13, .inl (fun _ => 0)))] := hD
  refine W.widen (k := 1) (n := 13) (Nat.le_of_ble_eq_true rfl) (Nat.le_of_ble_eq_true rfl) ?_
  refine va_putF (D := (dC, dI)) (ci := 5) (v := .ref q1) (ty := (.array .int)) (C := RX5) (T := TX5) (N := 16) hx hb hts inX5 tyX5 tyX5_ok nmX5 hown hK hP hD hS 0 rfl rfl 8 (by decide) (hts _ wd_14) (fun _ h9 => h9) rfl hin rfl (by decide +kernel) rfl rfl (Nat.le_of_ble_eq_true rfl) dX5_init_49 (fun H locs hP hD hS => ?_)
  have hP : va_P (dC, dI) classes [(h0, .inr (5, [.int 0, .int 0, .null, .int 0, .null, .int 0, .int 4, .int 0, .ref q1, .null, .null, .int 0, .int 0, .int 0, .int 0, .int 0])), (q1, .inl (y2, 13, .inl (fun _ => 0)))] H := hP
  have hD : va_D A [(h0, .inr (5, [.int 0, .int 0, .null, .int 0, .null, .int 0, .int 4, .int 0, .ref q1, .null, .null, .int 0, .int 0, .int 0, .int 0, .int 0])), (q1, .inl (y2, 13, .inl (fun _ => 0)))] := hD
  have hP : va_P (dC, dI) classes [(h0, .inr (5, [.int 0, .int 0, .null, .int 0, .null, .int 0, .int 4, .int 0, .ref q1, .null, .null, .int 0, .int 0, .int 0, .int 0, .int 0]))] H := hP.sub [0] rfl
  have hD : va_D A [(h0, .inr (5, [.int 0, .int 0, .null, .int 0, .null, .int 0, .int 4, .int 0, .ref q1, .null, .null, .int 0, .int 0, .int 0, .int 0, .int 0]))] := hD.sub [0] (by decide) rfl
  have hK : va_K (dC, dI) classes [] s := hK.sub [] rfl
  refine lv_aload_n hx hb dX5_init_52 rfl (lv_at hl 0 rfl) ?_
  refine lv_bipush (v := 13) hx hb dX5_init_53 (by decide) ?_
  refine va_newa (atype := .int) (ty := .int) (N' := 13) (a0 := (13, .inl (fun _ => 0))) hx hb (hts _ wd_13) rfl hK hP hD hS hA (fun _ => rfl) (by decide) (by decide) (by decide) (Nat.le_of_ble_eq_true rfl) (Nat.le_of_ble_eq_true rfl) dX5_init_55 (fun q3 y4 H hK hP hD hS => ?_)
  have hK : va_K (dC, dI) classes [(y4, .int)] s := hK
  have hP : va_P (dC, dI) classes [(h0, .inr (5, [.int 0, .int 0, .null, .int 0, .null, .int 0, .int 4, .int 0, .ref q1, .null, .null, .int 0, .int 0, .int 0, .int 0, .int 0])), (q3, .inl (y4, 13, .inl (fun _ => 0)))] H := hP
  have hD : va_D A [(h0, .inr (5, [.int 0, .int 0, .null, .int 0, .null, .int 0, .int 4, .int 0, .ref q1, .null, .null, .int 0, .int 0, .int 0, .int 0, .int 0])), (q3, .inl (y4, 13, .inl (fun _ => 0)))] := hD
  refine W.widen (k := 2) (n := 26) (Nat.le_of_ble_eq_true rfl) (Nat.le_of_ble_eq_true rfl) ?_
  refine va_putF (D := (dC, dI)) (ci := 5) (v := .ref q3) (ty := (.array .int)) (C := RX5) (T := TX5) (N := 16) hx hb hts inX5 tyX5 tyX5_ok nmX5 hown hK hP hD hS 0 rfl rfl 9 (by decide) (hts _ wd_15) (fun _ h9 => h9) rfl hin rfl (by decide +kernel) rfl rfl (Nat.le_of_ble_eq_true rfl) dX5_init_57 (fun H locs hP hD hS => ?_)
  have hP : va_P (dC, dI) classes [(h0, .inr (5, [.int 0, .int 0, .null, .int 0, .null, .int 0, .int 4, .int 0, .ref q1, .ref q3, .null, .int 0, .int 0, .int 0, .int 0, .int 0])), (q3, .inl (y4, 13, .inl (fun _ => 0)))] H := hP
  have hD : va_D A [(h0, .inr (5, [.int 0, .int 0, .null, .int 0, .null, .int 0, .int 4, .int 0, .ref q1, .ref q3, .null, .int 0, .int 0, .int 0, .int 0, .int 0])), (q3, .inl (y4, 13, .inl (fun _ => 0)))] := hD
  have hP : va_P (dC, dI) classes [(h0, .inr (5, [.int 0, .int 0, .null, .int 0, .null, .int 0, .int 4, .int 0, .ref q1, .ref q3, .null, .int 0, .int 0, .int 0, .int 0, .int 0]))] H := hP.sub [0] rfl
  have hD : va_D A [(h0, .inr (5, [.int 0, .int 0, .null, .int 0, .null, .int 0, .int 4, .int 0, .ref q1, .ref q3, .null, .int 0, .int 0, .int 0, .int 0, .int 0]))] := hD.sub [0] (by decide) rfl
  have hK : va_K (dC, dI) classes [] s := hK.sub [] rfl
  refine lv_aload_n hx hb dX5_init_60 rfl (lv_at hl 0 rfl) ?_
  refine lv_bipush (v := 13) hx hb dX5_init_61 (by decide) ?_
  refine va_newa (atype := .int) (ty := .int) (N' := 13) (a0 := (13, .inl (fun _ => 0))) hx hb (hts _ wd_13) rfl hK hP hD hS hA (fun _ => rfl) (by decide) (by decide) (by decide) (Nat.le_of_ble_eq_true rfl) (Nat.le_of_ble_eq_true rfl) dX5_init_63 (fun q5 y6 H hK hP hD hS => ?_)
  have hK : va_K (dC, dI) classes [(y6, .int)] s := hK
  have hP : va_P (dC, dI) classes [(h0, .inr (5, [.int 0, .int 0, .null, .int 0, .null, .int 0, .int 4, .int 0, .ref q1, .ref q3, .null, .int 0, .int 0, .int 0, .int 0, .int 0])), (q5, .inl (y6, 13, .inl (fun _ => 0)))] H := hP
  have hD : va_D A [(h0, .inr (5, [.int 0, .int 0, .null, .int 0, .null, .int 0, .int 4, .int 0, .ref q1, .ref q3, .null, .int 0, .int 0, .int 0, .int 0, .int 0])), (q5, .inl (y6, 13, .inl (fun _ => 0)))] := hD
  refine W.widen (k := 3) (n := 39) (Nat.le_of_ble_eq_true rfl) (Nat.le_of_ble_eq_true rfl) ?_
  refine va_putF (D := (dC, dI)) (ci := 5) (v := .ref q5) (ty := (.array .int)) (C := RX5) (T := TX5) (N := 16) hx hb hts inX5 tyX5 tyX5_ok nmX5 hown hK hP hD hS 0 rfl rfl 10 (by decide) (hts _ wd_16) (fun _ h9 => h9) rfl hin rfl (by decide +kernel) rfl rfl (Nat.le_of_ble_eq_true rfl) dX5_init_65 (fun H locs hP hD hS => ?_)
  have hP : va_P (dC, dI) classes [(h0, .inr (5, [.int 0, .int 0, .null, .int 0, .null, .int 0, .int 4, .int 0, .ref q1, .ref q3, .ref q5, .int 0, .int 0, .int 0, .int 0, .int 0])), (q5, .inl (y6, 13, .inl (fun _ => 0)))] H := hP
  have hD : va_D A [(h0, .inr (5, [.int 0, .int 0, .null, .int 0, .null, .int 0, .int 4, .int 0, .ref q1, .ref q3, .ref q5, .int 0, .int 0, .int 0, .int 0, .int 0])), (q5, .inl (y6, 13, .inl (fun _ => 0)))] := hD
  have hP : va_P (dC, dI) classes [(h0, .inr (5, [.int 0, .int 0, .null, .int 0, .null, .int 0, .int 4, .int 0, .ref q1, .ref q3, .ref q5, .int 0, .int 0, .int 0, .int 0, .int 0]))] H := hP.sub [0] rfl
  have hD : va_D A [(h0, .inr (5, [.int 0, .int 0, .null, .int 0, .null, .int 0, .int 4, .int 0, .ref q1, .ref q3, .ref q5, .int 0, .int 0, .int 0, .int 0, .int 0]))] := hD.sub [0] (by decide) rfl
  have hK : va_K (dC, dI) classes [] s := hK.sub [] rfl
  refine lv_aload_n hx hb dX5_init_68 rfl (lv_at hl 0 rfl) ?_
  refine lv_iconst (v := -1) hx hb dX5_init_69 (by decide) ?_
  refine va_put (D := (dC, dI)) (ci := 5) (v := .int (-1)) (ty := .int) (C := RX5) (T := TX5) (N := 16) hx hb hts inX5 tyX5 tyX5_ok nmX5 hown hK hP hD hS 0 rfl rfl 11 (by decide) (hts _ wd_17) (fun _ h9 => h9) rfl (by decide +kernel) rfl rfl (Nat.le_of_ble_eq_true rfl) dX5_init_70 (fun H locs hP hD hS => ?_)
  have hP : va_P (dC, dI) classes [(h0, .inr (5, [.int 0, .int 0, .null, .int 0, .null, .int 0, .int 4, .int 0, .ref q1, .ref q3, .ref q5, .int (-1), .int 0, .int 0, .int 0, .int 0]))] H := hP
  have hD : va_D A [(h0, .inr (5, [.int 0, .int 0, .null, .int 0, .null, .int 0, .int 4, .int 0, .ref q1, .ref q3, .ref q5, .int (-1), .int 0, .int 0, .int 0, .int 0]))] := hD
  refine lv_aload_n hx hb dX5_init_73 rfl (lv_at hl 0 rfl) ?_
  refine lv_iconst (v := -1) hx hb dX5_init_74 (by decide) ?_
  refine va_put (D := (dC, dI)) (ci := 5) (v := .int (-1)) (ty := .int) (C := RX5) (T := TX5) (N := 16) hx hb hts inX5 tyX5 tyX5_ok nmX5 hown hK hP hD hS 0 rfl rfl 12 (by decide) (hts _ wd_18) (fun _ h9 => h9) rfl (by decide +kernel) rfl rfl (Nat.le_of_ble_eq_true rfl) dX5_init_75 (fun H locs hP hD hS => ?_)
  have hP : va_P (dC, dI) classes [(h0, .inr (5, [.int 0, .int 0, .null, .int 0, .null, .int 0, .int 4, .int 0, .ref q1, .ref q3, .ref q5, .int (-1), .int (-1), .int 0, .int 0, .int 0]))] H := hP
  have hD : va_D A [(h0, .inr (5, [.int 0, .int 0, .null, .int 0, .null, .int 0, .int 4, .int 0, .ref q1, .ref q3, .ref q5, .int (-1), .int (-1), .int 0, .int 0, .int 0]))] := hD
  refine lv_aload_n hx hb dX5_init_78 rfl (lv_at hl 0 rfl) ?_
  refine lv_iconst (v := 0) hx hb dX5_init_79 (by decide) ?_
  refine va_put (D := (dC, dI)) (ci := 5) (v := .int 0) (ty := .int) (C := RX5) (T := TX5) (N := 16) hx hb hts inX5 tyX5 tyX5_ok nmX5 hown hK hP hD hS 0 rfl rfl 13 (by decide) (hts _ wd_19) (fun _ h9 => h9) rfl (by decide +kernel) rfl rfl (Nat.le_of_ble_eq_true rfl) dX5_init_80 (fun H locs hP hD hS => ?_)
  have hP : va_P (dC, dI) classes [(h0, .inr (5, [.int 0, .int 0, .null, .int 0, .null, .int 0, .int 4, .int 0, .ref q1, .ref q3, .ref q5, .int (-1), .int (-1), .int 0, .int 0, .int 0]))] H := hP
  have hD : va_D A [(h0, .inr (5, [.int 0, .int 0, .null, .int 0, .null, .int 0, .int 4, .int 0, .ref q1, .ref q3, .ref q5, .int (-1), .int (-1), .int 0, .int 0, .int 0]))] := hD
  refine lv_aload_n hx hb dX5_init_83 rfl (lv_at hl 0 rfl) ?_
  refine lv_iconst (v := 0) hx hb dX5_init_84 (by decide) ?_
  refine va_put (D := (dC, dI)) (ci := 5) (v := .int 0) (ty := .int) (C := RX5) (T := TX5) (N := 16) hx hb hts inX5 tyX5 tyX5_ok nmX5 hown hK hP hD hS 0 rfl rfl 14 (by decide) (hts _ wd_20) (fun _ h9 => h9) rfl (by decide +kernel) rfl rfl (Nat.le_of_ble_eq_true rfl) dX5_init_85 (fun H locs hP hD hS => ?_)
  have hP : va_P (dC, dI) classes [(h0, .inr (5, [.int 0, .int 0, .null, .int 0, .null, .int 0, .int 4, .int 0, .ref q1, .ref q3, .ref q5, .int (-1), .int (-1), .int 0, .int 0, .int 0]))] H := hP
  have hD : va_D A [(h0, .inr (5, [.int 0, .int 0, .null, .int 0, .null, .int 0, .int 4, .int 0, .ref q1, .ref q3, .ref q5, .int (-1), .int (-1), .int 0, .int 0, .int 0]))] := hD
  refine lv_aload_n hx hb dX5_init_88 rfl (lv_at hl 0 rfl) ?_
  refine lv_iconst (v := 0) hx hb dX5_init_89 (by decide) ?_
  refine va_put (D := (dC, dI)) (ci := 5) (v := .int 0) (ty := .int) (C := RX5) (T := TX5) (N := 16) hx hb hts inX5 tyX5 tyX5_ok nmX5 hown hK hP hD hS 0 rfl rfl 15 (by decide) (hts _ wd_21) (fun _ h9 => h9) rfl (by decide +kernel) rfl rfl (Nat.le_of_ble_eq_true rfl) dX5_init_90 (fun H locs hP hD hS => ?_)
  have hP : va_P (dC, dI) classes [(h0, .inr (5, [.int 0, .int 0, .null, .int 0, .null, .int 0, .int 4, .int 0, .ref q1, .ref q3, .ref q5, .int (-1), .int (-1), .int 0, .int 0, .int 0]))] H := hP
  have hD : va_D A [(h0, .inr (5, [.int 0, .int 0, .null, .int 0, .null, .int 0, .int 4, .int 0, .ref q1, .ref q3, .ref q5, .int (-1), .int (-1), .int 0, .int 0, .int 0]))] := hD
  have hP9 := hP.sub (ws' := [(h0, .inr (5, [.int 0, .int 0, .null, .int 0, .null, .int 0, .int 4, .int 0, .ref q1, .ref q3, .ref q5, .int (-1), .int (-1), .int 0, .int 0, .int 0]))]) [0] rfl
  have hD9 := hD.sub (ws' := [(h0, .inr (5, [.int 0, .int 0, .null, .int 0, .null, .int 0, .int 4, .int 0, .ref q1, .ref q3, .ref q5, .int (-1), .int (-1), .int 0, .int 0, .int 0]))]) [0] (by decide) rfl
  have hK9 := hK.sub (tys' := []) [] rfl
  refine W.widen (k := 3) (n := 39) (Nat.le_of_ble_eq_true rfl) (Nat.le_of_ble_eq_true rfl) ?_
  exact W.vret hx hb hr (fun t ht hW => ⟨⟨(), rfl, trivial, q1, q3, q5, by rw [ht]; exact hP9, va_K.moved hW.alike hK9, hD9⟩, hS.F ht⟩) hS.2.2 dX5_init_93
set_option maxHeartbeats 4000000 in
set_option maxRecDepth 100000 in
/-- Walker -/
theorem c_Walker (l : Launch) (dC : Nat → ClassId) (dI : Nat → Nat → Nat) (h0 : Nat) (sz : Nat) : Met l yX9_init (.code yX9_init cX9_init 1 none :: wU) ({ frames := 2, cells := 6, slots := 62, locals := 32 } : Room) (va_Pc [.ref h0] (fun U => P5 dC dI [(h0, .inr (9, [.null, .null, .null, .null, .null, .null, .null, .int 0, .int 0]))] [] sz U)) (va_Qv (fun _ : Unit => True) (fun _ t => ∃ e_q7 : Nat, ∃ e_q9 : Nat, ∃ e_q11 : Nat, ∃ e_q13 : Nat, ∃ e_q15 : Nat, ∃ e_q17 : Nat, ∃ e_y8 : ClassId, ∃ e_y10 : ClassId, P3 dC dI (va_A [(h0, .inr (9, [.null, .null, .null, .null, .null, .null, .null, .int 0, .int 0]))] sz) [(h0, .inr (9, [.ref e_q7, .ref e_q9, .ref e_q11, .ref e_q13, .ref e_q15, .ref e_q17, .null, .int 0, .int 1])), (e_q7, .inl (e_y8, 12, .inl (fun _ => 0))), (e_q9, .inl (e_y10, 12, .inl (fun _ => 0)))] [(e_y8, .int), (e_y10, .int)] t) (va_A [(h0, .inr (9, [.null, .null, .null, .null, .null, .null, .null, .int 0, .int 0]))] sz)) 6 62 (va_A [(h0, .inr (9, [.null, .null, .null, .null, .null, .null, .null, .int 0, .int 0]))] sz) := by
  refine Met.ofW (cc := cX9_init) (maxL := 1) (ret := none) (by decide) rfl ?_
  intro p e s m args below meth c s₁ B hml hv
  obtain ⟨rfl, hsz, hP, hK, hD0, hE⟩ := hv
  have hx := B.exec
  have hb := B.bytes
  have hr := B.returns
  have hts0 := atoms_spec (ws := (.code yX9_init cX9_init 1 none :: wU)) B.pre
  have hts : ∀ w ∈ wU, w.before _ s = true := fun w h => hts0 w (List.mem_cons_of_mem _ h)
  have hown : s.vm.findClass "SpineTables$Walker" = some m.cls := findClass_of_methodNamed B.named
  have hlocks := B.notSynchronized
  have hin : meth.name = "<init>" := (name_of_methodNamed B.named B.method).1
  subst hsz
  have hD := hD0.self (sz := s.heap.size)
  generalize hAe : va_A [(h0, .inr (9, [.null, .null, .null, .null, .null, .null, .null, .int 0, .int 0]))] s.heap.size = A at hD ⊢
  have hA : ∀ q : Nat, s.heap.size ≤ q → A q := fun q h => by rw [← hAe]; exact Or.inr h
  have hP : va_P (dC, dI) classes [(h0, .inr (9, [.null, .null, .null, .null, .null, .null, .null, .int 0, .int 0]))] s.heap := hP
  have hl := lv_entry ([.ref h0]) (n := 1) (Nat.le_of_ble_eq_true rfl)
  rw [lg_entry_eq]
  generalize (lg_sl ([.ref h0]) ++ List.replicate (1 - (lg_sl ([.ref h0])).length) Slot.unset).toArray = ls at hl ⊢
  have hl : lv_has ls 1 [(0, .ref h0)] := hl
  obtain ⟨H, hH⟩ : ∃ H, H = s.heap := ⟨_, rfl⟩
  rw [← hH] at hP
  have hS : va_S A s.heap H [] := by rw [hH]; exact va_S.rf
  refine w_heap hH ?_
  refine lv_aload_n hx hb dX9_init_0 rfl (lv_at hl 0 rfl) ?_
  refine W.objInit hx hb hown (hts _ wd_22) (hts _ wd_1) (hts _ wd_oi) rfl (by rw [hml]; exact hl.1) rfl dX9_init_1 (Nat.le_of_ble_eq_true rfl) (Nat.le_of_ble_eq_true rfl) ?_
  refine W.eq (g2 := F0 m 4 ls []) rfl ?_
  refine lv_aload_n hx hb dX9_init_4 rfl (lv_at hl 0 rfl) ?_
  refine lv_bipush (v := 12) hx hb dX9_init_5 (by decide) ?_
  refine va_newa (atype := .int) (ty := .int) (N' := 12) (a0 := (12, .inl (fun _ => 0))) hx hb (hts _ wd_13) rfl hK hP hD hS hA (fun _ => rfl) (by decide) (by decide) (by decide) (Nat.le_of_ble_eq_true rfl) (Nat.le_of_ble_eq_true rfl) dX9_init_7 (fun q7 y8 H hK hP hD hS => ?_)
  have hK : va_K (dC, dI) classes [(y8, .int)] s := hK
  have hP : va_P (dC, dI) classes [(h0, .inr (9, [.null, .null, .null, .null, .null, .null, .null, .int 0, .int 0])), (q7, .inl (y8, 12, .inl (fun _ => 0)))] H := hP
  have hD : va_D A [(h0, .inr (9, [.null, .null, .null, .null, .null, .null, .null, .int 0, .int 0])), (q7, .inl (y8, 12, .inl (fun _ => 0)))] := hD
  refine W.widen (k := 1) (n := 12) (Nat.le_of_ble_eq_true rfl) (Nat.le_of_ble_eq_true rfl) ?_
  refine va_putF (D := (dC, dI)) (ci := 9) (v := .ref q7) (ty := (.array .int)) (C := RX9) (T := TX9) (N := 9) hx hb hts inX9 tyX9 tyX9_ok nmX9 hown hK hP hD hS 0 rfl rfl 0 (by decide) (hts _ wd_23) (fun _ h9 => h9) rfl hin rfl (by decide +kernel) rfl rfl (Nat.le_of_ble_eq_true rfl) dX9_init_9 (fun H locs hP hD hS => ?_)
  have hP : va_P (dC, dI) classes [(h0, .inr (9, [.ref q7, .null, .null, .null, .null, .null, .null, .int 0, .int 0])), (q7, .inl (y8, 12, .inl (fun _ => 0)))] H := hP
  have hD : va_D A [(h0, .inr (9, [.ref q7, .null, .null, .null, .null, .null, .null, .int 0, .int 0])), (q7, .inl (y8, 12, .inl (fun _ => 0)))] := hD
  refine lv_aload_n hx hb dX9_init_12 rfl (lv_at hl 0 rfl) ?_
  refine lv_bipush (v := 12) hx hb dX9_init_13 (by decide) ?_
  refine va_newa (atype := .int) (ty := .int) (N' := 12) (a0 := (12, .inl (fun _ => 0))) hx hb (hts _ wd_13) rfl hK hP hD hS hA (fun _ => rfl) (by decide) (by decide) (by decide) (Nat.le_of_ble_eq_true rfl) (Nat.le_of_ble_eq_true rfl) dX9_init_15 (fun q9 y10 H hK hP hD hS => ?_)
  have hK : va_K (dC, dI) classes [(y8, .int), (y10, .int)] s := hK
  have hP : va_P (dC, dI) classes [(h0, .inr (9, [.ref q7, .null, .null, .null, .null, .null, .null, .int 0, .int 0])), (q7, .inl (y8, 12, .inl (fun _ => 0))), (q9, .inl (y10, 12, .inl (fun _ => 0)))] H := hP
  have hD : va_D A [(h0, .inr (9, [.ref q7, .null, .null, .null, .null, .null, .null, .int 0, .int 0])), (q7, .inl (y8, 12, .inl (fun _ => 0))), (q9, .inl (y10, 12, .inl (fun _ => 0)))] := hD
  refine W.widen (k := 2) (n := 24) (Nat.le_of_ble_eq_true rfl) (Nat.le_of_ble_eq_true rfl) ?_
  refine va_putF (D := (dC, dI)) (ci := 9) (v := .ref q9) (ty := (.array .int)) (C := RX9) (T := TX9) (N := 9) hx hb hts inX9 tyX9 tyX9_ok nmX9 hown hK hP hD hS 0 rfl rfl 1 (by decide) (hts _ wd_24) (fun _ h9 => h9) rfl hin rfl (by decide +kernel) rfl rfl (Nat.le_of_ble_eq_true rfl) dX9_init_17 (fun H locs hP hD hS => ?_)
  have hP : va_P (dC, dI) classes [(h0, .inr (9, [.ref q7, .ref q9, .null, .null, .null, .null, .null, .int 0, .int 0])), (q7, .inl (y8, 12, .inl (fun _ => 0))), (q9, .inl (y10, 12, .inl (fun _ => 0)))] H := hP
  have hD : va_D A [(h0, .inr (9, [.ref q7, .ref q9, .null, .null, .null, .null, .null, .int 0, .int 0])), (q7, .inl (y8, 12, .inl (fun _ => 0))), (q9, .inl (y10, 12, .inl (fun _ => 0)))] := hD
  refine lv_aload_n hx hb dX9_init_20 rfl (lv_at hl 0 rfl) ?_
  refine lv_bipush (v := 12) hx hb dX9_init_21 (by decide) ?_
  refine va_newa (atype := .int) (ty := .int) (N' := 12) (a0 := (12, .inl (fun _ => 0))) hx hb (hts _ wd_13) rfl hK hP hD hS hA (fun _ => rfl) (by decide) (by decide) (by decide) (Nat.le_of_ble_eq_true rfl) (Nat.le_of_ble_eq_true rfl) dX9_init_23 (fun q11 y12 H hK hP hD hS => ?_)
  have hK : va_K (dC, dI) classes [(y8, .int), (y10, .int), (y12, .int)] s := hK
  have hP : va_P (dC, dI) classes [(h0, .inr (9, [.ref q7, .ref q9, .null, .null, .null, .null, .null, .int 0, .int 0])), (q7, .inl (y8, 12, .inl (fun _ => 0))), (q9, .inl (y10, 12, .inl (fun _ => 0))), (q11, .inl (y12, 12, .inl (fun _ => 0)))] H := hP
  have hD : va_D A [(h0, .inr (9, [.ref q7, .ref q9, .null, .null, .null, .null, .null, .int 0, .int 0])), (q7, .inl (y8, 12, .inl (fun _ => 0))), (q9, .inl (y10, 12, .inl (fun _ => 0))), (q11, .inl (y12, 12, .inl (fun _ => 0)))] := hD
  refine W.widen (k := 3) (n := 36) (Nat.le_of_ble_eq_true rfl) (Nat.le_of_ble_eq_true rfl) ?_
  refine va_putF (D := (dC, dI)) (ci := 9) (v := .ref q11) (ty := (.array .int)) (C := RX9) (T := TX9) (N := 9) hx hb hts inX9 tyX9 tyX9_ok nmX9 hown hK hP hD hS 0 rfl rfl 2 (by decide) (hts _ wd_25) (fun _ h9 => h9) rfl hin rfl (by decide +kernel) rfl rfl (Nat.le_of_ble_eq_true rfl) dX9_init_25 (fun H locs hP hD hS => ?_)
  have hP : va_P (dC, dI) classes [(h0, .inr (9, [.ref q7, .ref q9, .ref q11, .null, .null, .null, .null, .int 0, .int 0])), (q7, .inl (y8, 12, .inl (fun _ => 0))), (q9, .inl (y10, 12, .inl (fun _ => 0))), (q11, .inl (y12, 12, .inl (fun _ => 0)))] H := hP
  have hD : va_D A [(h0, .inr (9, [.ref q7, .ref q9, .ref q11, .null, .null, .null, .null, .int 0, .int 0])), (q7, .inl (y8, 12, .inl (fun _ => 0))), (q9, .inl (y10, 12, .inl (fun _ => 0))), (q11, .inl (y12, 12, .inl (fun _ => 0)))] := hD
  have hP : va_P (dC, dI) classes [(h0, .inr (9, [.ref q7, .ref q9, .ref q11, .null, .null, .null, .null, .int 0, .int 0])), (q7, .inl (y8, 12, .inl (fun _ => 0))), (q9, .inl (y10, 12, .inl (fun _ => 0)))] H := hP.sub [0, 1, 2] rfl
  have hD : va_D A [(h0, .inr (9, [.ref q7, .ref q9, .ref q11, .null, .null, .null, .null, .int 0, .int 0])), (q7, .inl (y8, 12, .inl (fun _ => 0))), (q9, .inl (y10, 12, .inl (fun _ => 0)))] := hD.sub [0, 1, 2] (by decide) rfl
  have hK : va_K (dC, dI) classes [(y8, .int), (y10, .int)] s := hK.sub [0, 1] rfl
  refine lv_aload_n hx hb dX9_init_28 rfl (lv_at hl 0 rfl) ?_
  refine lv_bipush (v := 12) hx hb dX9_init_29 (by decide) ?_
  refine va_newa (atype := .int) (ty := .int) (N' := 12) (a0 := (12, .inl (fun _ => 0))) hx hb (hts _ wd_13) rfl hK hP hD hS hA (fun _ => rfl) (by decide) (by decide) (by decide) (Nat.le_of_ble_eq_true rfl) (Nat.le_of_ble_eq_true rfl) dX9_init_31 (fun q13 y14 H hK hP hD hS => ?_)
  have hK : va_K (dC, dI) classes [(y8, .int), (y10, .int), (y14, .int)] s := hK
  have hP : va_P (dC, dI) classes [(h0, .inr (9, [.ref q7, .ref q9, .ref q11, .null, .null, .null, .null, .int 0, .int 0])), (q7, .inl (y8, 12, .inl (fun _ => 0))), (q9, .inl (y10, 12, .inl (fun _ => 0))), (q13, .inl (y14, 12, .inl (fun _ => 0)))] H := hP
  have hD : va_D A [(h0, .inr (9, [.ref q7, .ref q9, .ref q11, .null, .null, .null, .null, .int 0, .int 0])), (q7, .inl (y8, 12, .inl (fun _ => 0))), (q9, .inl (y10, 12, .inl (fun _ => 0))), (q13, .inl (y14, 12, .inl (fun _ => 0)))] := hD
  refine W.widen (k := 4) (n := 48) (Nat.le_of_ble_eq_true rfl) (Nat.le_of_ble_eq_true rfl) ?_
  refine va_putF (D := (dC, dI)) (ci := 9) (v := .ref q13) (ty := (.array .int)) (C := RX9) (T := TX9) (N := 9) hx hb hts inX9 tyX9 tyX9_ok nmX9 hown hK hP hD hS 0 rfl rfl 3 (by decide) (hts _ wd_26) (fun _ h9 => h9) rfl hin rfl (by decide +kernel) rfl rfl (Nat.le_of_ble_eq_true rfl) dX9_init_33 (fun H locs hP hD hS => ?_)
  have hP : va_P (dC, dI) classes [(h0, .inr (9, [.ref q7, .ref q9, .ref q11, .ref q13, .null, .null, .null, .int 0, .int 0])), (q7, .inl (y8, 12, .inl (fun _ => 0))), (q9, .inl (y10, 12, .inl (fun _ => 0))), (q13, .inl (y14, 12, .inl (fun _ => 0)))] H := hP
  have hD : va_D A [(h0, .inr (9, [.ref q7, .ref q9, .ref q11, .ref q13, .null, .null, .null, .int 0, .int 0])), (q7, .inl (y8, 12, .inl (fun _ => 0))), (q9, .inl (y10, 12, .inl (fun _ => 0))), (q13, .inl (y14, 12, .inl (fun _ => 0)))] := hD
  have hP : va_P (dC, dI) classes [(h0, .inr (9, [.ref q7, .ref q9, .ref q11, .ref q13, .null, .null, .null, .int 0, .int 0])), (q7, .inl (y8, 12, .inl (fun _ => 0))), (q9, .inl (y10, 12, .inl (fun _ => 0)))] H := hP.sub [0, 1, 2] rfl
  have hD : va_D A [(h0, .inr (9, [.ref q7, .ref q9, .ref q11, .ref q13, .null, .null, .null, .int 0, .int 0])), (q7, .inl (y8, 12, .inl (fun _ => 0))), (q9, .inl (y10, 12, .inl (fun _ => 0)))] := hD.sub [0, 1, 2] (by decide) rfl
  have hK : va_K (dC, dI) classes [(y8, .int), (y10, .int)] s := hK.sub [0, 1] rfl
  refine lv_aload_n hx hb dX9_init_36 rfl (lv_at hl 0 rfl) ?_
  refine lv_bipush (v := 12) hx hb dX9_init_37 (by decide) ?_
  refine va_newa (atype := .int) (ty := .int) (N' := 12) (a0 := (12, .inl (fun _ => 0))) hx hb (hts _ wd_13) rfl hK hP hD hS hA (fun _ => rfl) (by decide) (by decide) (by decide) (Nat.le_of_ble_eq_true rfl) (Nat.le_of_ble_eq_true rfl) dX9_init_39 (fun q15 y16 H hK hP hD hS => ?_)
  have hK : va_K (dC, dI) classes [(y8, .int), (y10, .int), (y16, .int)] s := hK
  have hP : va_P (dC, dI) classes [(h0, .inr (9, [.ref q7, .ref q9, .ref q11, .ref q13, .null, .null, .null, .int 0, .int 0])), (q7, .inl (y8, 12, .inl (fun _ => 0))), (q9, .inl (y10, 12, .inl (fun _ => 0))), (q15, .inl (y16, 12, .inl (fun _ => 0)))] H := hP
  have hD : va_D A [(h0, .inr (9, [.ref q7, .ref q9, .ref q11, .ref q13, .null, .null, .null, .int 0, .int 0])), (q7, .inl (y8, 12, .inl (fun _ => 0))), (q9, .inl (y10, 12, .inl (fun _ => 0))), (q15, .inl (y16, 12, .inl (fun _ => 0)))] := hD
  refine W.widen (k := 5) (n := 60) (Nat.le_of_ble_eq_true rfl) (Nat.le_of_ble_eq_true rfl) ?_
  refine va_putF (D := (dC, dI)) (ci := 9) (v := .ref q15) (ty := (.array .int)) (C := RX9) (T := TX9) (N := 9) hx hb hts inX9 tyX9 tyX9_ok nmX9 hown hK hP hD hS 0 rfl rfl 4 (by decide) (hts _ wd_27) (fun _ h9 => h9) rfl hin rfl (by decide +kernel) rfl rfl (Nat.le_of_ble_eq_true rfl) dX9_init_41 (fun H locs hP hD hS => ?_)
  have hP : va_P (dC, dI) classes [(h0, .inr (9, [.ref q7, .ref q9, .ref q11, .ref q13, .ref q15, .null, .null, .int 0, .int 0])), (q7, .inl (y8, 12, .inl (fun _ => 0))), (q9, .inl (y10, 12, .inl (fun _ => 0))), (q15, .inl (y16, 12, .inl (fun _ => 0)))] H := hP
  have hD : va_D A [(h0, .inr (9, [.ref q7, .ref q9, .ref q11, .ref q13, .ref q15, .null, .null, .int 0, .int 0])), (q7, .inl (y8, 12, .inl (fun _ => 0))), (q9, .inl (y10, 12, .inl (fun _ => 0))), (q15, .inl (y16, 12, .inl (fun _ => 0)))] := hD
  have hP : va_P (dC, dI) classes [(h0, .inr (9, [.ref q7, .ref q9, .ref q11, .ref q13, .ref q15, .null, .null, .int 0, .int 0])), (q7, .inl (y8, 12, .inl (fun _ => 0))), (q9, .inl (y10, 12, .inl (fun _ => 0)))] H := hP.sub [0, 1, 2] rfl
  have hD : va_D A [(h0, .inr (9, [.ref q7, .ref q9, .ref q11, .ref q13, .ref q15, .null, .null, .int 0, .int 0])), (q7, .inl (y8, 12, .inl (fun _ => 0))), (q9, .inl (y10, 12, .inl (fun _ => 0)))] := hD.sub [0, 1, 2] (by decide) rfl
  have hK : va_K (dC, dI) classes [(y8, .int), (y10, .int)] s := hK.sub [0, 1] rfl
  refine lv_aload_n hx hb dX9_init_44 rfl (lv_at hl 0 rfl) ?_
  refine va_new (ci := 3) (fs := [.long 0, .long 0]) (C := RX3) (T := TX3) (N := 2) hx hb hts inX3 tyX3 tyX3_ok hown (hts _ wd_28) (hts _ wd_29) (hts _ wd_30) hK hP hD hS hA rfl dfX3 (Nat.le_of_ble_eq_true rfl) (Nat.le_of_ble_eq_true rfl) dX9_init_45 (fun q17 H hP hD hS => ?_)
  have hP : va_P (dC, dI) classes [(h0, .inr (9, [.ref q7, .ref q9, .ref q11, .ref q13, .ref q15, .null, .null, .int 0, .int 0])), (q7, .inl (y8, 12, .inl (fun _ => 0))), (q9, .inl (y10, 12, .inl (fun _ => 0))), (q17, .inr (3, [.long 0, .long 0]))] H := hP
  have hD : va_D A [(h0, .inr (9, [.ref q7, .ref q9, .ref q11, .ref q13, .ref q15, .null, .null, .int 0, .int 0])), (q7, .inl (y8, 12, .inl (fun _ => 0))), (q9, .inl (y10, 12, .inl (fun _ => 0))), (q17, .inr (3, [.long 0, .long 0]))] := hD
  refine W.widen (k := 6) (n := 62) (Nat.le_of_ble_eq_true rfl) (Nat.le_of_ble_eq_true rfl) ?_
  refine lv_dup hx hb dX9_init_48 rfl ?_
  have hPc := hP.sub (ws' := [(q17, .inr (3, [.long 0, .long 0]))]) [3] rfl
  have hDc := hD.sub (ws' := [(q17, .inr (3, [.long 0, .long 0]))]) [3] (by decide) rfl
  have hKc := hK.sub (tys' := []) [] rfl
  have hFc := va_free (wc := [(q17, .inr (3, [.long 0, .long 0]))]) hD hS hA [3] rfl
  refine va_callv (va_runIN (As := []) (rest := [.ref q17, .ref h0]) ⟨hx, hb, hml, hown, hts⟩ (c_Fraction l dC dI q17 H.size) ⟨va_cnB 0 hts (goC wd_31) rfl rfl rfl (hE.1 _ (List.mem_of_getElem? (i := 0) rfl)) (hts _ wd_30) (by decide +kernel) ⟨Nat.le_of_ble_eq_true rfl, Nat.le_of_ble_eq_true rfl⟩, rfl, hts _ wd_32⟩ ⟨blind5, fun U hU hW => ⟨rfl, pre5 hU hW hPc hKc hDc hE⟩⟩ rfl rfl hl.1 rfl (lv_room (Nat.le_of_ble_eq_true rfl)) dX9_init_49 ⟨Nat.le_of_ble_eq_true rfl, Nat.le_of_ble_eq_true rfl⟩) hS (fun q _ h => hFc q h) hFc (fun u t H1 locs ht hvm hw hB hz1 hk1 hS => ?_)
  obtain ⟨hP1, hK1, hD1⟩ := hB
  rw [ht] at hP1
  have hK1 := va_K.moved hvm.symm hK1
  obtain ⟨hP, hD⟩ := va_join (wr := [(h0, .inr (9, [.ref q7, .ref q9, .ref q11, .ref q13, .ref q15, .null, .null, .int 0, .int 0])), (q7, .inl (y8, 12, .inl (fun _ => 0))), (q9, .inl (y10, 12, .inl (fun _ => 0)))]) (w1 := [(q17, .inr (3, [.long 0, .long 1]))]) hP hD [3] [0, 1, 2] rfl rfl (by decide) (by decide) hk1 hFc hP1 hD1
  have hK := (hK.sub (tys' := [(y8, .int), (y10, .int)]) [0, 1] rfl).app hK1
  generalize H1 = H at hP hS ⊢
  have hK : va_K (dC, dI) classes [(y8, .int), (y10, .int)] s := hK
  have hP : va_P (dC, dI) classes [(h0, .inr (9, [.ref q7, .ref q9, .ref q11, .ref q13, .ref q15, .null, .null, .int 0, .int 0])), (q7, .inl (y8, 12, .inl (fun _ => 0))), (q9, .inl (y10, 12, .inl (fun _ => 0))), (q17, .inr (3, [.long 0, .long 1]))] H := hP
  have hD : va_D A [(h0, .inr (9, [.ref q7, .ref q9, .ref q11, .ref q13, .ref q15, .null, .null, .int 0, .int 0])), (q7, .inl (y8, 12, .inl (fun _ => 0))), (q9, .inl (y10, 12, .inl (fun _ => 0))), (q17, .inr (3, [.long 0, .long 1]))] := hD
  refine va_putF (D := (dC, dI)) (ci := 9) (v := .ref q17) (ty := (.object "SpineTables$Fraction")) (C := RX9) (T := TX9) (N := 9) hx hb hts inX9 tyX9 tyX9_ok nmX9 hown hK hP hD hS 0 rfl rfl 5 (by decide) (hts _ wd_33) (fun _ h9 => h9) rfl hin rfl (by decide +kernel) rfl rfl (Nat.le_of_ble_eq_true rfl) dX9_init_52 (fun H locs hP hD hS => ?_)
  have hP : va_P (dC, dI) classes [(h0, .inr (9, [.ref q7, .ref q9, .ref q11, .ref q13, .ref q15, .ref q17, .null, .int 0, .int 0])), (q7, .inl (y8, 12, .inl (fun _ => 0))), (q9, .inl (y10, 12, .inl (fun _ => 0))), (q17, .inr (3, [.long 0, .long 1]))] H := hP
  have hD : va_D A [(h0, .inr (9, [.ref q7, .ref q9, .ref q11, .ref q13, .ref q15, .ref q17, .null, .int 0, .int 0])), (q7, .inl (y8, 12, .inl (fun _ => 0))), (q9, .inl (y10, 12, .inl (fun _ => 0))), (q17, .inr (3, [.long 0, .long 1]))] := hD
  have hP : va_P (dC, dI) classes [(h0, .inr (9, [.ref q7, .ref q9, .ref q11, .ref q13, .ref q15, .ref q17, .null, .int 0, .int 0])), (q7, .inl (y8, 12, .inl (fun _ => 0))), (q9, .inl (y10, 12, .inl (fun _ => 0)))] H := hP.sub [0, 1, 2] rfl
  have hD : va_D A [(h0, .inr (9, [.ref q7, .ref q9, .ref q11, .ref q13, .ref q15, .ref q17, .null, .int 0, .int 0])), (q7, .inl (y8, 12, .inl (fun _ => 0))), (q9, .inl (y10, 12, .inl (fun _ => 0)))] := hD.sub [0, 1, 2] (by decide) rfl
  have hK : va_K (dC, dI) classes [(y8, .int), (y10, .int)] s := hK.sub [0, 1] rfl
  refine lv_aload_n hx hb dX9_init_55 rfl (lv_at hl 0 rfl) ?_
  refine lv_null hx hb dX9_init_56 ?_
  refine va_put (D := (dC, dI)) (ci := 9) (v := .null) (ty := (.object "SpineTables$Table")) (C := RX9) (T := TX9) (N := 9) hx hb hts inX9 tyX9 tyX9_ok nmX9 hown hK hP hD hS 0 rfl rfl 6 (by decide) (hts _ wd_34) (fun _ h9 => h9) rfl (by decide +kernel) rfl rfl (Nat.le_of_ble_eq_true rfl) dX9_init_57 (fun H locs hP hD hS => ?_)
  have hP : va_P (dC, dI) classes [(h0, .inr (9, [.ref q7, .ref q9, .ref q11, .ref q13, .ref q15, .ref q17, .null, .int 0, .int 0])), (q7, .inl (y8, 12, .inl (fun _ => 0))), (q9, .inl (y10, 12, .inl (fun _ => 0)))] H := hP
  have hD : va_D A [(h0, .inr (9, [.ref q7, .ref q9, .ref q11, .ref q13, .ref q15, .ref q17, .null, .int 0, .int 0])), (q7, .inl (y8, 12, .inl (fun _ => 0))), (q9, .inl (y10, 12, .inl (fun _ => 0)))] := hD
  refine lv_aload_n hx hb dX9_init_60 rfl (lv_at hl 0 rfl) ?_
  refine lv_iconst (v := 0) hx hb dX9_init_61 (by decide) ?_
  refine va_put (D := (dC, dI)) (ci := 9) (v := .int 0) (ty := .int) (C := RX9) (T := TX9) (N := 9) hx hb hts inX9 tyX9 tyX9_ok nmX9 hown hK hP hD hS 0 rfl rfl 7 (by decide) (hts _ wd_35) (fun _ h9 => h9) rfl (by decide +kernel) rfl rfl (Nat.le_of_ble_eq_true rfl) dX9_init_62 (fun H locs hP hD hS => ?_)
  have hP : va_P (dC, dI) classes [(h0, .inr (9, [.ref q7, .ref q9, .ref q11, .ref q13, .ref q15, .ref q17, .null, .int 0, .int 0])), (q7, .inl (y8, 12, .inl (fun _ => 0))), (q9, .inl (y10, 12, .inl (fun _ => 0)))] H := hP
  have hD : va_D A [(h0, .inr (9, [.ref q7, .ref q9, .ref q11, .ref q13, .ref q15, .ref q17, .null, .int 0, .int 0])), (q7, .inl (y8, 12, .inl (fun _ => 0))), (q9, .inl (y10, 12, .inl (fun _ => 0)))] := hD
  refine lv_aload_n hx hb dX9_init_65 rfl (lv_at hl 0 rfl) ?_
  refine lv_iconst (v := 1) hx hb dX9_init_66 (by decide) ?_
  refine va_put (D := (dC, dI)) (ci := 9) (v := .int 1) (ty := .int) (C := RX9) (T := TX9) (N := 9) hx hb hts inX9 tyX9 tyX9_ok nmX9 hown hK hP hD hS 0 rfl rfl 8 (by decide) (hts _ wd_36) (fun _ h9 => h9) rfl (by decide +kernel) rfl rfl (Nat.le_of_ble_eq_true rfl) dX9_init_67 (fun H locs hP hD hS => ?_)
  have hP : va_P (dC, dI) classes [(h0, .inr (9, [.ref q7, .ref q9, .ref q11, .ref q13, .ref q15, .ref q17, .null, .int 0, .int 1])), (q7, .inl (y8, 12, .inl (fun _ => 0))), (q9, .inl (y10, 12, .inl (fun _ => 0)))] H := hP
  have hD : va_D A [(h0, .inr (9, [.ref q7, .ref q9, .ref q11, .ref q13, .ref q15, .ref q17, .null, .int 0, .int 1])), (q7, .inl (y8, 12, .inl (fun _ => 0))), (q9, .inl (y10, 12, .inl (fun _ => 0)))] := hD
  have hP9 := hP.sub (ws' := [(h0, .inr (9, [.ref q7, .ref q9, .ref q11, .ref q13, .ref q15, .ref q17, .null, .int 0, .int 1])), (q7, .inl (y8, 12, .inl (fun _ => 0))), (q9, .inl (y10, 12, .inl (fun _ => 0)))]) [0, 1, 2] rfl
  have hD9 := hD.sub (ws' := [(h0, .inr (9, [.ref q7, .ref q9, .ref q11, .ref q13, .ref q15, .ref q17, .null, .int 0, .int 1])), (q7, .inl (y8, 12, .inl (fun _ => 0))), (q9, .inl (y10, 12, .inl (fun _ => 0)))]) [0, 1, 2] (by decide) rfl
  have hK9 := hK.sub (tys' := [(y8, .int), (y10, .int)]) [0, 1] rfl
  refine W.widen (k := 6) (n := 62) (Nat.le_of_ble_eq_true rfl) (Nat.le_of_ble_eq_true rfl) ?_
  exact W.vret hx hb hr (fun t ht hW => ⟨⟨(), rfl, trivial, q7, q9, q11, q13, q15, q17, y8, y10, by rw [ht]; exact hP9, va_K.moved hW.alike hK9, hD9⟩, hS.F ht⟩) hS.2.2 dX9_init_70
set_option maxHeartbeats 4000000 in
set_option maxRecDepth 100000 in
/-- Lengths -/
theorem c_Lengths (l : Launch) (dC : Nat → ClassId) (dI : Nat → Nat → Nat) (h0 : Nat) (sz : Nat) : Met l yX4_init (.code yX4_init cX4_init 1 none :: wU) ({ frames := 2, cells := 1, slots := 2, locals := 32 } : Room) (va_Pc [.ref h0] (fun U => P5 dC dI [(h0, .inr (4, [.int 0, .int 0, .null, .null, .int 0, .int 0]))] [] sz U)) (va_Qv (fun _ : Unit => True) (fun _ t => ∃ e_q18 : Nat, P3 dC dI (va_A [(h0, .inr (4, [.int 0, .int 0, .null, .null, .int 0, .int 0]))] sz) [(h0, .inr (4, [.int 0, .int 1, .ref e_q18, .null, .int 0, .int 0]))] [] t) (va_A [(h0, .inr (4, [.int 0, .int 0, .null, .null, .int 0, .int 0]))] sz)) 1 2 (va_A [(h0, .inr (4, [.int 0, .int 0, .null, .null, .int 0, .int 0]))] sz) := by
  refine Met.ofW (cc := cX4_init) (maxL := 1) (ret := none) (by decide) rfl ?_
  intro p e s m args below meth c s₁ B hml hv
  obtain ⟨rfl, hsz, hP, hK, hD0, hE⟩ := hv
  have hx := B.exec
  have hb := B.bytes
  have hr := B.returns
  have hts0 := atoms_spec (ws := (.code yX4_init cX4_init 1 none :: wU)) B.pre
  have hts : ∀ w ∈ wU, w.before _ s = true := fun w h => hts0 w (List.mem_cons_of_mem _ h)
  have hown : s.vm.findClass "SpineTables$Lengths" = some m.cls := findClass_of_methodNamed B.named
  have hlocks := B.notSynchronized
  have hin : meth.name = "<init>" := (name_of_methodNamed B.named B.method).1
  subst hsz
  have hD := hD0.self (sz := s.heap.size)
  generalize hAe : va_A [(h0, .inr (4, [.int 0, .int 0, .null, .null, .int 0, .int 0]))] s.heap.size = A at hD ⊢
  have hA : ∀ q : Nat, s.heap.size ≤ q → A q := fun q h => by rw [← hAe]; exact Or.inr h
  have hP : va_P (dC, dI) classes [(h0, .inr (4, [.int 0, .int 0, .null, .null, .int 0, .int 0]))] s.heap := hP
  have hl := lv_entry ([.ref h0]) (n := 1) (Nat.le_of_ble_eq_true rfl)
  rw [lg_entry_eq]
  generalize (lg_sl ([.ref h0]) ++ List.replicate (1 - (lg_sl ([.ref h0])).length) Slot.unset).toArray = ls at hl ⊢
  have hl : lv_has ls 1 [(0, .ref h0)] := hl
  obtain ⟨H, hH⟩ : ∃ H, H = s.heap := ⟨_, rfl⟩
  rw [← hH] at hP
  have hS : va_S A s.heap H [] := by rw [hH]; exact va_S.rf
  refine w_heap hH ?_
  refine lv_aload_n hx hb dX4_init_0 rfl (lv_at hl 0 rfl) ?_
  refine W.objInit hx hb hown (hts _ wd_37) (hts _ wd_1) (hts _ wd_oi) rfl (by rw [hml]; exact hl.1) rfl dX4_init_1 (Nat.le_of_ble_eq_true rfl) (Nat.le_of_ble_eq_true rfl) ?_
  refine W.eq (g2 := F0 m 4 ls []) rfl ?_
  refine lv_aload_n hx hb dX4_init_4 rfl (lv_at hl 0 rfl) ?_
  refine lv_iconst (v := 0) hx hb dX4_init_5 (by decide) ?_
  refine va_put (D := (dC, dI)) (ci := 4) (v := .int 0) (ty := .int) (C := RX4) (T := TX4) (N := 6) hx hb hts inX4 tyX4 tyX4_ok nmX4 hown hK hP hD hS 0 rfl rfl 0 (by decide) (hts _ wd_38) (fun _ h9 => h9) rfl (by decide +kernel) rfl rfl (Nat.le_of_ble_eq_true rfl) dX4_init_6 (fun H locs hP hD hS => ?_)
  have hP : va_P (dC, dI) classes [(h0, .inr (4, [.int 0, .int 0, .null, .null, .int 0, .int 0]))] H := hP
  have hD : va_D A [(h0, .inr (4, [.int 0, .int 0, .null, .null, .int 0, .int 0]))] := hD
  refine lv_aload_n hx hb dX4_init_9 rfl (lv_at hl 0 rfl) ?_
  refine lv_iconst (v := 1) hx hb dX4_init_10 (by decide) ?_
  refine va_put (D := (dC, dI)) (ci := 4) (v := .int 1) (ty := .int) (C := RX4) (T := TX4) (N := 6) hx hb hts inX4 tyX4 tyX4_ok nmX4 hown hK hP hD hS 0 rfl rfl 1 (by decide) (hts _ wd_39) (fun _ h9 => h9) rfl (by decide +kernel) rfl rfl (Nat.le_of_ble_eq_true rfl) dX4_init_11 (fun H locs hP hD hS => ?_)
  have hP : va_P (dC, dI) classes [(h0, .inr (4, [.int 0, .int 1, .null, .null, .int 0, .int 0]))] H := hP
  have hD : va_D A [(h0, .inr (4, [.int 0, .int 1, .null, .null, .int 0, .int 0]))] := hD
  refine lv_aload_n hx hb dX4_init_14 rfl (lv_at hl 0 rfl) ?_
  refine va_new (ci := 3) (fs := [.long 0, .long 0]) (C := RX3) (T := TX3) (N := 2) hx hb hts inX3 tyX3 tyX3_ok hown (hts _ wd_40) (hts _ wd_29) (hts _ wd_30) hK hP hD hS hA rfl dfX3 (Nat.le_of_ble_eq_true rfl) (Nat.le_of_ble_eq_true rfl) dX4_init_15 (fun q18 H hP hD hS => ?_)
  have hP : va_P (dC, dI) classes [(h0, .inr (4, [.int 0, .int 1, .null, .null, .int 0, .int 0])), (q18, .inr (3, [.long 0, .long 0]))] H := hP
  have hD : va_D A [(h0, .inr (4, [.int 0, .int 1, .null, .null, .int 0, .int 0])), (q18, .inr (3, [.long 0, .long 0]))] := hD
  refine W.widen (k := 1) (n := 2) (Nat.le_of_ble_eq_true rfl) (Nat.le_of_ble_eq_true rfl) ?_
  refine lv_dup hx hb dX4_init_18 rfl ?_
  have hPc := hP.sub (ws' := [(q18, .inr (3, [.long 0, .long 0]))]) [1] rfl
  have hDc := hD.sub (ws' := [(q18, .inr (3, [.long 0, .long 0]))]) [1] (by decide) rfl
  have hKc := hK.sub (tys' := []) [] rfl
  have hFc := va_free (wc := [(q18, .inr (3, [.long 0, .long 0]))]) hD hS hA [1] rfl
  refine va_callv (va_runIN (As := []) (rest := [.ref q18, .ref h0]) ⟨hx, hb, hml, hown, hts⟩ (c_Fraction l dC dI q18 H.size) ⟨va_cnB 0 hts (goC wd_31) rfl rfl rfl (hE.1 _ (List.mem_of_getElem? (i := 1) rfl)) (hts _ wd_30) (by decide +kernel) ⟨Nat.le_of_ble_eq_true rfl, Nat.le_of_ble_eq_true rfl⟩, rfl, hts _ wd_32⟩ ⟨blind5, fun U hU hW => ⟨rfl, pre5 hU hW hPc hKc hDc hE⟩⟩ rfl rfl hl.1 rfl (lv_room (Nat.le_of_ble_eq_true rfl)) dX4_init_19 ⟨Nat.le_of_ble_eq_true rfl, Nat.le_of_ble_eq_true rfl⟩) hS (fun q _ h => hFc q h) hFc (fun u t H1 locs ht hvm hw hB hz1 hk1 hS => ?_)
  obtain ⟨hP1, hK1, hD1⟩ := hB
  rw [ht] at hP1
  have hK1 := va_K.moved hvm.symm hK1
  obtain ⟨hP, hD⟩ := va_join (wr := [(h0, .inr (4, [.int 0, .int 1, .null, .null, .int 0, .int 0]))]) (w1 := [(q18, .inr (3, [.long 0, .long 1]))]) hP hD [1] [0] rfl rfl (by decide) (by decide) hk1 hFc hP1 hD1
  have hK := (hK.sub (tys' := []) [] rfl).app hK1
  generalize H1 = H at hP hS ⊢
  have hK : va_K (dC, dI) classes [] s := hK
  have hP : va_P (dC, dI) classes [(h0, .inr (4, [.int 0, .int 1, .null, .null, .int 0, .int 0])), (q18, .inr (3, [.long 0, .long 1]))] H := hP
  have hD : va_D A [(h0, .inr (4, [.int 0, .int 1, .null, .null, .int 0, .int 0])), (q18, .inr (3, [.long 0, .long 1]))] := hD
  refine va_putF (D := (dC, dI)) (ci := 4) (v := .ref q18) (ty := (.object "SpineTables$Fraction")) (C := RX4) (T := TX4) (N := 6) hx hb hts inX4 tyX4 tyX4_ok nmX4 hown hK hP hD hS 0 rfl rfl 2 (by decide) (hts _ wd_41) (fun _ h9 => h9) rfl hin rfl (by decide +kernel) rfl rfl (Nat.le_of_ble_eq_true rfl) dX4_init_22 (fun H locs hP hD hS => ?_)
  have hP : va_P (dC, dI) classes [(h0, .inr (4, [.int 0, .int 1, .ref q18, .null, .int 0, .int 0])), (q18, .inr (3, [.long 0, .long 1]))] H := hP
  have hD : va_D A [(h0, .inr (4, [.int 0, .int 1, .ref q18, .null, .int 0, .int 0])), (q18, .inr (3, [.long 0, .long 1]))] := hD
  have hP : va_P (dC, dI) classes [(h0, .inr (4, [.int 0, .int 1, .ref q18, .null, .int 0, .int 0]))] H := hP.sub [0] rfl
  have hD : va_D A [(h0, .inr (4, [.int 0, .int 1, .ref q18, .null, .int 0, .int 0]))] := hD.sub [0] (by decide) rfl
  have hK : va_K (dC, dI) classes [] s := hK.sub [] rfl
  refine lv_aload_n hx hb dX4_init_25 rfl (lv_at hl 0 rfl) ?_
  refine lv_null hx hb dX4_init_26 ?_
  refine va_put (D := (dC, dI)) (ci := 4) (v := .null) (ty := (.array .byte)) (C := RX4) (T := TX4) (N := 6) hx hb hts inX4 tyX4 tyX4_ok nmX4 hown hK hP hD hS 0 rfl rfl 3 (by decide) (hts _ wd_42) (fun _ h9 => h9) rfl (by decide +kernel) rfl rfl (Nat.le_of_ble_eq_true rfl) dX4_init_27 (fun H locs hP hD hS => ?_)
  have hP : va_P (dC, dI) classes [(h0, .inr (4, [.int 0, .int 1, .ref q18, .null, .int 0, .int 0]))] H := hP
  have hD : va_D A [(h0, .inr (4, [.int 0, .int 1, .ref q18, .null, .int 0, .int 0]))] := hD
  refine lv_aload_n hx hb dX4_init_30 rfl (lv_at hl 0 rfl) ?_
  refine lv_iconst (v := 0) hx hb dX4_init_31 (by decide) ?_
  refine va_put (D := (dC, dI)) (ci := 4) (v := .int 0) (ty := .int) (C := RX4) (T := TX4) (N := 6) hx hb hts inX4 tyX4 tyX4_ok nmX4 hown hK hP hD hS 0 rfl rfl 4 (by decide) (hts _ wd_43) (fun _ h9 => h9) rfl (by decide +kernel) rfl rfl (Nat.le_of_ble_eq_true rfl) dX4_init_32 (fun H locs hP hD hS => ?_)
  have hP : va_P (dC, dI) classes [(h0, .inr (4, [.int 0, .int 1, .ref q18, .null, .int 0, .int 0]))] H := hP
  have hD : va_D A [(h0, .inr (4, [.int 0, .int 1, .ref q18, .null, .int 0, .int 0]))] := hD
  refine lv_aload_n hx hb dX4_init_35 rfl (lv_at hl 0 rfl) ?_
  refine lv_iconst (v := 0) hx hb dX4_init_36 (by decide) ?_
  refine va_put (D := (dC, dI)) (ci := 4) (v := .int 0) (ty := .int) (C := RX4) (T := TX4) (N := 6) hx hb hts inX4 tyX4 tyX4_ok nmX4 hown hK hP hD hS 0 rfl rfl 5 (by decide) (hts _ wd_44) (fun _ h9 => h9) rfl (by decide +kernel) rfl rfl (Nat.le_of_ble_eq_true rfl) dX4_init_37 (fun H locs hP hD hS => ?_)
  have hP : va_P (dC, dI) classes [(h0, .inr (4, [.int 0, .int 1, .ref q18, .null, .int 0, .int 0]))] H := hP
  have hD : va_D A [(h0, .inr (4, [.int 0, .int 1, .ref q18, .null, .int 0, .int 0]))] := hD
  have hP9 := hP.sub (ws' := [(h0, .inr (4, [.int 0, .int 1, .ref q18, .null, .int 0, .int 0]))]) [0] rfl
  have hD9 := hD.sub (ws' := [(h0, .inr (4, [.int 0, .int 1, .ref q18, .null, .int 0, .int 0]))]) [0] (by decide) rfl
  have hK9 := hK.sub (tys' := []) [] rfl
  refine W.widen (k := 1) (n := 2) (Nat.le_of_ble_eq_true rfl) (Nat.le_of_ble_eq_true rfl) ?_
  exact W.vret hx hb hr (fun t ht hW => ⟨⟨(), rfl, trivial, q18, by rw [ht]; exact hP9, va_K.moved hW.alike hK9, hD9⟩, hS.F ht⟩) hS.2.2 dX4_init_40
set_option maxHeartbeats 4000000 in
set_option maxRecDepth 100000 in
/-- Side -/
theorem c_Side (l : Launch) (dC : Nat → ClassId) (dI : Nat → Nat → Nat) (h0 : Nat) (sz : Nat) : Met l yX7_init (.code yX7_init cX7_init 1 none :: wU) ({ frames := 1, cells := 1, slots := 12, locals := 12 } : Room) (va_Pc [.ref h0] (fun U => P5 dC dI [(h0, .inr (7, [.null, .int 0, .int 0, .int 0, .null]))] [] sz U)) (va_Qv (fun _ : Unit => True) (fun _ t => ∃ e_q19 : Nat, P3 dC dI (va_A [(h0, .inr (7, [.null, .int 0, .int 0, .int 0, .null]))] sz) [(h0, .inr (7, [.null, .int 0, .int 0, .int 0, .ref e_q19]))] [] t) (va_A [(h0, .inr (7, [.null, .int 0, .int 0, .int 0, .null]))] sz)) 1 12 (va_A [(h0, .inr (7, [.null, .int 0, .int 0, .int 0, .null]))] sz) := by
  refine Met.ofW (cc := cX7_init) (maxL := 1) (ret := none) (by decide) rfl ?_
  intro p e s m args below meth c s₁ B hml hv
  obtain ⟨rfl, hsz, hP, hK, hD0, hE⟩ := hv
  have hx := B.exec
  have hb := B.bytes
  have hr := B.returns
  have hts0 := atoms_spec (ws := (.code yX7_init cX7_init 1 none :: wU)) B.pre
  have hts : ∀ w ∈ wU, w.before _ s = true := fun w h => hts0 w (List.mem_cons_of_mem _ h)
  have hown : s.vm.findClass "SpineTables$Side" = some m.cls := findClass_of_methodNamed B.named
  have hlocks := B.notSynchronized
  have hin : meth.name = "<init>" := (name_of_methodNamed B.named B.method).1
  subst hsz
  have hD := hD0.self (sz := s.heap.size)
  generalize hAe : va_A [(h0, .inr (7, [.null, .int 0, .int 0, .int 0, .null]))] s.heap.size = A at hD ⊢
  have hA : ∀ q : Nat, s.heap.size ≤ q → A q := fun q h => by rw [← hAe]; exact Or.inr h
  have hP : va_P (dC, dI) classes [(h0, .inr (7, [.null, .int 0, .int 0, .int 0, .null]))] s.heap := hP
  have hl := lv_entry ([.ref h0]) (n := 1) (Nat.le_of_ble_eq_true rfl)
  rw [lg_entry_eq]
  generalize (lg_sl ([.ref h0]) ++ List.replicate (1 - (lg_sl ([.ref h0])).length) Slot.unset).toArray = ls at hl ⊢
  have hl : lv_has ls 1 [(0, .ref h0)] := hl
  obtain ⟨H, hH⟩ : ∃ H, H = s.heap := ⟨_, rfl⟩
  rw [← hH] at hP
  have hS : va_S A s.heap H [] := by rw [hH]; exact va_S.rf
  refine w_heap hH ?_
  refine lv_aload_n hx hb dX7_init_0 rfl (lv_at hl 0 rfl) ?_
  refine W.objInit hx hb hown (hts _ wd_45) (hts _ wd_1) (hts _ wd_oi) rfl (by rw [hml]; exact hl.1) rfl dX7_init_1 (Nat.le_of_ble_eq_true rfl) (Nat.le_of_ble_eq_true rfl) ?_
  refine W.eq (g2 := F0 m 4 ls []) rfl ?_
  refine lv_aload_n hx hb dX7_init_4 rfl (lv_at hl 0 rfl) ?_
  refine lv_null hx hb dX7_init_5 ?_
  refine va_put (D := (dC, dI)) (ci := 7) (v := .null) (ty := (.object "SpineTables$Table")) (C := RX7) (T := TX7) (N := 5) hx hb hts inX7 tyX7 tyX7_ok nmX7 hown hK hP hD hS 0 rfl rfl 0 (by decide) (hts _ wd_46) (fun _ h9 => h9) rfl (by decide +kernel) rfl rfl (Nat.le_of_ble_eq_true rfl) dX7_init_6 (fun H locs hP hD hS => ?_)
  have hP : va_P (dC, dI) classes [(h0, .inr (7, [.null, .int 0, .int 0, .int 0, .null]))] H := hP
  have hD : va_D A [(h0, .inr (7, [.null, .int 0, .int 0, .int 0, .null]))] := hD
  refine lv_aload_n hx hb dX7_init_9 rfl (lv_at hl 0 rfl) ?_
  refine lv_iconst (v := 0) hx hb dX7_init_10 (by decide) ?_
  refine va_put (D := (dC, dI)) (ci := 7) (v := .int 0) (ty := .int) (C := RX7) (T := TX7) (N := 5) hx hb hts inX7 tyX7 tyX7_ok nmX7 hown hK hP hD hS 0 rfl rfl 1 (by decide) (hts _ wd_47) (fun _ h9 => h9) rfl (by decide +kernel) rfl rfl (Nat.le_of_ble_eq_true rfl) dX7_init_11 (fun H locs hP hD hS => ?_)
  have hP : va_P (dC, dI) classes [(h0, .inr (7, [.null, .int 0, .int 0, .int 0, .null]))] H := hP
  have hD : va_D A [(h0, .inr (7, [.null, .int 0, .int 0, .int 0, .null]))] := hD
  refine lv_aload_n hx hb dX7_init_14 rfl (lv_at hl 0 rfl) ?_
  refine lv_iconst (v := 0) hx hb dX7_init_15 (by decide) ?_
  refine va_put (D := (dC, dI)) (ci := 7) (v := .int 0) (ty := .int) (C := RX7) (T := TX7) (N := 5) hx hb hts inX7 tyX7 tyX7_ok nmX7 hown hK hP hD hS 0 rfl rfl 2 (by decide) (hts _ wd_48) (fun _ h9 => h9) rfl (by decide +kernel) rfl rfl (Nat.le_of_ble_eq_true rfl) dX7_init_16 (fun H locs hP hD hS => ?_)
  have hP : va_P (dC, dI) classes [(h0, .inr (7, [.null, .int 0, .int 0, .int 0, .null]))] H := hP
  have hD : va_D A [(h0, .inr (7, [.null, .int 0, .int 0, .int 0, .null]))] := hD
  refine lv_aload_n hx hb dX7_init_19 rfl (lv_at hl 0 rfl) ?_
  refine lv_iconst (v := 0) hx hb dX7_init_20 (by decide) ?_
  refine va_put (D := (dC, dI)) (ci := 7) (v := .int 0) (ty := .boolean) (C := RX7) (T := TX7) (N := 5) hx hb hts inX7 tyX7 tyX7_ok nmX7 hown hK hP hD hS 0 rfl rfl 3 (by decide) (hts _ wd_49) (fun _ h9 => h9) rfl (by decide +kernel) rfl rfl (Nat.le_of_ble_eq_true rfl) dX7_init_21 (fun H locs hP hD hS => ?_)
  have hP : va_P (dC, dI) classes [(h0, .inr (7, [.null, .int 0, .int 0, .int 0, .null]))] H := hP
  have hD : va_D A [(h0, .inr (7, [.null, .int 0, .int 0, .int 0, .null]))] := hD
  refine lv_aload_n hx hb dX7_init_24 rfl (lv_at hl 0 rfl) ?_
  refine lv_bipush (v := 12) hx hb dX7_init_25 (by decide) ?_
  refine va_newa (atype := .int) (ty := .int) (N' := 12) (a0 := (12, .inl (fun _ => 0))) hx hb (hts _ wd_13) rfl hK hP hD hS hA (fun _ => rfl) (by decide) (by decide) (by decide) (Nat.le_of_ble_eq_true rfl) (Nat.le_of_ble_eq_true rfl) dX7_init_27 (fun q19 y20 H hK hP hD hS => ?_)
  have hK : va_K (dC, dI) classes [(y20, .int)] s := hK
  have hP : va_P (dC, dI) classes [(h0, .inr (7, [.null, .int 0, .int 0, .int 0, .null])), (q19, .inl (y20, 12, .inl (fun _ => 0)))] H := hP
  have hD : va_D A [(h0, .inr (7, [.null, .int 0, .int 0, .int 0, .null])), (q19, .inl (y20, 12, .inl (fun _ => 0)))] := hD
  refine W.widen (k := 1) (n := 12) (Nat.le_of_ble_eq_true rfl) (Nat.le_of_ble_eq_true rfl) ?_
  refine va_putF (D := (dC, dI)) (ci := 7) (v := .ref q19) (ty := (.array .int)) (C := RX7) (T := TX7) (N := 5) hx hb hts inX7 tyX7 tyX7_ok nmX7 hown hK hP hD hS 0 rfl rfl 4 (by decide) (hts _ wd_50) (fun _ h9 => h9) rfl hin rfl (by decide +kernel) rfl rfl (Nat.le_of_ble_eq_true rfl) dX7_init_29 (fun H locs hP hD hS => ?_)
  have hP : va_P (dC, dI) classes [(h0, .inr (7, [.null, .int 0, .int 0, .int 0, .ref q19])), (q19, .inl (y20, 12, .inl (fun _ => 0)))] H := hP
  have hD : va_D A [(h0, .inr (7, [.null, .int 0, .int 0, .int 0, .ref q19])), (q19, .inl (y20, 12, .inl (fun _ => 0)))] := hD
  have hP : va_P (dC, dI) classes [(h0, .inr (7, [.null, .int 0, .int 0, .int 0, .ref q19]))] H := hP.sub [0] rfl
  have hD : va_D A [(h0, .inr (7, [.null, .int 0, .int 0, .int 0, .ref q19]))] := hD.sub [0] (by decide) rfl
  have hK : va_K (dC, dI) classes [] s := hK.sub [] rfl
  have hP9 := hP.sub (ws' := [(h0, .inr (7, [.null, .int 0, .int 0, .int 0, .ref q19]))]) [0] rfl
  have hD9 := hD.sub (ws' := [(h0, .inr (7, [.null, .int 0, .int 0, .int 0, .ref q19]))]) [0] (by decide) rfl
  have hK9 := hK.sub (tys' := []) [] rfl
  refine W.widen (k := 1) (n := 12) (Nat.le_of_ble_eq_true rfl) (Nat.le_of_ble_eq_true rfl) ?_
  exact W.vret hx hb hr (fun t ht hW => ⟨⟨(), rfl, trivial, q19, by rw [ht]; exact hP9, va_K.moved hW.alike hK9, hD9⟩, hS.F ht⟩) hS.2.2 dX7_init_32
set_option maxHeartbeats 4000000 in
set_option maxRecDepth 100000 in
/-- Assembler -/
theorem c_Assembler (l : Launch) (dC : Nat → ClassId) (dI : Nat → Nat → Nat) (h0 : Nat) (sz : Nat) : Met l yX0_init (.code yX0_init cX0_init 1 none :: wU) ({ frames := 2, cells := 4, slots := 34, locals := 32 } : Room) (va_Pc [.ref h0] (fun U => P5 dC dI [(h0, .inr (0, [.null, .null, .null]))] [] sz U)) (va_Qv (fun _ : Unit => True) (fun _ t => ∃ e_q21 : Nat, ∃ e_q23 : Nat, P3 dC dI (va_A [(h0, .inr (0, [.null, .null, .null]))] sz) [(h0, .inr (0, [.ref e_q21, .ref e_q23, .null]))] [] t) (va_A [(h0, .inr (0, [.null, .null, .null]))] sz)) 4 34 (va_A [(h0, .inr (0, [.null, .null, .null]))] sz) := by
  refine Met.ofW (cc := cX0_init) (maxL := 1) (ret := none) (by decide) rfl ?_
  intro p e s m args below meth c s₁ B hml hv
  obtain ⟨rfl, hsz, hP, hK, hD0, hE⟩ := hv
  have hx := B.exec
  have hb := B.bytes
  have hr := B.returns
  have hts0 := atoms_spec (ws := (.code yX0_init cX0_init 1 none :: wU)) B.pre
  have hts : ∀ w ∈ wU, w.before _ s = true := fun w h => hts0 w (List.mem_cons_of_mem _ h)
  have hown : s.vm.findClass "SpineTables$Assembler" = some m.cls := findClass_of_methodNamed B.named
  have hlocks := B.notSynchronized
  have hin : meth.name = "<init>" := (name_of_methodNamed B.named B.method).1
  subst hsz
  have hD := hD0.self (sz := s.heap.size)
  generalize hAe : va_A [(h0, .inr (0, [.null, .null, .null]))] s.heap.size = A at hD ⊢
  have hA : ∀ q : Nat, s.heap.size ≤ q → A q := fun q h => by rw [← hAe]; exact Or.inr h
  have hP : va_P (dC, dI) classes [(h0, .inr (0, [.null, .null, .null]))] s.heap := hP
  have hl := lv_entry ([.ref h0]) (n := 1) (Nat.le_of_ble_eq_true rfl)
  rw [lg_entry_eq]
  generalize (lg_sl ([.ref h0]) ++ List.replicate (1 - (lg_sl ([.ref h0])).length) Slot.unset).toArray = ls at hl ⊢
  have hl : lv_has ls 1 [(0, .ref h0)] := hl
  obtain ⟨H, hH⟩ : ∃ H, H = s.heap := ⟨_, rfl⟩
  rw [← hH] at hP
  have hS : va_S A s.heap H [] := by rw [hH]; exact va_S.rf
  refine w_heap hH ?_
  refine lv_aload_n hx hb dX0_init_0 rfl (lv_at hl 0 rfl) ?_
  refine W.objInit hx hb hown (hts _ wd_51) (hts _ wd_1) (hts _ wd_oi) rfl (by rw [hml]; exact hl.1) rfl dX0_init_1 (Nat.le_of_ble_eq_true rfl) (Nat.le_of_ble_eq_true rfl) ?_
  refine W.eq (g2 := F0 m 4 ls []) rfl ?_
  refine lv_aload_n hx hb dX0_init_4 rfl (lv_at hl 0 rfl) ?_
  refine va_new (ci := 7) (fs := [.null, .int 0, .int 0, .int 0, .null]) (C := RX7) (T := TX7) (N := 5) hx hb hts inX7 tyX7 tyX7_ok hown (hts _ wd_52) (hts _ wd_53) (hts _ wd_54) hK hP hD hS hA rfl dfX7 (Nat.le_of_ble_eq_true rfl) (Nat.le_of_ble_eq_true rfl) dX0_init_5 (fun q21 H hP hD hS => ?_)
  have hP : va_P (dC, dI) classes [(h0, .inr (0, [.null, .null, .null])), (q21, .inr (7, [.null, .int 0, .int 0, .int 0, .null]))] H := hP
  have hD : va_D A [(h0, .inr (0, [.null, .null, .null])), (q21, .inr (7, [.null, .int 0, .int 0, .int 0, .null]))] := hD
  refine W.widen (k := 1) (n := 5) (Nat.le_of_ble_eq_true rfl) (Nat.le_of_ble_eq_true rfl) ?_
  refine lv_dup hx hb dX0_init_8 rfl ?_
  have hPc := hP.sub (ws' := [(q21, .inr (7, [.null, .int 0, .int 0, .int 0, .null]))]) [1] rfl
  have hDc := hD.sub (ws' := [(q21, .inr (7, [.null, .int 0, .int 0, .int 0, .null]))]) [1] (by decide) rfl
  have hKc := hK.sub (tys' := []) [] rfl
  have hFc := va_free (wc := [(q21, .inr (7, [.null, .int 0, .int 0, .int 0, .null]))]) hD hS hA [1] rfl
  refine va_callv (va_runIN (As := []) (rest := [.ref q21, .ref h0]) ⟨hx, hb, hml, hown, hts⟩ (c_Side l dC dI q21 H.size) ⟨va_cnB 0 hts (goC wd_55) rfl rfl rfl (hE.1 _ (List.mem_of_getElem? (i := 2) rfl)) (hts _ wd_54) (by decide +kernel) ⟨Nat.le_of_ble_eq_true rfl, Nat.le_of_ble_eq_true rfl⟩, rfl, hts _ wd_56⟩ ⟨blind5, fun U hU hW => ⟨rfl, pre5 hU hW hPc hKc hDc hE⟩⟩ rfl rfl hl.1 rfl (lv_room (Nat.le_of_ble_eq_true rfl)) dX0_init_9 ⟨Nat.le_of_ble_eq_true rfl, Nat.le_of_ble_eq_true rfl⟩) hS (fun q _ h => hFc q h) hFc (fun u t H1 locs ht hvm hw hB hz1 hk1 hS => ?_)
  obtain ⟨q22, hP1, hK1, hD1⟩ := hB
  rw [ht] at hP1
  have hK1 := va_K.moved hvm.symm hK1
  obtain ⟨hP, hD⟩ := va_join (wr := [(h0, .inr (0, [.null, .null, .null]))]) (w1 := [(q21, .inr (7, [.null, .int 0, .int 0, .int 0, .ref q22]))]) hP hD [1] [0] rfl rfl (by decide) (by decide) hk1 hFc hP1 hD1
  have hK := (hK.sub (tys' := []) [] rfl).app hK1
  generalize H1 = H at hP hS ⊢
  have hK : va_K (dC, dI) classes [] s := hK
  have hP : va_P (dC, dI) classes [(h0, .inr (0, [.null, .null, .null])), (q21, .inr (7, [.null, .int 0, .int 0, .int 0, .ref q22]))] H := hP
  have hD : va_D A [(h0, .inr (0, [.null, .null, .null])), (q21, .inr (7, [.null, .int 0, .int 0, .int 0, .ref q22]))] := hD
  refine W.widen (k := 2) (n := 17) (Nat.le_of_ble_eq_true rfl) (Nat.le_of_ble_eq_true rfl) ?_
  refine va_putF (D := (dC, dI)) (ci := 0) (v := .ref q21) (ty := (.object "SpineTables$Side")) (C := RX0) (T := TX0) (N := 3) hx hb hts inX0 tyX0 tyX0_ok nmX0 hown hK hP hD hS 0 rfl rfl 0 (by decide) (hts _ wd_57) (fun _ h9 => h9) rfl hin rfl (by decide +kernel) rfl rfl (Nat.le_of_ble_eq_true rfl) dX0_init_12 (fun H locs hP hD hS => ?_)
  have hP : va_P (dC, dI) classes [(h0, .inr (0, [.ref q21, .null, .null])), (q21, .inr (7, [.null, .int 0, .int 0, .int 0, .ref q22]))] H := hP
  have hD : va_D A [(h0, .inr (0, [.ref q21, .null, .null])), (q21, .inr (7, [.null, .int 0, .int 0, .int 0, .ref q22]))] := hD
  have hP : va_P (dC, dI) classes [(h0, .inr (0, [.ref q21, .null, .null]))] H := hP.sub [0] rfl
  have hD : va_D A [(h0, .inr (0, [.ref q21, .null, .null]))] := hD.sub [0] (by decide) rfl
  have hK : va_K (dC, dI) classes [] s := hK.sub [] rfl
  refine lv_aload_n hx hb dX0_init_15 rfl (lv_at hl 0 rfl) ?_
  refine va_new (ci := 7) (fs := [.null, .int 0, .int 0, .int 0, .null]) (C := RX7) (T := TX7) (N := 5) hx hb hts inX7 tyX7 tyX7_ok hown (hts _ wd_52) (hts _ wd_53) (hts _ wd_54) hK hP hD hS hA rfl dfX7 (Nat.le_of_ble_eq_true rfl) (Nat.le_of_ble_eq_true rfl) dX0_init_16 (fun q23 H hP hD hS => ?_)
  have hP : va_P (dC, dI) classes [(h0, .inr (0, [.ref q21, .null, .null])), (q23, .inr (7, [.null, .int 0, .int 0, .int 0, .null]))] H := hP
  have hD : va_D A [(h0, .inr (0, [.ref q21, .null, .null])), (q23, .inr (7, [.null, .int 0, .int 0, .int 0, .null]))] := hD
  refine W.widen (k := 3) (n := 22) (Nat.le_of_ble_eq_true rfl) (Nat.le_of_ble_eq_true rfl) ?_
  refine lv_dup hx hb dX0_init_19 rfl ?_
  have hPc := hP.sub (ws' := [(q23, .inr (7, [.null, .int 0, .int 0, .int 0, .null]))]) [1] rfl
  have hDc := hD.sub (ws' := [(q23, .inr (7, [.null, .int 0, .int 0, .int 0, .null]))]) [1] (by decide) rfl
  have hKc := hK.sub (tys' := []) [] rfl
  have hFc := va_free (wc := [(q23, .inr (7, [.null, .int 0, .int 0, .int 0, .null]))]) hD hS hA [1] rfl
  refine va_callv (va_runIN (As := []) (rest := [.ref q23, .ref h0]) ⟨hx, hb, hml, hown, hts⟩ (c_Side l dC dI q23 H.size) ⟨va_cnB 0 hts (goC wd_55) rfl rfl rfl (hE.1 _ (List.mem_of_getElem? (i := 2) rfl)) (hts _ wd_54) (by decide +kernel) ⟨Nat.le_of_ble_eq_true rfl, Nat.le_of_ble_eq_true rfl⟩, rfl, hts _ wd_56⟩ ⟨blind5, fun U hU hW => ⟨rfl, pre5 hU hW hPc hKc hDc hE⟩⟩ rfl rfl hl.1 rfl (lv_room (Nat.le_of_ble_eq_true rfl)) dX0_init_20 ⟨Nat.le_of_ble_eq_true rfl, Nat.le_of_ble_eq_true rfl⟩) hS (fun q _ h => hFc q h) hFc (fun u t H1 locs ht hvm hw hB hz1 hk1 hS => ?_)
  obtain ⟨q24, hP1, hK1, hD1⟩ := hB
  rw [ht] at hP1
  have hK1 := va_K.moved hvm.symm hK1
  obtain ⟨hP, hD⟩ := va_join (wr := [(h0, .inr (0, [.ref q21, .null, .null]))]) (w1 := [(q23, .inr (7, [.null, .int 0, .int 0, .int 0, .ref q24]))]) hP hD [1] [0] rfl rfl (by decide) (by decide) hk1 hFc hP1 hD1
  have hK := (hK.sub (tys' := []) [] rfl).app hK1
  generalize H1 = H at hP hS ⊢
  have hK : va_K (dC, dI) classes [] s := hK
  have hP : va_P (dC, dI) classes [(h0, .inr (0, [.ref q21, .null, .null])), (q23, .inr (7, [.null, .int 0, .int 0, .int 0, .ref q24]))] H := hP
  have hD : va_D A [(h0, .inr (0, [.ref q21, .null, .null])), (q23, .inr (7, [.null, .int 0, .int 0, .int 0, .ref q24]))] := hD
  refine W.widen (k := 4) (n := 34) (Nat.le_of_ble_eq_true rfl) (Nat.le_of_ble_eq_true rfl) ?_
  refine va_putF (D := (dC, dI)) (ci := 0) (v := .ref q23) (ty := (.object "SpineTables$Side")) (C := RX0) (T := TX0) (N := 3) hx hb hts inX0 tyX0 tyX0_ok nmX0 hown hK hP hD hS 0 rfl rfl 1 (by decide) (hts _ wd_58) (fun _ h9 => h9) rfl hin rfl (by decide +kernel) rfl rfl (Nat.le_of_ble_eq_true rfl) dX0_init_23 (fun H locs hP hD hS => ?_)
  have hP : va_P (dC, dI) classes [(h0, .inr (0, [.ref q21, .ref q23, .null])), (q23, .inr (7, [.null, .int 0, .int 0, .int 0, .ref q24]))] H := hP
  have hD : va_D A [(h0, .inr (0, [.ref q21, .ref q23, .null])), (q23, .inr (7, [.null, .int 0, .int 0, .int 0, .ref q24]))] := hD
  have hP : va_P (dC, dI) classes [(h0, .inr (0, [.ref q21, .ref q23, .null]))] H := hP.sub [0] rfl
  have hD : va_D A [(h0, .inr (0, [.ref q21, .ref q23, .null]))] := hD.sub [0] (by decide) rfl
  have hK : va_K (dC, dI) classes [] s := hK.sub [] rfl
  refine lv_aload_n hx hb dX0_init_26 rfl (lv_at hl 0 rfl) ?_
  refine lv_null hx hb dX0_init_27 ?_
  refine va_put (D := (dC, dI)) (ci := 0) (v := .null) (ty := (.object "SpineTables$Rows")) (C := RX0) (T := TX0) (N := 3) hx hb hts inX0 tyX0 tyX0_ok nmX0 hown hK hP hD hS 0 rfl rfl 2 (by decide) (hts _ wd_59) (fun _ h9 => h9) rfl (by decide +kernel) rfl rfl (Nat.le_of_ble_eq_true rfl) dX0_init_28 (fun H locs hP hD hS => ?_)
  have hP : va_P (dC, dI) classes [(h0, .inr (0, [.ref q21, .ref q23, .null]))] H := hP
  have hD : va_D A [(h0, .inr (0, [.ref q21, .ref q23, .null]))] := hD
  have hP9 := hP.sub (ws' := [(h0, .inr (0, [.ref q21, .ref q23, .null]))]) [0] rfl
  have hD9 := hD.sub (ws' := [(h0, .inr (0, [.ref q21, .ref q23, .null]))]) [0] (by decide) rfl
  have hK9 := hK.sub (tys' := []) [] rfl
  refine W.widen (k := 4) (n := 34) (Nat.le_of_ble_eq_true rfl) (Nat.le_of_ble_eq_true rfl) ?_
  exact W.vret hx hb hr (fun t ht hW => ⟨⟨(), rfl, trivial, q21, q23, by rw [ht]; exact hP9, va_K.moved hW.alike hK9, hD9⟩, hS.F ht⟩) hS.2.2 dX0_init_31
set_option maxHeartbeats 4000000 in
set_option maxRecDepth 100000 in
/-- Extractor -/
theorem c_Extractor (l : Launch) (dC : Nat → ClassId) (dI : Nat → Nat → Nat) (h0 : Nat) (sz : Nat) : Met l yX2_init (.code yX2_init cX2_init 1 none :: wU) ({ frames := 1, cells := 1, slots := 12, locals := 12 } : Room) (va_Pc [.ref h0] (fun U => P5 dC dI [(h0, .inr (2, [.null]))] [] sz U)) (va_Qv (fun _ : Unit => True) (fun _ t => ∃ e_q25 : Nat, P3 dC dI (va_A [(h0, .inr (2, [.null]))] sz) [(h0, .inr (2, [.ref e_q25]))] [] t) (va_A [(h0, .inr (2, [.null]))] sz)) 1 12 (va_A [(h0, .inr (2, [.null]))] sz) := by
  refine Met.ofW (cc := cX2_init) (maxL := 1) (ret := none) (by decide) rfl ?_
  intro p e s m args below meth c s₁ B hml hv
  obtain ⟨rfl, hsz, hP, hK, hD0, hE⟩ := hv
  have hx := B.exec
  have hb := B.bytes
  have hr := B.returns
  have hts0 := atoms_spec (ws := (.code yX2_init cX2_init 1 none :: wU)) B.pre
  have hts : ∀ w ∈ wU, w.before _ s = true := fun w h => hts0 w (List.mem_cons_of_mem _ h)
  have hown : s.vm.findClass "SpineTables$Extractor" = some m.cls := findClass_of_methodNamed B.named
  have hlocks := B.notSynchronized
  have hin : meth.name = "<init>" := (name_of_methodNamed B.named B.method).1
  subst hsz
  have hD := hD0.self (sz := s.heap.size)
  generalize hAe : va_A [(h0, .inr (2, [.null]))] s.heap.size = A at hD ⊢
  have hA : ∀ q : Nat, s.heap.size ≤ q → A q := fun q h => by rw [← hAe]; exact Or.inr h
  have hP : va_P (dC, dI) classes [(h0, .inr (2, [.null]))] s.heap := hP
  have hl := lv_entry ([.ref h0]) (n := 1) (Nat.le_of_ble_eq_true rfl)
  rw [lg_entry_eq]
  generalize (lg_sl ([.ref h0]) ++ List.replicate (1 - (lg_sl ([.ref h0])).length) Slot.unset).toArray = ls at hl ⊢
  have hl : lv_has ls 1 [(0, .ref h0)] := hl
  obtain ⟨H, hH⟩ : ∃ H, H = s.heap := ⟨_, rfl⟩
  rw [← hH] at hP
  have hS : va_S A s.heap H [] := by rw [hH]; exact va_S.rf
  refine w_heap hH ?_
  refine lv_aload_n hx hb dX2_init_0 rfl (lv_at hl 0 rfl) ?_
  refine W.objInit hx hb hown (hts _ wd_60) (hts _ wd_1) (hts _ wd_oi) rfl (by rw [hml]; exact hl.1) rfl dX2_init_1 (Nat.le_of_ble_eq_true rfl) (Nat.le_of_ble_eq_true rfl) ?_
  refine W.eq (g2 := F0 m 4 ls []) rfl ?_
  refine lv_aload_n hx hb dX2_init_4 rfl (lv_at hl 0 rfl) ?_
  refine lv_bipush (v := 12) hx hb dX2_init_5 (by decide) ?_
  refine va_newa (atype := .int) (ty := .int) (N' := 12) (a0 := (12, .inl (fun _ => 0))) hx hb (hts _ wd_13) rfl hK hP hD hS hA (fun _ => rfl) (by decide) (by decide) (by decide) (Nat.le_of_ble_eq_true rfl) (Nat.le_of_ble_eq_true rfl) dX2_init_7 (fun q25 y26 H hK hP hD hS => ?_)
  have hK : va_K (dC, dI) classes [(y26, .int)] s := hK
  have hP : va_P (dC, dI) classes [(h0, .inr (2, [.null])), (q25, .inl (y26, 12, .inl (fun _ => 0)))] H := hP
  have hD : va_D A [(h0, .inr (2, [.null])), (q25, .inl (y26, 12, .inl (fun _ => 0)))] := hD
  refine W.widen (k := 1) (n := 12) (Nat.le_of_ble_eq_true rfl) (Nat.le_of_ble_eq_true rfl) ?_
  refine va_putF (D := (dC, dI)) (ci := 2) (v := .ref q25) (ty := (.array .int)) (C := RX2) (T := TX2) (N := 1) hx hb hts inX2 tyX2 tyX2_ok nmX2 hown hK hP hD hS 0 rfl rfl 0 (by decide) (hts _ wd_61) (fun _ h9 => h9) rfl hin rfl (by decide +kernel) rfl rfl (Nat.le_of_ble_eq_true rfl) dX2_init_9 (fun H locs hP hD hS => ?_)
  have hP : va_P (dC, dI) classes [(h0, .inr (2, [.ref q25])), (q25, .inl (y26, 12, .inl (fun _ => 0)))] H := hP
  have hD : va_D A [(h0, .inr (2, [.ref q25])), (q25, .inl (y26, 12, .inl (fun _ => 0)))] := hD
  have hP : va_P (dC, dI) classes [(h0, .inr (2, [.ref q25]))] H := hP.sub [0] rfl
  have hD : va_D A [(h0, .inr (2, [.ref q25]))] := hD.sub [0] (by decide) rfl
  have hK : va_K (dC, dI) classes [] s := hK.sub [] rfl
  have hP9 := hP.sub (ws' := [(h0, .inr (2, [.ref q25]))]) [0] rfl
  have hD9 := hD.sub (ws' := [(h0, .inr (2, [.ref q25]))]) [0] (by decide) rfl
  have hK9 := hK.sub (tys' := []) [] rfl
  refine W.widen (k := 1) (n := 12) (Nat.le_of_ble_eq_true rfl) (Nat.le_of_ble_eq_true rfl) ?_
  exact W.vret hx hb hr (fun t ht hW => ⟨⟨(), rfl, trivial, q25, by rw [ht]; exact hP9, va_K.moved hW.alike hK9, hD9⟩, hS.F ht⟩) hS.2.2 dX2_init_12
set_option maxHeartbeats 4000000 in
set_option maxRecDepth 100000 in
/-- BarCheck -/
theorem c_BarCheck (l : Launch) (dC : Nat → ClassId) (dI : Nat → Nat → Nat) (h0 : Nat) (sz : Nat) : Met l yX1_init (.code yX1_init cX1_init 1 none :: wU) ({ frames := 2, cells := 1, slots := 2, locals := 32 } : Room) (va_Pc [.ref h0] (fun U => P5 dC dI [(h0, .inr (1, [.null, .int 0, .int 0, .int 0, .int 0]))] [] sz U)) (va_Qv (fun _ : Unit => True) (fun _ t => ∃ e_q27 : Nat, P3 dC dI (va_A [(h0, .inr (1, [.null, .int 0, .int 0, .int 0, .int 0]))] sz) [(h0, .inr (1, [.ref e_q27, .int 0, .int 1, .int 0, .int 1]))] [] t) (va_A [(h0, .inr (1, [.null, .int 0, .int 0, .int 0, .int 0]))] sz)) 1 2 (va_A [(h0, .inr (1, [.null, .int 0, .int 0, .int 0, .int 0]))] sz) := by
  refine Met.ofW (cc := cX1_init) (maxL := 1) (ret := none) (by decide) rfl ?_
  intro p e s m args below meth c s₁ B hml hv
  obtain ⟨rfl, hsz, hP, hK, hD0, hE⟩ := hv
  have hx := B.exec
  have hb := B.bytes
  have hr := B.returns
  have hts0 := atoms_spec (ws := (.code yX1_init cX1_init 1 none :: wU)) B.pre
  have hts : ∀ w ∈ wU, w.before _ s = true := fun w h => hts0 w (List.mem_cons_of_mem _ h)
  have hown : s.vm.findClass "SpineTables$BarCheck" = some m.cls := findClass_of_methodNamed B.named
  have hlocks := B.notSynchronized
  have hin : meth.name = "<init>" := (name_of_methodNamed B.named B.method).1
  subst hsz
  have hD := hD0.self (sz := s.heap.size)
  generalize hAe : va_A [(h0, .inr (1, [.null, .int 0, .int 0, .int 0, .int 0]))] s.heap.size = A at hD ⊢
  have hA : ∀ q : Nat, s.heap.size ≤ q → A q := fun q h => by rw [← hAe]; exact Or.inr h
  have hP : va_P (dC, dI) classes [(h0, .inr (1, [.null, .int 0, .int 0, .int 0, .int 0]))] s.heap := hP
  have hl := lv_entry ([.ref h0]) (n := 1) (Nat.le_of_ble_eq_true rfl)
  rw [lg_entry_eq]
  generalize (lg_sl ([.ref h0]) ++ List.replicate (1 - (lg_sl ([.ref h0])).length) Slot.unset).toArray = ls at hl ⊢
  have hl : lv_has ls 1 [(0, .ref h0)] := hl
  obtain ⟨H, hH⟩ : ∃ H, H = s.heap := ⟨_, rfl⟩
  rw [← hH] at hP
  have hS : va_S A s.heap H [] := by rw [hH]; exact va_S.rf
  refine w_heap hH ?_
  refine lv_aload_n hx hb dX1_init_0 rfl (lv_at hl 0 rfl) ?_
  refine W.objInit hx hb hown (hts _ wd_62) (hts _ wd_1) (hts _ wd_oi) rfl (by rw [hml]; exact hl.1) rfl dX1_init_1 (Nat.le_of_ble_eq_true rfl) (Nat.le_of_ble_eq_true rfl) ?_
  refine W.eq (g2 := F0 m 4 ls []) rfl ?_
  refine lv_aload_n hx hb dX1_init_4 rfl (lv_at hl 0 rfl) ?_
  refine va_new (ci := 3) (fs := [.long 0, .long 0]) (C := RX3) (T := TX3) (N := 2) hx hb hts inX3 tyX3 tyX3_ok hown (hts _ wd_63) (hts _ wd_29) (hts _ wd_30) hK hP hD hS hA rfl dfX3 (Nat.le_of_ble_eq_true rfl) (Nat.le_of_ble_eq_true rfl) dX1_init_5 (fun q27 H hP hD hS => ?_)
  have hP : va_P (dC, dI) classes [(h0, .inr (1, [.null, .int 0, .int 0, .int 0, .int 0])), (q27, .inr (3, [.long 0, .long 0]))] H := hP
  have hD : va_D A [(h0, .inr (1, [.null, .int 0, .int 0, .int 0, .int 0])), (q27, .inr (3, [.long 0, .long 0]))] := hD
  refine W.widen (k := 1) (n := 2) (Nat.le_of_ble_eq_true rfl) (Nat.le_of_ble_eq_true rfl) ?_
  refine lv_dup hx hb dX1_init_8 rfl ?_
  have hPc := hP.sub (ws' := [(q27, .inr (3, [.long 0, .long 0]))]) [1] rfl
  have hDc := hD.sub (ws' := [(q27, .inr (3, [.long 0, .long 0]))]) [1] (by decide) rfl
  have hKc := hK.sub (tys' := []) [] rfl
  have hFc := va_free (wc := [(q27, .inr (3, [.long 0, .long 0]))]) hD hS hA [1] rfl
  refine va_callv (va_runIN (As := []) (rest := [.ref q27, .ref h0]) ⟨hx, hb, hml, hown, hts⟩ (c_Fraction l dC dI q27 H.size) ⟨va_cnB 0 hts (goC wd_31) rfl rfl rfl (hE.1 _ (List.mem_of_getElem? (i := 3) rfl)) (hts _ wd_30) (by decide +kernel) ⟨Nat.le_of_ble_eq_true rfl, Nat.le_of_ble_eq_true rfl⟩, rfl, hts _ wd_32⟩ ⟨blind5, fun U hU hW => ⟨rfl, pre5 hU hW hPc hKc hDc hE⟩⟩ rfl rfl hl.1 rfl (lv_room (Nat.le_of_ble_eq_true rfl)) dX1_init_9 ⟨Nat.le_of_ble_eq_true rfl, Nat.le_of_ble_eq_true rfl⟩) hS (fun q _ h => hFc q h) hFc (fun u t H1 locs ht hvm hw hB hz1 hk1 hS => ?_)
  obtain ⟨hP1, hK1, hD1⟩ := hB
  rw [ht] at hP1
  have hK1 := va_K.moved hvm.symm hK1
  obtain ⟨hP, hD⟩ := va_join (wr := [(h0, .inr (1, [.null, .int 0, .int 0, .int 0, .int 0]))]) (w1 := [(q27, .inr (3, [.long 0, .long 1]))]) hP hD [1] [0] rfl rfl (by decide) (by decide) hk1 hFc hP1 hD1
  have hK := (hK.sub (tys' := []) [] rfl).app hK1
  generalize H1 = H at hP hS ⊢
  have hK : va_K (dC, dI) classes [] s := hK
  have hP : va_P (dC, dI) classes [(h0, .inr (1, [.null, .int 0, .int 0, .int 0, .int 0])), (q27, .inr (3, [.long 0, .long 1]))] H := hP
  have hD : va_D A [(h0, .inr (1, [.null, .int 0, .int 0, .int 0, .int 0])), (q27, .inr (3, [.long 0, .long 1]))] := hD
  refine va_putF (D := (dC, dI)) (ci := 1) (v := .ref q27) (ty := (.object "SpineTables$Fraction")) (C := RX1) (T := TX1) (N := 5) hx hb hts inX1 tyX1 tyX1_ok nmX1 hown hK hP hD hS 0 rfl rfl 0 (by decide) (hts _ wd_64) (fun _ h9 => h9) rfl hin rfl (by decide +kernel) rfl rfl (Nat.le_of_ble_eq_true rfl) dX1_init_12 (fun H locs hP hD hS => ?_)
  have hP : va_P (dC, dI) classes [(h0, .inr (1, [.ref q27, .int 0, .int 0, .int 0, .int 0])), (q27, .inr (3, [.long 0, .long 1]))] H := hP
  have hD : va_D A [(h0, .inr (1, [.ref q27, .int 0, .int 0, .int 0, .int 0])), (q27, .inr (3, [.long 0, .long 1]))] := hD
  have hP : va_P (dC, dI) classes [(h0, .inr (1, [.ref q27, .int 0, .int 0, .int 0, .int 0]))] H := hP.sub [0] rfl
  have hD : va_D A [(h0, .inr (1, [.ref q27, .int 0, .int 0, .int 0, .int 0]))] := hD.sub [0] (by decide) rfl
  have hK : va_K (dC, dI) classes [] s := hK.sub [] rfl
  refine lv_aload_n hx hb dX1_init_15 rfl (lv_at hl 0 rfl) ?_
  refine lv_iconst (v := 0) hx hb dX1_init_16 (by decide) ?_
  refine va_put (D := (dC, dI)) (ci := 1) (v := .int 0) (ty := .int) (C := RX1) (T := TX1) (N := 5) hx hb hts inX1 tyX1 tyX1_ok nmX1 hown hK hP hD hS 0 rfl rfl 1 (by decide) (hts _ wd_65) (fun _ h9 => h9) rfl (by decide +kernel) rfl rfl (Nat.le_of_ble_eq_true rfl) dX1_init_17 (fun H locs hP hD hS => ?_)
  have hP : va_P (dC, dI) classes [(h0, .inr (1, [.ref q27, .int 0, .int 0, .int 0, .int 0]))] H := hP
  have hD : va_D A [(h0, .inr (1, [.ref q27, .int 0, .int 0, .int 0, .int 0]))] := hD
  refine lv_aload_n hx hb dX1_init_20 rfl (lv_at hl 0 rfl) ?_
  refine lv_iconst (v := 1) hx hb dX1_init_21 (by decide) ?_
  refine va_put (D := (dC, dI)) (ci := 1) (v := .int 1) (ty := .int) (C := RX1) (T := TX1) (N := 5) hx hb hts inX1 tyX1 tyX1_ok nmX1 hown hK hP hD hS 0 rfl rfl 2 (by decide) (hts _ wd_66) (fun _ h9 => h9) rfl (by decide +kernel) rfl rfl (Nat.le_of_ble_eq_true rfl) dX1_init_22 (fun H locs hP hD hS => ?_)
  have hP : va_P (dC, dI) classes [(h0, .inr (1, [.ref q27, .int 0, .int 1, .int 0, .int 0]))] H := hP
  have hD : va_D A [(h0, .inr (1, [.ref q27, .int 0, .int 1, .int 0, .int 0]))] := hD
  refine lv_aload_n hx hb dX1_init_25 rfl (lv_at hl 0 rfl) ?_
  refine lv_iconst (v := 0) hx hb dX1_init_26 (by decide) ?_
  refine va_put (D := (dC, dI)) (ci := 1) (v := .int 0) (ty := .int) (C := RX1) (T := TX1) (N := 5) hx hb hts inX1 tyX1 tyX1_ok nmX1 hown hK hP hD hS 0 rfl rfl 3 (by decide) (hts _ wd_67) (fun _ h9 => h9) rfl (by decide +kernel) rfl rfl (Nat.le_of_ble_eq_true rfl) dX1_init_27 (fun H locs hP hD hS => ?_)
  have hP : va_P (dC, dI) classes [(h0, .inr (1, [.ref q27, .int 0, .int 1, .int 0, .int 0]))] H := hP
  have hD : va_D A [(h0, .inr (1, [.ref q27, .int 0, .int 1, .int 0, .int 0]))] := hD
  refine lv_aload_n hx hb dX1_init_30 rfl (lv_at hl 0 rfl) ?_
  refine lv_iconst (v := 1) hx hb dX1_init_31 (by decide) ?_
  refine va_put (D := (dC, dI)) (ci := 1) (v := .int 1) (ty := .int) (C := RX1) (T := TX1) (N := 5) hx hb hts inX1 tyX1 tyX1_ok nmX1 hown hK hP hD hS 0 rfl rfl 4 (by decide) (hts _ wd_68) (fun _ h9 => h9) rfl (by decide +kernel) rfl rfl (Nat.le_of_ble_eq_true rfl) dX1_init_32 (fun H locs hP hD hS => ?_)
  have hP : va_P (dC, dI) classes [(h0, .inr (1, [.ref q27, .int 0, .int 1, .int 0, .int 1]))] H := hP
  have hD : va_D A [(h0, .inr (1, [.ref q27, .int 0, .int 1, .int 0, .int 1]))] := hD
  have hP9 := hP.sub (ws' := [(h0, .inr (1, [.ref q27, .int 0, .int 1, .int 0, .int 1]))]) [0] rfl
  have hD9 := hD.sub (ws' := [(h0, .inr (1, [.ref q27, .int 0, .int 1, .int 0, .int 1]))]) [0] (by decide) rfl
  have hK9 := hK.sub (tys' := []) [] rfl
  refine W.widen (k := 1) (n := 2) (Nat.le_of_ble_eq_true rfl) (Nat.le_of_ble_eq_true rfl) ?_
  exact W.vret hx hb hr (fun t ht hW => ⟨⟨(), rfl, trivial, q27, by rw [ht]; exact hP9, va_K.moved hW.alike hK9, hD9⟩, hS.F ht⟩) hS.2.2 dX1_init_35
end
section
set_option maxHeartbeats 4000000 in
set_option maxRecDepth 100000 in
/-- Rows -/
theorem c_Rows (l : Launch) (dC : Nat → ClassId) (dI : Nat → Nat → Nat) (h0 : Nat) (sz : Nat) : Met l yX6_init (.code yX6_init cX6_init 1 none :: wU) ({ frames := 1, cells := 7, slots := 8103, locals := 12 } : Room) (va_Pc [.ref h0] (fun U => P5 dC dI [(h0, .inr (6, [.null, .null, .null, .null, .null, .null, .null, .int 0, .int 0, .int 0, .int 0]))] [] sz U)) (va_Qv (fun _ : Unit => True) (fun _ t => ∃ e_q28 : Nat, ∃ e_q30 : Nat, ∃ e_q32 : Nat, ∃ e_q34 : Nat, ∃ e_q36 : Nat, ∃ e_q38 : Nat, ∃ e_q40 : Nat, ∃ e_y31 : ClassId, ∃ e_y35 : ClassId, P3 dC dI (va_A [(h0, .inr (6, [.null, .null, .null, .null, .null, .null, .null, .int 0, .int 0, .int 0, .int 0]))] sz) [(h0, .inr (6, [.ref e_q28, .ref e_q30, .ref e_q32, .ref e_q34, .ref e_q36, .ref e_q38, .ref e_q40, .int 0, .int 0, .int 0, .int 0])), (e_q30, .inl (e_y31, 201, .inl (fun _ => 0))), (e_q34, .inl (e_y35, 201, .inl (fun _ => 0)))] [(e_y31, .int), (e_y35, .int)] t) (va_A [(h0, .inr (6, [.null, .null, .null, .null, .null, .null, .null, .int 0, .int 0, .int 0, .int 0]))] sz)) 7 8103 (va_A [(h0, .inr (6, [.null, .null, .null, .null, .null, .null, .null, .int 0, .int 0, .int 0, .int 0]))] sz) := by
  refine Met.ofW (cc := cX6_init) (maxL := 1) (ret := none) (by decide) rfl ?_
  intro p e s m args below meth c s₁ B hml hv
  obtain ⟨rfl, hsz, hP, hK, hD0, hE⟩ := hv
  have hx := B.exec
  have hb := B.bytes
  have hr := B.returns
  have hts0 := atoms_spec (ws := (.code yX6_init cX6_init 1 none :: wU)) B.pre
  have hts : ∀ w ∈ wU, w.before _ s = true := fun w h => hts0 w (List.mem_cons_of_mem _ h)
  have hown : s.vm.findClass "SpineTables$Rows" = some m.cls := findClass_of_methodNamed B.named
  have hlocks := B.notSynchronized
  have hin : meth.name = "<init>" := (name_of_methodNamed B.named B.method).1
  subst hsz
  have hD := hD0.self (sz := s.heap.size)
  generalize hAe : va_A [(h0, .inr (6, [.null, .null, .null, .null, .null, .null, .null, .int 0, .int 0, .int 0, .int 0]))] s.heap.size = A at hD ⊢
  have hA : ∀ q : Nat, s.heap.size ≤ q → A q := fun q h => by rw [← hAe]; exact Or.inr h
  have hP : va_P (dC, dI) classes [(h0, .inr (6, [.null, .null, .null, .null, .null, .null, .null, .int 0, .int 0, .int 0, .int 0]))] s.heap := hP
  have hl := lv_entry ([.ref h0]) (n := 1) (Nat.le_of_ble_eq_true rfl)
  rw [lg_entry_eq]
  generalize (lg_sl ([.ref h0]) ++ List.replicate (1 - (lg_sl ([.ref h0])).length) Slot.unset).toArray = ls at hl ⊢
  have hl : lv_has ls 1 [(0, .ref h0)] := hl
  obtain ⟨H, hH⟩ : ∃ H, H = s.heap := ⟨_, rfl⟩
  rw [← hH] at hP
  have hS : va_S A s.heap H [] := by rw [hH]; exact va_S.rf
  refine w_heap hH ?_
  refine lv_aload_n hx hb dX6_init_0 rfl (lv_at hl 0 rfl) ?_
  refine W.objInit hx hb hown (hts _ wd_69) (hts _ wd_1) (hts _ wd_oi) rfl (by rw [hml]; exact hl.1) rfl dX6_init_1 (Nat.le_of_ble_eq_true rfl) (Nat.le_of_ble_eq_true rfl) ?_
  refine W.eq (g2 := F0 m 4 ls []) rfl ?_
  refine lv_aload_n hx hb dX6_init_4 rfl (lv_at hl 0 rfl) ?_
  refine lv_sipush (v := 3001) hx hb dX6_init_5 (by decide) ?_
  refine va_newa (atype := .byte) (ty := .byte) (N' := 3001) (a0 := (3001, .inl (fun _ => 0))) hx hb (hts _ wd_70) rfl hK hP hD hS hA (fun _ => rfl) (by decide) (by decide) (by decide) (Nat.le_of_ble_eq_true rfl) (Nat.le_of_ble_eq_true rfl) dX6_init_8 (fun q28 y29 H hK hP hD hS => ?_)
  have hK : va_K (dC, dI) classes [(y29, .byte)] s := hK
  have hP : va_P (dC, dI) classes [(h0, .inr (6, [.null, .null, .null, .null, .null, .null, .null, .int 0, .int 0, .int 0, .int 0])), (q28, .inl (y29, 3001, .inl (fun _ => 0)))] H := hP
  have hD : va_D A [(h0, .inr (6, [.null, .null, .null, .null, .null, .null, .null, .int 0, .int 0, .int 0, .int 0])), (q28, .inl (y29, 3001, .inl (fun _ => 0)))] := hD
  refine W.widen (k := 1) (n := 3001) (Nat.le_of_ble_eq_true rfl) (Nat.le_of_ble_eq_true rfl) ?_
  refine va_putF (D := (dC, dI)) (ci := 6) (v := .ref q28) (ty := (.array .byte)) (C := RX6) (T := TX6) (N := 11) hx hb hts inX6 tyX6 tyX6_ok nmX6 hown hK hP hD hS 0 rfl rfl 0 (by decide) (hts _ wd_71) (fun _ h9 => h9) rfl hin rfl (by decide +kernel) rfl rfl (Nat.le_of_ble_eq_true rfl) dX6_init_10 (fun H locs hP hD hS => ?_)
  have hP : va_P (dC, dI) classes [(h0, .inr (6, [.ref q28, .null, .null, .null, .null, .null, .null, .int 0, .int 0, .int 0, .int 0])), (q28, .inl (y29, 3001, .inl (fun _ => 0)))] H := hP
  have hD : va_D A [(h0, .inr (6, [.ref q28, .null, .null, .null, .null, .null, .null, .int 0, .int 0, .int 0, .int 0])), (q28, .inl (y29, 3001, .inl (fun _ => 0)))] := hD
  have hP : va_P (dC, dI) classes [(h0, .inr (6, [.ref q28, .null, .null, .null, .null, .null, .null, .int 0, .int 0, .int 0, .int 0]))] H := hP.sub [0] rfl
  have hD : va_D A [(h0, .inr (6, [.ref q28, .null, .null, .null, .null, .null, .null, .int 0, .int 0, .int 0, .int 0]))] := hD.sub [0] (by decide) rfl
  have hK : va_K (dC, dI) classes [] s := hK.sub [] rfl
  refine lv_aload_n hx hb dX6_init_13 rfl (lv_at hl 0 rfl) ?_
  refine lv_sipush (v := 201) hx hb dX6_init_14 (by decide) ?_
  refine va_newa (atype := .int) (ty := .int) (N' := 201) (a0 := (201, .inl (fun _ => 0))) hx hb (hts _ wd_13) rfl hK hP hD hS hA (fun _ => rfl) (by decide) (by decide) (by decide) (Nat.le_of_ble_eq_true rfl) (Nat.le_of_ble_eq_true rfl) dX6_init_17 (fun q30 y31 H hK hP hD hS => ?_)
  have hK : va_K (dC, dI) classes [(y31, .int)] s := hK
  have hP : va_P (dC, dI) classes [(h0, .inr (6, [.ref q28, .null, .null, .null, .null, .null, .null, .int 0, .int 0, .int 0, .int 0])), (q30, .inl (y31, 201, .inl (fun _ => 0)))] H := hP
  have hD : va_D A [(h0, .inr (6, [.ref q28, .null, .null, .null, .null, .null, .null, .int 0, .int 0, .int 0, .int 0])), (q30, .inl (y31, 201, .inl (fun _ => 0)))] := hD
  refine W.widen (k := 2) (n := 3202) (Nat.le_of_ble_eq_true rfl) (Nat.le_of_ble_eq_true rfl) ?_
  refine va_putF (D := (dC, dI)) (ci := 6) (v := .ref q30) (ty := (.array .int)) (C := RX6) (T := TX6) (N := 11) hx hb hts inX6 tyX6 tyX6_ok nmX6 hown hK hP hD hS 0 rfl rfl 1 (by decide) (hts _ wd_72) (fun _ h9 => h9) rfl hin rfl (by decide +kernel) rfl rfl (Nat.le_of_ble_eq_true rfl) dX6_init_19 (fun H locs hP hD hS => ?_)
  have hP : va_P (dC, dI) classes [(h0, .inr (6, [.ref q28, .ref q30, .null, .null, .null, .null, .null, .int 0, .int 0, .int 0, .int 0])), (q30, .inl (y31, 201, .inl (fun _ => 0)))] H := hP
  have hD : va_D A [(h0, .inr (6, [.ref q28, .ref q30, .null, .null, .null, .null, .null, .int 0, .int 0, .int 0, .int 0])), (q30, .inl (y31, 201, .inl (fun _ => 0)))] := hD
  refine lv_aload_n hx hb dX6_init_22 rfl (lv_at hl 0 rfl) ?_
  refine lv_sipush (v := 200) hx hb dX6_init_23 (by decide) ?_
  refine va_newa (atype := .int) (ty := .int) (N' := 200) (a0 := (200, .inl (fun _ => 0))) hx hb (hts _ wd_13) rfl hK hP hD hS hA (fun _ => rfl) (by decide) (by decide) (by decide) (Nat.le_of_ble_eq_true rfl) (Nat.le_of_ble_eq_true rfl) dX6_init_26 (fun q32 y33 H hK hP hD hS => ?_)
  have hK : va_K (dC, dI) classes [(y31, .int), (y33, .int)] s := hK
  have hP : va_P (dC, dI) classes [(h0, .inr (6, [.ref q28, .ref q30, .null, .null, .null, .null, .null, .int 0, .int 0, .int 0, .int 0])), (q30, .inl (y31, 201, .inl (fun _ => 0))), (q32, .inl (y33, 200, .inl (fun _ => 0)))] H := hP
  have hD : va_D A [(h0, .inr (6, [.ref q28, .ref q30, .null, .null, .null, .null, .null, .int 0, .int 0, .int 0, .int 0])), (q30, .inl (y31, 201, .inl (fun _ => 0))), (q32, .inl (y33, 200, .inl (fun _ => 0)))] := hD
  refine W.widen (k := 3) (n := 3402) (Nat.le_of_ble_eq_true rfl) (Nat.le_of_ble_eq_true rfl) ?_
  refine va_putF (D := (dC, dI)) (ci := 6) (v := .ref q32) (ty := (.array .int)) (C := RX6) (T := TX6) (N := 11) hx hb hts inX6 tyX6 tyX6_ok nmX6 hown hK hP hD hS 0 rfl rfl 2 (by decide) (hts _ wd_73) (fun _ h9 => h9) rfl hin rfl (by decide +kernel) rfl rfl (Nat.le_of_ble_eq_true rfl) dX6_init_28 (fun H locs hP hD hS => ?_)
  have hP : va_P (dC, dI) classes [(h0, .inr (6, [.ref q28, .ref q30, .ref q32, .null, .null, .null, .null, .int 0, .int 0, .int 0, .int 0])), (q30, .inl (y31, 201, .inl (fun _ => 0))), (q32, .inl (y33, 200, .inl (fun _ => 0)))] H := hP
  have hD : va_D A [(h0, .inr (6, [.ref q28, .ref q30, .ref q32, .null, .null, .null, .null, .int 0, .int 0, .int 0, .int 0])), (q30, .inl (y31, 201, .inl (fun _ => 0))), (q32, .inl (y33, 200, .inl (fun _ => 0)))] := hD
  have hP : va_P (dC, dI) classes [(h0, .inr (6, [.ref q28, .ref q30, .ref q32, .null, .null, .null, .null, .int 0, .int 0, .int 0, .int 0])), (q30, .inl (y31, 201, .inl (fun _ => 0)))] H := hP.sub [0, 1] rfl
  have hD : va_D A [(h0, .inr (6, [.ref q28, .ref q30, .ref q32, .null, .null, .null, .null, .int 0, .int 0, .int 0, .int 0])), (q30, .inl (y31, 201, .inl (fun _ => 0)))] := hD.sub [0, 1] (by decide) rfl
  have hK : va_K (dC, dI) classes [(y31, .int)] s := hK.sub [0] rfl
  refine lv_aload_n hx hb dX6_init_31 rfl (lv_at hl 0 rfl) ?_
  refine lv_sipush (v := 201) hx hb dX6_init_32 (by decide) ?_
  refine va_newa (atype := .int) (ty := .int) (N' := 201) (a0 := (201, .inl (fun _ => 0))) hx hb (hts _ wd_13) rfl hK hP hD hS hA (fun _ => rfl) (by decide) (by decide) (by decide) (Nat.le_of_ble_eq_true rfl) (Nat.le_of_ble_eq_true rfl) dX6_init_35 (fun q34 y35 H hK hP hD hS => ?_)
  have hK : va_K (dC, dI) classes [(y31, .int), (y35, .int)] s := hK
  have hP : va_P (dC, dI) classes [(h0, .inr (6, [.ref q28, .ref q30, .ref q32, .null, .null, .null, .null, .int 0, .int 0, .int 0, .int 0])), (q30, .inl (y31, 201, .inl (fun _ => 0))), (q34, .inl (y35, 201, .inl (fun _ => 0)))] H := hP
  have hD : va_D A [(h0, .inr (6, [.ref q28, .ref q30, .ref q32, .null, .null, .null, .null, .int 0, .int 0, .int 0, .int 0])), (q30, .inl (y31, 201, .inl (fun _ => 0))), (q34, .inl (y35, 201, .inl (fun _ => 0)))] := hD
  refine W.widen (k := 4) (n := 3603) (Nat.le_of_ble_eq_true rfl) (Nat.le_of_ble_eq_true rfl) ?_
  refine va_putF (D := (dC, dI)) (ci := 6) (v := .ref q34) (ty := (.array .int)) (C := RX6) (T := TX6) (N := 11) hx hb hts inX6 tyX6 tyX6_ok nmX6 hown hK hP hD hS 0 rfl rfl 3 (by decide) (hts _ wd_74) (fun _ h9 => h9) rfl hin rfl (by decide +kernel) rfl rfl (Nat.le_of_ble_eq_true rfl) dX6_init_37 (fun H locs hP hD hS => ?_)
  have hP : va_P (dC, dI) classes [(h0, .inr (6, [.ref q28, .ref q30, .ref q32, .ref q34, .null, .null, .null, .int 0, .int 0, .int 0, .int 0])), (q30, .inl (y31, 201, .inl (fun _ => 0))), (q34, .inl (y35, 201, .inl (fun _ => 0)))] H := hP
  have hD : va_D A [(h0, .inr (6, [.ref q28, .ref q30, .ref q32, .ref q34, .null, .null, .null, .int 0, .int 0, .int 0, .int 0])), (q30, .inl (y31, 201, .inl (fun _ => 0))), (q34, .inl (y35, 201, .inl (fun _ => 0)))] := hD
  refine lv_aload_n hx hb dX6_init_40 rfl (lv_at hl 0 rfl) ?_
  refine lv_sipush (v := 1500) hx hb dX6_init_41 (by decide) ?_
  refine va_newa (atype := .int) (ty := .int) (N' := 1500) (a0 := (1500, .inl (fun _ => 0))) hx hb (hts _ wd_13) rfl hK hP hD hS hA (fun _ => rfl) (by decide) (by decide) (by decide) (Nat.le_of_ble_eq_true rfl) (Nat.le_of_ble_eq_true rfl) dX6_init_44 (fun q36 y37 H hK hP hD hS => ?_)
  have hK : va_K (dC, dI) classes [(y31, .int), (y35, .int), (y37, .int)] s := hK
  have hP : va_P (dC, dI) classes [(h0, .inr (6, [.ref q28, .ref q30, .ref q32, .ref q34, .null, .null, .null, .int 0, .int 0, .int 0, .int 0])), (q30, .inl (y31, 201, .inl (fun _ => 0))), (q34, .inl (y35, 201, .inl (fun _ => 0))), (q36, .inl (y37, 1500, .inl (fun _ => 0)))] H := hP
  have hD : va_D A [(h0, .inr (6, [.ref q28, .ref q30, .ref q32, .ref q34, .null, .null, .null, .int 0, .int 0, .int 0, .int 0])), (q30, .inl (y31, 201, .inl (fun _ => 0))), (q34, .inl (y35, 201, .inl (fun _ => 0))), (q36, .inl (y37, 1500, .inl (fun _ => 0)))] := hD
  refine W.widen (k := 5) (n := 5103) (Nat.le_of_ble_eq_true rfl) (Nat.le_of_ble_eq_true rfl) ?_
  refine va_putF (D := (dC, dI)) (ci := 6) (v := .ref q36) (ty := (.array .int)) (C := RX6) (T := TX6) (N := 11) hx hb hts inX6 tyX6 tyX6_ok nmX6 hown hK hP hD hS 0 rfl rfl 4 (by decide) (hts _ wd_75) (fun _ h9 => h9) rfl hin rfl (by decide +kernel) rfl rfl (Nat.le_of_ble_eq_true rfl) dX6_init_46 (fun H locs hP hD hS => ?_)
  have hP : va_P (dC, dI) classes [(h0, .inr (6, [.ref q28, .ref q30, .ref q32, .ref q34, .ref q36, .null, .null, .int 0, .int 0, .int 0, .int 0])), (q30, .inl (y31, 201, .inl (fun _ => 0))), (q34, .inl (y35, 201, .inl (fun _ => 0))), (q36, .inl (y37, 1500, .inl (fun _ => 0)))] H := hP
  have hD : va_D A [(h0, .inr (6, [.ref q28, .ref q30, .ref q32, .ref q34, .ref q36, .null, .null, .int 0, .int 0, .int 0, .int 0])), (q30, .inl (y31, 201, .inl (fun _ => 0))), (q34, .inl (y35, 201, .inl (fun _ => 0))), (q36, .inl (y37, 1500, .inl (fun _ => 0)))] := hD
  have hP : va_P (dC, dI) classes [(h0, .inr (6, [.ref q28, .ref q30, .ref q32, .ref q34, .ref q36, .null, .null, .int 0, .int 0, .int 0, .int 0])), (q30, .inl (y31, 201, .inl (fun _ => 0))), (q34, .inl (y35, 201, .inl (fun _ => 0)))] H := hP.sub [0, 1, 2] rfl
  have hD : va_D A [(h0, .inr (6, [.ref q28, .ref q30, .ref q32, .ref q34, .ref q36, .null, .null, .int 0, .int 0, .int 0, .int 0])), (q30, .inl (y31, 201, .inl (fun _ => 0))), (q34, .inl (y35, 201, .inl (fun _ => 0)))] := hD.sub [0, 1, 2] (by decide) rfl
  have hK : va_K (dC, dI) classes [(y31, .int), (y35, .int)] s := hK.sub [0, 1] rfl
  refine lv_aload_n hx hb dX6_init_49 rfl (lv_at hl 0 rfl) ?_
  refine lv_sipush (v := 1500) hx hb dX6_init_50 (by decide) ?_
  refine va_newa (atype := .int) (ty := .int) (N' := 1500) (a0 := (1500, .inl (fun _ => 0))) hx hb (hts _ wd_13) rfl hK hP hD hS hA (fun _ => rfl) (by decide) (by decide) (by decide) (Nat.le_of_ble_eq_true rfl) (Nat.le_of_ble_eq_true rfl) dX6_init_53 (fun q38 y39 H hK hP hD hS => ?_)
  have hK : va_K (dC, dI) classes [(y31, .int), (y35, .int), (y39, .int)] s := hK
  have hP : va_P (dC, dI) classes [(h0, .inr (6, [.ref q28, .ref q30, .ref q32, .ref q34, .ref q36, .null, .null, .int 0, .int 0, .int 0, .int 0])), (q30, .inl (y31, 201, .inl (fun _ => 0))), (q34, .inl (y35, 201, .inl (fun _ => 0))), (q38, .inl (y39, 1500, .inl (fun _ => 0)))] H := hP
  have hD : va_D A [(h0, .inr (6, [.ref q28, .ref q30, .ref q32, .ref q34, .ref q36, .null, .null, .int 0, .int 0, .int 0, .int 0])), (q30, .inl (y31, 201, .inl (fun _ => 0))), (q34, .inl (y35, 201, .inl (fun _ => 0))), (q38, .inl (y39, 1500, .inl (fun _ => 0)))] := hD
  refine W.widen (k := 6) (n := 6603) (Nat.le_of_ble_eq_true rfl) (Nat.le_of_ble_eq_true rfl) ?_
  refine va_putF (D := (dC, dI)) (ci := 6) (v := .ref q38) (ty := (.array .int)) (C := RX6) (T := TX6) (N := 11) hx hb hts inX6 tyX6 tyX6_ok nmX6 hown hK hP hD hS 0 rfl rfl 5 (by decide) (hts _ wd_76) (fun _ h9 => h9) rfl hin rfl (by decide +kernel) rfl rfl (Nat.le_of_ble_eq_true rfl) dX6_init_55 (fun H locs hP hD hS => ?_)
  have hP : va_P (dC, dI) classes [(h0, .inr (6, [.ref q28, .ref q30, .ref q32, .ref q34, .ref q36, .ref q38, .null, .int 0, .int 0, .int 0, .int 0])), (q30, .inl (y31, 201, .inl (fun _ => 0))), (q34, .inl (y35, 201, .inl (fun _ => 0))), (q38, .inl (y39, 1500, .inl (fun _ => 0)))] H := hP
  have hD : va_D A [(h0, .inr (6, [.ref q28, .ref q30, .ref q32, .ref q34, .ref q36, .ref q38, .null, .int 0, .int 0, .int 0, .int 0])), (q30, .inl (y31, 201, .inl (fun _ => 0))), (q34, .inl (y35, 201, .inl (fun _ => 0))), (q38, .inl (y39, 1500, .inl (fun _ => 0)))] := hD
  have hP : va_P (dC, dI) classes [(h0, .inr (6, [.ref q28, .ref q30, .ref q32, .ref q34, .ref q36, .ref q38, .null, .int 0, .int 0, .int 0, .int 0])), (q30, .inl (y31, 201, .inl (fun _ => 0))), (q34, .inl (y35, 201, .inl (fun _ => 0)))] H := hP.sub [0, 1, 2] rfl
  have hD : va_D A [(h0, .inr (6, [.ref q28, .ref q30, .ref q32, .ref q34, .ref q36, .ref q38, .null, .int 0, .int 0, .int 0, .int 0])), (q30, .inl (y31, 201, .inl (fun _ => 0))), (q34, .inl (y35, 201, .inl (fun _ => 0)))] := hD.sub [0, 1, 2] (by decide) rfl
  have hK : va_K (dC, dI) classes [(y31, .int), (y35, .int)] s := hK.sub [0, 1] rfl
  refine lv_aload_n hx hb dX6_init_58 rfl (lv_at hl 0 rfl) ?_
  refine lv_sipush (v := 1500) hx hb dX6_init_59 (by decide) ?_
  refine va_newa (atype := .int) (ty := .int) (N' := 1500) (a0 := (1500, .inl (fun _ => 0))) hx hb (hts _ wd_13) rfl hK hP hD hS hA (fun _ => rfl) (by decide) (by decide) (by decide) (Nat.le_of_ble_eq_true rfl) (Nat.le_of_ble_eq_true rfl) dX6_init_62 (fun q40 y41 H hK hP hD hS => ?_)
  have hK : va_K (dC, dI) classes [(y31, .int), (y35, .int), (y41, .int)] s := hK
  have hP : va_P (dC, dI) classes [(h0, .inr (6, [.ref q28, .ref q30, .ref q32, .ref q34, .ref q36, .ref q38, .null, .int 0, .int 0, .int 0, .int 0])), (q30, .inl (y31, 201, .inl (fun _ => 0))), (q34, .inl (y35, 201, .inl (fun _ => 0))), (q40, .inl (y41, 1500, .inl (fun _ => 0)))] H := hP
  have hD : va_D A [(h0, .inr (6, [.ref q28, .ref q30, .ref q32, .ref q34, .ref q36, .ref q38, .null, .int 0, .int 0, .int 0, .int 0])), (q30, .inl (y31, 201, .inl (fun _ => 0))), (q34, .inl (y35, 201, .inl (fun _ => 0))), (q40, .inl (y41, 1500, .inl (fun _ => 0)))] := hD
  refine W.widen (k := 7) (n := 8103) (Nat.le_of_ble_eq_true rfl) (Nat.le_of_ble_eq_true rfl) ?_
  refine va_putF (D := (dC, dI)) (ci := 6) (v := .ref q40) (ty := (.array .int)) (C := RX6) (T := TX6) (N := 11) hx hb hts inX6 tyX6 tyX6_ok nmX6 hown hK hP hD hS 0 rfl rfl 6 (by decide) (hts _ wd_77) (fun _ h9 => h9) rfl hin rfl (by decide +kernel) rfl rfl (Nat.le_of_ble_eq_true rfl) dX6_init_64 (fun H locs hP hD hS => ?_)
  have hP : va_P (dC, dI) classes [(h0, .inr (6, [.ref q28, .ref q30, .ref q32, .ref q34, .ref q36, .ref q38, .ref q40, .int 0, .int 0, .int 0, .int 0])), (q30, .inl (y31, 201, .inl (fun _ => 0))), (q34, .inl (y35, 201, .inl (fun _ => 0))), (q40, .inl (y41, 1500, .inl (fun _ => 0)))] H := hP
  have hD : va_D A [(h0, .inr (6, [.ref q28, .ref q30, .ref q32, .ref q34, .ref q36, .ref q38, .ref q40, .int 0, .int 0, .int 0, .int 0])), (q30, .inl (y31, 201, .inl (fun _ => 0))), (q34, .inl (y35, 201, .inl (fun _ => 0))), (q40, .inl (y41, 1500, .inl (fun _ => 0)))] := hD
  have hP : va_P (dC, dI) classes [(h0, .inr (6, [.ref q28, .ref q30, .ref q32, .ref q34, .ref q36, .ref q38, .ref q40, .int 0, .int 0, .int 0, .int 0])), (q30, .inl (y31, 201, .inl (fun _ => 0))), (q34, .inl (y35, 201, .inl (fun _ => 0)))] H := hP.sub [0, 1, 2] rfl
  have hD : va_D A [(h0, .inr (6, [.ref q28, .ref q30, .ref q32, .ref q34, .ref q36, .ref q38, .ref q40, .int 0, .int 0, .int 0, .int 0])), (q30, .inl (y31, 201, .inl (fun _ => 0))), (q34, .inl (y35, 201, .inl (fun _ => 0)))] := hD.sub [0, 1, 2] (by decide) rfl
  have hK : va_K (dC, dI) classes [(y31, .int), (y35, .int)] s := hK.sub [0, 1] rfl
  refine lv_aload_n hx hb dX6_init_67 rfl (lv_at hl 0 rfl) ?_
  refine lv_iconst (v := 0) hx hb dX6_init_68 (by decide) ?_
  refine va_put (D := (dC, dI)) (ci := 6) (v := .int 0) (ty := .int) (C := RX6) (T := TX6) (N := 11) hx hb hts inX6 tyX6 tyX6_ok nmX6 hown hK hP hD hS 0 rfl rfl 7 (by decide) (hts _ wd_78) (fun _ h9 => h9) rfl (by decide +kernel) rfl rfl (Nat.le_of_ble_eq_true rfl) dX6_init_69 (fun H locs hP hD hS => ?_)
  have hP : va_P (dC, dI) classes [(h0, .inr (6, [.ref q28, .ref q30, .ref q32, .ref q34, .ref q36, .ref q38, .ref q40, .int 0, .int 0, .int 0, .int 0])), (q30, .inl (y31, 201, .inl (fun _ => 0))), (q34, .inl (y35, 201, .inl (fun _ => 0)))] H := hP
  have hD : va_D A [(h0, .inr (6, [.ref q28, .ref q30, .ref q32, .ref q34, .ref q36, .ref q38, .ref q40, .int 0, .int 0, .int 0, .int 0])), (q30, .inl (y31, 201, .inl (fun _ => 0))), (q34, .inl (y35, 201, .inl (fun _ => 0)))] := hD
  refine lv_aload_n hx hb dX6_init_72 rfl (lv_at hl 0 rfl) ?_
  refine lv_iconst (v := 0) hx hb dX6_init_73 (by decide) ?_
  refine va_put (D := (dC, dI)) (ci := 6) (v := .int 0) (ty := .int) (C := RX6) (T := TX6) (N := 11) hx hb hts inX6 tyX6 tyX6_ok nmX6 hown hK hP hD hS 0 rfl rfl 8 (by decide) (hts _ wd_79) (fun _ h9 => h9) rfl (by decide +kernel) rfl rfl (Nat.le_of_ble_eq_true rfl) dX6_init_74 (fun H locs hP hD hS => ?_)
  have hP : va_P (dC, dI) classes [(h0, .inr (6, [.ref q28, .ref q30, .ref q32, .ref q34, .ref q36, .ref q38, .ref q40, .int 0, .int 0, .int 0, .int 0])), (q30, .inl (y31, 201, .inl (fun _ => 0))), (q34, .inl (y35, 201, .inl (fun _ => 0)))] H := hP
  have hD : va_D A [(h0, .inr (6, [.ref q28, .ref q30, .ref q32, .ref q34, .ref q36, .ref q38, .ref q40, .int 0, .int 0, .int 0, .int 0])), (q30, .inl (y31, 201, .inl (fun _ => 0))), (q34, .inl (y35, 201, .inl (fun _ => 0)))] := hD
  refine lv_aload_n hx hb dX6_init_77 rfl (lv_at hl 0 rfl) ?_
  refine lv_iconst (v := 0) hx hb dX6_init_78 (by decide) ?_
  refine va_put (D := (dC, dI)) (ci := 6) (v := .int 0) (ty := .int) (C := RX6) (T := TX6) (N := 11) hx hb hts inX6 tyX6 tyX6_ok nmX6 hown hK hP hD hS 0 rfl rfl 9 (by decide) (hts _ wd_80) (fun _ h9 => h9) rfl (by decide +kernel) rfl rfl (Nat.le_of_ble_eq_true rfl) dX6_init_79 (fun H locs hP hD hS => ?_)
  have hP : va_P (dC, dI) classes [(h0, .inr (6, [.ref q28, .ref q30, .ref q32, .ref q34, .ref q36, .ref q38, .ref q40, .int 0, .int 0, .int 0, .int 0])), (q30, .inl (y31, 201, .inl (fun _ => 0))), (q34, .inl (y35, 201, .inl (fun _ => 0)))] H := hP
  have hD : va_D A [(h0, .inr (6, [.ref q28, .ref q30, .ref q32, .ref q34, .ref q36, .ref q38, .ref q40, .int 0, .int 0, .int 0, .int 0])), (q30, .inl (y31, 201, .inl (fun _ => 0))), (q34, .inl (y35, 201, .inl (fun _ => 0)))] := hD
  refine lv_aload_n hx hb dX6_init_82 rfl (lv_at hl 0 rfl) ?_
  refine lv_iconst (v := 0) hx hb dX6_init_83 (by decide) ?_
  refine va_put (D := (dC, dI)) (ci := 6) (v := .int 0) (ty := .boolean) (C := RX6) (T := TX6) (N := 11) hx hb hts inX6 tyX6 tyX6_ok nmX6 hown hK hP hD hS 0 rfl rfl 10 (by decide) (hts _ wd_81) (fun _ h9 => h9) rfl (by decide +kernel) rfl rfl (Nat.le_of_ble_eq_true rfl) dX6_init_84 (fun H locs hP hD hS => ?_)
  have hP : va_P (dC, dI) classes [(h0, .inr (6, [.ref q28, .ref q30, .ref q32, .ref q34, .ref q36, .ref q38, .ref q40, .int 0, .int 0, .int 0, .int 0])), (q30, .inl (y31, 201, .inl (fun _ => 0))), (q34, .inl (y35, 201, .inl (fun _ => 0)))] H := hP
  have hD : va_D A [(h0, .inr (6, [.ref q28, .ref q30, .ref q32, .ref q34, .ref q36, .ref q38, .ref q40, .int 0, .int 0, .int 0, .int 0])), (q30, .inl (y31, 201, .inl (fun _ => 0))), (q34, .inl (y35, 201, .inl (fun _ => 0)))] := hD
  have hP9 := hP.sub (ws' := [(h0, .inr (6, [.ref q28, .ref q30, .ref q32, .ref q34, .ref q36, .ref q38, .ref q40, .int 0, .int 0, .int 0, .int 0])), (q30, .inl (y31, 201, .inl (fun _ => 0))), (q34, .inl (y35, 201, .inl (fun _ => 0)))]) [0, 1, 2] rfl
  have hD9 := hD.sub (ws' := [(h0, .inr (6, [.ref q28, .ref q30, .ref q32, .ref q34, .ref q36, .ref q38, .ref q40, .int 0, .int 0, .int 0, .int 0])), (q30, .inl (y31, 201, .inl (fun _ => 0))), (q34, .inl (y35, 201, .inl (fun _ => 0)))]) [0, 1, 2] (by decide) rfl
  have hK9 := hK.sub (tys' := [(y31, .int), (y35, .int)]) [0, 1] rfl
  refine W.widen (k := 7) (n := 8103) (Nat.le_of_ble_eq_true rfl) (Nat.le_of_ble_eq_true rfl) ?_
  exact W.vret hx hb hr (fun t ht hW => ⟨⟨(), rfl, trivial, q28, q30, q32, q34, q36, q38, q40, y31, y35, by rw [ht]; exact hP9, va_K.moved hW.alike hK9, hD9⟩, hS.F ht⟩) hS.2.2 dX6_init_87
set_option maxHeartbeats 4000000 in
set_option maxRecDepth 100000 in
/-- Table -/
theorem c_Table (l : Launch) (dC : Nat → ClassId) (dI : Nat → Nat → Nat) (h0 : Nat) (sz : Nat) : Met l yX8_init (.code yX8_init cX8_init 1 none :: wU) ({ frames := 2, cells := 18, slots := 16452, locals := 32 } : Room) (va_Pc [.ref h0] (fun U => P5 dC dI [(h0, .inr (8, [.null, .null, .null, .null, .null, .null, .null, .null, .int 0, .int 0, .int 0, .int 0, .null, .null, .null, .int 0, .int 0]))] [] sz U)) (va_Qv (fun _ : Unit => True) (fun _ t => ∃ e_q42 : Nat, ∃ e_q52 : Nat, ∃ e_q54 : Nat, ∃ e_q56 : Nat, ∃ e_q58 : Nat, ∃ e_q60 : Nat, ∃ e_q62 : Nat, ∃ e_q64 : Nat, ∃ e_q66 : Nat, ∃ e_q68 : Nat, ∃ e_q70 : Nat, ∃ e_q43 : Nat, ∃ e_q44 : Nat, ∃ e_q45 : Nat, ∃ e_q46 : Nat, ∃ e_q47 : Nat, ∃ e_q48 : Nat, ∃ e_q49 : Nat, ∃ e_y50 : ClassId, ∃ e_y51 : ClassId, ∃ e_y69 : ClassId, ∃ e_y71 : ClassId, P3 dC dI (va_A [(h0, .inr (8, [.null, .null, .null, .null, .null, .null, .null, .null, .int 0, .int 0, .int 0, .int 0, .null, .null, .null, .int 0, .int 0]))] sz) [(h0, .inr (8, [.ref e_q42, .ref e_q52, .ref e_q54, .ref e_q56, .ref e_q58, .ref e_q60, .ref e_q62, .ref e_q64, .int 0, .int 0, .int (-1), .int 0, .ref e_q66, .ref e_q68, .ref e_q70, .int (-1), .int 0])), (e_q42, .inr (6, [.ref e_q43, .ref e_q44, .ref e_q45, .ref e_q46, .ref e_q47, .ref e_q48, .ref e_q49, .int 0, .int 0, .int 0, .int 0])), (e_q44, .inl (e_y50, 201, .inl (fun _ => 0))), (e_q46, .inl (e_y51, 201, .inl (fun _ => 0))), (e_q68, .inl (e_y69, 201, .inl (fun _ => 0))), (e_q70, .inl (e_y71, 201, .inl (fun _ => 0)))] [(e_y50, .int), (e_y51, .int), (e_y69, .int), (e_y71, .int)] t) (va_A [(h0, .inr (8, [.null, .null, .null, .null, .null, .null, .null, .null, .int 0, .int 0, .int 0, .int 0, .null, .null, .null, .int 0, .int 0]))] sz)) 18 16452 (va_A [(h0, .inr (8, [.null, .null, .null, .null, .null, .null, .null, .null, .int 0, .int 0, .int 0, .int 0, .null, .null, .null, .int 0, .int 0]))] sz) := by
  refine Met.ofW (cc := cX8_init) (maxL := 1) (ret := none) (by decide) rfl ?_
  intro p e s m args below meth c s₁ B hml hv
  obtain ⟨rfl, hsz, hP, hK, hD0, hE⟩ := hv
  have hx := B.exec
  have hb := B.bytes
  have hr := B.returns
  have hts0 := atoms_spec (ws := (.code yX8_init cX8_init 1 none :: wU)) B.pre
  have hts : ∀ w ∈ wU, w.before _ s = true := fun w h => hts0 w (List.mem_cons_of_mem _ h)
  have hown : s.vm.findClass "SpineTables$Table" = some m.cls := findClass_of_methodNamed B.named
  have hlocks := B.notSynchronized
  have hin : meth.name = "<init>" := (name_of_methodNamed B.named B.method).1
  subst hsz
  have hD := hD0.self (sz := s.heap.size)
  generalize hAe : va_A [(h0, .inr (8, [.null, .null, .null, .null, .null, .null, .null, .null, .int 0, .int 0, .int 0, .int 0, .null, .null, .null, .int 0, .int 0]))] s.heap.size = A at hD ⊢
  have hA : ∀ q : Nat, s.heap.size ≤ q → A q := fun q h => by rw [← hAe]; exact Or.inr h
  have hP : va_P (dC, dI) classes [(h0, .inr (8, [.null, .null, .null, .null, .null, .null, .null, .null, .int 0, .int 0, .int 0, .int 0, .null, .null, .null, .int 0, .int 0]))] s.heap := hP
  have hl := lv_entry ([.ref h0]) (n := 1) (Nat.le_of_ble_eq_true rfl)
  rw [lg_entry_eq]
  generalize (lg_sl ([.ref h0]) ++ List.replicate (1 - (lg_sl ([.ref h0])).length) Slot.unset).toArray = ls at hl ⊢
  have hl : lv_has ls 1 [(0, .ref h0)] := hl
  obtain ⟨H, hH⟩ : ∃ H, H = s.heap := ⟨_, rfl⟩
  rw [← hH] at hP
  have hS : va_S A s.heap H [] := by rw [hH]; exact va_S.rf
  refine w_heap hH ?_
  refine lv_aload_n hx hb dX8_init_0 rfl (lv_at hl 0 rfl) ?_
  refine W.objInit hx hb hown (hts _ wd_82) (hts _ wd_1) (hts _ wd_oi) rfl (by rw [hml]; exact hl.1) rfl dX8_init_1 (Nat.le_of_ble_eq_true rfl) (Nat.le_of_ble_eq_true rfl) ?_
  refine W.eq (g2 := F0 m 4 ls []) rfl ?_
  refine lv_aload_n hx hb dX8_init_4 rfl (lv_at hl 0 rfl) ?_
  refine va_new (ci := 6) (fs := [.null, .null, .null, .null, .null, .null, .null, .int 0, .int 0, .int 0, .int 0]) (C := RX6) (T := TX6) (N := 11) hx hb hts inX6 tyX6 tyX6_ok hown (hts _ wd_83) (hts _ wd_84) (hts _ wd_85) hK hP hD hS hA rfl dfX6 (Nat.le_of_ble_eq_true rfl) (Nat.le_of_ble_eq_true rfl) dX8_init_5 (fun q42 H hP hD hS => ?_)
  have hP : va_P (dC, dI) classes [(h0, .inr (8, [.null, .null, .null, .null, .null, .null, .null, .null, .int 0, .int 0, .int 0, .int 0, .null, .null, .null, .int 0, .int 0])), (q42, .inr (6, [.null, .null, .null, .null, .null, .null, .null, .int 0, .int 0, .int 0, .int 0]))] H := hP
  have hD : va_D A [(h0, .inr (8, [.null, .null, .null, .null, .null, .null, .null, .null, .int 0, .int 0, .int 0, .int 0, .null, .null, .null, .int 0, .int 0])), (q42, .inr (6, [.null, .null, .null, .null, .null, .null, .null, .int 0, .int 0, .int 0, .int 0]))] := hD
  refine W.widen (k := 1) (n := 11) (Nat.le_of_ble_eq_true rfl) (Nat.le_of_ble_eq_true rfl) ?_
  refine lv_dup hx hb dX8_init_8 rfl ?_
  have hPc := hP.sub (ws' := [(q42, .inr (6, [.null, .null, .null, .null, .null, .null, .null, .int 0, .int 0, .int 0, .int 0]))]) [1] rfl
  have hDc := hD.sub (ws' := [(q42, .inr (6, [.null, .null, .null, .null, .null, .null, .null, .int 0, .int 0, .int 0, .int 0]))]) [1] (by decide) rfl
  have hKc := hK.sub (tys' := []) [] rfl
  have hFc := va_free (wc := [(q42, .inr (6, [.null, .null, .null, .null, .null, .null, .null, .int 0, .int 0, .int 0, .int 0]))]) hD hS hA [1] rfl
  refine va_callv (va_runIN (As := []) (rest := [.ref q42, .ref h0]) ⟨hx, hb, hml, hown, hts⟩ (c_Rows l dC dI q42 H.size) ⟨va_cnB 0 hts (goC wd_86) rfl rfl rfl (hE.1 _ (List.mem_of_getElem? (i := 4) rfl)) (hts _ wd_85) (by decide +kernel) ⟨Nat.le_of_ble_eq_true rfl, Nat.le_of_ble_eq_true rfl⟩, rfl, hts _ wd_87⟩ ⟨blind5, fun U hU hW => ⟨rfl, pre5 hU hW hPc hKc hDc hE⟩⟩ rfl rfl hl.1 rfl (lv_room (Nat.le_of_ble_eq_true rfl)) dX8_init_9 ⟨Nat.le_of_ble_eq_true rfl, Nat.le_of_ble_eq_true rfl⟩) hS (fun q _ h => hFc q h) hFc (fun u t H1 locs ht hvm hw hB hz1 hk1 hS => ?_)
  obtain ⟨q43, q44, q45, q46, q47, q48, q49, y50, y51, hP1, hK1, hD1⟩ := hB
  rw [ht] at hP1
  have hK1 := va_K.moved hvm.symm hK1
  obtain ⟨hP, hD⟩ := va_join (wr := [(h0, .inr (8, [.null, .null, .null, .null, .null, .null, .null, .null, .int 0, .int 0, .int 0, .int 0, .null, .null, .null, .int 0, .int 0]))]) (w1 := [(q42, .inr (6, [.ref q43, .ref q44, .ref q45, .ref q46, .ref q47, .ref q48, .ref q49, .int 0, .int 0, .int 0, .int 0])), (q44, .inl (y50, 201, .inl (fun _ => 0))), (q46, .inl (y51, 201, .inl (fun _ => 0)))]) hP hD [1] [0] rfl rfl (by decide) (by decide) hk1 hFc hP1 hD1
  have hK := (hK.sub (tys' := []) [] rfl).app hK1
  generalize H1 = H at hP hS ⊢
  have hK : va_K (dC, dI) classes [(y50, .int), (y51, .int)] s := hK
  have hP : va_P (dC, dI) classes [(h0, .inr (8, [.null, .null, .null, .null, .null, .null, .null, .null, .int 0, .int 0, .int 0, .int 0, .null, .null, .null, .int 0, .int 0])), (q42, .inr (6, [.ref q43, .ref q44, .ref q45, .ref q46, .ref q47, .ref q48, .ref q49, .int 0, .int 0, .int 0, .int 0])), (q44, .inl (y50, 201, .inl (fun _ => 0))), (q46, .inl (y51, 201, .inl (fun _ => 0)))] H := hP
  have hD : va_D A [(h0, .inr (8, [.null, .null, .null, .null, .null, .null, .null, .null, .int 0, .int 0, .int 0, .int 0, .null, .null, .null, .int 0, .int 0])), (q42, .inr (6, [.ref q43, .ref q44, .ref q45, .ref q46, .ref q47, .ref q48, .ref q49, .int 0, .int 0, .int 0, .int 0])), (q44, .inl (y50, 201, .inl (fun _ => 0))), (q46, .inl (y51, 201, .inl (fun _ => 0)))] := hD
  refine W.widen (k := 8) (n := 8114) (Nat.le_of_ble_eq_true rfl) (Nat.le_of_ble_eq_true rfl) ?_
  refine va_putF (D := (dC, dI)) (ci := 8) (v := .ref q42) (ty := (.object "SpineTables$Rows")) (C := RX8) (T := TX8) (N := 17) hx hb hts inX8 tyX8 tyX8_ok nmX8 hown hK hP hD hS 0 rfl rfl 0 (by decide) (hts _ wd_88) (fun _ h9 => h9) rfl hin rfl (by decide +kernel) rfl rfl (Nat.le_of_ble_eq_true rfl) dX8_init_12 (fun H locs hP hD hS => ?_)
  have hP : va_P (dC, dI) classes [(h0, .inr (8, [.ref q42, .null, .null, .null, .null, .null, .null, .null, .int 0, .int 0, .int 0, .int 0, .null, .null, .null, .int 0, .int 0])), (q42, .inr (6, [.ref q43, .ref q44, .ref q45, .ref q46, .ref q47, .ref q48, .ref q49, .int 0, .int 0, .int 0, .int 0])), (q44, .inl (y50, 201, .inl (fun _ => 0))), (q46, .inl (y51, 201, .inl (fun _ => 0)))] H := hP
  have hD : va_D A [(h0, .inr (8, [.ref q42, .null, .null, .null, .null, .null, .null, .null, .int 0, .int 0, .int 0, .int 0, .null, .null, .null, .int 0, .int 0])), (q42, .inr (6, [.ref q43, .ref q44, .ref q45, .ref q46, .ref q47, .ref q48, .ref q49, .int 0, .int 0, .int 0, .int 0])), (q44, .inl (y50, 201, .inl (fun _ => 0))), (q46, .inl (y51, 201, .inl (fun _ => 0)))] := hD
  refine lv_aload_n hx hb dX8_init_15 rfl (lv_at hl 0 rfl) ?_
  refine lv_sipush (v := 1500) hx hb dX8_init_16 (by decide) ?_
  refine va_newa (atype := .int) (ty := .int) (N' := 1500) (a0 := (1500, .inl (fun _ => 0))) hx hb (hts _ wd_13) rfl hK hP hD hS hA (fun _ => rfl) (by decide) (by decide) (by decide) (Nat.le_of_ble_eq_true rfl) (Nat.le_of_ble_eq_true rfl) dX8_init_19 (fun q52 y53 H hK hP hD hS => ?_)
  have hK : va_K (dC, dI) classes [(y50, .int), (y51, .int), (y53, .int)] s := hK
  have hP : va_P (dC, dI) classes [(h0, .inr (8, [.ref q42, .null, .null, .null, .null, .null, .null, .null, .int 0, .int 0, .int 0, .int 0, .null, .null, .null, .int 0, .int 0])), (q42, .inr (6, [.ref q43, .ref q44, .ref q45, .ref q46, .ref q47, .ref q48, .ref q49, .int 0, .int 0, .int 0, .int 0])), (q44, .inl (y50, 201, .inl (fun _ => 0))), (q46, .inl (y51, 201, .inl (fun _ => 0))), (q52, .inl (y53, 1500, .inl (fun _ => 0)))] H := hP
  have hD : va_D A [(h0, .inr (8, [.ref q42, .null, .null, .null, .null, .null, .null, .null, .int 0, .int 0, .int 0, .int 0, .null, .null, .null, .int 0, .int 0])), (q42, .inr (6, [.ref q43, .ref q44, .ref q45, .ref q46, .ref q47, .ref q48, .ref q49, .int 0, .int 0, .int 0, .int 0])), (q44, .inl (y50, 201, .inl (fun _ => 0))), (q46, .inl (y51, 201, .inl (fun _ => 0))), (q52, .inl (y53, 1500, .inl (fun _ => 0)))] := hD
  refine W.widen (k := 9) (n := 9614) (Nat.le_of_ble_eq_true rfl) (Nat.le_of_ble_eq_true rfl) ?_
  refine va_putF (D := (dC, dI)) (ci := 8) (v := .ref q52) (ty := (.array .int)) (C := RX8) (T := TX8) (N := 17) hx hb hts inX8 tyX8 tyX8_ok nmX8 hown hK hP hD hS 0 rfl rfl 1 (by decide) (hts _ wd_89) (fun _ h9 => h9) rfl hin rfl (by decide +kernel) rfl rfl (Nat.le_of_ble_eq_true rfl) dX8_init_21 (fun H locs hP hD hS => ?_)
  have hP : va_P (dC, dI) classes [(h0, .inr (8, [.ref q42, .ref q52, .null, .null, .null, .null, .null, .null, .int 0, .int 0, .int 0, .int 0, .null, .null, .null, .int 0, .int 0])), (q42, .inr (6, [.ref q43, .ref q44, .ref q45, .ref q46, .ref q47, .ref q48, .ref q49, .int 0, .int 0, .int 0, .int 0])), (q44, .inl (y50, 201, .inl (fun _ => 0))), (q46, .inl (y51, 201, .inl (fun _ => 0))), (q52, .inl (y53, 1500, .inl (fun _ => 0)))] H := hP
  have hD : va_D A [(h0, .inr (8, [.ref q42, .ref q52, .null, .null, .null, .null, .null, .null, .int 0, .int 0, .int 0, .int 0, .null, .null, .null, .int 0, .int 0])), (q42, .inr (6, [.ref q43, .ref q44, .ref q45, .ref q46, .ref q47, .ref q48, .ref q49, .int 0, .int 0, .int 0, .int 0])), (q44, .inl (y50, 201, .inl (fun _ => 0))), (q46, .inl (y51, 201, .inl (fun _ => 0))), (q52, .inl (y53, 1500, .inl (fun _ => 0)))] := hD
  have hP : va_P (dC, dI) classes [(h0, .inr (8, [.ref q42, .ref q52, .null, .null, .null, .null, .null, .null, .int 0, .int 0, .int 0, .int 0, .null, .null, .null, .int 0, .int 0])), (q42, .inr (6, [.ref q43, .ref q44, .ref q45, .ref q46, .ref q47, .ref q48, .ref q49, .int 0, .int 0, .int 0, .int 0])), (q44, .inl (y50, 201, .inl (fun _ => 0))), (q46, .inl (y51, 201, .inl (fun _ => 0)))] H := hP.sub [0, 1, 2, 3] rfl
  have hD : va_D A [(h0, .inr (8, [.ref q42, .ref q52, .null, .null, .null, .null, .null, .null, .int 0, .int 0, .int 0, .int 0, .null, .null, .null, .int 0, .int 0])), (q42, .inr (6, [.ref q43, .ref q44, .ref q45, .ref q46, .ref q47, .ref q48, .ref q49, .int 0, .int 0, .int 0, .int 0])), (q44, .inl (y50, 201, .inl (fun _ => 0))), (q46, .inl (y51, 201, .inl (fun _ => 0)))] := hD.sub [0, 1, 2, 3] (by decide) rfl
  have hK : va_K (dC, dI) classes [(y50, .int), (y51, .int)] s := hK.sub [0, 1] rfl
  refine lv_aload_n hx hb dX8_init_24 rfl (lv_at hl 0 rfl) ?_
  refine lv_sipush (v := 1500) hx hb dX8_init_25 (by decide) ?_
  refine va_newa (atype := .int) (ty := .int) (N' := 1500) (a0 := (1500, .inl (fun _ => 0))) hx hb (hts _ wd_13) rfl hK hP hD hS hA (fun _ => rfl) (by decide) (by decide) (by decide) (Nat.le_of_ble_eq_true rfl) (Nat.le_of_ble_eq_true rfl) dX8_init_28 (fun q54 y55 H hK hP hD hS => ?_)
  have hK : va_K (dC, dI) classes [(y50, .int), (y51, .int), (y55, .int)] s := hK
  have hP : va_P (dC, dI) classes [(h0, .inr (8, [.ref q42, .ref q52, .null, .null, .null, .null, .null, .null, .int 0, .int 0, .int 0, .int 0, .null, .null, .null, .int 0, .int 0])), (q42, .inr (6, [.ref q43, .ref q44, .ref q45, .ref q46, .ref q47, .ref q48, .ref q49, .int 0, .int 0, .int 0, .int 0])), (q44, .inl (y50, 201, .inl (fun _ => 0))), (q46, .inl (y51, 201, .inl (fun _ => 0))), (q54, .inl (y55, 1500, .inl (fun _ => 0)))] H := hP
  have hD : va_D A [(h0, .inr (8, [.ref q42, .ref q52, .null, .null, .null, .null, .null, .null, .int 0, .int 0, .int 0, .int 0, .null, .null, .null, .int 0, .int 0])), (q42, .inr (6, [.ref q43, .ref q44, .ref q45, .ref q46, .ref q47, .ref q48, .ref q49, .int 0, .int 0, .int 0, .int 0])), (q44, .inl (y50, 201, .inl (fun _ => 0))), (q46, .inl (y51, 201, .inl (fun _ => 0))), (q54, .inl (y55, 1500, .inl (fun _ => 0)))] := hD
  refine W.widen (k := 10) (n := 11114) (Nat.le_of_ble_eq_true rfl) (Nat.le_of_ble_eq_true rfl) ?_
  refine va_putF (D := (dC, dI)) (ci := 8) (v := .ref q54) (ty := (.array .int)) (C := RX8) (T := TX8) (N := 17) hx hb hts inX8 tyX8 tyX8_ok nmX8 hown hK hP hD hS 0 rfl rfl 2 (by decide) (hts _ wd_90) (fun _ h9 => h9) rfl hin rfl (by decide +kernel) rfl rfl (Nat.le_of_ble_eq_true rfl) dX8_init_30 (fun H locs hP hD hS => ?_)
  have hP : va_P (dC, dI) classes [(h0, .inr (8, [.ref q42, .ref q52, .ref q54, .null, .null, .null, .null, .null, .int 0, .int 0, .int 0, .int 0, .null, .null, .null, .int 0, .int 0])), (q42, .inr (6, [.ref q43, .ref q44, .ref q45, .ref q46, .ref q47, .ref q48, .ref q49, .int 0, .int 0, .int 0, .int 0])), (q44, .inl (y50, 201, .inl (fun _ => 0))), (q46, .inl (y51, 201, .inl (fun _ => 0))), (q54, .inl (y55, 1500, .inl (fun _ => 0)))] H := hP
  have hD : va_D A [(h0, .inr (8, [.ref q42, .ref q52, .ref q54, .null, .null, .null, .null, .null, .int 0, .int 0, .int 0, .int 0, .null, .null, .null, .int 0, .int 0])), (q42, .inr (6, [.ref q43, .ref q44, .ref q45, .ref q46, .ref q47, .ref q48, .ref q49, .int 0, .int 0, .int 0, .int 0])), (q44, .inl (y50, 201, .inl (fun _ => 0))), (q46, .inl (y51, 201, .inl (fun _ => 0))), (q54, .inl (y55, 1500, .inl (fun _ => 0)))] := hD
  have hP : va_P (dC, dI) classes [(h0, .inr (8, [.ref q42, .ref q52, .ref q54, .null, .null, .null, .null, .null, .int 0, .int 0, .int 0, .int 0, .null, .null, .null, .int 0, .int 0])), (q42, .inr (6, [.ref q43, .ref q44, .ref q45, .ref q46, .ref q47, .ref q48, .ref q49, .int 0, .int 0, .int 0, .int 0])), (q44, .inl (y50, 201, .inl (fun _ => 0))), (q46, .inl (y51, 201, .inl (fun _ => 0)))] H := hP.sub [0, 1, 2, 3] rfl
  have hD : va_D A [(h0, .inr (8, [.ref q42, .ref q52, .ref q54, .null, .null, .null, .null, .null, .int 0, .int 0, .int 0, .int 0, .null, .null, .null, .int 0, .int 0])), (q42, .inr (6, [.ref q43, .ref q44, .ref q45, .ref q46, .ref q47, .ref q48, .ref q49, .int 0, .int 0, .int 0, .int 0])), (q44, .inl (y50, 201, .inl (fun _ => 0))), (q46, .inl (y51, 201, .inl (fun _ => 0)))] := hD.sub [0, 1, 2, 3] (by decide) rfl
  have hK : va_K (dC, dI) classes [(y50, .int), (y51, .int)] s := hK.sub [0, 1] rfl
  refine lv_aload_n hx hb dX8_init_33 rfl (lv_at hl 0 rfl) ?_
  refine lv_sipush (v := 1500) hx hb dX8_init_34 (by decide) ?_
  refine va_newa (atype := .int) (ty := .int) (N' := 1500) (a0 := (1500, .inl (fun _ => 0))) hx hb (hts _ wd_13) rfl hK hP hD hS hA (fun _ => rfl) (by decide) (by decide) (by decide) (Nat.le_of_ble_eq_true rfl) (Nat.le_of_ble_eq_true rfl) dX8_init_37 (fun q56 y57 H hK hP hD hS => ?_)
  have hK : va_K (dC, dI) classes [(y50, .int), (y51, .int), (y57, .int)] s := hK
  have hP : va_P (dC, dI) classes [(h0, .inr (8, [.ref q42, .ref q52, .ref q54, .null, .null, .null, .null, .null, .int 0, .int 0, .int 0, .int 0, .null, .null, .null, .int 0, .int 0])), (q42, .inr (6, [.ref q43, .ref q44, .ref q45, .ref q46, .ref q47, .ref q48, .ref q49, .int 0, .int 0, .int 0, .int 0])), (q44, .inl (y50, 201, .inl (fun _ => 0))), (q46, .inl (y51, 201, .inl (fun _ => 0))), (q56, .inl (y57, 1500, .inl (fun _ => 0)))] H := hP
  have hD : va_D A [(h0, .inr (8, [.ref q42, .ref q52, .ref q54, .null, .null, .null, .null, .null, .int 0, .int 0, .int 0, .int 0, .null, .null, .null, .int 0, .int 0])), (q42, .inr (6, [.ref q43, .ref q44, .ref q45, .ref q46, .ref q47, .ref q48, .ref q49, .int 0, .int 0, .int 0, .int 0])), (q44, .inl (y50, 201, .inl (fun _ => 0))), (q46, .inl (y51, 201, .inl (fun _ => 0))), (q56, .inl (y57, 1500, .inl (fun _ => 0)))] := hD
  refine W.widen (k := 11) (n := 12614) (Nat.le_of_ble_eq_true rfl) (Nat.le_of_ble_eq_true rfl) ?_
  refine va_putF (D := (dC, dI)) (ci := 8) (v := .ref q56) (ty := (.array .int)) (C := RX8) (T := TX8) (N := 17) hx hb hts inX8 tyX8 tyX8_ok nmX8 hown hK hP hD hS 0 rfl rfl 3 (by decide) (hts _ wd_91) (fun _ h9 => h9) rfl hin rfl (by decide +kernel) rfl rfl (Nat.le_of_ble_eq_true rfl) dX8_init_39 (fun H locs hP hD hS => ?_)
  have hP : va_P (dC, dI) classes [(h0, .inr (8, [.ref q42, .ref q52, .ref q54, .ref q56, .null, .null, .null, .null, .int 0, .int 0, .int 0, .int 0, .null, .null, .null, .int 0, .int 0])), (q42, .inr (6, [.ref q43, .ref q44, .ref q45, .ref q46, .ref q47, .ref q48, .ref q49, .int 0, .int 0, .int 0, .int 0])), (q44, .inl (y50, 201, .inl (fun _ => 0))), (q46, .inl (y51, 201, .inl (fun _ => 0))), (q56, .inl (y57, 1500, .inl (fun _ => 0)))] H := hP
  have hD : va_D A [(h0, .inr (8, [.ref q42, .ref q52, .ref q54, .ref q56, .null, .null, .null, .null, .int 0, .int 0, .int 0, .int 0, .null, .null, .null, .int 0, .int 0])), (q42, .inr (6, [.ref q43, .ref q44, .ref q45, .ref q46, .ref q47, .ref q48, .ref q49, .int 0, .int 0, .int 0, .int 0])), (q44, .inl (y50, 201, .inl (fun _ => 0))), (q46, .inl (y51, 201, .inl (fun _ => 0))), (q56, .inl (y57, 1500, .inl (fun _ => 0)))] := hD
  have hP : va_P (dC, dI) classes [(h0, .inr (8, [.ref q42, .ref q52, .ref q54, .ref q56, .null, .null, .null, .null, .int 0, .int 0, .int 0, .int 0, .null, .null, .null, .int 0, .int 0])), (q42, .inr (6, [.ref q43, .ref q44, .ref q45, .ref q46, .ref q47, .ref q48, .ref q49, .int 0, .int 0, .int 0, .int 0])), (q44, .inl (y50, 201, .inl (fun _ => 0))), (q46, .inl (y51, 201, .inl (fun _ => 0)))] H := hP.sub [0, 1, 2, 3] rfl
  have hD : va_D A [(h0, .inr (8, [.ref q42, .ref q52, .ref q54, .ref q56, .null, .null, .null, .null, .int 0, .int 0, .int 0, .int 0, .null, .null, .null, .int 0, .int 0])), (q42, .inr (6, [.ref q43, .ref q44, .ref q45, .ref q46, .ref q47, .ref q48, .ref q49, .int 0, .int 0, .int 0, .int 0])), (q44, .inl (y50, 201, .inl (fun _ => 0))), (q46, .inl (y51, 201, .inl (fun _ => 0)))] := hD.sub [0, 1, 2, 3] (by decide) rfl
  have hK : va_K (dC, dI) classes [(y50, .int), (y51, .int)] s := hK.sub [0, 1] rfl
  refine lv_aload_n hx hb dX8_init_42 rfl (lv_at hl 0 rfl) ?_
  refine lv_sipush (v := 1500) hx hb dX8_init_43 (by decide) ?_
  refine va_newa (atype := .int) (ty := .int) (N' := 1500) (a0 := (1500, .inl (fun _ => 0))) hx hb (hts _ wd_13) rfl hK hP hD hS hA (fun _ => rfl) (by decide) (by decide) (by decide) (Nat.le_of_ble_eq_true rfl) (Nat.le_of_ble_eq_true rfl) dX8_init_46 (fun q58 y59 H hK hP hD hS => ?_)
  have hK : va_K (dC, dI) classes [(y50, .int), (y51, .int), (y59, .int)] s := hK
  have hP : va_P (dC, dI) classes [(h0, .inr (8, [.ref q42, .ref q52, .ref q54, .ref q56, .null, .null, .null, .null, .int 0, .int 0, .int 0, .int 0, .null, .null, .null, .int 0, .int 0])), (q42, .inr (6, [.ref q43, .ref q44, .ref q45, .ref q46, .ref q47, .ref q48, .ref q49, .int 0, .int 0, .int 0, .int 0])), (q44, .inl (y50, 201, .inl (fun _ => 0))), (q46, .inl (y51, 201, .inl (fun _ => 0))), (q58, .inl (y59, 1500, .inl (fun _ => 0)))] H := hP
  have hD : va_D A [(h0, .inr (8, [.ref q42, .ref q52, .ref q54, .ref q56, .null, .null, .null, .null, .int 0, .int 0, .int 0, .int 0, .null, .null, .null, .int 0, .int 0])), (q42, .inr (6, [.ref q43, .ref q44, .ref q45, .ref q46, .ref q47, .ref q48, .ref q49, .int 0, .int 0, .int 0, .int 0])), (q44, .inl (y50, 201, .inl (fun _ => 0))), (q46, .inl (y51, 201, .inl (fun _ => 0))), (q58, .inl (y59, 1500, .inl (fun _ => 0)))] := hD
  refine W.widen (k := 12) (n := 14114) (Nat.le_of_ble_eq_true rfl) (Nat.le_of_ble_eq_true rfl) ?_
  refine va_putF (D := (dC, dI)) (ci := 8) (v := .ref q58) (ty := (.array .int)) (C := RX8) (T := TX8) (N := 17) hx hb hts inX8 tyX8 tyX8_ok nmX8 hown hK hP hD hS 0 rfl rfl 4 (by decide) (hts _ wd_92) (fun _ h9 => h9) rfl hin rfl (by decide +kernel) rfl rfl (Nat.le_of_ble_eq_true rfl) dX8_init_48 (fun H locs hP hD hS => ?_)
  have hP : va_P (dC, dI) classes [(h0, .inr (8, [.ref q42, .ref q52, .ref q54, .ref q56, .ref q58, .null, .null, .null, .int 0, .int 0, .int 0, .int 0, .null, .null, .null, .int 0, .int 0])), (q42, .inr (6, [.ref q43, .ref q44, .ref q45, .ref q46, .ref q47, .ref q48, .ref q49, .int 0, .int 0, .int 0, .int 0])), (q44, .inl (y50, 201, .inl (fun _ => 0))), (q46, .inl (y51, 201, .inl (fun _ => 0))), (q58, .inl (y59, 1500, .inl (fun _ => 0)))] H := hP
  have hD : va_D A [(h0, .inr (8, [.ref q42, .ref q52, .ref q54, .ref q56, .ref q58, .null, .null, .null, .int 0, .int 0, .int 0, .int 0, .null, .null, .null, .int 0, .int 0])), (q42, .inr (6, [.ref q43, .ref q44, .ref q45, .ref q46, .ref q47, .ref q48, .ref q49, .int 0, .int 0, .int 0, .int 0])), (q44, .inl (y50, 201, .inl (fun _ => 0))), (q46, .inl (y51, 201, .inl (fun _ => 0))), (q58, .inl (y59, 1500, .inl (fun _ => 0)))] := hD
  have hP : va_P (dC, dI) classes [(h0, .inr (8, [.ref q42, .ref q52, .ref q54, .ref q56, .ref q58, .null, .null, .null, .int 0, .int 0, .int 0, .int 0, .null, .null, .null, .int 0, .int 0])), (q42, .inr (6, [.ref q43, .ref q44, .ref q45, .ref q46, .ref q47, .ref q48, .ref q49, .int 0, .int 0, .int 0, .int 0])), (q44, .inl (y50, 201, .inl (fun _ => 0))), (q46, .inl (y51, 201, .inl (fun _ => 0)))] H := hP.sub [0, 1, 2, 3] rfl
  have hD : va_D A [(h0, .inr (8, [.ref q42, .ref q52, .ref q54, .ref q56, .ref q58, .null, .null, .null, .int 0, .int 0, .int 0, .int 0, .null, .null, .null, .int 0, .int 0])), (q42, .inr (6, [.ref q43, .ref q44, .ref q45, .ref q46, .ref q47, .ref q48, .ref q49, .int 0, .int 0, .int 0, .int 0])), (q44, .inl (y50, 201, .inl (fun _ => 0))), (q46, .inl (y51, 201, .inl (fun _ => 0)))] := hD.sub [0, 1, 2, 3] (by decide) rfl
  have hK : va_K (dC, dI) classes [(y50, .int), (y51, .int)] s := hK.sub [0, 1] rfl
  refine lv_aload_n hx hb dX8_init_51 rfl (lv_at hl 0 rfl) ?_
  refine lv_sipush (v := 1500) hx hb dX8_init_52 (by decide) ?_
  refine va_newa (atype := .int) (ty := .int) (N' := 1500) (a0 := (1500, .inl (fun _ => 0))) hx hb (hts _ wd_13) rfl hK hP hD hS hA (fun _ => rfl) (by decide) (by decide) (by decide) (Nat.le_of_ble_eq_true rfl) (Nat.le_of_ble_eq_true rfl) dX8_init_55 (fun q60 y61 H hK hP hD hS => ?_)
  have hK : va_K (dC, dI) classes [(y50, .int), (y51, .int), (y61, .int)] s := hK
  have hP : va_P (dC, dI) classes [(h0, .inr (8, [.ref q42, .ref q52, .ref q54, .ref q56, .ref q58, .null, .null, .null, .int 0, .int 0, .int 0, .int 0, .null, .null, .null, .int 0, .int 0])), (q42, .inr (6, [.ref q43, .ref q44, .ref q45, .ref q46, .ref q47, .ref q48, .ref q49, .int 0, .int 0, .int 0, .int 0])), (q44, .inl (y50, 201, .inl (fun _ => 0))), (q46, .inl (y51, 201, .inl (fun _ => 0))), (q60, .inl (y61, 1500, .inl (fun _ => 0)))] H := hP
  have hD : va_D A [(h0, .inr (8, [.ref q42, .ref q52, .ref q54, .ref q56, .ref q58, .null, .null, .null, .int 0, .int 0, .int 0, .int 0, .null, .null, .null, .int 0, .int 0])), (q42, .inr (6, [.ref q43, .ref q44, .ref q45, .ref q46, .ref q47, .ref q48, .ref q49, .int 0, .int 0, .int 0, .int 0])), (q44, .inl (y50, 201, .inl (fun _ => 0))), (q46, .inl (y51, 201, .inl (fun _ => 0))), (q60, .inl (y61, 1500, .inl (fun _ => 0)))] := hD
  refine W.widen (k := 13) (n := 15614) (Nat.le_of_ble_eq_true rfl) (Nat.le_of_ble_eq_true rfl) ?_
  refine va_putF (D := (dC, dI)) (ci := 8) (v := .ref q60) (ty := (.array .int)) (C := RX8) (T := TX8) (N := 17) hx hb hts inX8 tyX8 tyX8_ok nmX8 hown hK hP hD hS 0 rfl rfl 5 (by decide) (hts _ wd_93) (fun _ h9 => h9) rfl hin rfl (by decide +kernel) rfl rfl (Nat.le_of_ble_eq_true rfl) dX8_init_57 (fun H locs hP hD hS => ?_)
  have hP : va_P (dC, dI) classes [(h0, .inr (8, [.ref q42, .ref q52, .ref q54, .ref q56, .ref q58, .ref q60, .null, .null, .int 0, .int 0, .int 0, .int 0, .null, .null, .null, .int 0, .int 0])), (q42, .inr (6, [.ref q43, .ref q44, .ref q45, .ref q46, .ref q47, .ref q48, .ref q49, .int 0, .int 0, .int 0, .int 0])), (q44, .inl (y50, 201, .inl (fun _ => 0))), (q46, .inl (y51, 201, .inl (fun _ => 0))), (q60, .inl (y61, 1500, .inl (fun _ => 0)))] H := hP
  have hD : va_D A [(h0, .inr (8, [.ref q42, .ref q52, .ref q54, .ref q56, .ref q58, .ref q60, .null, .null, .int 0, .int 0, .int 0, .int 0, .null, .null, .null, .int 0, .int 0])), (q42, .inr (6, [.ref q43, .ref q44, .ref q45, .ref q46, .ref q47, .ref q48, .ref q49, .int 0, .int 0, .int 0, .int 0])), (q44, .inl (y50, 201, .inl (fun _ => 0))), (q46, .inl (y51, 201, .inl (fun _ => 0))), (q60, .inl (y61, 1500, .inl (fun _ => 0)))] := hD
  have hP : va_P (dC, dI) classes [(h0, .inr (8, [.ref q42, .ref q52, .ref q54, .ref q56, .ref q58, .ref q60, .null, .null, .int 0, .int 0, .int 0, .int 0, .null, .null, .null, .int 0, .int 0])), (q42, .inr (6, [.ref q43, .ref q44, .ref q45, .ref q46, .ref q47, .ref q48, .ref q49, .int 0, .int 0, .int 0, .int 0])), (q44, .inl (y50, 201, .inl (fun _ => 0))), (q46, .inl (y51, 201, .inl (fun _ => 0)))] H := hP.sub [0, 1, 2, 3] rfl
  have hD : va_D A [(h0, .inr (8, [.ref q42, .ref q52, .ref q54, .ref q56, .ref q58, .ref q60, .null, .null, .int 0, .int 0, .int 0, .int 0, .null, .null, .null, .int 0, .int 0])), (q42, .inr (6, [.ref q43, .ref q44, .ref q45, .ref q46, .ref q47, .ref q48, .ref q49, .int 0, .int 0, .int 0, .int 0])), (q44, .inl (y50, 201, .inl (fun _ => 0))), (q46, .inl (y51, 201, .inl (fun _ => 0)))] := hD.sub [0, 1, 2, 3] (by decide) rfl
  have hK : va_K (dC, dI) classes [(y50, .int), (y51, .int)] s := hK.sub [0, 1] rfl
  refine lv_aload_n hx hb dX8_init_60 rfl (lv_at hl 0 rfl) ?_
  refine lv_sipush (v := 212) hx hb dX8_init_61 (by decide) ?_
  refine va_newa (atype := .int) (ty := .int) (N' := 212) (a0 := (212, .inl (fun _ => 0))) hx hb (hts _ wd_13) rfl hK hP hD hS hA (fun _ => rfl) (by decide) (by decide) (by decide) (Nat.le_of_ble_eq_true rfl) (Nat.le_of_ble_eq_true rfl) dX8_init_64 (fun q62 y63 H hK hP hD hS => ?_)
  have hK : va_K (dC, dI) classes [(y50, .int), (y51, .int), (y63, .int)] s := hK
  have hP : va_P (dC, dI) classes [(h0, .inr (8, [.ref q42, .ref q52, .ref q54, .ref q56, .ref q58, .ref q60, .null, .null, .int 0, .int 0, .int 0, .int 0, .null, .null, .null, .int 0, .int 0])), (q42, .inr (6, [.ref q43, .ref q44, .ref q45, .ref q46, .ref q47, .ref q48, .ref q49, .int 0, .int 0, .int 0, .int 0])), (q44, .inl (y50, 201, .inl (fun _ => 0))), (q46, .inl (y51, 201, .inl (fun _ => 0))), (q62, .inl (y63, 212, .inl (fun _ => 0)))] H := hP
  have hD : va_D A [(h0, .inr (8, [.ref q42, .ref q52, .ref q54, .ref q56, .ref q58, .ref q60, .null, .null, .int 0, .int 0, .int 0, .int 0, .null, .null, .null, .int 0, .int 0])), (q42, .inr (6, [.ref q43, .ref q44, .ref q45, .ref q46, .ref q47, .ref q48, .ref q49, .int 0, .int 0, .int 0, .int 0])), (q44, .inl (y50, 201, .inl (fun _ => 0))), (q46, .inl (y51, 201, .inl (fun _ => 0))), (q62, .inl (y63, 212, .inl (fun _ => 0)))] := hD
  refine W.widen (k := 14) (n := 15826) (Nat.le_of_ble_eq_true rfl) (Nat.le_of_ble_eq_true rfl) ?_
  refine va_putF (D := (dC, dI)) (ci := 8) (v := .ref q62) (ty := (.array .int)) (C := RX8) (T := TX8) (N := 17) hx hb hts inX8 tyX8 tyX8_ok nmX8 hown hK hP hD hS 0 rfl rfl 6 (by decide) (hts _ wd_94) (fun _ h9 => h9) rfl hin rfl (by decide +kernel) rfl rfl (Nat.le_of_ble_eq_true rfl) dX8_init_66 (fun H locs hP hD hS => ?_)
  have hP : va_P (dC, dI) classes [(h0, .inr (8, [.ref q42, .ref q52, .ref q54, .ref q56, .ref q58, .ref q60, .ref q62, .null, .int 0, .int 0, .int 0, .int 0, .null, .null, .null, .int 0, .int 0])), (q42, .inr (6, [.ref q43, .ref q44, .ref q45, .ref q46, .ref q47, .ref q48, .ref q49, .int 0, .int 0, .int 0, .int 0])), (q44, .inl (y50, 201, .inl (fun _ => 0))), (q46, .inl (y51, 201, .inl (fun _ => 0))), (q62, .inl (y63, 212, .inl (fun _ => 0)))] H := hP
  have hD : va_D A [(h0, .inr (8, [.ref q42, .ref q52, .ref q54, .ref q56, .ref q58, .ref q60, .ref q62, .null, .int 0, .int 0, .int 0, .int 0, .null, .null, .null, .int 0, .int 0])), (q42, .inr (6, [.ref q43, .ref q44, .ref q45, .ref q46, .ref q47, .ref q48, .ref q49, .int 0, .int 0, .int 0, .int 0])), (q44, .inl (y50, 201, .inl (fun _ => 0))), (q46, .inl (y51, 201, .inl (fun _ => 0))), (q62, .inl (y63, 212, .inl (fun _ => 0)))] := hD
  have hP : va_P (dC, dI) classes [(h0, .inr (8, [.ref q42, .ref q52, .ref q54, .ref q56, .ref q58, .ref q60, .ref q62, .null, .int 0, .int 0, .int 0, .int 0, .null, .null, .null, .int 0, .int 0])), (q42, .inr (6, [.ref q43, .ref q44, .ref q45, .ref q46, .ref q47, .ref q48, .ref q49, .int 0, .int 0, .int 0, .int 0])), (q44, .inl (y50, 201, .inl (fun _ => 0))), (q46, .inl (y51, 201, .inl (fun _ => 0)))] H := hP.sub [0, 1, 2, 3] rfl
  have hD : va_D A [(h0, .inr (8, [.ref q42, .ref q52, .ref q54, .ref q56, .ref q58, .ref q60, .ref q62, .null, .int 0, .int 0, .int 0, .int 0, .null, .null, .null, .int 0, .int 0])), (q42, .inr (6, [.ref q43, .ref q44, .ref q45, .ref q46, .ref q47, .ref q48, .ref q49, .int 0, .int 0, .int 0, .int 0])), (q44, .inl (y50, 201, .inl (fun _ => 0))), (q46, .inl (y51, 201, .inl (fun _ => 0)))] := hD.sub [0, 1, 2, 3] (by decide) rfl
  have hK : va_K (dC, dI) classes [(y50, .int), (y51, .int)] s := hK.sub [0, 1] rfl
  refine lv_aload_n hx hb dX8_init_69 rfl (lv_at hl 0 rfl) ?_
  refine lv_sipush (v := 212) hx hb dX8_init_70 (by decide) ?_
  refine va_newa (atype := .int) (ty := .int) (N' := 212) (a0 := (212, .inl (fun _ => 0))) hx hb (hts _ wd_13) rfl hK hP hD hS hA (fun _ => rfl) (by decide) (by decide) (by decide) (Nat.le_of_ble_eq_true rfl) (Nat.le_of_ble_eq_true rfl) dX8_init_73 (fun q64 y65 H hK hP hD hS => ?_)
  have hK : va_K (dC, dI) classes [(y50, .int), (y51, .int), (y65, .int)] s := hK
  have hP : va_P (dC, dI) classes [(h0, .inr (8, [.ref q42, .ref q52, .ref q54, .ref q56, .ref q58, .ref q60, .ref q62, .null, .int 0, .int 0, .int 0, .int 0, .null, .null, .null, .int 0, .int 0])), (q42, .inr (6, [.ref q43, .ref q44, .ref q45, .ref q46, .ref q47, .ref q48, .ref q49, .int 0, .int 0, .int 0, .int 0])), (q44, .inl (y50, 201, .inl (fun _ => 0))), (q46, .inl (y51, 201, .inl (fun _ => 0))), (q64, .inl (y65, 212, .inl (fun _ => 0)))] H := hP
  have hD : va_D A [(h0, .inr (8, [.ref q42, .ref q52, .ref q54, .ref q56, .ref q58, .ref q60, .ref q62, .null, .int 0, .int 0, .int 0, .int 0, .null, .null, .null, .int 0, .int 0])), (q42, .inr (6, [.ref q43, .ref q44, .ref q45, .ref q46, .ref q47, .ref q48, .ref q49, .int 0, .int 0, .int 0, .int 0])), (q44, .inl (y50, 201, .inl (fun _ => 0))), (q46, .inl (y51, 201, .inl (fun _ => 0))), (q64, .inl (y65, 212, .inl (fun _ => 0)))] := hD
  refine W.widen (k := 15) (n := 16038) (Nat.le_of_ble_eq_true rfl) (Nat.le_of_ble_eq_true rfl) ?_
  refine va_putF (D := (dC, dI)) (ci := 8) (v := .ref q64) (ty := (.array .int)) (C := RX8) (T := TX8) (N := 17) hx hb hts inX8 tyX8 tyX8_ok nmX8 hown hK hP hD hS 0 rfl rfl 7 (by decide) (hts _ wd_95) (fun _ h9 => h9) rfl hin rfl (by decide +kernel) rfl rfl (Nat.le_of_ble_eq_true rfl) dX8_init_75 (fun H locs hP hD hS => ?_)
  have hP : va_P (dC, dI) classes [(h0, .inr (8, [.ref q42, .ref q52, .ref q54, .ref q56, .ref q58, .ref q60, .ref q62, .ref q64, .int 0, .int 0, .int 0, .int 0, .null, .null, .null, .int 0, .int 0])), (q42, .inr (6, [.ref q43, .ref q44, .ref q45, .ref q46, .ref q47, .ref q48, .ref q49, .int 0, .int 0, .int 0, .int 0])), (q44, .inl (y50, 201, .inl (fun _ => 0))), (q46, .inl (y51, 201, .inl (fun _ => 0))), (q64, .inl (y65, 212, .inl (fun _ => 0)))] H := hP
  have hD : va_D A [(h0, .inr (8, [.ref q42, .ref q52, .ref q54, .ref q56, .ref q58, .ref q60, .ref q62, .ref q64, .int 0, .int 0, .int 0, .int 0, .null, .null, .null, .int 0, .int 0])), (q42, .inr (6, [.ref q43, .ref q44, .ref q45, .ref q46, .ref q47, .ref q48, .ref q49, .int 0, .int 0, .int 0, .int 0])), (q44, .inl (y50, 201, .inl (fun _ => 0))), (q46, .inl (y51, 201, .inl (fun _ => 0))), (q64, .inl (y65, 212, .inl (fun _ => 0)))] := hD
  have hP : va_P (dC, dI) classes [(h0, .inr (8, [.ref q42, .ref q52, .ref q54, .ref q56, .ref q58, .ref q60, .ref q62, .ref q64, .int 0, .int 0, .int 0, .int 0, .null, .null, .null, .int 0, .int 0])), (q42, .inr (6, [.ref q43, .ref q44, .ref q45, .ref q46, .ref q47, .ref q48, .ref q49, .int 0, .int 0, .int 0, .int 0])), (q44, .inl (y50, 201, .inl (fun _ => 0))), (q46, .inl (y51, 201, .inl (fun _ => 0)))] H := hP.sub [0, 1, 2, 3] rfl
  have hD : va_D A [(h0, .inr (8, [.ref q42, .ref q52, .ref q54, .ref q56, .ref q58, .ref q60, .ref q62, .ref q64, .int 0, .int 0, .int 0, .int 0, .null, .null, .null, .int 0, .int 0])), (q42, .inr (6, [.ref q43, .ref q44, .ref q45, .ref q46, .ref q47, .ref q48, .ref q49, .int 0, .int 0, .int 0, .int 0])), (q44, .inl (y50, 201, .inl (fun _ => 0))), (q46, .inl (y51, 201, .inl (fun _ => 0)))] := hD.sub [0, 1, 2, 3] (by decide) rfl
  have hK : va_K (dC, dI) classes [(y50, .int), (y51, .int)] s := hK.sub [0, 1] rfl
  refine lv_aload_n hx hb dX8_init_78 rfl (lv_at hl 0 rfl) ?_
  refine lv_iconst (v := 0) hx hb dX8_init_79 (by decide) ?_
  refine va_put (D := (dC, dI)) (ci := 8) (v := .int 0) (ty := .int) (C := RX8) (T := TX8) (N := 17) hx hb hts inX8 tyX8 tyX8_ok nmX8 hown hK hP hD hS 0 rfl rfl 8 (by decide) (hts _ wd_96) (fun _ h9 => h9) rfl (by decide +kernel) rfl rfl (Nat.le_of_ble_eq_true rfl) dX8_init_80 (fun H locs hP hD hS => ?_)
  have hP : va_P (dC, dI) classes [(h0, .inr (8, [.ref q42, .ref q52, .ref q54, .ref q56, .ref q58, .ref q60, .ref q62, .ref q64, .int 0, .int 0, .int 0, .int 0, .null, .null, .null, .int 0, .int 0])), (q42, .inr (6, [.ref q43, .ref q44, .ref q45, .ref q46, .ref q47, .ref q48, .ref q49, .int 0, .int 0, .int 0, .int 0])), (q44, .inl (y50, 201, .inl (fun _ => 0))), (q46, .inl (y51, 201, .inl (fun _ => 0)))] H := hP
  have hD : va_D A [(h0, .inr (8, [.ref q42, .ref q52, .ref q54, .ref q56, .ref q58, .ref q60, .ref q62, .ref q64, .int 0, .int 0, .int 0, .int 0, .null, .null, .null, .int 0, .int 0])), (q42, .inr (6, [.ref q43, .ref q44, .ref q45, .ref q46, .ref q47, .ref q48, .ref q49, .int 0, .int 0, .int 0, .int 0])), (q44, .inl (y50, 201, .inl (fun _ => 0))), (q46, .inl (y51, 201, .inl (fun _ => 0)))] := hD
  refine lv_aload_n hx hb dX8_init_83 rfl (lv_at hl 0 rfl) ?_
  refine lv_iconst (v := 0) hx hb dX8_init_84 (by decide) ?_
  refine va_put (D := (dC, dI)) (ci := 8) (v := .int 0) (ty := .int) (C := RX8) (T := TX8) (N := 17) hx hb hts inX8 tyX8 tyX8_ok nmX8 hown hK hP hD hS 0 rfl rfl 9 (by decide) (hts _ wd_97) (fun _ h9 => h9) rfl (by decide +kernel) rfl rfl (Nat.le_of_ble_eq_true rfl) dX8_init_85 (fun H locs hP hD hS => ?_)
  have hP : va_P (dC, dI) classes [(h0, .inr (8, [.ref q42, .ref q52, .ref q54, .ref q56, .ref q58, .ref q60, .ref q62, .ref q64, .int 0, .int 0, .int 0, .int 0, .null, .null, .null, .int 0, .int 0])), (q42, .inr (6, [.ref q43, .ref q44, .ref q45, .ref q46, .ref q47, .ref q48, .ref q49, .int 0, .int 0, .int 0, .int 0])), (q44, .inl (y50, 201, .inl (fun _ => 0))), (q46, .inl (y51, 201, .inl (fun _ => 0)))] H := hP
  have hD : va_D A [(h0, .inr (8, [.ref q42, .ref q52, .ref q54, .ref q56, .ref q58, .ref q60, .ref q62, .ref q64, .int 0, .int 0, .int 0, .int 0, .null, .null, .null, .int 0, .int 0])), (q42, .inr (6, [.ref q43, .ref q44, .ref q45, .ref q46, .ref q47, .ref q48, .ref q49, .int 0, .int 0, .int 0, .int 0])), (q44, .inl (y50, 201, .inl (fun _ => 0))), (q46, .inl (y51, 201, .inl (fun _ => 0)))] := hD
  refine lv_aload_n hx hb dX8_init_88 rfl (lv_at hl 0 rfl) ?_
  refine lv_iconst (v := -1) hx hb dX8_init_89 (by decide) ?_
  refine va_put (D := (dC, dI)) (ci := 8) (v := .int (-1)) (ty := .int) (C := RX8) (T := TX8) (N := 17) hx hb hts inX8 tyX8 tyX8_ok nmX8 hown hK hP hD hS 0 rfl rfl 10 (by decide) (hts _ wd_98) (fun _ h9 => h9) rfl (by decide +kernel) rfl rfl (Nat.le_of_ble_eq_true rfl) dX8_init_90 (fun H locs hP hD hS => ?_)
  have hP : va_P (dC, dI) classes [(h0, .inr (8, [.ref q42, .ref q52, .ref q54, .ref q56, .ref q58, .ref q60, .ref q62, .ref q64, .int 0, .int 0, .int (-1), .int 0, .null, .null, .null, .int 0, .int 0])), (q42, .inr (6, [.ref q43, .ref q44, .ref q45, .ref q46, .ref q47, .ref q48, .ref q49, .int 0, .int 0, .int 0, .int 0])), (q44, .inl (y50, 201, .inl (fun _ => 0))), (q46, .inl (y51, 201, .inl (fun _ => 0)))] H := hP
  have hD : va_D A [(h0, .inr (8, [.ref q42, .ref q52, .ref q54, .ref q56, .ref q58, .ref q60, .ref q62, .ref q64, .int 0, .int 0, .int (-1), .int 0, .null, .null, .null, .int 0, .int 0])), (q42, .inr (6, [.ref q43, .ref q44, .ref q45, .ref q46, .ref q47, .ref q48, .ref q49, .int 0, .int 0, .int 0, .int 0])), (q44, .inl (y50, 201, .inl (fun _ => 0))), (q46, .inl (y51, 201, .inl (fun _ => 0)))] := hD
  refine lv_aload_n hx hb dX8_init_93 rfl (lv_at hl 0 rfl) ?_
  refine lv_iconst (v := 0) hx hb dX8_init_94 (by decide) ?_
  refine va_put (D := (dC, dI)) (ci := 8) (v := .int 0) (ty := .int) (C := RX8) (T := TX8) (N := 17) hx hb hts inX8 tyX8 tyX8_ok nmX8 hown hK hP hD hS 0 rfl rfl 11 (by decide) (hts _ wd_99) (fun _ h9 => h9) rfl (by decide +kernel) rfl rfl (Nat.le_of_ble_eq_true rfl) dX8_init_95 (fun H locs hP hD hS => ?_)
  have hP : va_P (dC, dI) classes [(h0, .inr (8, [.ref q42, .ref q52, .ref q54, .ref q56, .ref q58, .ref q60, .ref q62, .ref q64, .int 0, .int 0, .int (-1), .int 0, .null, .null, .null, .int 0, .int 0])), (q42, .inr (6, [.ref q43, .ref q44, .ref q45, .ref q46, .ref q47, .ref q48, .ref q49, .int 0, .int 0, .int 0, .int 0])), (q44, .inl (y50, 201, .inl (fun _ => 0))), (q46, .inl (y51, 201, .inl (fun _ => 0)))] H := hP
  have hD : va_D A [(h0, .inr (8, [.ref q42, .ref q52, .ref q54, .ref q56, .ref q58, .ref q60, .ref q62, .ref q64, .int 0, .int 0, .int (-1), .int 0, .null, .null, .null, .int 0, .int 0])), (q42, .inr (6, [.ref q43, .ref q44, .ref q45, .ref q46, .ref q47, .ref q48, .ref q49, .int 0, .int 0, .int 0, .int 0])), (q44, .inl (y50, 201, .inl (fun _ => 0))), (q46, .inl (y51, 201, .inl (fun _ => 0)))] := hD
  refine lv_aload_n hx hb dX8_init_98 rfl (lv_at hl 0 rfl) ?_
  refine lv_bipush (v := 12) hx hb dX8_init_99 (by decide) ?_
  refine va_newa (atype := .int) (ty := .int) (N' := 12) (a0 := (12, .inl (fun _ => 0))) hx hb (hts _ wd_13) rfl hK hP hD hS hA (fun _ => rfl) (by decide) (by decide) (by decide) (Nat.le_of_ble_eq_true rfl) (Nat.le_of_ble_eq_true rfl) dX8_init_101 (fun q66 y67 H hK hP hD hS => ?_)
  have hK : va_K (dC, dI) classes [(y50, .int), (y51, .int), (y67, .int)] s := hK
  have hP : va_P (dC, dI) classes [(h0, .inr (8, [.ref q42, .ref q52, .ref q54, .ref q56, .ref q58, .ref q60, .ref q62, .ref q64, .int 0, .int 0, .int (-1), .int 0, .null, .null, .null, .int 0, .int 0])), (q42, .inr (6, [.ref q43, .ref q44, .ref q45, .ref q46, .ref q47, .ref q48, .ref q49, .int 0, .int 0, .int 0, .int 0])), (q44, .inl (y50, 201, .inl (fun _ => 0))), (q46, .inl (y51, 201, .inl (fun _ => 0))), (q66, .inl (y67, 12, .inl (fun _ => 0)))] H := hP
  have hD : va_D A [(h0, .inr (8, [.ref q42, .ref q52, .ref q54, .ref q56, .ref q58, .ref q60, .ref q62, .ref q64, .int 0, .int 0, .int (-1), .int 0, .null, .null, .null, .int 0, .int 0])), (q42, .inr (6, [.ref q43, .ref q44, .ref q45, .ref q46, .ref q47, .ref q48, .ref q49, .int 0, .int 0, .int 0, .int 0])), (q44, .inl (y50, 201, .inl (fun _ => 0))), (q46, .inl (y51, 201, .inl (fun _ => 0))), (q66, .inl (y67, 12, .inl (fun _ => 0)))] := hD
  refine W.widen (k := 16) (n := 16050) (Nat.le_of_ble_eq_true rfl) (Nat.le_of_ble_eq_true rfl) ?_
  refine va_putF (D := (dC, dI)) (ci := 8) (v := .ref q66) (ty := (.array .int)) (C := RX8) (T := TX8) (N := 17) hx hb hts inX8 tyX8 tyX8_ok nmX8 hown hK hP hD hS 0 rfl rfl 12 (by decide) (hts _ wd_100) (fun _ h9 => h9) rfl hin rfl (by decide +kernel) rfl rfl (Nat.le_of_ble_eq_true rfl) dX8_init_103 (fun H locs hP hD hS => ?_)
  have hP : va_P (dC, dI) classes [(h0, .inr (8, [.ref q42, .ref q52, .ref q54, .ref q56, .ref q58, .ref q60, .ref q62, .ref q64, .int 0, .int 0, .int (-1), .int 0, .ref q66, .null, .null, .int 0, .int 0])), (q42, .inr (6, [.ref q43, .ref q44, .ref q45, .ref q46, .ref q47, .ref q48, .ref q49, .int 0, .int 0, .int 0, .int 0])), (q44, .inl (y50, 201, .inl (fun _ => 0))), (q46, .inl (y51, 201, .inl (fun _ => 0))), (q66, .inl (y67, 12, .inl (fun _ => 0)))] H := hP
  have hD : va_D A [(h0, .inr (8, [.ref q42, .ref q52, .ref q54, .ref q56, .ref q58, .ref q60, .ref q62, .ref q64, .int 0, .int 0, .int (-1), .int 0, .ref q66, .null, .null, .int 0, .int 0])), (q42, .inr (6, [.ref q43, .ref q44, .ref q45, .ref q46, .ref q47, .ref q48, .ref q49, .int 0, .int 0, .int 0, .int 0])), (q44, .inl (y50, 201, .inl (fun _ => 0))), (q46, .inl (y51, 201, .inl (fun _ => 0))), (q66, .inl (y67, 12, .inl (fun _ => 0)))] := hD
  have hP : va_P (dC, dI) classes [(h0, .inr (8, [.ref q42, .ref q52, .ref q54, .ref q56, .ref q58, .ref q60, .ref q62, .ref q64, .int 0, .int 0, .int (-1), .int 0, .ref q66, .null, .null, .int 0, .int 0])), (q42, .inr (6, [.ref q43, .ref q44, .ref q45, .ref q46, .ref q47, .ref q48, .ref q49, .int 0, .int 0, .int 0, .int 0])), (q44, .inl (y50, 201, .inl (fun _ => 0))), (q46, .inl (y51, 201, .inl (fun _ => 0)))] H := hP.sub [0, 1, 2, 3] rfl
  have hD : va_D A [(h0, .inr (8, [.ref q42, .ref q52, .ref q54, .ref q56, .ref q58, .ref q60, .ref q62, .ref q64, .int 0, .int 0, .int (-1), .int 0, .ref q66, .null, .null, .int 0, .int 0])), (q42, .inr (6, [.ref q43, .ref q44, .ref q45, .ref q46, .ref q47, .ref q48, .ref q49, .int 0, .int 0, .int 0, .int 0])), (q44, .inl (y50, 201, .inl (fun _ => 0))), (q46, .inl (y51, 201, .inl (fun _ => 0)))] := hD.sub [0, 1, 2, 3] (by decide) rfl
  have hK : va_K (dC, dI) classes [(y50, .int), (y51, .int)] s := hK.sub [0, 1] rfl
  refine lv_aload_n hx hb dX8_init_106 rfl (lv_at hl 0 rfl) ?_
  refine lv_sipush (v := 201) hx hb dX8_init_107 (by decide) ?_
  refine va_newa (atype := .int) (ty := .int) (N' := 201) (a0 := (201, .inl (fun _ => 0))) hx hb (hts _ wd_13) rfl hK hP hD hS hA (fun _ => rfl) (by decide) (by decide) (by decide) (Nat.le_of_ble_eq_true rfl) (Nat.le_of_ble_eq_true rfl) dX8_init_110 (fun q68 y69 H hK hP hD hS => ?_)
  have hK : va_K (dC, dI) classes [(y50, .int), (y51, .int), (y69, .int)] s := hK
  have hP : va_P (dC, dI) classes [(h0, .inr (8, [.ref q42, .ref q52, .ref q54, .ref q56, .ref q58, .ref q60, .ref q62, .ref q64, .int 0, .int 0, .int (-1), .int 0, .ref q66, .null, .null, .int 0, .int 0])), (q42, .inr (6, [.ref q43, .ref q44, .ref q45, .ref q46, .ref q47, .ref q48, .ref q49, .int 0, .int 0, .int 0, .int 0])), (q44, .inl (y50, 201, .inl (fun _ => 0))), (q46, .inl (y51, 201, .inl (fun _ => 0))), (q68, .inl (y69, 201, .inl (fun _ => 0)))] H := hP
  have hD : va_D A [(h0, .inr (8, [.ref q42, .ref q52, .ref q54, .ref q56, .ref q58, .ref q60, .ref q62, .ref q64, .int 0, .int 0, .int (-1), .int 0, .ref q66, .null, .null, .int 0, .int 0])), (q42, .inr (6, [.ref q43, .ref q44, .ref q45, .ref q46, .ref q47, .ref q48, .ref q49, .int 0, .int 0, .int 0, .int 0])), (q44, .inl (y50, 201, .inl (fun _ => 0))), (q46, .inl (y51, 201, .inl (fun _ => 0))), (q68, .inl (y69, 201, .inl (fun _ => 0)))] := hD
  refine W.widen (k := 17) (n := 16251) (Nat.le_of_ble_eq_true rfl) (Nat.le_of_ble_eq_true rfl) ?_
  refine va_putF (D := (dC, dI)) (ci := 8) (v := .ref q68) (ty := (.array .int)) (C := RX8) (T := TX8) (N := 17) hx hb hts inX8 tyX8 tyX8_ok nmX8 hown hK hP hD hS 0 rfl rfl 13 (by decide) (hts _ wd_101) (fun _ h9 => h9) rfl hin rfl (by decide +kernel) rfl rfl (Nat.le_of_ble_eq_true rfl) dX8_init_112 (fun H locs hP hD hS => ?_)
  have hP : va_P (dC, dI) classes [(h0, .inr (8, [.ref q42, .ref q52, .ref q54, .ref q56, .ref q58, .ref q60, .ref q62, .ref q64, .int 0, .int 0, .int (-1), .int 0, .ref q66, .ref q68, .null, .int 0, .int 0])), (q42, .inr (6, [.ref q43, .ref q44, .ref q45, .ref q46, .ref q47, .ref q48, .ref q49, .int 0, .int 0, .int 0, .int 0])), (q44, .inl (y50, 201, .inl (fun _ => 0))), (q46, .inl (y51, 201, .inl (fun _ => 0))), (q68, .inl (y69, 201, .inl (fun _ => 0)))] H := hP
  have hD : va_D A [(h0, .inr (8, [.ref q42, .ref q52, .ref q54, .ref q56, .ref q58, .ref q60, .ref q62, .ref q64, .int 0, .int 0, .int (-1), .int 0, .ref q66, .ref q68, .null, .int 0, .int 0])), (q42, .inr (6, [.ref q43, .ref q44, .ref q45, .ref q46, .ref q47, .ref q48, .ref q49, .int 0, .int 0, .int 0, .int 0])), (q44, .inl (y50, 201, .inl (fun _ => 0))), (q46, .inl (y51, 201, .inl (fun _ => 0))), (q68, .inl (y69, 201, .inl (fun _ => 0)))] := hD
  refine lv_aload_n hx hb dX8_init_115 rfl (lv_at hl 0 rfl) ?_
  refine lv_sipush (v := 201) hx hb dX8_init_116 (by decide) ?_
  refine va_newa (atype := .int) (ty := .int) (N' := 201) (a0 := (201, .inl (fun _ => 0))) hx hb (hts _ wd_13) rfl hK hP hD hS hA (fun _ => rfl) (by decide) (by decide) (by decide) (Nat.le_of_ble_eq_true rfl) (Nat.le_of_ble_eq_true rfl) dX8_init_119 (fun q70 y71 H hK hP hD hS => ?_)
  have hK : va_K (dC, dI) classes [(y50, .int), (y51, .int), (y69, .int), (y71, .int)] s := hK
  have hP : va_P (dC, dI) classes [(h0, .inr (8, [.ref q42, .ref q52, .ref q54, .ref q56, .ref q58, .ref q60, .ref q62, .ref q64, .int 0, .int 0, .int (-1), .int 0, .ref q66, .ref q68, .null, .int 0, .int 0])), (q42, .inr (6, [.ref q43, .ref q44, .ref q45, .ref q46, .ref q47, .ref q48, .ref q49, .int 0, .int 0, .int 0, .int 0])), (q44, .inl (y50, 201, .inl (fun _ => 0))), (q46, .inl (y51, 201, .inl (fun _ => 0))), (q68, .inl (y69, 201, .inl (fun _ => 0))), (q70, .inl (y71, 201, .inl (fun _ => 0)))] H := hP
  have hD : va_D A [(h0, .inr (8, [.ref q42, .ref q52, .ref q54, .ref q56, .ref q58, .ref q60, .ref q62, .ref q64, .int 0, .int 0, .int (-1), .int 0, .ref q66, .ref q68, .null, .int 0, .int 0])), (q42, .inr (6, [.ref q43, .ref q44, .ref q45, .ref q46, .ref q47, .ref q48, .ref q49, .int 0, .int 0, .int 0, .int 0])), (q44, .inl (y50, 201, .inl (fun _ => 0))), (q46, .inl (y51, 201, .inl (fun _ => 0))), (q68, .inl (y69, 201, .inl (fun _ => 0))), (q70, .inl (y71, 201, .inl (fun _ => 0)))] := hD
  refine W.widen (k := 18) (n := 16452) (Nat.le_of_ble_eq_true rfl) (Nat.le_of_ble_eq_true rfl) ?_
  refine va_putF (D := (dC, dI)) (ci := 8) (v := .ref q70) (ty := (.array .int)) (C := RX8) (T := TX8) (N := 17) hx hb hts inX8 tyX8 tyX8_ok nmX8 hown hK hP hD hS 0 rfl rfl 14 (by decide) (hts _ wd_102) (fun _ h9 => h9) rfl hin rfl (by decide +kernel) rfl rfl (Nat.le_of_ble_eq_true rfl) dX8_init_121 (fun H locs hP hD hS => ?_)
  have hP : va_P (dC, dI) classes [(h0, .inr (8, [.ref q42, .ref q52, .ref q54, .ref q56, .ref q58, .ref q60, .ref q62, .ref q64, .int 0, .int 0, .int (-1), .int 0, .ref q66, .ref q68, .ref q70, .int 0, .int 0])), (q42, .inr (6, [.ref q43, .ref q44, .ref q45, .ref q46, .ref q47, .ref q48, .ref q49, .int 0, .int 0, .int 0, .int 0])), (q44, .inl (y50, 201, .inl (fun _ => 0))), (q46, .inl (y51, 201, .inl (fun _ => 0))), (q68, .inl (y69, 201, .inl (fun _ => 0))), (q70, .inl (y71, 201, .inl (fun _ => 0)))] H := hP
  have hD : va_D A [(h0, .inr (8, [.ref q42, .ref q52, .ref q54, .ref q56, .ref q58, .ref q60, .ref q62, .ref q64, .int 0, .int 0, .int (-1), .int 0, .ref q66, .ref q68, .ref q70, .int 0, .int 0])), (q42, .inr (6, [.ref q43, .ref q44, .ref q45, .ref q46, .ref q47, .ref q48, .ref q49, .int 0, .int 0, .int 0, .int 0])), (q44, .inl (y50, 201, .inl (fun _ => 0))), (q46, .inl (y51, 201, .inl (fun _ => 0))), (q68, .inl (y69, 201, .inl (fun _ => 0))), (q70, .inl (y71, 201, .inl (fun _ => 0)))] := hD
  refine lv_aload_n hx hb dX8_init_124 rfl (lv_at hl 0 rfl) ?_
  refine lv_iconst (v := -1) hx hb dX8_init_125 (by decide) ?_
  refine va_put (D := (dC, dI)) (ci := 8) (v := .int (-1)) (ty := .int) (C := RX8) (T := TX8) (N := 17) hx hb hts inX8 tyX8 tyX8_ok nmX8 hown hK hP hD hS 0 rfl rfl 15 (by decide) (hts _ wd_103) (fun _ h9 => h9) rfl (by decide +kernel) rfl rfl (Nat.le_of_ble_eq_true rfl) dX8_init_126 (fun H locs hP hD hS => ?_)
  have hP : va_P (dC, dI) classes [(h0, .inr (8, [.ref q42, .ref q52, .ref q54, .ref q56, .ref q58, .ref q60, .ref q62, .ref q64, .int 0, .int 0, .int (-1), .int 0, .ref q66, .ref q68, .ref q70, .int (-1), .int 0])), (q42, .inr (6, [.ref q43, .ref q44, .ref q45, .ref q46, .ref q47, .ref q48, .ref q49, .int 0, .int 0, .int 0, .int 0])), (q44, .inl (y50, 201, .inl (fun _ => 0))), (q46, .inl (y51, 201, .inl (fun _ => 0))), (q68, .inl (y69, 201, .inl (fun _ => 0))), (q70, .inl (y71, 201, .inl (fun _ => 0)))] H := hP
  have hD : va_D A [(h0, .inr (8, [.ref q42, .ref q52, .ref q54, .ref q56, .ref q58, .ref q60, .ref q62, .ref q64, .int 0, .int 0, .int (-1), .int 0, .ref q66, .ref q68, .ref q70, .int (-1), .int 0])), (q42, .inr (6, [.ref q43, .ref q44, .ref q45, .ref q46, .ref q47, .ref q48, .ref q49, .int 0, .int 0, .int 0, .int 0])), (q44, .inl (y50, 201, .inl (fun _ => 0))), (q46, .inl (y51, 201, .inl (fun _ => 0))), (q68, .inl (y69, 201, .inl (fun _ => 0))), (q70, .inl (y71, 201, .inl (fun _ => 0)))] := hD
  refine lv_aload_n hx hb dX8_init_129 rfl (lv_at hl 0 rfl) ?_
  refine lv_iconst (v := 0) hx hb dX8_init_130 (by decide) ?_
  refine va_put (D := (dC, dI)) (ci := 8) (v := .int 0) (ty := .int) (C := RX8) (T := TX8) (N := 17) hx hb hts inX8 tyX8 tyX8_ok nmX8 hown hK hP hD hS 0 rfl rfl 16 (by decide) (hts _ wd_104) (fun _ h9 => h9) rfl (by decide +kernel) rfl rfl (Nat.le_of_ble_eq_true rfl) dX8_init_131 (fun H locs hP hD hS => ?_)
  have hP : va_P (dC, dI) classes [(h0, .inr (8, [.ref q42, .ref q52, .ref q54, .ref q56, .ref q58, .ref q60, .ref q62, .ref q64, .int 0, .int 0, .int (-1), .int 0, .ref q66, .ref q68, .ref q70, .int (-1), .int 0])), (q42, .inr (6, [.ref q43, .ref q44, .ref q45, .ref q46, .ref q47, .ref q48, .ref q49, .int 0, .int 0, .int 0, .int 0])), (q44, .inl (y50, 201, .inl (fun _ => 0))), (q46, .inl (y51, 201, .inl (fun _ => 0))), (q68, .inl (y69, 201, .inl (fun _ => 0))), (q70, .inl (y71, 201, .inl (fun _ => 0)))] H := hP
  have hD : va_D A [(h0, .inr (8, [.ref q42, .ref q52, .ref q54, .ref q56, .ref q58, .ref q60, .ref q62, .ref q64, .int 0, .int 0, .int (-1), .int 0, .ref q66, .ref q68, .ref q70, .int (-1), .int 0])), (q42, .inr (6, [.ref q43, .ref q44, .ref q45, .ref q46, .ref q47, .ref q48, .ref q49, .int 0, .int 0, .int 0, .int 0])), (q44, .inl (y50, 201, .inl (fun _ => 0))), (q46, .inl (y51, 201, .inl (fun _ => 0))), (q68, .inl (y69, 201, .inl (fun _ => 0))), (q70, .inl (y71, 201, .inl (fun _ => 0)))] := hD
  have hP9 := hP.sub (ws' := [(h0, .inr (8, [.ref q42, .ref q52, .ref q54, .ref q56, .ref q58, .ref q60, .ref q62, .ref q64, .int 0, .int 0, .int (-1), .int 0, .ref q66, .ref q68, .ref q70, .int (-1), .int 0])), (q42, .inr (6, [.ref q43, .ref q44, .ref q45, .ref q46, .ref q47, .ref q48, .ref q49, .int 0, .int 0, .int 0, .int 0])), (q44, .inl (y50, 201, .inl (fun _ => 0))), (q46, .inl (y51, 201, .inl (fun _ => 0))), (q68, .inl (y69, 201, .inl (fun _ => 0))), (q70, .inl (y71, 201, .inl (fun _ => 0)))]) [0, 1, 2, 3, 4, 5] rfl
  have hD9 := hD.sub (ws' := [(h0, .inr (8, [.ref q42, .ref q52, .ref q54, .ref q56, .ref q58, .ref q60, .ref q62, .ref q64, .int 0, .int 0, .int (-1), .int 0, .ref q66, .ref q68, .ref q70, .int (-1), .int 0])), (q42, .inr (6, [.ref q43, .ref q44, .ref q45, .ref q46, .ref q47, .ref q48, .ref q49, .int 0, .int 0, .int 0, .int 0])), (q44, .inl (y50, 201, .inl (fun _ => 0))), (q46, .inl (y51, 201, .inl (fun _ => 0))), (q68, .inl (y69, 201, .inl (fun _ => 0))), (q70, .inl (y71, 201, .inl (fun _ => 0)))]) [0, 1, 2, 3, 4, 5] (by decide) rfl
  have hK9 := hK.sub (tys' := [(y50, .int), (y51, .int), (y69, .int), (y71, .int)]) [0, 1, 2, 3] rfl
  refine W.widen (k := 18) (n := 16452) (Nat.le_of_ble_eq_true rfl) (Nat.le_of_ble_eq_true rfl) ?_
  exact W.vret hx hb hr (fun t ht hW => ⟨⟨(), rfl, trivial, q42, q52, q54, q56, q58, q60, q62, q64, q66, q68, q70, q43, q44, q45, q46, q47, q48, q49, y50, y51, y69, y71, by rw [ht]; exact hP9, va_K.moved hW.alike hK9, hD9⟩, hS.F ht⟩) hS.2.2 dX8_init_134
set_option maxHeartbeats 4000000 in
set_option maxRecDepth 100000 in
/-- Spine -/
theorem c_Spine (l : Launch) (dC : Nat → ClassId) (dI : Nat → Nat → Nat) (h0 : Nat) (sz : Nat) : Met l yX11_init (.code yX11_init cX11_init 1 none :: wU) ({ frames := 3, cells := 26, slots := 6208, locals := 52 } : Room) (va_Pc [.ref h0] (fun U => P5 dC dI [(h0, .inr (10, [.null, .int 0, .null, .int 0, .int 0, .null, .null, .null, .null, .null, .null, .null, .null, .null]))] [] sz U)) (va_Qv (fun _ : Unit => True) (fun _ t => ∃ e_q72 : Nat, ∃ e_q74 : Nat, ∃ e_q76 : Nat, ∃ e_q78 : Nat, ∃ e_q80 : Nat, ∃ e_q84 : Nat, ∃ e_q93 : Nat, ∃ e_q95 : Nat, ∃ e_q98 : Nat, ∃ e_q100 : Nat, ∃ e_y73 : ClassId, ∃ e_y79 : ClassId, ∃ e_y77 : ClassId, ∃ e_q81 : Nat, ∃ e_q82 : Nat, ∃ e_q83 : Nat, ∃ e_q85 : Nat, ∃ e_q86 : Nat, ∃ e_q87 : Nat, ∃ e_q88 : Nat, ∃ e_q89 : Nat, ∃ e_q90 : Nat, ∃ e_y91 : ClassId, ∃ e_y92 : ClassId, ∃ e_q94 : Nat, P3 dC dI (va_A [(h0, .inr (10, [.null, .int 0, .null, .int 0, .int 0, .null, .null, .null, .null, .null, .null, .null, .null, .null]))] sz) [(h0, .inr (10, [.ref e_q72, .int 0, .ref e_q74, .int 0, .int 0, .ref e_q76, .ref e_q78, .null, .ref e_q80, .ref e_q84, .ref e_q93, .ref e_q95, .ref e_q98, .ref e_q100])), (e_q72, .inl (e_y73, 3000, .inl (fun _ => 0))), (e_q78, .inl (e_y79, 8, .inl (fun _ => 0))), (e_q76, .inl (e_y77, 8, .inr (.inr (.inr (.inr (fun _ => none)))))), (e_q80, .inr (5, [.int 0, .int 0, .null, .int 0, .null, .int 0, .int 4, .int 0, .ref e_q81, .ref e_q82, .ref e_q83, .int (-1), .int (-1), .int 0, .int 0, .int 0])), (e_q84, .inr (9, [.ref e_q85, .ref e_q86, .ref e_q87, .ref e_q88, .ref e_q89, .ref e_q90, .null, .int 0, .int 1])), (e_q85, .inl (e_y91, 12, .inl (fun _ => 0))), (e_q86, .inl (e_y92, 12, .inl (fun _ => 0))), (e_q93, .inr (4, [.int 0, .int 1, .ref e_q94, .null, .int 0, .int 0]))] [(e_y73, .byte), (e_y79, .boolean), (e_y77, .object "SpineTables$Table"), (e_y91, .int), (e_y92, .int)] t) (va_A [(h0, .inr (10, [.null, .int 0, .null, .int 0, .int 0, .null, .null, .null, .null, .null, .null, .null, .null, .null]))] sz)) 26 6208 (va_A [(h0, .inr (10, [.null, .int 0, .null, .int 0, .int 0, .null, .null, .null, .null, .null, .null, .null, .null, .null]))] sz) := by
  refine Met.ofW (cc := cX11_init) (maxL := 1) (ret := none) (by decide) rfl ?_
  intro p e s m args below meth c s₁ B hml hv
  obtain ⟨rfl, hsz, hP, hK, hD0, hE⟩ := hv
  have hx := B.exec
  have hb := B.bytes
  have hr := B.returns
  have hts0 := atoms_spec (ws := (.code yX11_init cX11_init 1 none :: wU)) B.pre
  have hts : ∀ w ∈ wU, w.before _ s = true := fun w h => hts0 w (List.mem_cons_of_mem _ h)
  have hown : s.vm.findClass "SpineTables" = some m.cls := findClass_of_methodNamed B.named
  have hlocks := B.notSynchronized
  have hin : meth.name = "<init>" := (name_of_methodNamed B.named B.method).1
  subst hsz
  have hD := hD0.self (sz := s.heap.size)
  generalize hAe : va_A [(h0, .inr (10, [.null, .int 0, .null, .int 0, .int 0, .null, .null, .null, .null, .null, .null, .null, .null, .null]))] s.heap.size = A at hD ⊢
  have hA : ∀ q : Nat, s.heap.size ≤ q → A q := fun q h => by rw [← hAe]; exact Or.inr h
  have hP : va_P (dC, dI) classes [(h0, .inr (10, [.null, .int 0, .null, .int 0, .int 0, .null, .null, .null, .null, .null, .null, .null, .null, .null]))] s.heap := hP
  have hl := lv_entry ([.ref h0]) (n := 1) (Nat.le_of_ble_eq_true rfl)
  rw [lg_entry_eq]
  generalize (lg_sl ([.ref h0]) ++ List.replicate (1 - (lg_sl ([.ref h0])).length) Slot.unset).toArray = ls at hl ⊢
  have hl : lv_has ls 1 [(0, .ref h0)] := hl
  obtain ⟨H, hH⟩ : ∃ H, H = s.heap := ⟨_, rfl⟩
  rw [← hH] at hP
  have hS : va_S A s.heap H [] := by rw [hH]; exact va_S.rf
  refine w_heap hH ?_
  refine lv_aload_n hx hb dX11_init_0 rfl (lv_at hl 0 rfl) ?_
  refine W.objInit hx hb hown (hts _ wd_105) (hts _ wd_1) (hts _ wd_oi) rfl (by rw [hml]; exact hl.1) rfl dX11_init_1 (Nat.le_of_ble_eq_true rfl) (Nat.le_of_ble_eq_true rfl) ?_
  refine W.eq (g2 := F0 m 4 ls []) rfl ?_
  refine lv_aload_n hx hb dX11_init_4 rfl (lv_at hl 0 rfl) ?_
  refine lv_sipush (v := 3000) hx hb dX11_init_5 (by decide) ?_
  refine va_newa (atype := .byte) (ty := .byte) (N' := 3000) (a0 := (3000, .inl (fun _ => 0))) hx hb (hts _ wd_70) rfl hK hP hD hS hA (fun _ => rfl) (by decide) (by decide) (by decide) (Nat.le_of_ble_eq_true rfl) (Nat.le_of_ble_eq_true rfl) dX11_init_8 (fun q72 y73 H hK hP hD hS => ?_)
  have hK : va_K (dC, dI) classes [(y73, .byte)] s := hK
  have hP : va_P (dC, dI) classes [(h0, .inr (10, [.null, .int 0, .null, .int 0, .int 0, .null, .null, .null, .null, .null, .null, .null, .null, .null])), (q72, .inl (y73, 3000, .inl (fun _ => 0)))] H := hP
  have hD : va_D A [(h0, .inr (10, [.null, .int 0, .null, .int 0, .int 0, .null, .null, .null, .null, .null, .null, .null, .null, .null])), (q72, .inl (y73, 3000, .inl (fun _ => 0)))] := hD
  refine W.widen (k := 1) (n := 3000) (Nat.le_of_ble_eq_true rfl) (Nat.le_of_ble_eq_true rfl) ?_
  refine va_putF (D := (dC, dI)) (ci := 10) (v := .ref q72) (ty := (.array .byte)) (C := RX11) (T := TX11) (N := 14) hx hb hts inX11 tyX11 tyX11_ok nmX11 hown hK hP hD hS 0 rfl rfl 0 (by decide) (hts _ wd_106) (fun _ h9 => h9) rfl hin rfl (by decide +kernel) rfl rfl (Nat.le_of_ble_eq_true rfl) dX11_init_10 (fun H locs hP hD hS => ?_)
  have hP : va_P (dC, dI) classes [(h0, .inr (10, [.ref q72, .int 0, .null, .int 0, .int 0, .null, .null, .null, .null, .null, .null, .null, .null, .null])), (q72, .inl (y73, 3000, .inl (fun _ => 0)))] H := hP
  have hD : va_D A [(h0, .inr (10, [.ref q72, .int 0, .null, .int 0, .int 0, .null, .null, .null, .null, .null, .null, .null, .null, .null])), (q72, .inl (y73, 3000, .inl (fun _ => 0)))] := hD
  refine lv_aload_n hx hb dX11_init_13 rfl (lv_at hl 0 rfl) ?_
  refine lv_iconst (v := 0) hx hb dX11_init_14 (by decide) ?_
  refine va_put (D := (dC, dI)) (ci := 10) (v := .int 0) (ty := .int) (C := RX11) (T := TX11) (N := 14) hx hb hts inX11 tyX11 tyX11_ok nmX11 hown hK hP hD hS 0 rfl rfl 1 (by decide) (hts _ wd_107) (fun _ h9 => h9) rfl (by decide +kernel) rfl rfl (Nat.le_of_ble_eq_true rfl) dX11_init_15 (fun H locs hP hD hS => ?_)
  have hP : va_P (dC, dI) classes [(h0, .inr (10, [.ref q72, .int 0, .null, .int 0, .int 0, .null, .null, .null, .null, .null, .null, .null, .null, .null])), (q72, .inl (y73, 3000, .inl (fun _ => 0)))] H := hP
  have hD : va_D A [(h0, .inr (10, [.ref q72, .int 0, .null, .int 0, .int 0, .null, .null, .null, .null, .null, .null, .null, .null, .null])), (q72, .inl (y73, 3000, .inl (fun _ => 0)))] := hD
  refine lv_aload_n hx hb dX11_init_18 rfl (lv_at hl 0 rfl) ?_
  refine lv_sipush (v := 3001) hx hb dX11_init_19 (by decide) ?_
  refine va_newa (atype := .byte) (ty := .byte) (N' := 3001) (a0 := (3001, .inl (fun _ => 0))) hx hb (hts _ wd_70) rfl hK hP hD hS hA (fun _ => rfl) (by decide) (by decide) (by decide) (Nat.le_of_ble_eq_true rfl) (Nat.le_of_ble_eq_true rfl) dX11_init_22 (fun q74 y75 H hK hP hD hS => ?_)
  have hK : va_K (dC, dI) classes [(y73, .byte), (y75, .byte)] s := hK
  have hP : va_P (dC, dI) classes [(h0, .inr (10, [.ref q72, .int 0, .null, .int 0, .int 0, .null, .null, .null, .null, .null, .null, .null, .null, .null])), (q72, .inl (y73, 3000, .inl (fun _ => 0))), (q74, .inl (y75, 3001, .inl (fun _ => 0)))] H := hP
  have hD : va_D A [(h0, .inr (10, [.ref q72, .int 0, .null, .int 0, .int 0, .null, .null, .null, .null, .null, .null, .null, .null, .null])), (q72, .inl (y73, 3000, .inl (fun _ => 0))), (q74, .inl (y75, 3001, .inl (fun _ => 0)))] := hD
  refine W.widen (k := 2) (n := 6001) (Nat.le_of_ble_eq_true rfl) (Nat.le_of_ble_eq_true rfl) ?_
  refine va_putF (D := (dC, dI)) (ci := 10) (v := .ref q74) (ty := (.array .byte)) (C := RX11) (T := TX11) (N := 14) hx hb hts inX11 tyX11 tyX11_ok nmX11 hown hK hP hD hS 0 rfl rfl 2 (by decide) (hts _ wd_108) (fun _ h9 => h9) rfl hin rfl (by decide +kernel) rfl rfl (Nat.le_of_ble_eq_true rfl) dX11_init_24 (fun H locs hP hD hS => ?_)
  have hP : va_P (dC, dI) classes [(h0, .inr (10, [.ref q72, .int 0, .ref q74, .int 0, .int 0, .null, .null, .null, .null, .null, .null, .null, .null, .null])), (q72, .inl (y73, 3000, .inl (fun _ => 0))), (q74, .inl (y75, 3001, .inl (fun _ => 0)))] H := hP
  have hD : va_D A [(h0, .inr (10, [.ref q72, .int 0, .ref q74, .int 0, .int 0, .null, .null, .null, .null, .null, .null, .null, .null, .null])), (q72, .inl (y73, 3000, .inl (fun _ => 0))), (q74, .inl (y75, 3001, .inl (fun _ => 0)))] := hD
  have hP : va_P (dC, dI) classes [(h0, .inr (10, [.ref q72, .int 0, .ref q74, .int 0, .int 0, .null, .null, .null, .null, .null, .null, .null, .null, .null])), (q72, .inl (y73, 3000, .inl (fun _ => 0)))] H := hP.sub [0, 1] rfl
  have hD : va_D A [(h0, .inr (10, [.ref q72, .int 0, .ref q74, .int 0, .int 0, .null, .null, .null, .null, .null, .null, .null, .null, .null])), (q72, .inl (y73, 3000, .inl (fun _ => 0)))] := hD.sub [0, 1] (by decide) rfl
  have hK : va_K (dC, dI) classes [(y73, .byte)] s := hK.sub [0] rfl
  refine lv_aload_n hx hb dX11_init_27 rfl (lv_at hl 0 rfl) ?_
  refine lv_iconst (v := 0) hx hb dX11_init_28 (by decide) ?_
  refine va_put (D := (dC, dI)) (ci := 10) (v := .int 0) (ty := .int) (C := RX11) (T := TX11) (N := 14) hx hb hts inX11 tyX11 tyX11_ok nmX11 hown hK hP hD hS 0 rfl rfl 3 (by decide) (hts _ wd_109) (fun _ h9 => h9) rfl (by decide +kernel) rfl rfl (Nat.le_of_ble_eq_true rfl) dX11_init_29 (fun H locs hP hD hS => ?_)
  have hP : va_P (dC, dI) classes [(h0, .inr (10, [.ref q72, .int 0, .ref q74, .int 0, .int 0, .null, .null, .null, .null, .null, .null, .null, .null, .null])), (q72, .inl (y73, 3000, .inl (fun _ => 0)))] H := hP
  have hD : va_D A [(h0, .inr (10, [.ref q72, .int 0, .ref q74, .int 0, .int 0, .null, .null, .null, .null, .null, .null, .null, .null, .null])), (q72, .inl (y73, 3000, .inl (fun _ => 0)))] := hD
  refine lv_aload_n hx hb dX11_init_32 rfl (lv_at hl 0 rfl) ?_
  refine lv_iconst (v := 0) hx hb dX11_init_33 (by decide) ?_
  refine va_put (D := (dC, dI)) (ci := 10) (v := .int 0) (ty := .int) (C := RX11) (T := TX11) (N := 14) hx hb hts inX11 tyX11 tyX11_ok nmX11 hown hK hP hD hS 0 rfl rfl 4 (by decide) (hts _ wd_110) (fun _ h9 => h9) rfl (by decide +kernel) rfl rfl (Nat.le_of_ble_eq_true rfl) dX11_init_34 (fun H locs hP hD hS => ?_)
  have hP : va_P (dC, dI) classes [(h0, .inr (10, [.ref q72, .int 0, .ref q74, .int 0, .int 0, .null, .null, .null, .null, .null, .null, .null, .null, .null])), (q72, .inl (y73, 3000, .inl (fun _ => 0)))] H := hP
  have hD : va_D A [(h0, .inr (10, [.ref q72, .int 0, .ref q74, .int 0, .int 0, .null, .null, .null, .null, .null, .null, .null, .null, .null])), (q72, .inl (y73, 3000, .inl (fun _ => 0)))] := hD
  refine lv_aload_n hx hb dX11_init_37 rfl (lv_at hl 0 rfl) ?_
  refine lv_bipush (v := 8) hx hb dX11_init_38 (by decide) ?_
  refine va_newq (C := "SpineTables$Table") (N' := 8) hx hb hown (hts _ wd_111) hE.2 hK hP hD hS hA (by decide) (by decide) (by decide) (Nat.le_of_ble_eq_true rfl) (Nat.le_of_ble_eq_true rfl) dX11_init_40 (fun q76 y77 H hK hP hD hS => ?_)
  have hK : va_K (dC, dI) classes [(y73, .byte), (y77, .object "SpineTables$Table")] s := hK
  have hP : va_P (dC, dI) classes [(h0, .inr (10, [.ref q72, .int 0, .ref q74, .int 0, .int 0, .null, .null, .null, .null, .null, .null, .null, .null, .null])), (q72, .inl (y73, 3000, .inl (fun _ => 0))), (q76, .inl (y77, 8, .inr (.inr (.inr (.inr (fun _ => none))))))] H := hP
  have hD : va_D A [(h0, .inr (10, [.ref q72, .int 0, .ref q74, .int 0, .int 0, .null, .null, .null, .null, .null, .null, .null, .null, .null])), (q72, .inl (y73, 3000, .inl (fun _ => 0))), (q76, .inl (y77, 8, .inr (.inr (.inr (.inr (fun _ => none))))))] := hD
  refine W.widen (k := 3) (n := 6009) (Nat.le_of_ble_eq_true rfl) (Nat.le_of_ble_eq_true rfl) ?_
  refine va_putF (D := (dC, dI)) (ci := 10) (v := .ref q76) (ty := (.array (.object "SpineTables$Table"))) (C := RX11) (T := TX11) (N := 14) hx hb hts inX11 tyX11 tyX11_ok nmX11 hown hK hP hD hS 0 rfl rfl 5 (by decide) (hts _ wd_112) (fun _ h9 => h9) rfl hin rfl (by decide +kernel) rfl rfl (Nat.le_of_ble_eq_true rfl) dX11_init_43 (fun H locs hP hD hS => ?_)
  have hP : va_P (dC, dI) classes [(h0, .inr (10, [.ref q72, .int 0, .ref q74, .int 0, .int 0, .ref q76, .null, .null, .null, .null, .null, .null, .null, .null])), (q72, .inl (y73, 3000, .inl (fun _ => 0))), (q76, .inl (y77, 8, .inr (.inr (.inr (.inr (fun _ => none))))))] H := hP
  have hD : va_D A [(h0, .inr (10, [.ref q72, .int 0, .ref q74, .int 0, .int 0, .ref q76, .null, .null, .null, .null, .null, .null, .null, .null])), (q72, .inl (y73, 3000, .inl (fun _ => 0))), (q76, .inl (y77, 8, .inr (.inr (.inr (.inr (fun _ => none))))))] := hD
  refine lv_aload_n hx hb dX11_init_46 rfl (lv_at hl 0 rfl) ?_
  refine lv_bipush (v := 8) hx hb dX11_init_47 (by decide) ?_
  refine va_newa (atype := .boolean) (ty := .boolean) (N' := 8) (a0 := (8, .inl (fun _ => 0))) hx hb (hts _ wd_113) rfl hK hP hD hS hA (fun _ => rfl) (by decide) (by decide) (by decide) (Nat.le_of_ble_eq_true rfl) (Nat.le_of_ble_eq_true rfl) dX11_init_49 (fun q78 y79 H hK hP hD hS => ?_)
  have hK : va_K (dC, dI) classes [(y73, .byte), (y77, .object "SpineTables$Table"), (y79, .boolean)] s := hK
  have hP : va_P (dC, dI) classes [(h0, .inr (10, [.ref q72, .int 0, .ref q74, .int 0, .int 0, .ref q76, .null, .null, .null, .null, .null, .null, .null, .null])), (q72, .inl (y73, 3000, .inl (fun _ => 0))), (q76, .inl (y77, 8, .inr (.inr (.inr (.inr (fun _ => none)))))), (q78, .inl (y79, 8, .inl (fun _ => 0)))] H := hP
  have hD : va_D A [(h0, .inr (10, [.ref q72, .int 0, .ref q74, .int 0, .int 0, .ref q76, .null, .null, .null, .null, .null, .null, .null, .null])), (q72, .inl (y73, 3000, .inl (fun _ => 0))), (q76, .inl (y77, 8, .inr (.inr (.inr (.inr (fun _ => none)))))), (q78, .inl (y79, 8, .inl (fun _ => 0)))] := hD
  refine W.widen (k := 4) (n := 6017) (Nat.le_of_ble_eq_true rfl) (Nat.le_of_ble_eq_true rfl) ?_
  refine va_putF (D := (dC, dI)) (ci := 10) (v := .ref q78) (ty := (.array .boolean)) (C := RX11) (T := TX11) (N := 14) hx hb hts inX11 tyX11 tyX11_ok nmX11 hown hK hP hD hS 0 rfl rfl 6 (by decide) (hts _ wd_114) (fun _ h9 => h9) rfl hin rfl (by decide +kernel) rfl rfl (Nat.le_of_ble_eq_true rfl) dX11_init_51 (fun H locs hP hD hS => ?_)
  have hP : va_P (dC, dI) classes [(h0, .inr (10, [.ref q72, .int 0, .ref q74, .int 0, .int 0, .ref q76, .ref q78, .null, .null, .null, .null, .null, .null, .null])), (q72, .inl (y73, 3000, .inl (fun _ => 0))), (q76, .inl (y77, 8, .inr (.inr (.inr (.inr (fun _ => none)))))), (q78, .inl (y79, 8, .inl (fun _ => 0)))] H := hP
  have hD : va_D A [(h0, .inr (10, [.ref q72, .int 0, .ref q74, .int 0, .int 0, .ref q76, .ref q78, .null, .null, .null, .null, .null, .null, .null])), (q72, .inl (y73, 3000, .inl (fun _ => 0))), (q76, .inl (y77, 8, .inr (.inr (.inr (.inr (fun _ => none)))))), (q78, .inl (y79, 8, .inl (fun _ => 0)))] := hD
  refine lv_aload_n hx hb dX11_init_54 rfl (lv_at hl 0 rfl) ?_
  refine lv_null hx hb dX11_init_55 ?_
  refine va_put (D := (dC, dI)) (ci := 10) (v := .null) (ty := (.object "SpineTables$Table")) (C := RX11) (T := TX11) (N := 14) hx hb hts inX11 tyX11 tyX11_ok nmX11 hown hK hP hD hS 0 rfl rfl 7 (by decide) (hts _ wd_115) (fun _ h9 => h9) rfl (by decide +kernel) rfl rfl (Nat.le_of_ble_eq_true rfl) dX11_init_56 (fun H locs hP hD hS => ?_)
  have hP : va_P (dC, dI) classes [(h0, .inr (10, [.ref q72, .int 0, .ref q74, .int 0, .int 0, .ref q76, .ref q78, .null, .null, .null, .null, .null, .null, .null])), (q72, .inl (y73, 3000, .inl (fun _ => 0))), (q76, .inl (y77, 8, .inr (.inr (.inr (.inr (fun _ => none)))))), (q78, .inl (y79, 8, .inl (fun _ => 0)))] H := hP
  have hD : va_D A [(h0, .inr (10, [.ref q72, .int 0, .ref q74, .int 0, .int 0, .ref q76, .ref q78, .null, .null, .null, .null, .null, .null, .null])), (q72, .inl (y73, 3000, .inl (fun _ => 0))), (q76, .inl (y77, 8, .inr (.inr (.inr (.inr (fun _ => none)))))), (q78, .inl (y79, 8, .inl (fun _ => 0)))] := hD
  refine lv_aload_n hx hb dX11_init_59 rfl (lv_at hl 0 rfl) ?_
  refine va_new (ci := 5) (fs := [.int 0, .int 0, .null, .int 0, .null, .int 0, .int 0, .int 0, .null, .null, .null, .int 0, .int 0, .int 0, .int 0, .int 0]) (C := RX5) (T := TX5) (N := 16) hx hb hts inX5 tyX5 tyX5_ok hown (hts _ wd_116) (hts _ wd_117) (hts _ wd_118) hK hP hD hS hA rfl dfX5 (Nat.le_of_ble_eq_true rfl) (Nat.le_of_ble_eq_true rfl) dX11_init_60 (fun q80 H hP hD hS => ?_)
  have hP : va_P (dC, dI) classes [(h0, .inr (10, [.ref q72, .int 0, .ref q74, .int 0, .int 0, .ref q76, .ref q78, .null, .null, .null, .null, .null, .null, .null])), (q72, .inl (y73, 3000, .inl (fun _ => 0))), (q76, .inl (y77, 8, .inr (.inr (.inr (.inr (fun _ => none)))))), (q78, .inl (y79, 8, .inl (fun _ => 0))), (q80, .inr (5, [.int 0, .int 0, .null, .int 0, .null, .int 0, .int 0, .int 0, .null, .null, .null, .int 0, .int 0, .int 0, .int 0, .int 0]))] H := hP
  have hD : va_D A [(h0, .inr (10, [.ref q72, .int 0, .ref q74, .int 0, .int 0, .ref q76, .ref q78, .null, .null, .null, .null, .null, .null, .null])), (q72, .inl (y73, 3000, .inl (fun _ => 0))), (q76, .inl (y77, 8, .inr (.inr (.inr (.inr (fun _ => none)))))), (q78, .inl (y79, 8, .inl (fun _ => 0))), (q80, .inr (5, [.int 0, .int 0, .null, .int 0, .null, .int 0, .int 0, .int 0, .null, .null, .null, .int 0, .int 0, .int 0, .int 0, .int 0]))] := hD
  refine W.widen (k := 5) (n := 6033) (Nat.le_of_ble_eq_true rfl) (Nat.le_of_ble_eq_true rfl) ?_
  refine lv_dup hx hb dX11_init_63 rfl ?_
  have hPc := hP.sub (ws' := [(q80, .inr (5, [.int 0, .int 0, .null, .int 0, .null, .int 0, .int 0, .int 0, .null, .null, .null, .int 0, .int 0, .int 0, .int 0, .int 0]))]) [4] rfl
  have hDc := hD.sub (ws' := [(q80, .inr (5, [.int 0, .int 0, .null, .int 0, .null, .int 0, .int 0, .int 0, .null, .null, .null, .int 0, .int 0, .int 0, .int 0, .int 0]))]) [4] (by decide) rfl
  have hKc := hK.sub (tys' := []) [] rfl
  have hFc := va_free (wc := [(q80, .inr (5, [.int 0, .int 0, .null, .int 0, .null, .int 0, .int 0, .int 0, .null, .null, .null, .int 0, .int 0, .int 0, .int 0, .int 0]))]) hD hS hA [4] rfl
  refine va_callv (va_runIN (As := []) (rest := [.ref q80, .ref h0]) ⟨hx, hb, hml, hown, hts⟩ (c_Reader l dC dI q80 H.size) ⟨va_cnB 0 hts (goC wd_119) rfl rfl rfl (hE.1 _ (List.mem_of_getElem? (i := 5) rfl)) (hts _ wd_118) (by decide +kernel) ⟨Nat.le_of_ble_eq_true rfl, Nat.le_of_ble_eq_true rfl⟩, rfl, hts _ wd_120⟩ ⟨blind5, fun U hU hW => ⟨rfl, pre5 hU hW hPc hKc hDc hE⟩⟩ rfl rfl hl.1 rfl (lv_room (Nat.le_of_ble_eq_true rfl)) dX11_init_64 ⟨Nat.le_of_ble_eq_true rfl, Nat.le_of_ble_eq_true rfl⟩) hS (fun q _ h => hFc q h) hFc (fun u t H1 locs ht hvm hw hB hz1 hk1 hS => ?_)
  obtain ⟨q81, q82, q83, hP1, hK1, hD1⟩ := hB
  rw [ht] at hP1
  have hK1 := va_K.moved hvm.symm hK1
  obtain ⟨hP, hD⟩ := va_join (wr := [(h0, .inr (10, [.ref q72, .int 0, .ref q74, .int 0, .int 0, .ref q76, .ref q78, .null, .null, .null, .null, .null, .null, .null])), (q72, .inl (y73, 3000, .inl (fun _ => 0))), (q76, .inl (y77, 8, .inr (.inr (.inr (.inr (fun _ => none)))))), (q78, .inl (y79, 8, .inl (fun _ => 0)))]) (w1 := [(q80, .inr (5, [.int 0, .int 0, .null, .int 0, .null, .int 0, .int 4, .int 0, .ref q81, .ref q82, .ref q83, .int (-1), .int (-1), .int 0, .int 0, .int 0]))]) hP hD [4] [0, 1, 2, 3] rfl rfl (by decide) (by decide) hk1 hFc hP1 hD1
  have hK := (hK.sub (tys' := [(y73, .byte), (y77, .object "SpineTables$Table"), (y79, .boolean)]) [0, 1, 2] rfl).app hK1
  generalize H1 = H at hP hS ⊢
  have hK : va_K (dC, dI) classes [(y73, .byte), (y77, .object "SpineTables$Table"), (y79, .boolean)] s := hK
  have hP : va_P (dC, dI) classes [(h0, .inr (10, [.ref q72, .int 0, .ref q74, .int 0, .int 0, .ref q76, .ref q78, .null, .null, .null, .null, .null, .null, .null])), (q72, .inl (y73, 3000, .inl (fun _ => 0))), (q76, .inl (y77, 8, .inr (.inr (.inr (.inr (fun _ => none)))))), (q78, .inl (y79, 8, .inl (fun _ => 0))), (q80, .inr (5, [.int 0, .int 0, .null, .int 0, .null, .int 0, .int 4, .int 0, .ref q81, .ref q82, .ref q83, .int (-1), .int (-1), .int 0, .int 0, .int 0]))] H := hP
  have hD : va_D A [(h0, .inr (10, [.ref q72, .int 0, .ref q74, .int 0, .int 0, .ref q76, .ref q78, .null, .null, .null, .null, .null, .null, .null])), (q72, .inl (y73, 3000, .inl (fun _ => 0))), (q76, .inl (y77, 8, .inr (.inr (.inr (.inr (fun _ => none)))))), (q78, .inl (y79, 8, .inl (fun _ => 0))), (q80, .inr (5, [.int 0, .int 0, .null, .int 0, .null, .int 0, .int 4, .int 0, .ref q81, .ref q82, .ref q83, .int (-1), .int (-1), .int 0, .int 0, .int 0]))] := hD
  refine W.widen (k := 8) (n := 6072) (Nat.le_of_ble_eq_true rfl) (Nat.le_of_ble_eq_true rfl) ?_
  refine va_putF (D := (dC, dI)) (ci := 10) (v := .ref q80) (ty := (.object "SpineTables$Reader")) (C := RX11) (T := TX11) (N := 14) hx hb hts inX11 tyX11 tyX11_ok nmX11 hown hK hP hD hS 0 rfl rfl 8 (by decide) (hts _ wd_121) (fun _ h9 => h9) rfl hin rfl (by decide +kernel) rfl rfl (Nat.le_of_ble_eq_true rfl) dX11_init_67 (fun H locs hP hD hS => ?_)
  have hP : va_P (dC, dI) classes [(h0, .inr (10, [.ref q72, .int 0, .ref q74, .int 0, .int 0, .ref q76, .ref q78, .null, .ref q80, .null, .null, .null, .null, .null])), (q72, .inl (y73, 3000, .inl (fun _ => 0))), (q76, .inl (y77, 8, .inr (.inr (.inr (.inr (fun _ => none)))))), (q78, .inl (y79, 8, .inl (fun _ => 0))), (q80, .inr (5, [.int 0, .int 0, .null, .int 0, .null, .int 0, .int 4, .int 0, .ref q81, .ref q82, .ref q83, .int (-1), .int (-1), .int 0, .int 0, .int 0]))] H := hP
  have hD : va_D A [(h0, .inr (10, [.ref q72, .int 0, .ref q74, .int 0, .int 0, .ref q76, .ref q78, .null, .ref q80, .null, .null, .null, .null, .null])), (q72, .inl (y73, 3000, .inl (fun _ => 0))), (q76, .inl (y77, 8, .inr (.inr (.inr (.inr (fun _ => none)))))), (q78, .inl (y79, 8, .inl (fun _ => 0))), (q80, .inr (5, [.int 0, .int 0, .null, .int 0, .null, .int 0, .int 4, .int 0, .ref q81, .ref q82, .ref q83, .int (-1), .int (-1), .int 0, .int 0, .int 0]))] := hD
  refine lv_aload_n hx hb dX11_init_70 rfl (lv_at hl 0 rfl) ?_
  refine va_new (ci := 9) (fs := [.null, .null, .null, .null, .null, .null, .null, .int 0, .int 0]) (C := RX9) (T := TX9) (N := 9) hx hb hts inX9 tyX9 tyX9_ok hown (hts _ wd_122) (hts _ wd_123) (hts _ wd_124) hK hP hD hS hA rfl dfX9 (Nat.le_of_ble_eq_true rfl) (Nat.le_of_ble_eq_true rfl) dX11_init_71 (fun q84 H hP hD hS => ?_)
  have hP : va_P (dC, dI) classes [(h0, .inr (10, [.ref q72, .int 0, .ref q74, .int 0, .int 0, .ref q76, .ref q78, .null, .ref q80, .null, .null, .null, .null, .null])), (q72, .inl (y73, 3000, .inl (fun _ => 0))), (q76, .inl (y77, 8, .inr (.inr (.inr (.inr (fun _ => none)))))), (q78, .inl (y79, 8, .inl (fun _ => 0))), (q80, .inr (5, [.int 0, .int 0, .null, .int 0, .null, .int 0, .int 4, .int 0, .ref q81, .ref q82, .ref q83, .int (-1), .int (-1), .int 0, .int 0, .int 0])), (q84, .inr (9, [.null, .null, .null, .null, .null, .null, .null, .int 0, .int 0]))] H := hP
  have hD : va_D A [(h0, .inr (10, [.ref q72, .int 0, .ref q74, .int 0, .int 0, .ref q76, .ref q78, .null, .ref q80, .null, .null, .null, .null, .null])), (q72, .inl (y73, 3000, .inl (fun _ => 0))), (q76, .inl (y77, 8, .inr (.inr (.inr (.inr (fun _ => none)))))), (q78, .inl (y79, 8, .inl (fun _ => 0))), (q80, .inr (5, [.int 0, .int 0, .null, .int 0, .null, .int 0, .int 4, .int 0, .ref q81, .ref q82, .ref q83, .int (-1), .int (-1), .int 0, .int 0, .int 0])), (q84, .inr (9, [.null, .null, .null, .null, .null, .null, .null, .int 0, .int 0]))] := hD
  refine W.widen (k := 9) (n := 6081) (Nat.le_of_ble_eq_true rfl) (Nat.le_of_ble_eq_true rfl) ?_
  refine lv_dup hx hb dX11_init_74 rfl ?_
  have hPc := hP.sub (ws' := [(q84, .inr (9, [.null, .null, .null, .null, .null, .null, .null, .int 0, .int 0]))]) [5] rfl
  have hDc := hD.sub (ws' := [(q84, .inr (9, [.null, .null, .null, .null, .null, .null, .null, .int 0, .int 0]))]) [5] (by decide) rfl
  have hKc := hK.sub (tys' := []) [] rfl
  have hFc := va_free (wc := [(q84, .inr (9, [.null, .null, .null, .null, .null, .null, .null, .int 0, .int 0]))]) hD hS hA [5] rfl
  refine va_callv (va_runIN (As := []) (rest := [.ref q84, .ref h0]) ⟨hx, hb, hml, hown, hts⟩ (c_Walker l dC dI q84 H.size) ⟨va_cnB 0 hts (goC wd_125) rfl rfl rfl (hE.1 _ (List.mem_of_getElem? (i := 6) rfl)) (hts _ wd_124) (by decide +kernel) ⟨Nat.le_of_ble_eq_true rfl, Nat.le_of_ble_eq_true rfl⟩, rfl, hts _ wd_126⟩ ⟨blind5, fun U hU hW => ⟨rfl, pre5 hU hW hPc hKc hDc hE⟩⟩ rfl rfl hl.1 rfl (lv_room (Nat.le_of_ble_eq_true rfl)) dX11_init_75 ⟨Nat.le_of_ble_eq_true rfl, Nat.le_of_ble_eq_true rfl⟩) hS (fun q _ h => hFc q h) hFc (fun u t H1 locs ht hvm hw hB hz1 hk1 hS => ?_)
  obtain ⟨q85, q86, q87, q88, q89, q90, y91, y92, hP1, hK1, hD1⟩ := hB
  rw [ht] at hP1
  have hK1 := va_K.moved hvm.symm hK1
  obtain ⟨hP, hD⟩ := va_join (wr := [(h0, .inr (10, [.ref q72, .int 0, .ref q74, .int 0, .int 0, .ref q76, .ref q78, .null, .ref q80, .null, .null, .null, .null, .null])), (q72, .inl (y73, 3000, .inl (fun _ => 0))), (q76, .inl (y77, 8, .inr (.inr (.inr (.inr (fun _ => none)))))), (q78, .inl (y79, 8, .inl (fun _ => 0))), (q80, .inr (5, [.int 0, .int 0, .null, .int 0, .null, .int 0, .int 4, .int 0, .ref q81, .ref q82, .ref q83, .int (-1), .int (-1), .int 0, .int 0, .int 0]))]) (w1 := [(q84, .inr (9, [.ref q85, .ref q86, .ref q87, .ref q88, .ref q89, .ref q90, .null, .int 0, .int 1])), (q85, .inl (y91, 12, .inl (fun _ => 0))), (q86, .inl (y92, 12, .inl (fun _ => 0)))]) hP hD [5] [0, 1, 2, 3, 4] rfl rfl (by decide) (by decide) hk1 hFc hP1 hD1
  have hK := (hK.sub (tys' := [(y73, .byte), (y77, .object "SpineTables$Table"), (y79, .boolean)]) [0, 1, 2] rfl).app hK1
  generalize H1 = H at hP hS ⊢
  have hK : va_K (dC, dI) classes [(y73, .byte), (y77, .object "SpineTables$Table"), (y79, .boolean), (y91, .int), (y92, .int)] s := hK
  have hP : va_P (dC, dI) classes [(h0, .inr (10, [.ref q72, .int 0, .ref q74, .int 0, .int 0, .ref q76, .ref q78, .null, .ref q80, .null, .null, .null, .null, .null])), (q72, .inl (y73, 3000, .inl (fun _ => 0))), (q76, .inl (y77, 8, .inr (.inr (.inr (.inr (fun _ => none)))))), (q78, .inl (y79, 8, .inl (fun _ => 0))), (q80, .inr (5, [.int 0, .int 0, .null, .int 0, .null, .int 0, .int 4, .int 0, .ref q81, .ref q82, .ref q83, .int (-1), .int (-1), .int 0, .int 0, .int 0])), (q84, .inr (9, [.ref q85, .ref q86, .ref q87, .ref q88, .ref q89, .ref q90, .null, .int 0, .int 1])), (q85, .inl (y91, 12, .inl (fun _ => 0))), (q86, .inl (y92, 12, .inl (fun _ => 0)))] H := hP
  have hD : va_D A [(h0, .inr (10, [.ref q72, .int 0, .ref q74, .int 0, .int 0, .ref q76, .ref q78, .null, .ref q80, .null, .null, .null, .null, .null])), (q72, .inl (y73, 3000, .inl (fun _ => 0))), (q76, .inl (y77, 8, .inr (.inr (.inr (.inr (fun _ => none)))))), (q78, .inl (y79, 8, .inl (fun _ => 0))), (q80, .inr (5, [.int 0, .int 0, .null, .int 0, .null, .int 0, .int 4, .int 0, .ref q81, .ref q82, .ref q83, .int (-1), .int (-1), .int 0, .int 0, .int 0])), (q84, .inr (9, [.ref q85, .ref q86, .ref q87, .ref q88, .ref q89, .ref q90, .null, .int 0, .int 1])), (q85, .inl (y91, 12, .inl (fun _ => 0))), (q86, .inl (y92, 12, .inl (fun _ => 0)))] := hD
  refine W.widen (k := 15) (n := 6143) (Nat.le_of_ble_eq_true rfl) (Nat.le_of_ble_eq_true rfl) ?_
  refine va_putF (D := (dC, dI)) (ci := 10) (v := .ref q84) (ty := (.object "SpineTables$Walker")) (C := RX11) (T := TX11) (N := 14) hx hb hts inX11 tyX11 tyX11_ok nmX11 hown hK hP hD hS 0 rfl rfl 9 (by decide) (hts _ wd_127) (fun _ h9 => h9) rfl hin rfl (by decide +kernel) rfl rfl (Nat.le_of_ble_eq_true rfl) dX11_init_78 (fun H locs hP hD hS => ?_)
  have hP : va_P (dC, dI) classes [(h0, .inr (10, [.ref q72, .int 0, .ref q74, .int 0, .int 0, .ref q76, .ref q78, .null, .ref q80, .ref q84, .null, .null, .null, .null])), (q72, .inl (y73, 3000, .inl (fun _ => 0))), (q76, .inl (y77, 8, .inr (.inr (.inr (.inr (fun _ => none)))))), (q78, .inl (y79, 8, .inl (fun _ => 0))), (q80, .inr (5, [.int 0, .int 0, .null, .int 0, .null, .int 0, .int 4, .int 0, .ref q81, .ref q82, .ref q83, .int (-1), .int (-1), .int 0, .int 0, .int 0])), (q84, .inr (9, [.ref q85, .ref q86, .ref q87, .ref q88, .ref q89, .ref q90, .null, .int 0, .int 1])), (q85, .inl (y91, 12, .inl (fun _ => 0))), (q86, .inl (y92, 12, .inl (fun _ => 0)))] H := hP
  have hD : va_D A [(h0, .inr (10, [.ref q72, .int 0, .ref q74, .int 0, .int 0, .ref q76, .ref q78, .null, .ref q80, .ref q84, .null, .null, .null, .null])), (q72, .inl (y73, 3000, .inl (fun _ => 0))), (q76, .inl (y77, 8, .inr (.inr (.inr (.inr (fun _ => none)))))), (q78, .inl (y79, 8, .inl (fun _ => 0))), (q80, .inr (5, [.int 0, .int 0, .null, .int 0, .null, .int 0, .int 4, .int 0, .ref q81, .ref q82, .ref q83, .int (-1), .int (-1), .int 0, .int 0, .int 0])), (q84, .inr (9, [.ref q85, .ref q86, .ref q87, .ref q88, .ref q89, .ref q90, .null, .int 0, .int 1])), (q85, .inl (y91, 12, .inl (fun _ => 0))), (q86, .inl (y92, 12, .inl (fun _ => 0)))] := hD
  refine lv_aload_n hx hb dX11_init_81 rfl (lv_at hl 0 rfl) ?_
  refine va_new (ci := 4) (fs := [.int 0, .int 0, .null, .null, .int 0, .int 0]) (C := RX4) (T := TX4) (N := 6) hx hb hts inX4 tyX4 tyX4_ok hown (hts _ wd_128) (hts _ wd_129) (hts _ wd_130) hK hP hD hS hA rfl dfX4 (Nat.le_of_ble_eq_true rfl) (Nat.le_of_ble_eq_true rfl) dX11_init_82 (fun q93 H hP hD hS => ?_)
  have hP : va_P (dC, dI) classes [(h0, .inr (10, [.ref q72, .int 0, .ref q74, .int 0, .int 0, .ref q76, .ref q78, .null, .ref q80, .ref q84, .null, .null, .null, .null])), (q72, .inl (y73, 3000, .inl (fun _ => 0))), (q76, .inl (y77, 8, .inr (.inr (.inr (.inr (fun _ => none)))))), (q78, .inl (y79, 8, .inl (fun _ => 0))), (q80, .inr (5, [.int 0, .int 0, .null, .int 0, .null, .int 0, .int 4, .int 0, .ref q81, .ref q82, .ref q83, .int (-1), .int (-1), .int 0, .int 0, .int 0])), (q84, .inr (9, [.ref q85, .ref q86, .ref q87, .ref q88, .ref q89, .ref q90, .null, .int 0, .int 1])), (q85, .inl (y91, 12, .inl (fun _ => 0))), (q86, .inl (y92, 12, .inl (fun _ => 0))), (q93, .inr (4, [.int 0, .int 0, .null, .null, .int 0, .int 0]))] H := hP
  have hD : va_D A [(h0, .inr (10, [.ref q72, .int 0, .ref q74, .int 0, .int 0, .ref q76, .ref q78, .null, .ref q80, .ref q84, .null, .null, .null, .null])), (q72, .inl (y73, 3000, .inl (fun _ => 0))), (q76, .inl (y77, 8, .inr (.inr (.inr (.inr (fun _ => none)))))), (q78, .inl (y79, 8, .inl (fun _ => 0))), (q80, .inr (5, [.int 0, .int 0, .null, .int 0, .null, .int 0, .int 4, .int 0, .ref q81, .ref q82, .ref q83, .int (-1), .int (-1), .int 0, .int 0, .int 0])), (q84, .inr (9, [.ref q85, .ref q86, .ref q87, .ref q88, .ref q89, .ref q90, .null, .int 0, .int 1])), (q85, .inl (y91, 12, .inl (fun _ => 0))), (q86, .inl (y92, 12, .inl (fun _ => 0))), (q93, .inr (4, [.int 0, .int 0, .null, .null, .int 0, .int 0]))] := hD
  refine W.widen (k := 16) (n := 6149) (Nat.le_of_ble_eq_true rfl) (Nat.le_of_ble_eq_true rfl) ?_
  refine lv_dup hx hb dX11_init_85 rfl ?_
  have hPc := hP.sub (ws' := [(q93, .inr (4, [.int 0, .int 0, .null, .null, .int 0, .int 0]))]) [8] rfl
  have hDc := hD.sub (ws' := [(q93, .inr (4, [.int 0, .int 0, .null, .null, .int 0, .int 0]))]) [8] (by decide) rfl
  have hKc := hK.sub (tys' := []) [] rfl
  have hFc := va_free (wc := [(q93, .inr (4, [.int 0, .int 0, .null, .null, .int 0, .int 0]))]) hD hS hA [8] rfl
  refine va_callv (va_runIN (As := []) (rest := [.ref q93, .ref h0]) ⟨hx, hb, hml, hown, hts⟩ (c_Lengths l dC dI q93 H.size) ⟨va_cnB 0 hts (goC wd_131) rfl rfl rfl (hE.1 _ (List.mem_of_getElem? (i := 7) rfl)) (hts _ wd_130) (by decide +kernel) ⟨Nat.le_of_ble_eq_true rfl, Nat.le_of_ble_eq_true rfl⟩, rfl, hts _ wd_132⟩ ⟨blind5, fun U hU hW => ⟨rfl, pre5 hU hW hPc hKc hDc hE⟩⟩ rfl rfl hl.1 rfl (lv_room (Nat.le_of_ble_eq_true rfl)) dX11_init_86 ⟨Nat.le_of_ble_eq_true rfl, Nat.le_of_ble_eq_true rfl⟩) hS (fun q _ h => hFc q h) hFc (fun u t H1 locs ht hvm hw hB hz1 hk1 hS => ?_)
  obtain ⟨q94, hP1, hK1, hD1⟩ := hB
  rw [ht] at hP1
  have hK1 := va_K.moved hvm.symm hK1
  obtain ⟨hP, hD⟩ := va_join (wr := [(h0, .inr (10, [.ref q72, .int 0, .ref q74, .int 0, .int 0, .ref q76, .ref q78, .null, .ref q80, .ref q84, .null, .null, .null, .null])), (q72, .inl (y73, 3000, .inl (fun _ => 0))), (q76, .inl (y77, 8, .inr (.inr (.inr (.inr (fun _ => none)))))), (q78, .inl (y79, 8, .inl (fun _ => 0))), (q80, .inr (5, [.int 0, .int 0, .null, .int 0, .null, .int 0, .int 4, .int 0, .ref q81, .ref q82, .ref q83, .int (-1), .int (-1), .int 0, .int 0, .int 0])), (q84, .inr (9, [.ref q85, .ref q86, .ref q87, .ref q88, .ref q89, .ref q90, .null, .int 0, .int 1])), (q85, .inl (y91, 12, .inl (fun _ => 0))), (q86, .inl (y92, 12, .inl (fun _ => 0)))]) (w1 := [(q93, .inr (4, [.int 0, .int 1, .ref q94, .null, .int 0, .int 0]))]) hP hD [8] [0, 1, 2, 3, 4, 5, 6, 7] rfl rfl (by decide) (by decide) hk1 hFc hP1 hD1
  have hK := (hK.sub (tys' := [(y73, .byte), (y77, .object "SpineTables$Table"), (y79, .boolean), (y91, .int), (y92, .int)]) [0, 1, 2, 3, 4] rfl).app hK1
  generalize H1 = H at hP hS ⊢
  have hK : va_K (dC, dI) classes [(y73, .byte), (y77, .object "SpineTables$Table"), (y79, .boolean), (y91, .int), (y92, .int)] s := hK
  have hP : va_P (dC, dI) classes [(h0, .inr (10, [.ref q72, .int 0, .ref q74, .int 0, .int 0, .ref q76, .ref q78, .null, .ref q80, .ref q84, .null, .null, .null, .null])), (q72, .inl (y73, 3000, .inl (fun _ => 0))), (q76, .inl (y77, 8, .inr (.inr (.inr (.inr (fun _ => none)))))), (q78, .inl (y79, 8, .inl (fun _ => 0))), (q80, .inr (5, [.int 0, .int 0, .null, .int 0, .null, .int 0, .int 4, .int 0, .ref q81, .ref q82, .ref q83, .int (-1), .int (-1), .int 0, .int 0, .int 0])), (q84, .inr (9, [.ref q85, .ref q86, .ref q87, .ref q88, .ref q89, .ref q90, .null, .int 0, .int 1])), (q85, .inl (y91, 12, .inl (fun _ => 0))), (q86, .inl (y92, 12, .inl (fun _ => 0))), (q93, .inr (4, [.int 0, .int 1, .ref q94, .null, .int 0, .int 0]))] H := hP
  have hD : va_D A [(h0, .inr (10, [.ref q72, .int 0, .ref q74, .int 0, .int 0, .ref q76, .ref q78, .null, .ref q80, .ref q84, .null, .null, .null, .null])), (q72, .inl (y73, 3000, .inl (fun _ => 0))), (q76, .inl (y77, 8, .inr (.inr (.inr (.inr (fun _ => none)))))), (q78, .inl (y79, 8, .inl (fun _ => 0))), (q80, .inr (5, [.int 0, .int 0, .null, .int 0, .null, .int 0, .int 4, .int 0, .ref q81, .ref q82, .ref q83, .int (-1), .int (-1), .int 0, .int 0, .int 0])), (q84, .inr (9, [.ref q85, .ref q86, .ref q87, .ref q88, .ref q89, .ref q90, .null, .int 0, .int 1])), (q85, .inl (y91, 12, .inl (fun _ => 0))), (q86, .inl (y92, 12, .inl (fun _ => 0))), (q93, .inr (4, [.int 0, .int 1, .ref q94, .null, .int 0, .int 0]))] := hD
  refine W.widen (k := 17) (n := 6151) (Nat.le_of_ble_eq_true rfl) (Nat.le_of_ble_eq_true rfl) ?_
  refine va_putF (D := (dC, dI)) (ci := 10) (v := .ref q93) (ty := (.object "SpineTables$Lengths")) (C := RX11) (T := TX11) (N := 14) hx hb hts inX11 tyX11 tyX11_ok nmX11 hown hK hP hD hS 0 rfl rfl 10 (by decide) (hts _ wd_133) (fun _ h9 => h9) rfl hin rfl (by decide +kernel) rfl rfl (Nat.le_of_ble_eq_true rfl) dX11_init_89 (fun H locs hP hD hS => ?_)
  have hP : va_P (dC, dI) classes [(h0, .inr (10, [.ref q72, .int 0, .ref q74, .int 0, .int 0, .ref q76, .ref q78, .null, .ref q80, .ref q84, .ref q93, .null, .null, .null])), (q72, .inl (y73, 3000, .inl (fun _ => 0))), (q76, .inl (y77, 8, .inr (.inr (.inr (.inr (fun _ => none)))))), (q78, .inl (y79, 8, .inl (fun _ => 0))), (q80, .inr (5, [.int 0, .int 0, .null, .int 0, .null, .int 0, .int 4, .int 0, .ref q81, .ref q82, .ref q83, .int (-1), .int (-1), .int 0, .int 0, .int 0])), (q84, .inr (9, [.ref q85, .ref q86, .ref q87, .ref q88, .ref q89, .ref q90, .null, .int 0, .int 1])), (q85, .inl (y91, 12, .inl (fun _ => 0))), (q86, .inl (y92, 12, .inl (fun _ => 0))), (q93, .inr (4, [.int 0, .int 1, .ref q94, .null, .int 0, .int 0]))] H := hP
  have hD : va_D A [(h0, .inr (10, [.ref q72, .int 0, .ref q74, .int 0, .int 0, .ref q76, .ref q78, .null, .ref q80, .ref q84, .ref q93, .null, .null, .null])), (q72, .inl (y73, 3000, .inl (fun _ => 0))), (q76, .inl (y77, 8, .inr (.inr (.inr (.inr (fun _ => none)))))), (q78, .inl (y79, 8, .inl (fun _ => 0))), (q80, .inr (5, [.int 0, .int 0, .null, .int 0, .null, .int 0, .int 4, .int 0, .ref q81, .ref q82, .ref q83, .int (-1), .int (-1), .int 0, .int 0, .int 0])), (q84, .inr (9, [.ref q85, .ref q86, .ref q87, .ref q88, .ref q89, .ref q90, .null, .int 0, .int 1])), (q85, .inl (y91, 12, .inl (fun _ => 0))), (q86, .inl (y92, 12, .inl (fun _ => 0))), (q93, .inr (4, [.int 0, .int 1, .ref q94, .null, .int 0, .int 0]))] := hD
  refine lv_aload_n hx hb dX11_init_92 rfl (lv_at hl 0 rfl) ?_
  refine va_new (ci := 0) (fs := [.null, .null, .null]) (C := RX0) (T := TX0) (N := 3) hx hb hts inX0 tyX0 tyX0_ok hown (hts _ wd_134) (hts _ wd_135) (hts _ wd_136) hK hP hD hS hA rfl dfX0 (Nat.le_of_ble_eq_true rfl) (Nat.le_of_ble_eq_true rfl) dX11_init_93 (fun q95 H hP hD hS => ?_)
  have hP : va_P (dC, dI) classes [(h0, .inr (10, [.ref q72, .int 0, .ref q74, .int 0, .int 0, .ref q76, .ref q78, .null, .ref q80, .ref q84, .ref q93, .null, .null, .null])), (q72, .inl (y73, 3000, .inl (fun _ => 0))), (q76, .inl (y77, 8, .inr (.inr (.inr (.inr (fun _ => none)))))), (q78, .inl (y79, 8, .inl (fun _ => 0))), (q80, .inr (5, [.int 0, .int 0, .null, .int 0, .null, .int 0, .int 4, .int 0, .ref q81, .ref q82, .ref q83, .int (-1), .int (-1), .int 0, .int 0, .int 0])), (q84, .inr (9, [.ref q85, .ref q86, .ref q87, .ref q88, .ref q89, .ref q90, .null, .int 0, .int 1])), (q85, .inl (y91, 12, .inl (fun _ => 0))), (q86, .inl (y92, 12, .inl (fun _ => 0))), (q93, .inr (4, [.int 0, .int 1, .ref q94, .null, .int 0, .int 0])), (q95, .inr (0, [.null, .null, .null]))] H := hP
  have hD : va_D A [(h0, .inr (10, [.ref q72, .int 0, .ref q74, .int 0, .int 0, .ref q76, .ref q78, .null, .ref q80, .ref q84, .ref q93, .null, .null, .null])), (q72, .inl (y73, 3000, .inl (fun _ => 0))), (q76, .inl (y77, 8, .inr (.inr (.inr (.inr (fun _ => none)))))), (q78, .inl (y79, 8, .inl (fun _ => 0))), (q80, .inr (5, [.int 0, .int 0, .null, .int 0, .null, .int 0, .int 4, .int 0, .ref q81, .ref q82, .ref q83, .int (-1), .int (-1), .int 0, .int 0, .int 0])), (q84, .inr (9, [.ref q85, .ref q86, .ref q87, .ref q88, .ref q89, .ref q90, .null, .int 0, .int 1])), (q85, .inl (y91, 12, .inl (fun _ => 0))), (q86, .inl (y92, 12, .inl (fun _ => 0))), (q93, .inr (4, [.int 0, .int 1, .ref q94, .null, .int 0, .int 0])), (q95, .inr (0, [.null, .null, .null]))] := hD
  refine W.widen (k := 18) (n := 6154) (Nat.le_of_ble_eq_true rfl) (Nat.le_of_ble_eq_true rfl) ?_
  refine lv_dup hx hb dX11_init_96 rfl ?_
  have hPc := hP.sub (ws' := [(q95, .inr (0, [.null, .null, .null]))]) [9] rfl
  have hDc := hD.sub (ws' := [(q95, .inr (0, [.null, .null, .null]))]) [9] (by decide) rfl
  have hKc := hK.sub (tys' := []) [] rfl
  have hFc := va_free (wc := [(q95, .inr (0, [.null, .null, .null]))]) hD hS hA [9] rfl
  refine va_callv (va_runIN (As := []) (rest := [.ref q95, .ref h0]) ⟨hx, hb, hml, hown, hts⟩ (c_Assembler l dC dI q95 H.size) ⟨va_cnB 0 hts (goC wd_137) rfl rfl rfl (hE.1 _ (List.mem_of_getElem? (i := 8) rfl)) (hts _ wd_136) (by decide +kernel) ⟨Nat.le_of_ble_eq_true rfl, Nat.le_of_ble_eq_true rfl⟩, rfl, hts _ wd_138⟩ ⟨blind5, fun U hU hW => ⟨rfl, pre5 hU hW hPc hKc hDc hE⟩⟩ rfl rfl hl.1 rfl (lv_room (Nat.le_of_ble_eq_true rfl)) dX11_init_97 ⟨Nat.le_of_ble_eq_true rfl, Nat.le_of_ble_eq_true rfl⟩) hS (fun q _ h => hFc q h) hFc (fun u t H1 locs ht hvm hw hB hz1 hk1 hS => ?_)
  obtain ⟨q96, q97, hP1, hK1, hD1⟩ := hB
  rw [ht] at hP1
  have hK1 := va_K.moved hvm.symm hK1
  obtain ⟨hP, hD⟩ := va_join (wr := [(h0, .inr (10, [.ref q72, .int 0, .ref q74, .int 0, .int 0, .ref q76, .ref q78, .null, .ref q80, .ref q84, .ref q93, .null, .null, .null])), (q72, .inl (y73, 3000, .inl (fun _ => 0))), (q76, .inl (y77, 8, .inr (.inr (.inr (.inr (fun _ => none)))))), (q78, .inl (y79, 8, .inl (fun _ => 0))), (q80, .inr (5, [.int 0, .int 0, .null, .int 0, .null, .int 0, .int 4, .int 0, .ref q81, .ref q82, .ref q83, .int (-1), .int (-1), .int 0, .int 0, .int 0])), (q84, .inr (9, [.ref q85, .ref q86, .ref q87, .ref q88, .ref q89, .ref q90, .null, .int 0, .int 1])), (q85, .inl (y91, 12, .inl (fun _ => 0))), (q86, .inl (y92, 12, .inl (fun _ => 0))), (q93, .inr (4, [.int 0, .int 1, .ref q94, .null, .int 0, .int 0]))]) (w1 := [(q95, .inr (0, [.ref q96, .ref q97, .null]))]) hP hD [9] [0, 1, 2, 3, 4, 5, 6, 7, 8] rfl rfl (by decide) (by decide) hk1 hFc hP1 hD1
  have hK := (hK.sub (tys' := [(y73, .byte), (y77, .object "SpineTables$Table"), (y79, .boolean), (y91, .int), (y92, .int)]) [0, 1, 2, 3, 4] rfl).app hK1
  generalize H1 = H at hP hS ⊢
  have hK : va_K (dC, dI) classes [(y73, .byte), (y77, .object "SpineTables$Table"), (y79, .boolean), (y91, .int), (y92, .int)] s := hK
  have hP : va_P (dC, dI) classes [(h0, .inr (10, [.ref q72, .int 0, .ref q74, .int 0, .int 0, .ref q76, .ref q78, .null, .ref q80, .ref q84, .ref q93, .null, .null, .null])), (q72, .inl (y73, 3000, .inl (fun _ => 0))), (q76, .inl (y77, 8, .inr (.inr (.inr (.inr (fun _ => none)))))), (q78, .inl (y79, 8, .inl (fun _ => 0))), (q80, .inr (5, [.int 0, .int 0, .null, .int 0, .null, .int 0, .int 4, .int 0, .ref q81, .ref q82, .ref q83, .int (-1), .int (-1), .int 0, .int 0, .int 0])), (q84, .inr (9, [.ref q85, .ref q86, .ref q87, .ref q88, .ref q89, .ref q90, .null, .int 0, .int 1])), (q85, .inl (y91, 12, .inl (fun _ => 0))), (q86, .inl (y92, 12, .inl (fun _ => 0))), (q93, .inr (4, [.int 0, .int 1, .ref q94, .null, .int 0, .int 0])), (q95, .inr (0, [.ref q96, .ref q97, .null]))] H := hP
  have hD : va_D A [(h0, .inr (10, [.ref q72, .int 0, .ref q74, .int 0, .int 0, .ref q76, .ref q78, .null, .ref q80, .ref q84, .ref q93, .null, .null, .null])), (q72, .inl (y73, 3000, .inl (fun _ => 0))), (q76, .inl (y77, 8, .inr (.inr (.inr (.inr (fun _ => none)))))), (q78, .inl (y79, 8, .inl (fun _ => 0))), (q80, .inr (5, [.int 0, .int 0, .null, .int 0, .null, .int 0, .int 4, .int 0, .ref q81, .ref q82, .ref q83, .int (-1), .int (-1), .int 0, .int 0, .int 0])), (q84, .inr (9, [.ref q85, .ref q86, .ref q87, .ref q88, .ref q89, .ref q90, .null, .int 0, .int 1])), (q85, .inl (y91, 12, .inl (fun _ => 0))), (q86, .inl (y92, 12, .inl (fun _ => 0))), (q93, .inr (4, [.int 0, .int 1, .ref q94, .null, .int 0, .int 0])), (q95, .inr (0, [.ref q96, .ref q97, .null]))] := hD
  refine W.widen (k := 22) (n := 6188) (Nat.le_of_ble_eq_true rfl) (Nat.le_of_ble_eq_true rfl) ?_
  refine va_putF (D := (dC, dI)) (ci := 10) (v := .ref q95) (ty := (.object "SpineTables$Assembler")) (C := RX11) (T := TX11) (N := 14) hx hb hts inX11 tyX11 tyX11_ok nmX11 hown hK hP hD hS 0 rfl rfl 11 (by decide) (hts _ wd_139) (fun _ h9 => h9) rfl hin rfl (by decide +kernel) rfl rfl (Nat.le_of_ble_eq_true rfl) dX11_init_100 (fun H locs hP hD hS => ?_)
  have hP : va_P (dC, dI) classes [(h0, .inr (10, [.ref q72, .int 0, .ref q74, .int 0, .int 0, .ref q76, .ref q78, .null, .ref q80, .ref q84, .ref q93, .ref q95, .null, .null])), (q72, .inl (y73, 3000, .inl (fun _ => 0))), (q76, .inl (y77, 8, .inr (.inr (.inr (.inr (fun _ => none)))))), (q78, .inl (y79, 8, .inl (fun _ => 0))), (q80, .inr (5, [.int 0, .int 0, .null, .int 0, .null, .int 0, .int 4, .int 0, .ref q81, .ref q82, .ref q83, .int (-1), .int (-1), .int 0, .int 0, .int 0])), (q84, .inr (9, [.ref q85, .ref q86, .ref q87, .ref q88, .ref q89, .ref q90, .null, .int 0, .int 1])), (q85, .inl (y91, 12, .inl (fun _ => 0))), (q86, .inl (y92, 12, .inl (fun _ => 0))), (q93, .inr (4, [.int 0, .int 1, .ref q94, .null, .int 0, .int 0])), (q95, .inr (0, [.ref q96, .ref q97, .null]))] H := hP
  have hD : va_D A [(h0, .inr (10, [.ref q72, .int 0, .ref q74, .int 0, .int 0, .ref q76, .ref q78, .null, .ref q80, .ref q84, .ref q93, .ref q95, .null, .null])), (q72, .inl (y73, 3000, .inl (fun _ => 0))), (q76, .inl (y77, 8, .inr (.inr (.inr (.inr (fun _ => none)))))), (q78, .inl (y79, 8, .inl (fun _ => 0))), (q80, .inr (5, [.int 0, .int 0, .null, .int 0, .null, .int 0, .int 4, .int 0, .ref q81, .ref q82, .ref q83, .int (-1), .int (-1), .int 0, .int 0, .int 0])), (q84, .inr (9, [.ref q85, .ref q86, .ref q87, .ref q88, .ref q89, .ref q90, .null, .int 0, .int 1])), (q85, .inl (y91, 12, .inl (fun _ => 0))), (q86, .inl (y92, 12, .inl (fun _ => 0))), (q93, .inr (4, [.int 0, .int 1, .ref q94, .null, .int 0, .int 0])), (q95, .inr (0, [.ref q96, .ref q97, .null]))] := hD
  have hP : va_P (dC, dI) classes [(h0, .inr (10, [.ref q72, .int 0, .ref q74, .int 0, .int 0, .ref q76, .ref q78, .null, .ref q80, .ref q84, .ref q93, .ref q95, .null, .null])), (q72, .inl (y73, 3000, .inl (fun _ => 0))), (q76, .inl (y77, 8, .inr (.inr (.inr (.inr (fun _ => none)))))), (q78, .inl (y79, 8, .inl (fun _ => 0))), (q80, .inr (5, [.int 0, .int 0, .null, .int 0, .null, .int 0, .int 4, .int 0, .ref q81, .ref q82, .ref q83, .int (-1), .int (-1), .int 0, .int 0, .int 0])), (q84, .inr (9, [.ref q85, .ref q86, .ref q87, .ref q88, .ref q89, .ref q90, .null, .int 0, .int 1])), (q85, .inl (y91, 12, .inl (fun _ => 0))), (q86, .inl (y92, 12, .inl (fun _ => 0))), (q93, .inr (4, [.int 0, .int 1, .ref q94, .null, .int 0, .int 0]))] H := hP.sub [0, 1, 2, 3, 4, 5, 6, 7, 8] rfl
  have hD : va_D A [(h0, .inr (10, [.ref q72, .int 0, .ref q74, .int 0, .int 0, .ref q76, .ref q78, .null, .ref q80, .ref q84, .ref q93, .ref q95, .null, .null])), (q72, .inl (y73, 3000, .inl (fun _ => 0))), (q76, .inl (y77, 8, .inr (.inr (.inr (.inr (fun _ => none)))))), (q78, .inl (y79, 8, .inl (fun _ => 0))), (q80, .inr (5, [.int 0, .int 0, .null, .int 0, .null, .int 0, .int 4, .int 0, .ref q81, .ref q82, .ref q83, .int (-1), .int (-1), .int 0, .int 0, .int 0])), (q84, .inr (9, [.ref q85, .ref q86, .ref q87, .ref q88, .ref q89, .ref q90, .null, .int 0, .int 1])), (q85, .inl (y91, 12, .inl (fun _ => 0))), (q86, .inl (y92, 12, .inl (fun _ => 0))), (q93, .inr (4, [.int 0, .int 1, .ref q94, .null, .int 0, .int 0]))] := hD.sub [0, 1, 2, 3, 4, 5, 6, 7, 8] (by decide) rfl
  have hK : va_K (dC, dI) classes [(y73, .byte), (y77, .object "SpineTables$Table"), (y79, .boolean), (y91, .int), (y92, .int)] s := hK.sub [0, 1, 2, 3, 4] rfl
  refine lv_aload_n hx hb dX11_init_103 rfl (lv_at hl 0 rfl) ?_
  refine va_new (ci := 2) (fs := [.null]) (C := RX2) (T := TX2) (N := 1) hx hb hts inX2 tyX2 tyX2_ok hown (hts _ wd_140) (hts _ wd_141) (hts _ wd_142) hK hP hD hS hA rfl dfX2 (Nat.le_of_ble_eq_true rfl) (Nat.le_of_ble_eq_true rfl) dX11_init_104 (fun q98 H hP hD hS => ?_)
  have hP : va_P (dC, dI) classes [(h0, .inr (10, [.ref q72, .int 0, .ref q74, .int 0, .int 0, .ref q76, .ref q78, .null, .ref q80, .ref q84, .ref q93, .ref q95, .null, .null])), (q72, .inl (y73, 3000, .inl (fun _ => 0))), (q76, .inl (y77, 8, .inr (.inr (.inr (.inr (fun _ => none)))))), (q78, .inl (y79, 8, .inl (fun _ => 0))), (q80, .inr (5, [.int 0, .int 0, .null, .int 0, .null, .int 0, .int 4, .int 0, .ref q81, .ref q82, .ref q83, .int (-1), .int (-1), .int 0, .int 0, .int 0])), (q84, .inr (9, [.ref q85, .ref q86, .ref q87, .ref q88, .ref q89, .ref q90, .null, .int 0, .int 1])), (q85, .inl (y91, 12, .inl (fun _ => 0))), (q86, .inl (y92, 12, .inl (fun _ => 0))), (q93, .inr (4, [.int 0, .int 1, .ref q94, .null, .int 0, .int 0])), (q98, .inr (2, [.null]))] H := hP
  have hD : va_D A [(h0, .inr (10, [.ref q72, .int 0, .ref q74, .int 0, .int 0, .ref q76, .ref q78, .null, .ref q80, .ref q84, .ref q93, .ref q95, .null, .null])), (q72, .inl (y73, 3000, .inl (fun _ => 0))), (q76, .inl (y77, 8, .inr (.inr (.inr (.inr (fun _ => none)))))), (q78, .inl (y79, 8, .inl (fun _ => 0))), (q80, .inr (5, [.int 0, .int 0, .null, .int 0, .null, .int 0, .int 4, .int 0, .ref q81, .ref q82, .ref q83, .int (-1), .int (-1), .int 0, .int 0, .int 0])), (q84, .inr (9, [.ref q85, .ref q86, .ref q87, .ref q88, .ref q89, .ref q90, .null, .int 0, .int 1])), (q85, .inl (y91, 12, .inl (fun _ => 0))), (q86, .inl (y92, 12, .inl (fun _ => 0))), (q93, .inr (4, [.int 0, .int 1, .ref q94, .null, .int 0, .int 0])), (q98, .inr (2, [.null]))] := hD
  refine W.widen (k := 23) (n := 6189) (Nat.le_of_ble_eq_true rfl) (Nat.le_of_ble_eq_true rfl) ?_
  refine lv_dup hx hb dX11_init_107 rfl ?_
  have hPc := hP.sub (ws' := [(q98, .inr (2, [.null]))]) [9] rfl
  have hDc := hD.sub (ws' := [(q98, .inr (2, [.null]))]) [9] (by decide) rfl
  have hKc := hK.sub (tys' := []) [] rfl
  have hFc := va_free (wc := [(q98, .inr (2, [.null]))]) hD hS hA [9] rfl
  refine va_callv (va_runIN (As := []) (rest := [.ref q98, .ref h0]) ⟨hx, hb, hml, hown, hts⟩ (c_Extractor l dC dI q98 H.size) ⟨va_cnB 0 hts (goC wd_143) rfl rfl rfl (hE.1 _ (List.mem_of_getElem? (i := 9) rfl)) (hts _ wd_142) (by decide +kernel) ⟨Nat.le_of_ble_eq_true rfl, Nat.le_of_ble_eq_true rfl⟩, rfl, hts _ wd_144⟩ ⟨blind5, fun U hU hW => ⟨rfl, pre5 hU hW hPc hKc hDc hE⟩⟩ rfl rfl hl.1 rfl (lv_room (Nat.le_of_ble_eq_true rfl)) dX11_init_108 ⟨Nat.le_of_ble_eq_true rfl, Nat.le_of_ble_eq_true rfl⟩) hS (fun q _ h => hFc q h) hFc (fun u t H1 locs ht hvm hw hB hz1 hk1 hS => ?_)
  obtain ⟨q99, hP1, hK1, hD1⟩ := hB
  rw [ht] at hP1
  have hK1 := va_K.moved hvm.symm hK1
  obtain ⟨hP, hD⟩ := va_join (wr := [(h0, .inr (10, [.ref q72, .int 0, .ref q74, .int 0, .int 0, .ref q76, .ref q78, .null, .ref q80, .ref q84, .ref q93, .ref q95, .null, .null])), (q72, .inl (y73, 3000, .inl (fun _ => 0))), (q76, .inl (y77, 8, .inr (.inr (.inr (.inr (fun _ => none)))))), (q78, .inl (y79, 8, .inl (fun _ => 0))), (q80, .inr (5, [.int 0, .int 0, .null, .int 0, .null, .int 0, .int 4, .int 0, .ref q81, .ref q82, .ref q83, .int (-1), .int (-1), .int 0, .int 0, .int 0])), (q84, .inr (9, [.ref q85, .ref q86, .ref q87, .ref q88, .ref q89, .ref q90, .null, .int 0, .int 1])), (q85, .inl (y91, 12, .inl (fun _ => 0))), (q86, .inl (y92, 12, .inl (fun _ => 0))), (q93, .inr (4, [.int 0, .int 1, .ref q94, .null, .int 0, .int 0]))]) (w1 := [(q98, .inr (2, [.ref q99]))]) hP hD [9] [0, 1, 2, 3, 4, 5, 6, 7, 8] rfl rfl (by decide) (by decide) hk1 hFc hP1 hD1
  have hK := (hK.sub (tys' := [(y73, .byte), (y77, .object "SpineTables$Table"), (y79, .boolean), (y91, .int), (y92, .int)]) [0, 1, 2, 3, 4] rfl).app hK1
  generalize H1 = H at hP hS ⊢
  have hK : va_K (dC, dI) classes [(y73, .byte), (y77, .object "SpineTables$Table"), (y79, .boolean), (y91, .int), (y92, .int)] s := hK
  have hP : va_P (dC, dI) classes [(h0, .inr (10, [.ref q72, .int 0, .ref q74, .int 0, .int 0, .ref q76, .ref q78, .null, .ref q80, .ref q84, .ref q93, .ref q95, .null, .null])), (q72, .inl (y73, 3000, .inl (fun _ => 0))), (q76, .inl (y77, 8, .inr (.inr (.inr (.inr (fun _ => none)))))), (q78, .inl (y79, 8, .inl (fun _ => 0))), (q80, .inr (5, [.int 0, .int 0, .null, .int 0, .null, .int 0, .int 4, .int 0, .ref q81, .ref q82, .ref q83, .int (-1), .int (-1), .int 0, .int 0, .int 0])), (q84, .inr (9, [.ref q85, .ref q86, .ref q87, .ref q88, .ref q89, .ref q90, .null, .int 0, .int 1])), (q85, .inl (y91, 12, .inl (fun _ => 0))), (q86, .inl (y92, 12, .inl (fun _ => 0))), (q93, .inr (4, [.int 0, .int 1, .ref q94, .null, .int 0, .int 0])), (q98, .inr (2, [.ref q99]))] H := hP
  have hD : va_D A [(h0, .inr (10, [.ref q72, .int 0, .ref q74, .int 0, .int 0, .ref q76, .ref q78, .null, .ref q80, .ref q84, .ref q93, .ref q95, .null, .null])), (q72, .inl (y73, 3000, .inl (fun _ => 0))), (q76, .inl (y77, 8, .inr (.inr (.inr (.inr (fun _ => none)))))), (q78, .inl (y79, 8, .inl (fun _ => 0))), (q80, .inr (5, [.int 0, .int 0, .null, .int 0, .null, .int 0, .int 4, .int 0, .ref q81, .ref q82, .ref q83, .int (-1), .int (-1), .int 0, .int 0, .int 0])), (q84, .inr (9, [.ref q85, .ref q86, .ref q87, .ref q88, .ref q89, .ref q90, .null, .int 0, .int 1])), (q85, .inl (y91, 12, .inl (fun _ => 0))), (q86, .inl (y92, 12, .inl (fun _ => 0))), (q93, .inr (4, [.int 0, .int 1, .ref q94, .null, .int 0, .int 0])), (q98, .inr (2, [.ref q99]))] := hD
  refine W.widen (k := 24) (n := 6201) (Nat.le_of_ble_eq_true rfl) (Nat.le_of_ble_eq_true rfl) ?_
  refine va_putF (D := (dC, dI)) (ci := 10) (v := .ref q98) (ty := (.object "SpineTables$Extractor")) (C := RX11) (T := TX11) (N := 14) hx hb hts inX11 tyX11 tyX11_ok nmX11 hown hK hP hD hS 0 rfl rfl 12 (by decide) (hts _ wd_145) (fun _ h9 => h9) rfl hin rfl (by decide +kernel) rfl rfl (Nat.le_of_ble_eq_true rfl) dX11_init_111 (fun H locs hP hD hS => ?_)
  have hP : va_P (dC, dI) classes [(h0, .inr (10, [.ref q72, .int 0, .ref q74, .int 0, .int 0, .ref q76, .ref q78, .null, .ref q80, .ref q84, .ref q93, .ref q95, .ref q98, .null])), (q72, .inl (y73, 3000, .inl (fun _ => 0))), (q76, .inl (y77, 8, .inr (.inr (.inr (.inr (fun _ => none)))))), (q78, .inl (y79, 8, .inl (fun _ => 0))), (q80, .inr (5, [.int 0, .int 0, .null, .int 0, .null, .int 0, .int 4, .int 0, .ref q81, .ref q82, .ref q83, .int (-1), .int (-1), .int 0, .int 0, .int 0])), (q84, .inr (9, [.ref q85, .ref q86, .ref q87, .ref q88, .ref q89, .ref q90, .null, .int 0, .int 1])), (q85, .inl (y91, 12, .inl (fun _ => 0))), (q86, .inl (y92, 12, .inl (fun _ => 0))), (q93, .inr (4, [.int 0, .int 1, .ref q94, .null, .int 0, .int 0])), (q98, .inr (2, [.ref q99]))] H := hP
  have hD : va_D A [(h0, .inr (10, [.ref q72, .int 0, .ref q74, .int 0, .int 0, .ref q76, .ref q78, .null, .ref q80, .ref q84, .ref q93, .ref q95, .ref q98, .null])), (q72, .inl (y73, 3000, .inl (fun _ => 0))), (q76, .inl (y77, 8, .inr (.inr (.inr (.inr (fun _ => none)))))), (q78, .inl (y79, 8, .inl (fun _ => 0))), (q80, .inr (5, [.int 0, .int 0, .null, .int 0, .null, .int 0, .int 4, .int 0, .ref q81, .ref q82, .ref q83, .int (-1), .int (-1), .int 0, .int 0, .int 0])), (q84, .inr (9, [.ref q85, .ref q86, .ref q87, .ref q88, .ref q89, .ref q90, .null, .int 0, .int 1])), (q85, .inl (y91, 12, .inl (fun _ => 0))), (q86, .inl (y92, 12, .inl (fun _ => 0))), (q93, .inr (4, [.int 0, .int 1, .ref q94, .null, .int 0, .int 0])), (q98, .inr (2, [.ref q99]))] := hD
  have hP : va_P (dC, dI) classes [(h0, .inr (10, [.ref q72, .int 0, .ref q74, .int 0, .int 0, .ref q76, .ref q78, .null, .ref q80, .ref q84, .ref q93, .ref q95, .ref q98, .null])), (q72, .inl (y73, 3000, .inl (fun _ => 0))), (q76, .inl (y77, 8, .inr (.inr (.inr (.inr (fun _ => none)))))), (q78, .inl (y79, 8, .inl (fun _ => 0))), (q80, .inr (5, [.int 0, .int 0, .null, .int 0, .null, .int 0, .int 4, .int 0, .ref q81, .ref q82, .ref q83, .int (-1), .int (-1), .int 0, .int 0, .int 0])), (q84, .inr (9, [.ref q85, .ref q86, .ref q87, .ref q88, .ref q89, .ref q90, .null, .int 0, .int 1])), (q85, .inl (y91, 12, .inl (fun _ => 0))), (q86, .inl (y92, 12, .inl (fun _ => 0))), (q93, .inr (4, [.int 0, .int 1, .ref q94, .null, .int 0, .int 0]))] H := hP.sub [0, 1, 2, 3, 4, 5, 6, 7, 8] rfl
  have hD : va_D A [(h0, .inr (10, [.ref q72, .int 0, .ref q74, .int 0, .int 0, .ref q76, .ref q78, .null, .ref q80, .ref q84, .ref q93, .ref q95, .ref q98, .null])), (q72, .inl (y73, 3000, .inl (fun _ => 0))), (q76, .inl (y77, 8, .inr (.inr (.inr (.inr (fun _ => none)))))), (q78, .inl (y79, 8, .inl (fun _ => 0))), (q80, .inr (5, [.int 0, .int 0, .null, .int 0, .null, .int 0, .int 4, .int 0, .ref q81, .ref q82, .ref q83, .int (-1), .int (-1), .int 0, .int 0, .int 0])), (q84, .inr (9, [.ref q85, .ref q86, .ref q87, .ref q88, .ref q89, .ref q90, .null, .int 0, .int 1])), (q85, .inl (y91, 12, .inl (fun _ => 0))), (q86, .inl (y92, 12, .inl (fun _ => 0))), (q93, .inr (4, [.int 0, .int 1, .ref q94, .null, .int 0, .int 0]))] := hD.sub [0, 1, 2, 3, 4, 5, 6, 7, 8] (by decide) rfl
  have hK : va_K (dC, dI) classes [(y73, .byte), (y77, .object "SpineTables$Table"), (y79, .boolean), (y91, .int), (y92, .int)] s := hK.sub [0, 1, 2, 3, 4] rfl
  refine lv_aload_n hx hb dX11_init_114 rfl (lv_at hl 0 rfl) ?_
  refine va_new (ci := 1) (fs := [.null, .int 0, .int 0, .int 0, .int 0]) (C := RX1) (T := TX1) (N := 5) hx hb hts inX1 tyX1 tyX1_ok hown (hts _ wd_146) (hts _ wd_147) (hts _ wd_148) hK hP hD hS hA rfl dfX1 (Nat.le_of_ble_eq_true rfl) (Nat.le_of_ble_eq_true rfl) dX11_init_115 (fun q100 H hP hD hS => ?_)
  have hP : va_P (dC, dI) classes [(h0, .inr (10, [.ref q72, .int 0, .ref q74, .int 0, .int 0, .ref q76, .ref q78, .null, .ref q80, .ref q84, .ref q93, .ref q95, .ref q98, .null])), (q72, .inl (y73, 3000, .inl (fun _ => 0))), (q76, .inl (y77, 8, .inr (.inr (.inr (.inr (fun _ => none)))))), (q78, .inl (y79, 8, .inl (fun _ => 0))), (q80, .inr (5, [.int 0, .int 0, .null, .int 0, .null, .int 0, .int 4, .int 0, .ref q81, .ref q82, .ref q83, .int (-1), .int (-1), .int 0, .int 0, .int 0])), (q84, .inr (9, [.ref q85, .ref q86, .ref q87, .ref q88, .ref q89, .ref q90, .null, .int 0, .int 1])), (q85, .inl (y91, 12, .inl (fun _ => 0))), (q86, .inl (y92, 12, .inl (fun _ => 0))), (q93, .inr (4, [.int 0, .int 1, .ref q94, .null, .int 0, .int 0])), (q100, .inr (1, [.null, .int 0, .int 0, .int 0, .int 0]))] H := hP
  have hD : va_D A [(h0, .inr (10, [.ref q72, .int 0, .ref q74, .int 0, .int 0, .ref q76, .ref q78, .null, .ref q80, .ref q84, .ref q93, .ref q95, .ref q98, .null])), (q72, .inl (y73, 3000, .inl (fun _ => 0))), (q76, .inl (y77, 8, .inr (.inr (.inr (.inr (fun _ => none)))))), (q78, .inl (y79, 8, .inl (fun _ => 0))), (q80, .inr (5, [.int 0, .int 0, .null, .int 0, .null, .int 0, .int 4, .int 0, .ref q81, .ref q82, .ref q83, .int (-1), .int (-1), .int 0, .int 0, .int 0])), (q84, .inr (9, [.ref q85, .ref q86, .ref q87, .ref q88, .ref q89, .ref q90, .null, .int 0, .int 1])), (q85, .inl (y91, 12, .inl (fun _ => 0))), (q86, .inl (y92, 12, .inl (fun _ => 0))), (q93, .inr (4, [.int 0, .int 1, .ref q94, .null, .int 0, .int 0])), (q100, .inr (1, [.null, .int 0, .int 0, .int 0, .int 0]))] := hD
  refine W.widen (k := 25) (n := 6206) (Nat.le_of_ble_eq_true rfl) (Nat.le_of_ble_eq_true rfl) ?_
  refine lv_dup hx hb dX11_init_118 rfl ?_
  have hPc := hP.sub (ws' := [(q100, .inr (1, [.null, .int 0, .int 0, .int 0, .int 0]))]) [9] rfl
  have hDc := hD.sub (ws' := [(q100, .inr (1, [.null, .int 0, .int 0, .int 0, .int 0]))]) [9] (by decide) rfl
  have hKc := hK.sub (tys' := []) [] rfl
  have hFc := va_free (wc := [(q100, .inr (1, [.null, .int 0, .int 0, .int 0, .int 0]))]) hD hS hA [9] rfl
  refine va_callv (va_runIN (As := []) (rest := [.ref q100, .ref h0]) ⟨hx, hb, hml, hown, hts⟩ (c_BarCheck l dC dI q100 H.size) ⟨va_cnB 0 hts (goC wd_149) rfl rfl rfl (hE.1 _ (List.mem_of_getElem? (i := 10) rfl)) (hts _ wd_148) (by decide +kernel) ⟨Nat.le_of_ble_eq_true rfl, Nat.le_of_ble_eq_true rfl⟩, rfl, hts _ wd_150⟩ ⟨blind5, fun U hU hW => ⟨rfl, pre5 hU hW hPc hKc hDc hE⟩⟩ rfl rfl hl.1 rfl (lv_room (Nat.le_of_ble_eq_true rfl)) dX11_init_119 ⟨Nat.le_of_ble_eq_true rfl, Nat.le_of_ble_eq_true rfl⟩) hS (fun q _ h => hFc q h) hFc (fun u t H1 locs ht hvm hw hB hz1 hk1 hS => ?_)
  obtain ⟨q101, hP1, hK1, hD1⟩ := hB
  rw [ht] at hP1
  have hK1 := va_K.moved hvm.symm hK1
  obtain ⟨hP, hD⟩ := va_join (wr := [(h0, .inr (10, [.ref q72, .int 0, .ref q74, .int 0, .int 0, .ref q76, .ref q78, .null, .ref q80, .ref q84, .ref q93, .ref q95, .ref q98, .null])), (q72, .inl (y73, 3000, .inl (fun _ => 0))), (q76, .inl (y77, 8, .inr (.inr (.inr (.inr (fun _ => none)))))), (q78, .inl (y79, 8, .inl (fun _ => 0))), (q80, .inr (5, [.int 0, .int 0, .null, .int 0, .null, .int 0, .int 4, .int 0, .ref q81, .ref q82, .ref q83, .int (-1), .int (-1), .int 0, .int 0, .int 0])), (q84, .inr (9, [.ref q85, .ref q86, .ref q87, .ref q88, .ref q89, .ref q90, .null, .int 0, .int 1])), (q85, .inl (y91, 12, .inl (fun _ => 0))), (q86, .inl (y92, 12, .inl (fun _ => 0))), (q93, .inr (4, [.int 0, .int 1, .ref q94, .null, .int 0, .int 0]))]) (w1 := [(q100, .inr (1, [.ref q101, .int 0, .int 1, .int 0, .int 1]))]) hP hD [9] [0, 1, 2, 3, 4, 5, 6, 7, 8] rfl rfl (by decide) (by decide) hk1 hFc hP1 hD1
  have hK := (hK.sub (tys' := [(y73, .byte), (y77, .object "SpineTables$Table"), (y79, .boolean), (y91, .int), (y92, .int)]) [0, 1, 2, 3, 4] rfl).app hK1
  generalize H1 = H at hP hS ⊢
  have hK : va_K (dC, dI) classes [(y73, .byte), (y77, .object "SpineTables$Table"), (y79, .boolean), (y91, .int), (y92, .int)] s := hK
  have hP : va_P (dC, dI) classes [(h0, .inr (10, [.ref q72, .int 0, .ref q74, .int 0, .int 0, .ref q76, .ref q78, .null, .ref q80, .ref q84, .ref q93, .ref q95, .ref q98, .null])), (q72, .inl (y73, 3000, .inl (fun _ => 0))), (q76, .inl (y77, 8, .inr (.inr (.inr (.inr (fun _ => none)))))), (q78, .inl (y79, 8, .inl (fun _ => 0))), (q80, .inr (5, [.int 0, .int 0, .null, .int 0, .null, .int 0, .int 4, .int 0, .ref q81, .ref q82, .ref q83, .int (-1), .int (-1), .int 0, .int 0, .int 0])), (q84, .inr (9, [.ref q85, .ref q86, .ref q87, .ref q88, .ref q89, .ref q90, .null, .int 0, .int 1])), (q85, .inl (y91, 12, .inl (fun _ => 0))), (q86, .inl (y92, 12, .inl (fun _ => 0))), (q93, .inr (4, [.int 0, .int 1, .ref q94, .null, .int 0, .int 0])), (q100, .inr (1, [.ref q101, .int 0, .int 1, .int 0, .int 1]))] H := hP
  have hD : va_D A [(h0, .inr (10, [.ref q72, .int 0, .ref q74, .int 0, .int 0, .ref q76, .ref q78, .null, .ref q80, .ref q84, .ref q93, .ref q95, .ref q98, .null])), (q72, .inl (y73, 3000, .inl (fun _ => 0))), (q76, .inl (y77, 8, .inr (.inr (.inr (.inr (fun _ => none)))))), (q78, .inl (y79, 8, .inl (fun _ => 0))), (q80, .inr (5, [.int 0, .int 0, .null, .int 0, .null, .int 0, .int 4, .int 0, .ref q81, .ref q82, .ref q83, .int (-1), .int (-1), .int 0, .int 0, .int 0])), (q84, .inr (9, [.ref q85, .ref q86, .ref q87, .ref q88, .ref q89, .ref q90, .null, .int 0, .int 1])), (q85, .inl (y91, 12, .inl (fun _ => 0))), (q86, .inl (y92, 12, .inl (fun _ => 0))), (q93, .inr (4, [.int 0, .int 1, .ref q94, .null, .int 0, .int 0])), (q100, .inr (1, [.ref q101, .int 0, .int 1, .int 0, .int 1]))] := hD
  refine W.widen (k := 26) (n := 6208) (Nat.le_of_ble_eq_true rfl) (Nat.le_of_ble_eq_true rfl) ?_
  refine va_putF (D := (dC, dI)) (ci := 10) (v := .ref q100) (ty := (.object "SpineTables$BarCheck")) (C := RX11) (T := TX11) (N := 14) hx hb hts inX11 tyX11 tyX11_ok nmX11 hown hK hP hD hS 0 rfl rfl 13 (by decide) (hts _ wd_151) (fun _ h9 => h9) rfl hin rfl (by decide +kernel) rfl rfl (Nat.le_of_ble_eq_true rfl) dX11_init_122 (fun H locs hP hD hS => ?_)
  have hP : va_P (dC, dI) classes [(h0, .inr (10, [.ref q72, .int 0, .ref q74, .int 0, .int 0, .ref q76, .ref q78, .null, .ref q80, .ref q84, .ref q93, .ref q95, .ref q98, .ref q100])), (q72, .inl (y73, 3000, .inl (fun _ => 0))), (q76, .inl (y77, 8, .inr (.inr (.inr (.inr (fun _ => none)))))), (q78, .inl (y79, 8, .inl (fun _ => 0))), (q80, .inr (5, [.int 0, .int 0, .null, .int 0, .null, .int 0, .int 4, .int 0, .ref q81, .ref q82, .ref q83, .int (-1), .int (-1), .int 0, .int 0, .int 0])), (q84, .inr (9, [.ref q85, .ref q86, .ref q87, .ref q88, .ref q89, .ref q90, .null, .int 0, .int 1])), (q85, .inl (y91, 12, .inl (fun _ => 0))), (q86, .inl (y92, 12, .inl (fun _ => 0))), (q93, .inr (4, [.int 0, .int 1, .ref q94, .null, .int 0, .int 0])), (q100, .inr (1, [.ref q101, .int 0, .int 1, .int 0, .int 1]))] H := hP
  have hD : va_D A [(h0, .inr (10, [.ref q72, .int 0, .ref q74, .int 0, .int 0, .ref q76, .ref q78, .null, .ref q80, .ref q84, .ref q93, .ref q95, .ref q98, .ref q100])), (q72, .inl (y73, 3000, .inl (fun _ => 0))), (q76, .inl (y77, 8, .inr (.inr (.inr (.inr (fun _ => none)))))), (q78, .inl (y79, 8, .inl (fun _ => 0))), (q80, .inr (5, [.int 0, .int 0, .null, .int 0, .null, .int 0, .int 4, .int 0, .ref q81, .ref q82, .ref q83, .int (-1), .int (-1), .int 0, .int 0, .int 0])), (q84, .inr (9, [.ref q85, .ref q86, .ref q87, .ref q88, .ref q89, .ref q90, .null, .int 0, .int 1])), (q85, .inl (y91, 12, .inl (fun _ => 0))), (q86, .inl (y92, 12, .inl (fun _ => 0))), (q93, .inr (4, [.int 0, .int 1, .ref q94, .null, .int 0, .int 0])), (q100, .inr (1, [.ref q101, .int 0, .int 1, .int 0, .int 1]))] := hD
  have hP : va_P (dC, dI) classes [(h0, .inr (10, [.ref q72, .int 0, .ref q74, .int 0, .int 0, .ref q76, .ref q78, .null, .ref q80, .ref q84, .ref q93, .ref q95, .ref q98, .ref q100])), (q72, .inl (y73, 3000, .inl (fun _ => 0))), (q76, .inl (y77, 8, .inr (.inr (.inr (.inr (fun _ => none)))))), (q78, .inl (y79, 8, .inl (fun _ => 0))), (q80, .inr (5, [.int 0, .int 0, .null, .int 0, .null, .int 0, .int 4, .int 0, .ref q81, .ref q82, .ref q83, .int (-1), .int (-1), .int 0, .int 0, .int 0])), (q84, .inr (9, [.ref q85, .ref q86, .ref q87, .ref q88, .ref q89, .ref q90, .null, .int 0, .int 1])), (q85, .inl (y91, 12, .inl (fun _ => 0))), (q86, .inl (y92, 12, .inl (fun _ => 0))), (q93, .inr (4, [.int 0, .int 1, .ref q94, .null, .int 0, .int 0]))] H := hP.sub [0, 1, 2, 3, 4, 5, 6, 7, 8] rfl
  have hD : va_D A [(h0, .inr (10, [.ref q72, .int 0, .ref q74, .int 0, .int 0, .ref q76, .ref q78, .null, .ref q80, .ref q84, .ref q93, .ref q95, .ref q98, .ref q100])), (q72, .inl (y73, 3000, .inl (fun _ => 0))), (q76, .inl (y77, 8, .inr (.inr (.inr (.inr (fun _ => none)))))), (q78, .inl (y79, 8, .inl (fun _ => 0))), (q80, .inr (5, [.int 0, .int 0, .null, .int 0, .null, .int 0, .int 4, .int 0, .ref q81, .ref q82, .ref q83, .int (-1), .int (-1), .int 0, .int 0, .int 0])), (q84, .inr (9, [.ref q85, .ref q86, .ref q87, .ref q88, .ref q89, .ref q90, .null, .int 0, .int 1])), (q85, .inl (y91, 12, .inl (fun _ => 0))), (q86, .inl (y92, 12, .inl (fun _ => 0))), (q93, .inr (4, [.int 0, .int 1, .ref q94, .null, .int 0, .int 0]))] := hD.sub [0, 1, 2, 3, 4, 5, 6, 7, 8] (by decide) rfl
  have hK : va_K (dC, dI) classes [(y73, .byte), (y77, .object "SpineTables$Table"), (y79, .boolean), (y91, .int), (y92, .int)] s := hK.sub [0, 1, 2, 3, 4] rfl
  have hP9 := hP.sub (ws' := [(h0, .inr (10, [.ref q72, .int 0, .ref q74, .int 0, .int 0, .ref q76, .ref q78, .null, .ref q80, .ref q84, .ref q93, .ref q95, .ref q98, .ref q100])), (q72, .inl (y73, 3000, .inl (fun _ => 0))), (q78, .inl (y79, 8, .inl (fun _ => 0))), (q76, .inl (y77, 8, .inr (.inr (.inr (.inr (fun _ => none)))))), (q80, .inr (5, [.int 0, .int 0, .null, .int 0, .null, .int 0, .int 4, .int 0, .ref q81, .ref q82, .ref q83, .int (-1), .int (-1), .int 0, .int 0, .int 0])), (q84, .inr (9, [.ref q85, .ref q86, .ref q87, .ref q88, .ref q89, .ref q90, .null, .int 0, .int 1])), (q85, .inl (y91, 12, .inl (fun _ => 0))), (q86, .inl (y92, 12, .inl (fun _ => 0))), (q93, .inr (4, [.int 0, .int 1, .ref q94, .null, .int 0, .int 0]))]) [0, 1, 3, 2, 4, 5, 6, 7, 8] rfl
  have hD9 := hD.sub (ws' := [(h0, .inr (10, [.ref q72, .int 0, .ref q74, .int 0, .int 0, .ref q76, .ref q78, .null, .ref q80, .ref q84, .ref q93, .ref q95, .ref q98, .ref q100])), (q72, .inl (y73, 3000, .inl (fun _ => 0))), (q78, .inl (y79, 8, .inl (fun _ => 0))), (q76, .inl (y77, 8, .inr (.inr (.inr (.inr (fun _ => none)))))), (q80, .inr (5, [.int 0, .int 0, .null, .int 0, .null, .int 0, .int 4, .int 0, .ref q81, .ref q82, .ref q83, .int (-1), .int (-1), .int 0, .int 0, .int 0])), (q84, .inr (9, [.ref q85, .ref q86, .ref q87, .ref q88, .ref q89, .ref q90, .null, .int 0, .int 1])), (q85, .inl (y91, 12, .inl (fun _ => 0))), (q86, .inl (y92, 12, .inl (fun _ => 0))), (q93, .inr (4, [.int 0, .int 1, .ref q94, .null, .int 0, .int 0]))]) [0, 1, 3, 2, 4, 5, 6, 7, 8] (by decide) rfl
  have hK9 := hK.sub (tys' := [(y73, .byte), (y79, .boolean), (y77, .object "SpineTables$Table"), (y91, .int), (y92, .int)]) [0, 2, 1, 3, 4] rfl
  refine W.widen (k := 26) (n := 6208) (Nat.le_of_ble_eq_true rfl) (Nat.le_of_ble_eq_true rfl) ?_
  exact W.vret hx hb hr (fun t ht hW => ⟨⟨(), rfl, trivial, q72, q74, q76, q78, q80, q84, q93, q95, q98, q100, y73, y79, y77, q81, q82, q83, q85, q86, q87, q88, q89, q90, y91, y92, q94, by rw [ht]; exact hP9, va_K.moved hW.alike hK9, hD9⟩, hS.F ht⟩) hS.2.2 dX11_init_125
end
section
set_option maxHeartbeats 4000000 in
set_option maxRecDepth 100000 in
/-- Model -/
theorem c_Model (l : Launch) (dC : Nat → ClassId) (dI : Nat → Nat → Nat) (h0 : Nat) (sz : Nat) : Met l yX12_init (.code yX12_init cX12_init 1 none :: wU) ({ frames := 1, cells := 33, slots := 143626, locals := 12 } : Room) (va_Pc [.ref h0] (fun U => P5 dC dI [(h0, .inr (11, [.int 0, .null, .int 0, .int 0, .int 0, .int 0, .null, .int 0, .null, .null, .null, .null, .null, .null, .null, .null, .null, .null, .null, .null, .null, .null, .null, .null, .null, .null, .null, .null, .null, .null, .int 0, .null, .null, .null, .null, .int 0, .null, .null, .null, .null, .long 0, .long 0, .int 0, .null, .int 0, .int 0]))] [] sz U)) (va_Qv (fun _ : Unit => True) (fun _ t => ∃ e_q102 : Nat, ∃ e_q104 : Nat, ∃ e_q106 : Nat, ∃ e_q108 : Nat, ∃ e_q110 : Nat, ∃ e_q112 : Nat, ∃ e_q114 : Nat, ∃ e_q116 : Nat, ∃ e_q118 : Nat, ∃ e_q120 : Nat, ∃ e_q122 : Nat, ∃ e_q124 : Nat, ∃ e_q126 : Nat, ∃ e_q128 : Nat, ∃ e_q130 : Nat, ∃ e_q132 : Nat, ∃ e_q134 : Nat, ∃ e_q136 : Nat, ∃ e_q138 : Nat, ∃ e_q140 : Nat, ∃ e_q142 : Nat, ∃ e_q144 : Nat, ∃ e_q146 : Nat, ∃ e_q148 : Nat, ∃ e_q150 : Nat, ∃ e_q152 : Nat, ∃ e_q154 : Nat, ∃ e_q156 : Nat, ∃ e_q158 : Nat, ∃ e_q160 : Nat, ∃ e_q162 : Nat, ∃ e_q164 : Nat, ∃ e_q166 : Nat, ∃ e_y103 : ClassId, ∃ e_y107 : ClassId, ∃ e_y109 : ClassId, ∃ e_y111 : ClassId, ∃ e_y113 : ClassId, ∃ e_y115 : ClassId, ∃ e_y119 : ClassId, ∃ e_y135 : ClassId, ∃ e_y137 : ClassId, ∃ e_y147 : ClassId, ∃ e_y149 : ClassId, P3 dC dI (va_A [(h0, .inr (11, [.int 0, .null, .int 0, .int 0, .int 0, .int 0, .null, .int 0, .null, .null, .null, .null, .null, .null, .null, .null, .null, .null, .null, .null, .null, .null, .null, .null, .null, .null, .null, .null, .null, .null, .int 0, .null, .null, .null, .null, .int 0, .null, .null, .null, .null, .long 0, .long 0, .int 0, .null, .int 0, .int 0]))] sz) [(h0, .inr (11, [.int 0, .ref e_q102, .int 0, .int 0, .int 0, .int 0, .ref e_q104, .int 0, .ref e_q106, .ref e_q108, .ref e_q110, .ref e_q112, .ref e_q114, .ref e_q116, .ref e_q118, .ref e_q120, .ref e_q122, .ref e_q124, .ref e_q126, .ref e_q128, .ref e_q130, .ref e_q132, .ref e_q134, .ref e_q136, .ref e_q138, .ref e_q140, .ref e_q142, .ref e_q144, .ref e_q146, .ref e_q148, .int 0, .ref e_q150, .ref e_q152, .ref e_q154, .ref e_q156, .int 0, .ref e_q158, .ref e_q160, .ref e_q162, .ref e_q164, .long 0, .long 0, .int 0, .ref e_q166, .int 0, .int 0])), (e_q102, .inl (e_y103, 3000, .inl (fun _ => 0))), (e_q106, .inl (e_y107, 8, .inl (fun _ => 0))), (e_q108, .inl (e_y109, 24016, .inl (fun _ => 0))), (e_q110, .inl (e_y111, 8, .inl (fun _ => 0))), (e_q112, .inl (e_y113, 8, .inl (fun _ => 0))), (e_q114, .inl (e_y115, 8, .inl (fun _ => 0))), (e_q118, .inl (e_y119, 8, .inl (fun _ => 0))), (e_q134, .inl (e_y135, 1608, .inr (.inl (fun _ => 0)))), (e_q136, .inl (e_y137, 1608, .inr (.inl (fun _ => 0)))), (e_q146, .inl (e_y147, 8, .inl (fun _ => 0))), (e_q148, .inl (e_y149, 8, .inl (fun _ => 0)))] [(e_y103, .int), (e_y107, .boolean), (e_y109, .int), (e_y111, .int), (e_y113, .int), (e_y115, .int), (e_y119, .int), (e_y135, .long), (e_y137, .long), (e_y147, .int), (e_y149, .int)] t) (va_A [(h0, .inr (11, [.int 0, .null, .int 0, .int 0, .int 0, .int 0, .null, .int 0, .null, .null, .null, .null, .null, .null, .null, .null, .null, .null, .null, .null, .null, .null, .null, .null, .null, .null, .null, .null, .null, .null, .int 0, .null, .null, .null, .null, .int 0, .null, .null, .null, .null, .long 0, .long 0, .int 0, .null, .int 0, .int 0]))] sz)) 33 143626 (va_A [(h0, .inr (11, [.int 0, .null, .int 0, .int 0, .int 0, .int 0, .null, .int 0, .null, .null, .null, .null, .null, .null, .null, .null, .null, .null, .null, .null, .null, .null, .null, .null, .null, .null, .null, .null, .null, .null, .int 0, .null, .null, .null, .null, .int 0, .null, .null, .null, .null, .long 0, .long 0, .int 0, .null, .int 0, .int 0]))] sz) := by
  refine Met.ofW (cc := cX12_init) (maxL := 1) (ret := none) (by decide) rfl ?_
  intro p e s m args below meth c s₁ B hml hv
  obtain ⟨rfl, hsz, hP, hK, hD0, hE⟩ := hv
  have hx := B.exec
  have hb := B.bytes
  have hr := B.returns
  have hts0 := atoms_spec (ws := (.code yX12_init cX12_init 1 none :: wU)) B.pre
  have hts : ∀ w ∈ wU, w.before _ s = true := fun w h => hts0 w (List.mem_cons_of_mem _ h)
  have hown : s.vm.findClass "SpineTablesModel" = some m.cls := findClass_of_methodNamed B.named
  have hlocks := B.notSynchronized
  have hin : meth.name = "<init>" := (name_of_methodNamed B.named B.method).1
  subst hsz
  have hD := hD0.self (sz := s.heap.size)
  generalize hAe : va_A [(h0, .inr (11, [.int 0, .null, .int 0, .int 0, .int 0, .int 0, .null, .int 0, .null, .null, .null, .null, .null, .null, .null, .null, .null, .null, .null, .null, .null, .null, .null, .null, .null, .null, .null, .null, .null, .null, .int 0, .null, .null, .null, .null, .int 0, .null, .null, .null, .null, .long 0, .long 0, .int 0, .null, .int 0, .int 0]))] s.heap.size = A at hD ⊢
  have hA : ∀ q : Nat, s.heap.size ≤ q → A q := fun q h => by rw [← hAe]; exact Or.inr h
  have hP : va_P (dC, dI) classes [(h0, .inr (11, [.int 0, .null, .int 0, .int 0, .int 0, .int 0, .null, .int 0, .null, .null, .null, .null, .null, .null, .null, .null, .null, .null, .null, .null, .null, .null, .null, .null, .null, .null, .null, .null, .null, .null, .int 0, .null, .null, .null, .null, .int 0, .null, .null, .null, .null, .long 0, .long 0, .int 0, .null, .int 0, .int 0]))] s.heap := hP
  have hl := lv_entry ([.ref h0]) (n := 1) (Nat.le_of_ble_eq_true rfl)
  rw [lg_entry_eq]
  generalize (lg_sl ([.ref h0]) ++ List.replicate (1 - (lg_sl ([.ref h0])).length) Slot.unset).toArray = ls at hl ⊢
  have hl : lv_has ls 1 [(0, .ref h0)] := hl
  obtain ⟨H, hH⟩ : ∃ H, H = s.heap := ⟨_, rfl⟩
  rw [← hH] at hP
  have hS : va_S A s.heap H [] := by rw [hH]; exact va_S.rf
  refine w_heap hH ?_
  refine lv_aload_n hx hb dX12_init_0 rfl (lv_at hl 0 rfl) ?_
  refine W.objInit hx hb hown (hts _ wd_152) (hts _ wd_1) (hts _ wd_oi) rfl (by rw [hml]; exact hl.1) rfl dX12_init_1 (Nat.le_of_ble_eq_true rfl) (Nat.le_of_ble_eq_true rfl) ?_
  refine W.eq (g2 := F0 m 4 ls []) rfl ?_
  refine lv_aload_n hx hb dX12_init_4 rfl (lv_at hl 0 rfl) ?_
  refine lv_sipush (v := 3000) hx hb dX12_init_5 (by decide) ?_
  refine va_newa (atype := .int) (ty := .int) (N' := 3000) (a0 := (3000, .inl (fun _ => 0))) hx hb (hts _ wd_13) rfl hK hP hD hS hA (fun _ => rfl) (by decide) (by decide) (by decide) (Nat.le_of_ble_eq_true rfl) (Nat.le_of_ble_eq_true rfl) dX12_init_8 (fun q102 y103 H hK hP hD hS => ?_)
  have hK : va_K (dC, dI) classes [(y103, .int)] s := hK
  have hP : va_P (dC, dI) classes [(h0, .inr (11, [.int 0, .null, .int 0, .int 0, .int 0, .int 0, .null, .int 0, .null, .null, .null, .null, .null, .null, .null, .null, .null, .null, .null, .null, .null, .null, .null, .null, .null, .null, .null, .null, .null, .null, .int 0, .null, .null, .null, .null, .int 0, .null, .null, .null, .null, .long 0, .long 0, .int 0, .null, .int 0, .int 0])), (q102, .inl (y103, 3000, .inl (fun _ => 0)))] H := hP
  have hD : va_D A [(h0, .inr (11, [.int 0, .null, .int 0, .int 0, .int 0, .int 0, .null, .int 0, .null, .null, .null, .null, .null, .null, .null, .null, .null, .null, .null, .null, .null, .null, .null, .null, .null, .null, .null, .null, .null, .null, .int 0, .null, .null, .null, .null, .int 0, .null, .null, .null, .null, .long 0, .long 0, .int 0, .null, .int 0, .int 0])), (q102, .inl (y103, 3000, .inl (fun _ => 0)))] := hD
  refine W.widen (k := 1) (n := 3000) (Nat.le_of_ble_eq_true rfl) (Nat.le_of_ble_eq_true rfl) ?_
  refine va_putF (D := (dC, dI)) (ci := 11) (v := .ref q102) (ty := (.array .int)) (C := RX12) (T := TX12) (N := 46) hx hb hts inX12 tyX12 tyX12_ok nmX12 hown hK hP hD hS 0 rfl rfl 1 (by decide) (hts _ wd_153) (fun _ h9 => h9) rfl hin rfl (by decide +kernel) rfl rfl (Nat.le_of_ble_eq_true rfl) dX12_init_10 (fun H locs hP hD hS => ?_)
  have hP : va_P (dC, dI) classes [(h0, .inr (11, [.int 0, .ref q102, .int 0, .int 0, .int 0, .int 0, .null, .int 0, .null, .null, .null, .null, .null, .null, .null, .null, .null, .null, .null, .null, .null, .null, .null, .null, .null, .null, .null, .null, .null, .null, .int 0, .null, .null, .null, .null, .int 0, .null, .null, .null, .null, .long 0, .long 0, .int 0, .null, .int 0, .int 0])), (q102, .inl (y103, 3000, .inl (fun _ => 0)))] H := hP
  have hD : va_D A [(h0, .inr (11, [.int 0, .ref q102, .int 0, .int 0, .int 0, .int 0, .null, .int 0, .null, .null, .null, .null, .null, .null, .null, .null, .null, .null, .null, .null, .null, .null, .null, .null, .null, .null, .null, .null, .null, .null, .int 0, .null, .null, .null, .null, .int 0, .null, .null, .null, .null, .long 0, .long 0, .int 0, .null, .int 0, .int 0])), (q102, .inl (y103, 3000, .inl (fun _ => 0)))] := hD
  refine lv_aload_n hx hb dX12_init_13 rfl (lv_at hl 0 rfl) ?_
  refine lv_sipush (v := 3002) hx hb dX12_init_14 (by decide) ?_
  refine va_newa (atype := .int) (ty := .int) (N' := 3002) (a0 := (3002, .inl (fun _ => 0))) hx hb (hts _ wd_13) rfl hK hP hD hS hA (fun _ => rfl) (by decide) (by decide) (by decide) (Nat.le_of_ble_eq_true rfl) (Nat.le_of_ble_eq_true rfl) dX12_init_17 (fun q104 y105 H hK hP hD hS => ?_)
  have hK : va_K (dC, dI) classes [(y103, .int), (y105, .int)] s := hK
  have hP : va_P (dC, dI) classes [(h0, .inr (11, [.int 0, .ref q102, .int 0, .int 0, .int 0, .int 0, .null, .int 0, .null, .null, .null, .null, .null, .null, .null, .null, .null, .null, .null, .null, .null, .null, .null, .null, .null, .null, .null, .null, .null, .null, .int 0, .null, .null, .null, .null, .int 0, .null, .null, .null, .null, .long 0, .long 0, .int 0, .null, .int 0, .int 0])), (q102, .inl (y103, 3000, .inl (fun _ => 0))), (q104, .inl (y105, 3002, .inl (fun _ => 0)))] H := hP
  have hD : va_D A [(h0, .inr (11, [.int 0, .ref q102, .int 0, .int 0, .int 0, .int 0, .null, .int 0, .null, .null, .null, .null, .null, .null, .null, .null, .null, .null, .null, .null, .null, .null, .null, .null, .null, .null, .null, .null, .null, .null, .int 0, .null, .null, .null, .null, .int 0, .null, .null, .null, .null, .long 0, .long 0, .int 0, .null, .int 0, .int 0])), (q102, .inl (y103, 3000, .inl (fun _ => 0))), (q104, .inl (y105, 3002, .inl (fun _ => 0)))] := hD
  refine W.widen (k := 2) (n := 6002) (Nat.le_of_ble_eq_true rfl) (Nat.le_of_ble_eq_true rfl) ?_
  refine va_putF (D := (dC, dI)) (ci := 11) (v := .ref q104) (ty := (.array .int)) (C := RX12) (T := TX12) (N := 46) hx hb hts inX12 tyX12 tyX12_ok nmX12 hown hK hP hD hS 0 rfl rfl 6 (by decide) (hts _ wd_154) (fun _ h9 => h9) rfl hin rfl (by decide +kernel) rfl rfl (Nat.le_of_ble_eq_true rfl) dX12_init_19 (fun H locs hP hD hS => ?_)
  have hP : va_P (dC, dI) classes [(h0, .inr (11, [.int 0, .ref q102, .int 0, .int 0, .int 0, .int 0, .ref q104, .int 0, .null, .null, .null, .null, .null, .null, .null, .null, .null, .null, .null, .null, .null, .null, .null, .null, .null, .null, .null, .null, .null, .null, .int 0, .null, .null, .null, .null, .int 0, .null, .null, .null, .null, .long 0, .long 0, .int 0, .null, .int 0, .int 0])), (q102, .inl (y103, 3000, .inl (fun _ => 0))), (q104, .inl (y105, 3002, .inl (fun _ => 0)))] H := hP
  have hD : va_D A [(h0, .inr (11, [.int 0, .ref q102, .int 0, .int 0, .int 0, .int 0, .ref q104, .int 0, .null, .null, .null, .null, .null, .null, .null, .null, .null, .null, .null, .null, .null, .null, .null, .null, .null, .null, .null, .null, .null, .null, .int 0, .null, .null, .null, .null, .int 0, .null, .null, .null, .null, .long 0, .long 0, .int 0, .null, .int 0, .int 0])), (q102, .inl (y103, 3000, .inl (fun _ => 0))), (q104, .inl (y105, 3002, .inl (fun _ => 0)))] := hD
  have hP : va_P (dC, dI) classes [(h0, .inr (11, [.int 0, .ref q102, .int 0, .int 0, .int 0, .int 0, .ref q104, .int 0, .null, .null, .null, .null, .null, .null, .null, .null, .null, .null, .null, .null, .null, .null, .null, .null, .null, .null, .null, .null, .null, .null, .int 0, .null, .null, .null, .null, .int 0, .null, .null, .null, .null, .long 0, .long 0, .int 0, .null, .int 0, .int 0])), (q102, .inl (y103, 3000, .inl (fun _ => 0)))] H := hP.sub [0, 1] rfl
  have hD : va_D A [(h0, .inr (11, [.int 0, .ref q102, .int 0, .int 0, .int 0, .int 0, .ref q104, .int 0, .null, .null, .null, .null, .null, .null, .null, .null, .null, .null, .null, .null, .null, .null, .null, .null, .null, .null, .null, .null, .null, .null, .int 0, .null, .null, .null, .null, .int 0, .null, .null, .null, .null, .long 0, .long 0, .int 0, .null, .int 0, .int 0])), (q102, .inl (y103, 3000, .inl (fun _ => 0)))] := hD.sub [0, 1] (by decide) rfl
  have hK : va_K (dC, dI) classes [(y103, .int)] s := hK.sub [0] rfl
  refine lv_aload_n hx hb dX12_init_22 rfl (lv_at hl 0 rfl) ?_
  refine lv_bipush (v := 8) hx hb dX12_init_23 (by decide) ?_
  refine va_newa (atype := .boolean) (ty := .boolean) (N' := 8) (a0 := (8, .inl (fun _ => 0))) hx hb (hts _ wd_113) rfl hK hP hD hS hA (fun _ => rfl) (by decide) (by decide) (by decide) (Nat.le_of_ble_eq_true rfl) (Nat.le_of_ble_eq_true rfl) dX12_init_25 (fun q106 y107 H hK hP hD hS => ?_)
  have hK : va_K (dC, dI) classes [(y103, .int), (y107, .boolean)] s := hK
  have hP : va_P (dC, dI) classes [(h0, .inr (11, [.int 0, .ref q102, .int 0, .int 0, .int 0, .int 0, .ref q104, .int 0, .null, .null, .null, .null, .null, .null, .null, .null, .null, .null, .null, .null, .null, .null, .null, .null, .null, .null, .null, .null, .null, .null, .int 0, .null, .null, .null, .null, .int 0, .null, .null, .null, .null, .long 0, .long 0, .int 0, .null, .int 0, .int 0])), (q102, .inl (y103, 3000, .inl (fun _ => 0))), (q106, .inl (y107, 8, .inl (fun _ => 0)))] H := hP
  have hD : va_D A [(h0, .inr (11, [.int 0, .ref q102, .int 0, .int 0, .int 0, .int 0, .ref q104, .int 0, .null, .null, .null, .null, .null, .null, .null, .null, .null, .null, .null, .null, .null, .null, .null, .null, .null, .null, .null, .null, .null, .null, .int 0, .null, .null, .null, .null, .int 0, .null, .null, .null, .null, .long 0, .long 0, .int 0, .null, .int 0, .int 0])), (q102, .inl (y103, 3000, .inl (fun _ => 0))), (q106, .inl (y107, 8, .inl (fun _ => 0)))] := hD
  refine W.widen (k := 3) (n := 6010) (Nat.le_of_ble_eq_true rfl) (Nat.le_of_ble_eq_true rfl) ?_
  refine va_putF (D := (dC, dI)) (ci := 11) (v := .ref q106) (ty := (.array .boolean)) (C := RX12) (T := TX12) (N := 46) hx hb hts inX12 tyX12 tyX12_ok nmX12 hown hK hP hD hS 0 rfl rfl 8 (by decide) (hts _ wd_155) (fun _ h9 => h9) rfl hin rfl (by decide +kernel) rfl rfl (Nat.le_of_ble_eq_true rfl) dX12_init_27 (fun H locs hP hD hS => ?_)
  have hP : va_P (dC, dI) classes [(h0, .inr (11, [.int 0, .ref q102, .int 0, .int 0, .int 0, .int 0, .ref q104, .int 0, .ref q106, .null, .null, .null, .null, .null, .null, .null, .null, .null, .null, .null, .null, .null, .null, .null, .null, .null, .null, .null, .null, .null, .int 0, .null, .null, .null, .null, .int 0, .null, .null, .null, .null, .long 0, .long 0, .int 0, .null, .int 0, .int 0])), (q102, .inl (y103, 3000, .inl (fun _ => 0))), (q106, .inl (y107, 8, .inl (fun _ => 0)))] H := hP
  have hD : va_D A [(h0, .inr (11, [.int 0, .ref q102, .int 0, .int 0, .int 0, .int 0, .ref q104, .int 0, .ref q106, .null, .null, .null, .null, .null, .null, .null, .null, .null, .null, .null, .null, .null, .null, .null, .null, .null, .null, .null, .null, .null, .int 0, .null, .null, .null, .null, .int 0, .null, .null, .null, .null, .long 0, .long 0, .int 0, .null, .int 0, .int 0])), (q102, .inl (y103, 3000, .inl (fun _ => 0))), (q106, .inl (y107, 8, .inl (fun _ => 0)))] := hD
  refine lv_aload_n hx hb dX12_init_30 rfl (lv_at hl 0 rfl) ?_
  refine lv_sipush (v := 24016) hx hb dX12_init_31 (by decide) ?_
  refine va_newa (atype := .int) (ty := .int) (N' := 24016) (a0 := (24016, .inl (fun _ => 0))) hx hb (hts _ wd_13) rfl hK hP hD hS hA (fun _ => rfl) (by decide) (by decide) (by decide) (Nat.le_of_ble_eq_true rfl) (Nat.le_of_ble_eq_true rfl) dX12_init_34 (fun q108 y109 H hK hP hD hS => ?_)
  have hK : va_K (dC, dI) classes [(y103, .int), (y107, .boolean), (y109, .int)] s := hK
  have hP : va_P (dC, dI) classes [(h0, .inr (11, [.int 0, .ref q102, .int 0, .int 0, .int 0, .int 0, .ref q104, .int 0, .ref q106, .null, .null, .null, .null, .null, .null, .null, .null, .null, .null, .null, .null, .null, .null, .null, .null, .null, .null, .null, .null, .null, .int 0, .null, .null, .null, .null, .int 0, .null, .null, .null, .null, .long 0, .long 0, .int 0, .null, .int 0, .int 0])), (q102, .inl (y103, 3000, .inl (fun _ => 0))), (q106, .inl (y107, 8, .inl (fun _ => 0))), (q108, .inl (y109, 24016, .inl (fun _ => 0)))] H := hP
  have hD : va_D A [(h0, .inr (11, [.int 0, .ref q102, .int 0, .int 0, .int 0, .int 0, .ref q104, .int 0, .ref q106, .null, .null, .null, .null, .null, .null, .null, .null, .null, .null, .null, .null, .null, .null, .null, .null, .null, .null, .null, .null, .null, .int 0, .null, .null, .null, .null, .int 0, .null, .null, .null, .null, .long 0, .long 0, .int 0, .null, .int 0, .int 0])), (q102, .inl (y103, 3000, .inl (fun _ => 0))), (q106, .inl (y107, 8, .inl (fun _ => 0))), (q108, .inl (y109, 24016, .inl (fun _ => 0)))] := hD
  refine W.widen (k := 4) (n := 30026) (Nat.le_of_ble_eq_true rfl) (Nat.le_of_ble_eq_true rfl) ?_
  refine va_putF (D := (dC, dI)) (ci := 11) (v := .ref q108) (ty := (.array .int)) (C := RX12) (T := TX12) (N := 46) hx hb hts inX12 tyX12 tyX12_ok nmX12 hown hK hP hD hS 0 rfl rfl 9 (by decide) (hts _ wd_156) (fun _ h9 => h9) rfl hin rfl (by decide +kernel) rfl rfl (Nat.le_of_ble_eq_true rfl) dX12_init_36 (fun H locs hP hD hS => ?_)
  have hP : va_P (dC, dI) classes [(h0, .inr (11, [.int 0, .ref q102, .int 0, .int 0, .int 0, .int 0, .ref q104, .int 0, .ref q106, .ref q108, .null, .null, .null, .null, .null, .null, .null, .null, .null, .null, .null, .null, .null, .null, .null, .null, .null, .null, .null, .null, .int 0, .null, .null, .null, .null, .int 0, .null, .null, .null, .null, .long 0, .long 0, .int 0, .null, .int 0, .int 0])), (q102, .inl (y103, 3000, .inl (fun _ => 0))), (q106, .inl (y107, 8, .inl (fun _ => 0))), (q108, .inl (y109, 24016, .inl (fun _ => 0)))] H := hP
  have hD : va_D A [(h0, .inr (11, [.int 0, .ref q102, .int 0, .int 0, .int 0, .int 0, .ref q104, .int 0, .ref q106, .ref q108, .null, .null, .null, .null, .null, .null, .null, .null, .null, .null, .null, .null, .null, .null, .null, .null, .null, .null, .null, .null, .int 0, .null, .null, .null, .null, .int 0, .null, .null, .null, .null, .long 0, .long 0, .int 0, .null, .int 0, .int 0])), (q102, .inl (y103, 3000, .inl (fun _ => 0))), (q106, .inl (y107, 8, .inl (fun _ => 0))), (q108, .inl (y109, 24016, .inl (fun _ => 0)))] := hD
  refine lv_aload_n hx hb dX12_init_39 rfl (lv_at hl 0 rfl) ?_
  refine lv_bipush (v := 8) hx hb dX12_init_40 (by decide) ?_
  refine va_newa (atype := .int) (ty := .int) (N' := 8) (a0 := (8, .inl (fun _ => 0))) hx hb (hts _ wd_13) rfl hK hP hD hS hA (fun _ => rfl) (by decide) (by decide) (by decide) (Nat.le_of_ble_eq_true rfl) (Nat.le_of_ble_eq_true rfl) dX12_init_42 (fun q110 y111 H hK hP hD hS => ?_)
  have hK : va_K (dC, dI) classes [(y103, .int), (y107, .boolean), (y109, .int), (y111, .int)] s := hK
  have hP : va_P (dC, dI) classes [(h0, .inr (11, [.int 0, .ref q102, .int 0, .int 0, .int 0, .int 0, .ref q104, .int 0, .ref q106, .ref q108, .null, .null, .null, .null, .null, .null, .null, .null, .null, .null, .null, .null, .null, .null, .null, .null, .null, .null, .null, .null, .int 0, .null, .null, .null, .null, .int 0, .null, .null, .null, .null, .long 0, .long 0, .int 0, .null, .int 0, .int 0])), (q102, .inl (y103, 3000, .inl (fun _ => 0))), (q106, .inl (y107, 8, .inl (fun _ => 0))), (q108, .inl (y109, 24016, .inl (fun _ => 0))), (q110, .inl (y111, 8, .inl (fun _ => 0)))] H := hP
  have hD : va_D A [(h0, .inr (11, [.int 0, .ref q102, .int 0, .int 0, .int 0, .int 0, .ref q104, .int 0, .ref q106, .ref q108, .null, .null, .null, .null, .null, .null, .null, .null, .null, .null, .null, .null, .null, .null, .null, .null, .null, .null, .null, .null, .int 0, .null, .null, .null, .null, .int 0, .null, .null, .null, .null, .long 0, .long 0, .int 0, .null, .int 0, .int 0])), (q102, .inl (y103, 3000, .inl (fun _ => 0))), (q106, .inl (y107, 8, .inl (fun _ => 0))), (q108, .inl (y109, 24016, .inl (fun _ => 0))), (q110, .inl (y111, 8, .inl (fun _ => 0)))] := hD
  refine W.widen (k := 5) (n := 30034) (Nat.le_of_ble_eq_true rfl) (Nat.le_of_ble_eq_true rfl) ?_
  refine va_putF (D := (dC, dI)) (ci := 11) (v := .ref q110) (ty := (.array .int)) (C := RX12) (T := TX12) (N := 46) hx hb hts inX12 tyX12 tyX12_ok nmX12 hown hK hP hD hS 0 rfl rfl 10 (by decide) (hts _ wd_157) (fun _ h9 => h9) rfl hin rfl (by decide +kernel) rfl rfl (Nat.le_of_ble_eq_true rfl) dX12_init_44 (fun H locs hP hD hS => ?_)
  have hP : va_P (dC, dI) classes [(h0, .inr (11, [.int 0, .ref q102, .int 0, .int 0, .int 0, .int 0, .ref q104, .int 0, .ref q106, .ref q108, .ref q110, .null, .null, .null, .null, .null, .null, .null, .null, .null, .null, .null, .null, .null, .null, .null, .null, .null, .null, .null, .int 0, .null, .null, .null, .null, .int 0, .null, .null, .null, .null, .long 0, .long 0, .int 0, .null, .int 0, .int 0])), (q102, .inl (y103, 3000, .inl (fun _ => 0))), (q106, .inl (y107, 8, .inl (fun _ => 0))), (q108, .inl (y109, 24016, .inl (fun _ => 0))), (q110, .inl (y111, 8, .inl (fun _ => 0)))] H := hP
  have hD : va_D A [(h0, .inr (11, [.int 0, .ref q102, .int 0, .int 0, .int 0, .int 0, .ref q104, .int 0, .ref q106, .ref q108, .ref q110, .null, .null, .null, .null, .null, .null, .null, .null, .null, .null, .null, .null, .null, .null, .null, .null, .null, .null, .null, .int 0, .null, .null, .null, .null, .int 0, .null, .null, .null, .null, .long 0, .long 0, .int 0, .null, .int 0, .int 0])), (q102, .inl (y103, 3000, .inl (fun _ => 0))), (q106, .inl (y107, 8, .inl (fun _ => 0))), (q108, .inl (y109, 24016, .inl (fun _ => 0))), (q110, .inl (y111, 8, .inl (fun _ => 0)))] := hD
  refine lv_aload_n hx hb dX12_init_47 rfl (lv_at hl 0 rfl) ?_
  refine lv_bipush (v := 8) hx hb dX12_init_48 (by decide) ?_
  refine va_newa (atype := .int) (ty := .int) (N' := 8) (a0 := (8, .inl (fun _ => 0))) hx hb (hts _ wd_13) rfl hK hP hD hS hA (fun _ => rfl) (by decide) (by decide) (by decide) (Nat.le_of_ble_eq_true rfl) (Nat.le_of_ble_eq_true rfl) dX12_init_50 (fun q112 y113 H hK hP hD hS => ?_)
  have hK : va_K (dC, dI) classes [(y103, .int), (y107, .boolean), (y109, .int), (y111, .int), (y113, .int)] s := hK
  have hP : va_P (dC, dI) classes [(h0, .inr (11, [.int 0, .ref q102, .int 0, .int 0, .int 0, .int 0, .ref q104, .int 0, .ref q106, .ref q108, .ref q110, .null, .null, .null, .null, .null, .null, .null, .null, .null, .null, .null, .null, .null, .null, .null, .null, .null, .null, .null, .int 0, .null, .null, .null, .null, .int 0, .null, .null, .null, .null, .long 0, .long 0, .int 0, .null, .int 0, .int 0])), (q102, .inl (y103, 3000, .inl (fun _ => 0))), (q106, .inl (y107, 8, .inl (fun _ => 0))), (q108, .inl (y109, 24016, .inl (fun _ => 0))), (q110, .inl (y111, 8, .inl (fun _ => 0))), (q112, .inl (y113, 8, .inl (fun _ => 0)))] H := hP
  have hD : va_D A [(h0, .inr (11, [.int 0, .ref q102, .int 0, .int 0, .int 0, .int 0, .ref q104, .int 0, .ref q106, .ref q108, .ref q110, .null, .null, .null, .null, .null, .null, .null, .null, .null, .null, .null, .null, .null, .null, .null, .null, .null, .null, .null, .int 0, .null, .null, .null, .null, .int 0, .null, .null, .null, .null, .long 0, .long 0, .int 0, .null, .int 0, .int 0])), (q102, .inl (y103, 3000, .inl (fun _ => 0))), (q106, .inl (y107, 8, .inl (fun _ => 0))), (q108, .inl (y109, 24016, .inl (fun _ => 0))), (q110, .inl (y111, 8, .inl (fun _ => 0))), (q112, .inl (y113, 8, .inl (fun _ => 0)))] := hD
  refine W.widen (k := 6) (n := 30042) (Nat.le_of_ble_eq_true rfl) (Nat.le_of_ble_eq_true rfl) ?_
  refine va_putF (D := (dC, dI)) (ci := 11) (v := .ref q112) (ty := (.array .int)) (C := RX12) (T := TX12) (N := 46) hx hb hts inX12 tyX12 tyX12_ok nmX12 hown hK hP hD hS 0 rfl rfl 11 (by decide) (hts _ wd_158) (fun _ h9 => h9) rfl hin rfl (by decide +kernel) rfl rfl (Nat.le_of_ble_eq_true rfl) dX12_init_52 (fun H locs hP hD hS => ?_)
  have hP : va_P (dC, dI) classes [(h0, .inr (11, [.int 0, .ref q102, .int 0, .int 0, .int 0, .int 0, .ref q104, .int 0, .ref q106, .ref q108, .ref q110, .ref q112, .null, .null, .null, .null, .null, .null, .null, .null, .null, .null, .null, .null, .null, .null, .null, .null, .null, .null, .int 0, .null, .null, .null, .null, .int 0, .null, .null, .null, .null, .long 0, .long 0, .int 0, .null, .int 0, .int 0])), (q102, .inl (y103, 3000, .inl (fun _ => 0))), (q106, .inl (y107, 8, .inl (fun _ => 0))), (q108, .inl (y109, 24016, .inl (fun _ => 0))), (q110, .inl (y111, 8, .inl (fun _ => 0))), (q112, .inl (y113, 8, .inl (fun _ => 0)))] H := hP
  have hD : va_D A [(h0, .inr (11, [.int 0, .ref q102, .int 0, .int 0, .int 0, .int 0, .ref q104, .int 0, .ref q106, .ref q108, .ref q110, .ref q112, .null, .null, .null, .null, .null, .null, .null, .null, .null, .null, .null, .null, .null, .null, .null, .null, .null, .null, .int 0, .null, .null, .null, .null, .int 0, .null, .null, .null, .null, .long 0, .long 0, .int 0, .null, .int 0, .int 0])), (q102, .inl (y103, 3000, .inl (fun _ => 0))), (q106, .inl (y107, 8, .inl (fun _ => 0))), (q108, .inl (y109, 24016, .inl (fun _ => 0))), (q110, .inl (y111, 8, .inl (fun _ => 0))), (q112, .inl (y113, 8, .inl (fun _ => 0)))] := hD
  refine lv_aload_n hx hb dX12_init_55 rfl (lv_at hl 0 rfl) ?_
  refine lv_bipush (v := 8) hx hb dX12_init_56 (by decide) ?_
  refine va_newa (atype := .int) (ty := .int) (N' := 8) (a0 := (8, .inl (fun _ => 0))) hx hb (hts _ wd_13) rfl hK hP hD hS hA (fun _ => rfl) (by decide) (by decide) (by decide) (Nat.le_of_ble_eq_true rfl) (Nat.le_of_ble_eq_true rfl) dX12_init_58 (fun q114 y115 H hK hP hD hS => ?_)
  have hK : va_K (dC, dI) classes [(y103, .int), (y107, .boolean), (y109, .int), (y111, .int), (y113, .int), (y115, .int)] s := hK
  have hP : va_P (dC, dI) classes [(h0, .inr (11, [.int 0, .ref q102, .int 0, .int 0, .int 0, .int 0, .ref q104, .int 0, .ref q106, .ref q108, .ref q110, .ref q112, .null, .null, .null, .null, .null, .null, .null, .null, .null, .null, .null, .null, .null, .null, .null, .null, .null, .null, .int 0, .null, .null, .null, .null, .int 0, .null, .null, .null, .null, .long 0, .long 0, .int 0, .null, .int 0, .int 0])), (q102, .inl (y103, 3000, .inl (fun _ => 0))), (q106, .inl (y107, 8, .inl (fun _ => 0))), (q108, .inl (y109, 24016, .inl (fun _ => 0))), (q110, .inl (y111, 8, .inl (fun _ => 0))), (q112, .inl (y113, 8, .inl (fun _ => 0))), (q114, .inl (y115, 8, .inl (fun _ => 0)))] H := hP
  have hD : va_D A [(h0, .inr (11, [.int 0, .ref q102, .int 0, .int 0, .int 0, .int 0, .ref q104, .int 0, .ref q106, .ref q108, .ref q110, .ref q112, .null, .null, .null, .null, .null, .null, .null, .null, .null, .null, .null, .null, .null, .null, .null, .null, .null, .null, .int 0, .null, .null, .null, .null, .int 0, .null, .null, .null, .null, .long 0, .long 0, .int 0, .null, .int 0, .int 0])), (q102, .inl (y103, 3000, .inl (fun _ => 0))), (q106, .inl (y107, 8, .inl (fun _ => 0))), (q108, .inl (y109, 24016, .inl (fun _ => 0))), (q110, .inl (y111, 8, .inl (fun _ => 0))), (q112, .inl (y113, 8, .inl (fun _ => 0))), (q114, .inl (y115, 8, .inl (fun _ => 0)))] := hD
  refine W.widen (k := 7) (n := 30050) (Nat.le_of_ble_eq_true rfl) (Nat.le_of_ble_eq_true rfl) ?_
  refine va_putF (D := (dC, dI)) (ci := 11) (v := .ref q114) (ty := (.array .int)) (C := RX12) (T := TX12) (N := 46) hx hb hts inX12 tyX12 tyX12_ok nmX12 hown hK hP hD hS 0 rfl rfl 12 (by decide) (hts _ wd_159) (fun _ h9 => h9) rfl hin rfl (by decide +kernel) rfl rfl (Nat.le_of_ble_eq_true rfl) dX12_init_60 (fun H locs hP hD hS => ?_)
  have hP : va_P (dC, dI) classes [(h0, .inr (11, [.int 0, .ref q102, .int 0, .int 0, .int 0, .int 0, .ref q104, .int 0, .ref q106, .ref q108, .ref q110, .ref q112, .ref q114, .null, .null, .null, .null, .null, .null, .null, .null, .null, .null, .null, .null, .null, .null, .null, .null, .null, .int 0, .null, .null, .null, .null, .int 0, .null, .null, .null, .null, .long 0, .long 0, .int 0, .null, .int 0, .int 0])), (q102, .inl (y103, 3000, .inl (fun _ => 0))), (q106, .inl (y107, 8, .inl (fun _ => 0))), (q108, .inl (y109, 24016, .inl (fun _ => 0))), (q110, .inl (y111, 8, .inl (fun _ => 0))), (q112, .inl (y113, 8, .inl (fun _ => 0))), (q114, .inl (y115, 8, .inl (fun _ => 0)))] H := hP
  have hD : va_D A [(h0, .inr (11, [.int 0, .ref q102, .int 0, .int 0, .int 0, .int 0, .ref q104, .int 0, .ref q106, .ref q108, .ref q110, .ref q112, .ref q114, .null, .null, .null, .null, .null, .null, .null, .null, .null, .null, .null, .null, .null, .null, .null, .null, .null, .int 0, .null, .null, .null, .null, .int 0, .null, .null, .null, .null, .long 0, .long 0, .int 0, .null, .int 0, .int 0])), (q102, .inl (y103, 3000, .inl (fun _ => 0))), (q106, .inl (y107, 8, .inl (fun _ => 0))), (q108, .inl (y109, 24016, .inl (fun _ => 0))), (q110, .inl (y111, 8, .inl (fun _ => 0))), (q112, .inl (y113, 8, .inl (fun _ => 0))), (q114, .inl (y115, 8, .inl (fun _ => 0)))] := hD
  refine lv_aload_n hx hb dX12_init_63 rfl (lv_at hl 0 rfl) ?_
  refine lv_sipush (v := 1760) hx hb dX12_init_64 (by decide) ?_
  refine va_newa (atype := .long) (ty := .long) (N' := 1760) (a0 := (1760, .inr (.inl (fun _ => 0)))) hx hb (hts _ wd_160) rfl hK hP hD hS hA (fun _ => rfl) (by decide) (by decide) (by decide) (Nat.le_of_ble_eq_true rfl) (Nat.le_of_ble_eq_true rfl) dX12_init_67 (fun q116 y117 H hK hP hD hS => ?_)
  have hK : va_K (dC, dI) classes [(y103, .int), (y107, .boolean), (y109, .int), (y111, .int), (y113, .int), (y115, .int), (y117, .long)] s := hK
  have hP : va_P (dC, dI) classes [(h0, .inr (11, [.int 0, .ref q102, .int 0, .int 0, .int 0, .int 0, .ref q104, .int 0, .ref q106, .ref q108, .ref q110, .ref q112, .ref q114, .null, .null, .null, .null, .null, .null, .null, .null, .null, .null, .null, .null, .null, .null, .null, .null, .null, .int 0, .null, .null, .null, .null, .int 0, .null, .null, .null, .null, .long 0, .long 0, .int 0, .null, .int 0, .int 0])), (q102, .inl (y103, 3000, .inl (fun _ => 0))), (q106, .inl (y107, 8, .inl (fun _ => 0))), (q108, .inl (y109, 24016, .inl (fun _ => 0))), (q110, .inl (y111, 8, .inl (fun _ => 0))), (q112, .inl (y113, 8, .inl (fun _ => 0))), (q114, .inl (y115, 8, .inl (fun _ => 0))), (q116, .inl (y117, 1760, .inr (.inl (fun _ => 0))))] H := hP
  have hD : va_D A [(h0, .inr (11, [.int 0, .ref q102, .int 0, .int 0, .int 0, .int 0, .ref q104, .int 0, .ref q106, .ref q108, .ref q110, .ref q112, .ref q114, .null, .null, .null, .null, .null, .null, .null, .null, .null, .null, .null, .null, .null, .null, .null, .null, .null, .int 0, .null, .null, .null, .null, .int 0, .null, .null, .null, .null, .long 0, .long 0, .int 0, .null, .int 0, .int 0])), (q102, .inl (y103, 3000, .inl (fun _ => 0))), (q106, .inl (y107, 8, .inl (fun _ => 0))), (q108, .inl (y109, 24016, .inl (fun _ => 0))), (q110, .inl (y111, 8, .inl (fun _ => 0))), (q112, .inl (y113, 8, .inl (fun _ => 0))), (q114, .inl (y115, 8, .inl (fun _ => 0))), (q116, .inl (y117, 1760, .inr (.inl (fun _ => 0))))] := hD
  refine W.widen (k := 8) (n := 31810) (Nat.le_of_ble_eq_true rfl) (Nat.le_of_ble_eq_true rfl) ?_
  refine va_putF (D := (dC, dI)) (ci := 11) (v := .ref q116) (ty := (.array .long)) (C := RX12) (T := TX12) (N := 46) hx hb hts inX12 tyX12 tyX12_ok nmX12 hown hK hP hD hS 0 rfl rfl 13 (by decide) (hts _ wd_161) (fun _ h9 => h9) rfl hin rfl (by decide +kernel) rfl rfl (Nat.le_of_ble_eq_true rfl) dX12_init_69 (fun H locs hP hD hS => ?_)
  have hP : va_P (dC, dI) classes [(h0, .inr (11, [.int 0, .ref q102, .int 0, .int 0, .int 0, .int 0, .ref q104, .int 0, .ref q106, .ref q108, .ref q110, .ref q112, .ref q114, .ref q116, .null, .null, .null, .null, .null, .null, .null, .null, .null, .null, .null, .null, .null, .null, .null, .null, .int 0, .null, .null, .null, .null, .int 0, .null, .null, .null, .null, .long 0, .long 0, .int 0, .null, .int 0, .int 0])), (q102, .inl (y103, 3000, .inl (fun _ => 0))), (q106, .inl (y107, 8, .inl (fun _ => 0))), (q108, .inl (y109, 24016, .inl (fun _ => 0))), (q110, .inl (y111, 8, .inl (fun _ => 0))), (q112, .inl (y113, 8, .inl (fun _ => 0))), (q114, .inl (y115, 8, .inl (fun _ => 0))), (q116, .inl (y117, 1760, .inr (.inl (fun _ => 0))))] H := hP
  have hD : va_D A [(h0, .inr (11, [.int 0, .ref q102, .int 0, .int 0, .int 0, .int 0, .ref q104, .int 0, .ref q106, .ref q108, .ref q110, .ref q112, .ref q114, .ref q116, .null, .null, .null, .null, .null, .null, .null, .null, .null, .null, .null, .null, .null, .null, .null, .null, .int 0, .null, .null, .null, .null, .int 0, .null, .null, .null, .null, .long 0, .long 0, .int 0, .null, .int 0, .int 0])), (q102, .inl (y103, 3000, .inl (fun _ => 0))), (q106, .inl (y107, 8, .inl (fun _ => 0))), (q108, .inl (y109, 24016, .inl (fun _ => 0))), (q110, .inl (y111, 8, .inl (fun _ => 0))), (q112, .inl (y113, 8, .inl (fun _ => 0))), (q114, .inl (y115, 8, .inl (fun _ => 0))), (q116, .inl (y117, 1760, .inr (.inl (fun _ => 0))))] := hD
  have hP : va_P (dC, dI) classes [(h0, .inr (11, [.int 0, .ref q102, .int 0, .int 0, .int 0, .int 0, .ref q104, .int 0, .ref q106, .ref q108, .ref q110, .ref q112, .ref q114, .ref q116, .null, .null, .null, .null, .null, .null, .null, .null, .null, .null, .null, .null, .null, .null, .null, .null, .int 0, .null, .null, .null, .null, .int 0, .null, .null, .null, .null, .long 0, .long 0, .int 0, .null, .int 0, .int 0])), (q102, .inl (y103, 3000, .inl (fun _ => 0))), (q106, .inl (y107, 8, .inl (fun _ => 0))), (q108, .inl (y109, 24016, .inl (fun _ => 0))), (q110, .inl (y111, 8, .inl (fun _ => 0))), (q112, .inl (y113, 8, .inl (fun _ => 0))), (q114, .inl (y115, 8, .inl (fun _ => 0)))] H := hP.sub [0, 1, 2, 3, 4, 5, 6] rfl
  have hD : va_D A [(h0, .inr (11, [.int 0, .ref q102, .int 0, .int 0, .int 0, .int 0, .ref q104, .int 0, .ref q106, .ref q108, .ref q110, .ref q112, .ref q114, .ref q116, .null, .null, .null, .null, .null, .null, .null, .null, .null, .null, .null, .null, .null, .null, .null, .null, .int 0, .null, .null, .null, .null, .int 0, .null, .null, .null, .null, .long 0, .long 0, .int 0, .null, .int 0, .int 0])), (q102, .inl (y103, 3000, .inl (fun _ => 0))), (q106, .inl (y107, 8, .inl (fun _ => 0))), (q108, .inl (y109, 24016, .inl (fun _ => 0))), (q110, .inl (y111, 8, .inl (fun _ => 0))), (q112, .inl (y113, 8, .inl (fun _ => 0))), (q114, .inl (y115, 8, .inl (fun _ => 0)))] := hD.sub [0, 1, 2, 3, 4, 5, 6] (by decide) rfl
  have hK : va_K (dC, dI) classes [(y103, .int), (y107, .boolean), (y109, .int), (y111, .int), (y113, .int), (y115, .int)] s := hK.sub [0, 1, 2, 3, 4, 5] rfl
  refine lv_aload_n hx hb dX12_init_72 rfl (lv_at hl 0 rfl) ?_
  refine lv_bipush (v := 8) hx hb dX12_init_73 (by decide) ?_
  refine va_newa (atype := .int) (ty := .int) (N' := 8) (a0 := (8, .inl (fun _ => 0))) hx hb (hts _ wd_13) rfl hK hP hD hS hA (fun _ => rfl) (by decide) (by decide) (by decide) (Nat.le_of_ble_eq_true rfl) (Nat.le_of_ble_eq_true rfl) dX12_init_75 (fun q118 y119 H hK hP hD hS => ?_)
  have hK : va_K (dC, dI) classes [(y103, .int), (y107, .boolean), (y109, .int), (y111, .int), (y113, .int), (y115, .int), (y119, .int)] s := hK
  have hP : va_P (dC, dI) classes [(h0, .inr (11, [.int 0, .ref q102, .int 0, .int 0, .int 0, .int 0, .ref q104, .int 0, .ref q106, .ref q108, .ref q110, .ref q112, .ref q114, .ref q116, .null, .null, .null, .null, .null, .null, .null, .null, .null, .null, .null, .null, .null, .null, .null, .null, .int 0, .null, .null, .null, .null, .int 0, .null, .null, .null, .null, .long 0, .long 0, .int 0, .null, .int 0, .int 0])), (q102, .inl (y103, 3000, .inl (fun _ => 0))), (q106, .inl (y107, 8, .inl (fun _ => 0))), (q108, .inl (y109, 24016, .inl (fun _ => 0))), (q110, .inl (y111, 8, .inl (fun _ => 0))), (q112, .inl (y113, 8, .inl (fun _ => 0))), (q114, .inl (y115, 8, .inl (fun _ => 0))), (q118, .inl (y119, 8, .inl (fun _ => 0)))] H := hP
  have hD : va_D A [(h0, .inr (11, [.int 0, .ref q102, .int 0, .int 0, .int 0, .int 0, .ref q104, .int 0, .ref q106, .ref q108, .ref q110, .ref q112, .ref q114, .ref q116, .null, .null, .null, .null, .null, .null, .null, .null, .null, .null, .null, .null, .null, .null, .null, .null, .int 0, .null, .null, .null, .null, .int 0, .null, .null, .null, .null, .long 0, .long 0, .int 0, .null, .int 0, .int 0])), (q102, .inl (y103, 3000, .inl (fun _ => 0))), (q106, .inl (y107, 8, .inl (fun _ => 0))), (q108, .inl (y109, 24016, .inl (fun _ => 0))), (q110, .inl (y111, 8, .inl (fun _ => 0))), (q112, .inl (y113, 8, .inl (fun _ => 0))), (q114, .inl (y115, 8, .inl (fun _ => 0))), (q118, .inl (y119, 8, .inl (fun _ => 0)))] := hD
  refine W.widen (k := 9) (n := 31818) (Nat.le_of_ble_eq_true rfl) (Nat.le_of_ble_eq_true rfl) ?_
  refine va_putF (D := (dC, dI)) (ci := 11) (v := .ref q118) (ty := (.array .int)) (C := RX12) (T := TX12) (N := 46) hx hb hts inX12 tyX12 tyX12_ok nmX12 hown hK hP hD hS 0 rfl rfl 14 (by decide) (hts _ wd_162) (fun _ h9 => h9) rfl hin rfl (by decide +kernel) rfl rfl (Nat.le_of_ble_eq_true rfl) dX12_init_77 (fun H locs hP hD hS => ?_)
  have hP : va_P (dC, dI) classes [(h0, .inr (11, [.int 0, .ref q102, .int 0, .int 0, .int 0, .int 0, .ref q104, .int 0, .ref q106, .ref q108, .ref q110, .ref q112, .ref q114, .ref q116, .ref q118, .null, .null, .null, .null, .null, .null, .null, .null, .null, .null, .null, .null, .null, .null, .null, .int 0, .null, .null, .null, .null, .int 0, .null, .null, .null, .null, .long 0, .long 0, .int 0, .null, .int 0, .int 0])), (q102, .inl (y103, 3000, .inl (fun _ => 0))), (q106, .inl (y107, 8, .inl (fun _ => 0))), (q108, .inl (y109, 24016, .inl (fun _ => 0))), (q110, .inl (y111, 8, .inl (fun _ => 0))), (q112, .inl (y113, 8, .inl (fun _ => 0))), (q114, .inl (y115, 8, .inl (fun _ => 0))), (q118, .inl (y119, 8, .inl (fun _ => 0)))] H := hP
  have hD : va_D A [(h0, .inr (11, [.int 0, .ref q102, .int 0, .int 0, .int 0, .int 0, .ref q104, .int 0, .ref q106, .ref q108, .ref q110, .ref q112, .ref q114, .ref q116, .ref q118, .null, .null, .null, .null, .null, .null, .null, .null, .null, .null, .null, .null, .null, .null, .null, .int 0, .null, .null, .null, .null, .int 0, .null, .null, .null, .null, .long 0, .long 0, .int 0, .null, .int 0, .int 0])), (q102, .inl (y103, 3000, .inl (fun _ => 0))), (q106, .inl (y107, 8, .inl (fun _ => 0))), (q108, .inl (y109, 24016, .inl (fun _ => 0))), (q110, .inl (y111, 8, .inl (fun _ => 0))), (q112, .inl (y113, 8, .inl (fun _ => 0))), (q114, .inl (y115, 8, .inl (fun _ => 0))), (q118, .inl (y119, 8, .inl (fun _ => 0)))] := hD
  refine lv_aload_n hx hb dX12_init_80 rfl (lv_at hl 0 rfl) ?_
  refine lv_sipush (v := 1760) hx hb dX12_init_81 (by decide) ?_
  refine va_newa (atype := .int) (ty := .int) (N' := 1760) (a0 := (1760, .inl (fun _ => 0))) hx hb (hts _ wd_13) rfl hK hP hD hS hA (fun _ => rfl) (by decide) (by decide) (by decide) (Nat.le_of_ble_eq_true rfl) (Nat.le_of_ble_eq_true rfl) dX12_init_84 (fun q120 y121 H hK hP hD hS => ?_)
  have hK : va_K (dC, dI) classes [(y103, .int), (y107, .boolean), (y109, .int), (y111, .int), (y113, .int), (y115, .int), (y119, .int), (y121, .int)] s := hK
  have hP : va_P (dC, dI) classes [(h0, .inr (11, [.int 0, .ref q102, .int 0, .int 0, .int 0, .int 0, .ref q104, .int 0, .ref q106, .ref q108, .ref q110, .ref q112, .ref q114, .ref q116, .ref q118, .null, .null, .null, .null, .null, .null, .null, .null, .null, .null, .null, .null, .null, .null, .null, .int 0, .null, .null, .null, .null, .int 0, .null, .null, .null, .null, .long 0, .long 0, .int 0, .null, .int 0, .int 0])), (q102, .inl (y103, 3000, .inl (fun _ => 0))), (q106, .inl (y107, 8, .inl (fun _ => 0))), (q108, .inl (y109, 24016, .inl (fun _ => 0))), (q110, .inl (y111, 8, .inl (fun _ => 0))), (q112, .inl (y113, 8, .inl (fun _ => 0))), (q114, .inl (y115, 8, .inl (fun _ => 0))), (q118, .inl (y119, 8, .inl (fun _ => 0))), (q120, .inl (y121, 1760, .inl (fun _ => 0)))] H := hP
  have hD : va_D A [(h0, .inr (11, [.int 0, .ref q102, .int 0, .int 0, .int 0, .int 0, .ref q104, .int 0, .ref q106, .ref q108, .ref q110, .ref q112, .ref q114, .ref q116, .ref q118, .null, .null, .null, .null, .null, .null, .null, .null, .null, .null, .null, .null, .null, .null, .null, .int 0, .null, .null, .null, .null, .int 0, .null, .null, .null, .null, .long 0, .long 0, .int 0, .null, .int 0, .int 0])), (q102, .inl (y103, 3000, .inl (fun _ => 0))), (q106, .inl (y107, 8, .inl (fun _ => 0))), (q108, .inl (y109, 24016, .inl (fun _ => 0))), (q110, .inl (y111, 8, .inl (fun _ => 0))), (q112, .inl (y113, 8, .inl (fun _ => 0))), (q114, .inl (y115, 8, .inl (fun _ => 0))), (q118, .inl (y119, 8, .inl (fun _ => 0))), (q120, .inl (y121, 1760, .inl (fun _ => 0)))] := hD
  refine W.widen (k := 10) (n := 33578) (Nat.le_of_ble_eq_true rfl) (Nat.le_of_ble_eq_true rfl) ?_
  refine va_putF (D := (dC, dI)) (ci := 11) (v := .ref q120) (ty := (.array .int)) (C := RX12) (T := TX12) (N := 46) hx hb hts inX12 tyX12 tyX12_ok nmX12 hown hK hP hD hS 0 rfl rfl 15 (by decide) (hts _ wd_163) (fun _ h9 => h9) rfl hin rfl (by decide +kernel) rfl rfl (Nat.le_of_ble_eq_true rfl) dX12_init_86 (fun H locs hP hD hS => ?_)
  have hP : va_P (dC, dI) classes [(h0, .inr (11, [.int 0, .ref q102, .int 0, .int 0, .int 0, .int 0, .ref q104, .int 0, .ref q106, .ref q108, .ref q110, .ref q112, .ref q114, .ref q116, .ref q118, .ref q120, .null, .null, .null, .null, .null, .null, .null, .null, .null, .null, .null, .null, .null, .null, .int 0, .null, .null, .null, .null, .int 0, .null, .null, .null, .null, .long 0, .long 0, .int 0, .null, .int 0, .int 0])), (q102, .inl (y103, 3000, .inl (fun _ => 0))), (q106, .inl (y107, 8, .inl (fun _ => 0))), (q108, .inl (y109, 24016, .inl (fun _ => 0))), (q110, .inl (y111, 8, .inl (fun _ => 0))), (q112, .inl (y113, 8, .inl (fun _ => 0))), (q114, .inl (y115, 8, .inl (fun _ => 0))), (q118, .inl (y119, 8, .inl (fun _ => 0))), (q120, .inl (y121, 1760, .inl (fun _ => 0)))] H := hP
  have hD : va_D A [(h0, .inr (11, [.int 0, .ref q102, .int 0, .int 0, .int 0, .int 0, .ref q104, .int 0, .ref q106, .ref q108, .ref q110, .ref q112, .ref q114, .ref q116, .ref q118, .ref q120, .null, .null, .null, .null, .null, .null, .null, .null, .null, .null, .null, .null, .null, .null, .int 0, .null, .null, .null, .null, .int 0, .null, .null, .null, .null, .long 0, .long 0, .int 0, .null, .int 0, .int 0])), (q102, .inl (y103, 3000, .inl (fun _ => 0))), (q106, .inl (y107, 8, .inl (fun _ => 0))), (q108, .inl (y109, 24016, .inl (fun _ => 0))), (q110, .inl (y111, 8, .inl (fun _ => 0))), (q112, .inl (y113, 8, .inl (fun _ => 0))), (q114, .inl (y115, 8, .inl (fun _ => 0))), (q118, .inl (y119, 8, .inl (fun _ => 0))), (q120, .inl (y121, 1760, .inl (fun _ => 0)))] := hD
  have hP : va_P (dC, dI) classes [(h0, .inr (11, [.int 0, .ref q102, .int 0, .int 0, .int 0, .int 0, .ref q104, .int 0, .ref q106, .ref q108, .ref q110, .ref q112, .ref q114, .ref q116, .ref q118, .ref q120, .null, .null, .null, .null, .null, .null, .null, .null, .null, .null, .null, .null, .null, .null, .int 0, .null, .null, .null, .null, .int 0, .null, .null, .null, .null, .long 0, .long 0, .int 0, .null, .int 0, .int 0])), (q102, .inl (y103, 3000, .inl (fun _ => 0))), (q106, .inl (y107, 8, .inl (fun _ => 0))), (q108, .inl (y109, 24016, .inl (fun _ => 0))), (q110, .inl (y111, 8, .inl (fun _ => 0))), (q112, .inl (y113, 8, .inl (fun _ => 0))), (q114, .inl (y115, 8, .inl (fun _ => 0))), (q118, .inl (y119, 8, .inl (fun _ => 0)))] H := hP.sub [0, 1, 2, 3, 4, 5, 6, 7] rfl
  have hD : va_D A [(h0, .inr (11, [.int 0, .ref q102, .int 0, .int 0, .int 0, .int 0, .ref q104, .int 0, .ref q106, .ref q108, .ref q110, .ref q112, .ref q114, .ref q116, .ref q118, .ref q120, .null, .null, .null, .null, .null, .null, .null, .null, .null, .null, .null, .null, .null, .null, .int 0, .null, .null, .null, .null, .int 0, .null, .null, .null, .null, .long 0, .long 0, .int 0, .null, .int 0, .int 0])), (q102, .inl (y103, 3000, .inl (fun _ => 0))), (q106, .inl (y107, 8, .inl (fun _ => 0))), (q108, .inl (y109, 24016, .inl (fun _ => 0))), (q110, .inl (y111, 8, .inl (fun _ => 0))), (q112, .inl (y113, 8, .inl (fun _ => 0))), (q114, .inl (y115, 8, .inl (fun _ => 0))), (q118, .inl (y119, 8, .inl (fun _ => 0)))] := hD.sub [0, 1, 2, 3, 4, 5, 6, 7] (by decide) rfl
  have hK : va_K (dC, dI) classes [(y103, .int), (y107, .boolean), (y109, .int), (y111, .int), (y113, .int), (y115, .int), (y119, .int)] s := hK.sub [0, 1, 2, 3, 4, 5, 6] rfl
  refine lv_aload_n hx hb dX12_init_89 rfl (lv_at hl 0 rfl) ?_
  refine lv_sipush (v := 1760) hx hb dX12_init_90 (by decide) ?_
  refine va_newa (atype := .int) (ty := .int) (N' := 1760) (a0 := (1760, .inl (fun _ => 0))) hx hb (hts _ wd_13) rfl hK hP hD hS hA (fun _ => rfl) (by decide) (by decide) (by decide) (Nat.le_of_ble_eq_true rfl) (Nat.le_of_ble_eq_true rfl) dX12_init_93 (fun q122 y123 H hK hP hD hS => ?_)
  have hK : va_K (dC, dI) classes [(y103, .int), (y107, .boolean), (y109, .int), (y111, .int), (y113, .int), (y115, .int), (y119, .int), (y123, .int)] s := hK
  have hP : va_P (dC, dI) classes [(h0, .inr (11, [.int 0, .ref q102, .int 0, .int 0, .int 0, .int 0, .ref q104, .int 0, .ref q106, .ref q108, .ref q110, .ref q112, .ref q114, .ref q116, .ref q118, .ref q120, .null, .null, .null, .null, .null, .null, .null, .null, .null, .null, .null, .null, .null, .null, .int 0, .null, .null, .null, .null, .int 0, .null, .null, .null, .null, .long 0, .long 0, .int 0, .null, .int 0, .int 0])), (q102, .inl (y103, 3000, .inl (fun _ => 0))), (q106, .inl (y107, 8, .inl (fun _ => 0))), (q108, .inl (y109, 24016, .inl (fun _ => 0))), (q110, .inl (y111, 8, .inl (fun _ => 0))), (q112, .inl (y113, 8, .inl (fun _ => 0))), (q114, .inl (y115, 8, .inl (fun _ => 0))), (q118, .inl (y119, 8, .inl (fun _ => 0))), (q122, .inl (y123, 1760, .inl (fun _ => 0)))] H := hP
  have hD : va_D A [(h0, .inr (11, [.int 0, .ref q102, .int 0, .int 0, .int 0, .int 0, .ref q104, .int 0, .ref q106, .ref q108, .ref q110, .ref q112, .ref q114, .ref q116, .ref q118, .ref q120, .null, .null, .null, .null, .null, .null, .null, .null, .null, .null, .null, .null, .null, .null, .int 0, .null, .null, .null, .null, .int 0, .null, .null, .null, .null, .long 0, .long 0, .int 0, .null, .int 0, .int 0])), (q102, .inl (y103, 3000, .inl (fun _ => 0))), (q106, .inl (y107, 8, .inl (fun _ => 0))), (q108, .inl (y109, 24016, .inl (fun _ => 0))), (q110, .inl (y111, 8, .inl (fun _ => 0))), (q112, .inl (y113, 8, .inl (fun _ => 0))), (q114, .inl (y115, 8, .inl (fun _ => 0))), (q118, .inl (y119, 8, .inl (fun _ => 0))), (q122, .inl (y123, 1760, .inl (fun _ => 0)))] := hD
  refine W.widen (k := 11) (n := 35338) (Nat.le_of_ble_eq_true rfl) (Nat.le_of_ble_eq_true rfl) ?_
  refine va_putF (D := (dC, dI)) (ci := 11) (v := .ref q122) (ty := (.array .int)) (C := RX12) (T := TX12) (N := 46) hx hb hts inX12 tyX12 tyX12_ok nmX12 hown hK hP hD hS 0 rfl rfl 16 (by decide) (hts _ wd_164) (fun _ h9 => h9) rfl hin rfl (by decide +kernel) rfl rfl (Nat.le_of_ble_eq_true rfl) dX12_init_95 (fun H locs hP hD hS => ?_)
  have hP : va_P (dC, dI) classes [(h0, .inr (11, [.int 0, .ref q102, .int 0, .int 0, .int 0, .int 0, .ref q104, .int 0, .ref q106, .ref q108, .ref q110, .ref q112, .ref q114, .ref q116, .ref q118, .ref q120, .ref q122, .null, .null, .null, .null, .null, .null, .null, .null, .null, .null, .null, .null, .null, .int 0, .null, .null, .null, .null, .int 0, .null, .null, .null, .null, .long 0, .long 0, .int 0, .null, .int 0, .int 0])), (q102, .inl (y103, 3000, .inl (fun _ => 0))), (q106, .inl (y107, 8, .inl (fun _ => 0))), (q108, .inl (y109, 24016, .inl (fun _ => 0))), (q110, .inl (y111, 8, .inl (fun _ => 0))), (q112, .inl (y113, 8, .inl (fun _ => 0))), (q114, .inl (y115, 8, .inl (fun _ => 0))), (q118, .inl (y119, 8, .inl (fun _ => 0))), (q122, .inl (y123, 1760, .inl (fun _ => 0)))] H := hP
  have hD : va_D A [(h0, .inr (11, [.int 0, .ref q102, .int 0, .int 0, .int 0, .int 0, .ref q104, .int 0, .ref q106, .ref q108, .ref q110, .ref q112, .ref q114, .ref q116, .ref q118, .ref q120, .ref q122, .null, .null, .null, .null, .null, .null, .null, .null, .null, .null, .null, .null, .null, .int 0, .null, .null, .null, .null, .int 0, .null, .null, .null, .null, .long 0, .long 0, .int 0, .null, .int 0, .int 0])), (q102, .inl (y103, 3000, .inl (fun _ => 0))), (q106, .inl (y107, 8, .inl (fun _ => 0))), (q108, .inl (y109, 24016, .inl (fun _ => 0))), (q110, .inl (y111, 8, .inl (fun _ => 0))), (q112, .inl (y113, 8, .inl (fun _ => 0))), (q114, .inl (y115, 8, .inl (fun _ => 0))), (q118, .inl (y119, 8, .inl (fun _ => 0))), (q122, .inl (y123, 1760, .inl (fun _ => 0)))] := hD
  have hP : va_P (dC, dI) classes [(h0, .inr (11, [.int 0, .ref q102, .int 0, .int 0, .int 0, .int 0, .ref q104, .int 0, .ref q106, .ref q108, .ref q110, .ref q112, .ref q114, .ref q116, .ref q118, .ref q120, .ref q122, .null, .null, .null, .null, .null, .null, .null, .null, .null, .null, .null, .null, .null, .int 0, .null, .null, .null, .null, .int 0, .null, .null, .null, .null, .long 0, .long 0, .int 0, .null, .int 0, .int 0])), (q102, .inl (y103, 3000, .inl (fun _ => 0))), (q106, .inl (y107, 8, .inl (fun _ => 0))), (q108, .inl (y109, 24016, .inl (fun _ => 0))), (q110, .inl (y111, 8, .inl (fun _ => 0))), (q112, .inl (y113, 8, .inl (fun _ => 0))), (q114, .inl (y115, 8, .inl (fun _ => 0))), (q118, .inl (y119, 8, .inl (fun _ => 0)))] H := hP.sub [0, 1, 2, 3, 4, 5, 6, 7] rfl
  have hD : va_D A [(h0, .inr (11, [.int 0, .ref q102, .int 0, .int 0, .int 0, .int 0, .ref q104, .int 0, .ref q106, .ref q108, .ref q110, .ref q112, .ref q114, .ref q116, .ref q118, .ref q120, .ref q122, .null, .null, .null, .null, .null, .null, .null, .null, .null, .null, .null, .null, .null, .int 0, .null, .null, .null, .null, .int 0, .null, .null, .null, .null, .long 0, .long 0, .int 0, .null, .int 0, .int 0])), (q102, .inl (y103, 3000, .inl (fun _ => 0))), (q106, .inl (y107, 8, .inl (fun _ => 0))), (q108, .inl (y109, 24016, .inl (fun _ => 0))), (q110, .inl (y111, 8, .inl (fun _ => 0))), (q112, .inl (y113, 8, .inl (fun _ => 0))), (q114, .inl (y115, 8, .inl (fun _ => 0))), (q118, .inl (y119, 8, .inl (fun _ => 0)))] := hD.sub [0, 1, 2, 3, 4, 5, 6, 7] (by decide) rfl
  have hK : va_K (dC, dI) classes [(y103, .int), (y107, .boolean), (y109, .int), (y111, .int), (y113, .int), (y115, .int), (y119, .int)] s := hK.sub [0, 1, 2, 3, 4, 5, 6] rfl
  refine lv_aload_n hx hb dX12_init_98 rfl (lv_at hl 0 rfl) ?_
  refine lv_sipush (v := 1600) hx hb dX12_init_99 (by decide) ?_
  refine va_newa (atype := .int) (ty := .int) (N' := 1600) (a0 := (1600, .inl (fun _ => 0))) hx hb (hts _ wd_13) rfl hK hP hD hS hA (fun _ => rfl) (by decide) (by decide) (by decide) (Nat.le_of_ble_eq_true rfl) (Nat.le_of_ble_eq_true rfl) dX12_init_102 (fun q124 y125 H hK hP hD hS => ?_)
  have hK : va_K (dC, dI) classes [(y103, .int), (y107, .boolean), (y109, .int), (y111, .int), (y113, .int), (y115, .int), (y119, .int), (y125, .int)] s := hK
  have hP : va_P (dC, dI) classes [(h0, .inr (11, [.int 0, .ref q102, .int 0, .int 0, .int 0, .int 0, .ref q104, .int 0, .ref q106, .ref q108, .ref q110, .ref q112, .ref q114, .ref q116, .ref q118, .ref q120, .ref q122, .null, .null, .null, .null, .null, .null, .null, .null, .null, .null, .null, .null, .null, .int 0, .null, .null, .null, .null, .int 0, .null, .null, .null, .null, .long 0, .long 0, .int 0, .null, .int 0, .int 0])), (q102, .inl (y103, 3000, .inl (fun _ => 0))), (q106, .inl (y107, 8, .inl (fun _ => 0))), (q108, .inl (y109, 24016, .inl (fun _ => 0))), (q110, .inl (y111, 8, .inl (fun _ => 0))), (q112, .inl (y113, 8, .inl (fun _ => 0))), (q114, .inl (y115, 8, .inl (fun _ => 0))), (q118, .inl (y119, 8, .inl (fun _ => 0))), (q124, .inl (y125, 1600, .inl (fun _ => 0)))] H := hP
  have hD : va_D A [(h0, .inr (11, [.int 0, .ref q102, .int 0, .int 0, .int 0, .int 0, .ref q104, .int 0, .ref q106, .ref q108, .ref q110, .ref q112, .ref q114, .ref q116, .ref q118, .ref q120, .ref q122, .null, .null, .null, .null, .null, .null, .null, .null, .null, .null, .null, .null, .null, .int 0, .null, .null, .null, .null, .int 0, .null, .null, .null, .null, .long 0, .long 0, .int 0, .null, .int 0, .int 0])), (q102, .inl (y103, 3000, .inl (fun _ => 0))), (q106, .inl (y107, 8, .inl (fun _ => 0))), (q108, .inl (y109, 24016, .inl (fun _ => 0))), (q110, .inl (y111, 8, .inl (fun _ => 0))), (q112, .inl (y113, 8, .inl (fun _ => 0))), (q114, .inl (y115, 8, .inl (fun _ => 0))), (q118, .inl (y119, 8, .inl (fun _ => 0))), (q124, .inl (y125, 1600, .inl (fun _ => 0)))] := hD
  refine W.widen (k := 12) (n := 36938) (Nat.le_of_ble_eq_true rfl) (Nat.le_of_ble_eq_true rfl) ?_
  refine va_putF (D := (dC, dI)) (ci := 11) (v := .ref q124) (ty := (.array .int)) (C := RX12) (T := TX12) (N := 46) hx hb hts inX12 tyX12 tyX12_ok nmX12 hown hK hP hD hS 0 rfl rfl 17 (by decide) (hts _ wd_165) (fun _ h9 => h9) rfl hin rfl (by decide +kernel) rfl rfl (Nat.le_of_ble_eq_true rfl) dX12_init_104 (fun H locs hP hD hS => ?_)
  have hP : va_P (dC, dI) classes [(h0, .inr (11, [.int 0, .ref q102, .int 0, .int 0, .int 0, .int 0, .ref q104, .int 0, .ref q106, .ref q108, .ref q110, .ref q112, .ref q114, .ref q116, .ref q118, .ref q120, .ref q122, .ref q124, .null, .null, .null, .null, .null, .null, .null, .null, .null, .null, .null, .null, .int 0, .null, .null, .null, .null, .int 0, .null, .null, .null, .null, .long 0, .long 0, .int 0, .null, .int 0, .int 0])), (q102, .inl (y103, 3000, .inl (fun _ => 0))), (q106, .inl (y107, 8, .inl (fun _ => 0))), (q108, .inl (y109, 24016, .inl (fun _ => 0))), (q110, .inl (y111, 8, .inl (fun _ => 0))), (q112, .inl (y113, 8, .inl (fun _ => 0))), (q114, .inl (y115, 8, .inl (fun _ => 0))), (q118, .inl (y119, 8, .inl (fun _ => 0))), (q124, .inl (y125, 1600, .inl (fun _ => 0)))] H := hP
  have hD : va_D A [(h0, .inr (11, [.int 0, .ref q102, .int 0, .int 0, .int 0, .int 0, .ref q104, .int 0, .ref q106, .ref q108, .ref q110, .ref q112, .ref q114, .ref q116, .ref q118, .ref q120, .ref q122, .ref q124, .null, .null, .null, .null, .null, .null, .null, .null, .null, .null, .null, .null, .int 0, .null, .null, .null, .null, .int 0, .null, .null, .null, .null, .long 0, .long 0, .int 0, .null, .int 0, .int 0])), (q102, .inl (y103, 3000, .inl (fun _ => 0))), (q106, .inl (y107, 8, .inl (fun _ => 0))), (q108, .inl (y109, 24016, .inl (fun _ => 0))), (q110, .inl (y111, 8, .inl (fun _ => 0))), (q112, .inl (y113, 8, .inl (fun _ => 0))), (q114, .inl (y115, 8, .inl (fun _ => 0))), (q118, .inl (y119, 8, .inl (fun _ => 0))), (q124, .inl (y125, 1600, .inl (fun _ => 0)))] := hD
  have hP : va_P (dC, dI) classes [(h0, .inr (11, [.int 0, .ref q102, .int 0, .int 0, .int 0, .int 0, .ref q104, .int 0, .ref q106, .ref q108, .ref q110, .ref q112, .ref q114, .ref q116, .ref q118, .ref q120, .ref q122, .ref q124, .null, .null, .null, .null, .null, .null, .null, .null, .null, .null, .null, .null, .int 0, .null, .null, .null, .null, .int 0, .null, .null, .null, .null, .long 0, .long 0, .int 0, .null, .int 0, .int 0])), (q102, .inl (y103, 3000, .inl (fun _ => 0))), (q106, .inl (y107, 8, .inl (fun _ => 0))), (q108, .inl (y109, 24016, .inl (fun _ => 0))), (q110, .inl (y111, 8, .inl (fun _ => 0))), (q112, .inl (y113, 8, .inl (fun _ => 0))), (q114, .inl (y115, 8, .inl (fun _ => 0))), (q118, .inl (y119, 8, .inl (fun _ => 0)))] H := hP.sub [0, 1, 2, 3, 4, 5, 6, 7] rfl
  have hD : va_D A [(h0, .inr (11, [.int 0, .ref q102, .int 0, .int 0, .int 0, .int 0, .ref q104, .int 0, .ref q106, .ref q108, .ref q110, .ref q112, .ref q114, .ref q116, .ref q118, .ref q120, .ref q122, .ref q124, .null, .null, .null, .null, .null, .null, .null, .null, .null, .null, .null, .null, .int 0, .null, .null, .null, .null, .int 0, .null, .null, .null, .null, .long 0, .long 0, .int 0, .null, .int 0, .int 0])), (q102, .inl (y103, 3000, .inl (fun _ => 0))), (q106, .inl (y107, 8, .inl (fun _ => 0))), (q108, .inl (y109, 24016, .inl (fun _ => 0))), (q110, .inl (y111, 8, .inl (fun _ => 0))), (q112, .inl (y113, 8, .inl (fun _ => 0))), (q114, .inl (y115, 8, .inl (fun _ => 0))), (q118, .inl (y119, 8, .inl (fun _ => 0)))] := hD.sub [0, 1, 2, 3, 4, 5, 6, 7] (by decide) rfl
  have hK : va_K (dC, dI) classes [(y103, .int), (y107, .boolean), (y109, .int), (y111, .int), (y113, .int), (y115, .int), (y119, .int)] s := hK.sub [0, 1, 2, 3, 4, 5, 6] rfl
  refine lv_aload_n hx hb dX12_init_107 rfl (lv_at hl 0 rfl) ?_
  refine lv_sipush (v := 1600) hx hb dX12_init_108 (by decide) ?_
  refine va_newa (atype := .int) (ty := .int) (N' := 1600) (a0 := (1600, .inl (fun _ => 0))) hx hb (hts _ wd_13) rfl hK hP hD hS hA (fun _ => rfl) (by decide) (by decide) (by decide) (Nat.le_of_ble_eq_true rfl) (Nat.le_of_ble_eq_true rfl) dX12_init_111 (fun q126 y127 H hK hP hD hS => ?_)
  have hK : va_K (dC, dI) classes [(y103, .int), (y107, .boolean), (y109, .int), (y111, .int), (y113, .int), (y115, .int), (y119, .int), (y127, .int)] s := hK
  have hP : va_P (dC, dI) classes [(h0, .inr (11, [.int 0, .ref q102, .int 0, .int 0, .int 0, .int 0, .ref q104, .int 0, .ref q106, .ref q108, .ref q110, .ref q112, .ref q114, .ref q116, .ref q118, .ref q120, .ref q122, .ref q124, .null, .null, .null, .null, .null, .null, .null, .null, .null, .null, .null, .null, .int 0, .null, .null, .null, .null, .int 0, .null, .null, .null, .null, .long 0, .long 0, .int 0, .null, .int 0, .int 0])), (q102, .inl (y103, 3000, .inl (fun _ => 0))), (q106, .inl (y107, 8, .inl (fun _ => 0))), (q108, .inl (y109, 24016, .inl (fun _ => 0))), (q110, .inl (y111, 8, .inl (fun _ => 0))), (q112, .inl (y113, 8, .inl (fun _ => 0))), (q114, .inl (y115, 8, .inl (fun _ => 0))), (q118, .inl (y119, 8, .inl (fun _ => 0))), (q126, .inl (y127, 1600, .inl (fun _ => 0)))] H := hP
  have hD : va_D A [(h0, .inr (11, [.int 0, .ref q102, .int 0, .int 0, .int 0, .int 0, .ref q104, .int 0, .ref q106, .ref q108, .ref q110, .ref q112, .ref q114, .ref q116, .ref q118, .ref q120, .ref q122, .ref q124, .null, .null, .null, .null, .null, .null, .null, .null, .null, .null, .null, .null, .int 0, .null, .null, .null, .null, .int 0, .null, .null, .null, .null, .long 0, .long 0, .int 0, .null, .int 0, .int 0])), (q102, .inl (y103, 3000, .inl (fun _ => 0))), (q106, .inl (y107, 8, .inl (fun _ => 0))), (q108, .inl (y109, 24016, .inl (fun _ => 0))), (q110, .inl (y111, 8, .inl (fun _ => 0))), (q112, .inl (y113, 8, .inl (fun _ => 0))), (q114, .inl (y115, 8, .inl (fun _ => 0))), (q118, .inl (y119, 8, .inl (fun _ => 0))), (q126, .inl (y127, 1600, .inl (fun _ => 0)))] := hD
  refine W.widen (k := 13) (n := 38538) (Nat.le_of_ble_eq_true rfl) (Nat.le_of_ble_eq_true rfl) ?_
  refine va_putF (D := (dC, dI)) (ci := 11) (v := .ref q126) (ty := (.array .int)) (C := RX12) (T := TX12) (N := 46) hx hb hts inX12 tyX12 tyX12_ok nmX12 hown hK hP hD hS 0 rfl rfl 18 (by decide) (hts _ wd_166) (fun _ h9 => h9) rfl hin rfl (by decide +kernel) rfl rfl (Nat.le_of_ble_eq_true rfl) dX12_init_113 (fun H locs hP hD hS => ?_)
  have hP : va_P (dC, dI) classes [(h0, .inr (11, [.int 0, .ref q102, .int 0, .int 0, .int 0, .int 0, .ref q104, .int 0, .ref q106, .ref q108, .ref q110, .ref q112, .ref q114, .ref q116, .ref q118, .ref q120, .ref q122, .ref q124, .ref q126, .null, .null, .null, .null, .null, .null, .null, .null, .null, .null, .null, .int 0, .null, .null, .null, .null, .int 0, .null, .null, .null, .null, .long 0, .long 0, .int 0, .null, .int 0, .int 0])), (q102, .inl (y103, 3000, .inl (fun _ => 0))), (q106, .inl (y107, 8, .inl (fun _ => 0))), (q108, .inl (y109, 24016, .inl (fun _ => 0))), (q110, .inl (y111, 8, .inl (fun _ => 0))), (q112, .inl (y113, 8, .inl (fun _ => 0))), (q114, .inl (y115, 8, .inl (fun _ => 0))), (q118, .inl (y119, 8, .inl (fun _ => 0))), (q126, .inl (y127, 1600, .inl (fun _ => 0)))] H := hP
  have hD : va_D A [(h0, .inr (11, [.int 0, .ref q102, .int 0, .int 0, .int 0, .int 0, .ref q104, .int 0, .ref q106, .ref q108, .ref q110, .ref q112, .ref q114, .ref q116, .ref q118, .ref q120, .ref q122, .ref q124, .ref q126, .null, .null, .null, .null, .null, .null, .null, .null, .null, .null, .null, .int 0, .null, .null, .null, .null, .int 0, .null, .null, .null, .null, .long 0, .long 0, .int 0, .null, .int 0, .int 0])), (q102, .inl (y103, 3000, .inl (fun _ => 0))), (q106, .inl (y107, 8, .inl (fun _ => 0))), (q108, .inl (y109, 24016, .inl (fun _ => 0))), (q110, .inl (y111, 8, .inl (fun _ => 0))), (q112, .inl (y113, 8, .inl (fun _ => 0))), (q114, .inl (y115, 8, .inl (fun _ => 0))), (q118, .inl (y119, 8, .inl (fun _ => 0))), (q126, .inl (y127, 1600, .inl (fun _ => 0)))] := hD
  have hP : va_P (dC, dI) classes [(h0, .inr (11, [.int 0, .ref q102, .int 0, .int 0, .int 0, .int 0, .ref q104, .int 0, .ref q106, .ref q108, .ref q110, .ref q112, .ref q114, .ref q116, .ref q118, .ref q120, .ref q122, .ref q124, .ref q126, .null, .null, .null, .null, .null, .null, .null, .null, .null, .null, .null, .int 0, .null, .null, .null, .null, .int 0, .null, .null, .null, .null, .long 0, .long 0, .int 0, .null, .int 0, .int 0])), (q102, .inl (y103, 3000, .inl (fun _ => 0))), (q106, .inl (y107, 8, .inl (fun _ => 0))), (q108, .inl (y109, 24016, .inl (fun _ => 0))), (q110, .inl (y111, 8, .inl (fun _ => 0))), (q112, .inl (y113, 8, .inl (fun _ => 0))), (q114, .inl (y115, 8, .inl (fun _ => 0))), (q118, .inl (y119, 8, .inl (fun _ => 0)))] H := hP.sub [0, 1, 2, 3, 4, 5, 6, 7] rfl
  have hD : va_D A [(h0, .inr (11, [.int 0, .ref q102, .int 0, .int 0, .int 0, .int 0, .ref q104, .int 0, .ref q106, .ref q108, .ref q110, .ref q112, .ref q114, .ref q116, .ref q118, .ref q120, .ref q122, .ref q124, .ref q126, .null, .null, .null, .null, .null, .null, .null, .null, .null, .null, .null, .int 0, .null, .null, .null, .null, .int 0, .null, .null, .null, .null, .long 0, .long 0, .int 0, .null, .int 0, .int 0])), (q102, .inl (y103, 3000, .inl (fun _ => 0))), (q106, .inl (y107, 8, .inl (fun _ => 0))), (q108, .inl (y109, 24016, .inl (fun _ => 0))), (q110, .inl (y111, 8, .inl (fun _ => 0))), (q112, .inl (y113, 8, .inl (fun _ => 0))), (q114, .inl (y115, 8, .inl (fun _ => 0))), (q118, .inl (y119, 8, .inl (fun _ => 0)))] := hD.sub [0, 1, 2, 3, 4, 5, 6, 7] (by decide) rfl
  have hK : va_K (dC, dI) classes [(y103, .int), (y107, .boolean), (y109, .int), (y111, .int), (y113, .int), (y115, .int), (y119, .int)] s := hK.sub [0, 1, 2, 3, 4, 5, 6] rfl
  refine lv_aload_n hx hb dX12_init_116 rfl (lv_at hl 0 rfl) ?_
  refine lv_sipush (v := 1600) hx hb dX12_init_117 (by decide) ?_
  refine va_newa (atype := .int) (ty := .int) (N' := 1600) (a0 := (1600, .inl (fun _ => 0))) hx hb (hts _ wd_13) rfl hK hP hD hS hA (fun _ => rfl) (by decide) (by decide) (by decide) (Nat.le_of_ble_eq_true rfl) (Nat.le_of_ble_eq_true rfl) dX12_init_120 (fun q128 y129 H hK hP hD hS => ?_)
  have hK : va_K (dC, dI) classes [(y103, .int), (y107, .boolean), (y109, .int), (y111, .int), (y113, .int), (y115, .int), (y119, .int), (y129, .int)] s := hK
  have hP : va_P (dC, dI) classes [(h0, .inr (11, [.int 0, .ref q102, .int 0, .int 0, .int 0, .int 0, .ref q104, .int 0, .ref q106, .ref q108, .ref q110, .ref q112, .ref q114, .ref q116, .ref q118, .ref q120, .ref q122, .ref q124, .ref q126, .null, .null, .null, .null, .null, .null, .null, .null, .null, .null, .null, .int 0, .null, .null, .null, .null, .int 0, .null, .null, .null, .null, .long 0, .long 0, .int 0, .null, .int 0, .int 0])), (q102, .inl (y103, 3000, .inl (fun _ => 0))), (q106, .inl (y107, 8, .inl (fun _ => 0))), (q108, .inl (y109, 24016, .inl (fun _ => 0))), (q110, .inl (y111, 8, .inl (fun _ => 0))), (q112, .inl (y113, 8, .inl (fun _ => 0))), (q114, .inl (y115, 8, .inl (fun _ => 0))), (q118, .inl (y119, 8, .inl (fun _ => 0))), (q128, .inl (y129, 1600, .inl (fun _ => 0)))] H := hP
  have hD : va_D A [(h0, .inr (11, [.int 0, .ref q102, .int 0, .int 0, .int 0, .int 0, .ref q104, .int 0, .ref q106, .ref q108, .ref q110, .ref q112, .ref q114, .ref q116, .ref q118, .ref q120, .ref q122, .ref q124, .ref q126, .null, .null, .null, .null, .null, .null, .null, .null, .null, .null, .null, .int 0, .null, .null, .null, .null, .int 0, .null, .null, .null, .null, .long 0, .long 0, .int 0, .null, .int 0, .int 0])), (q102, .inl (y103, 3000, .inl (fun _ => 0))), (q106, .inl (y107, 8, .inl (fun _ => 0))), (q108, .inl (y109, 24016, .inl (fun _ => 0))), (q110, .inl (y111, 8, .inl (fun _ => 0))), (q112, .inl (y113, 8, .inl (fun _ => 0))), (q114, .inl (y115, 8, .inl (fun _ => 0))), (q118, .inl (y119, 8, .inl (fun _ => 0))), (q128, .inl (y129, 1600, .inl (fun _ => 0)))] := hD
  refine W.widen (k := 14) (n := 40138) (Nat.le_of_ble_eq_true rfl) (Nat.le_of_ble_eq_true rfl) ?_
  refine va_putF (D := (dC, dI)) (ci := 11) (v := .ref q128) (ty := (.array .int)) (C := RX12) (T := TX12) (N := 46) hx hb hts inX12 tyX12 tyX12_ok nmX12 hown hK hP hD hS 0 rfl rfl 19 (by decide) (hts _ wd_167) (fun _ h9 => h9) rfl hin rfl (by decide +kernel) rfl rfl (Nat.le_of_ble_eq_true rfl) dX12_init_122 (fun H locs hP hD hS => ?_)
  have hP : va_P (dC, dI) classes [(h0, .inr (11, [.int 0, .ref q102, .int 0, .int 0, .int 0, .int 0, .ref q104, .int 0, .ref q106, .ref q108, .ref q110, .ref q112, .ref q114, .ref q116, .ref q118, .ref q120, .ref q122, .ref q124, .ref q126, .ref q128, .null, .null, .null, .null, .null, .null, .null, .null, .null, .null, .int 0, .null, .null, .null, .null, .int 0, .null, .null, .null, .null, .long 0, .long 0, .int 0, .null, .int 0, .int 0])), (q102, .inl (y103, 3000, .inl (fun _ => 0))), (q106, .inl (y107, 8, .inl (fun _ => 0))), (q108, .inl (y109, 24016, .inl (fun _ => 0))), (q110, .inl (y111, 8, .inl (fun _ => 0))), (q112, .inl (y113, 8, .inl (fun _ => 0))), (q114, .inl (y115, 8, .inl (fun _ => 0))), (q118, .inl (y119, 8, .inl (fun _ => 0))), (q128, .inl (y129, 1600, .inl (fun _ => 0)))] H := hP
  have hD : va_D A [(h0, .inr (11, [.int 0, .ref q102, .int 0, .int 0, .int 0, .int 0, .ref q104, .int 0, .ref q106, .ref q108, .ref q110, .ref q112, .ref q114, .ref q116, .ref q118, .ref q120, .ref q122, .ref q124, .ref q126, .ref q128, .null, .null, .null, .null, .null, .null, .null, .null, .null, .null, .int 0, .null, .null, .null, .null, .int 0, .null, .null, .null, .null, .long 0, .long 0, .int 0, .null, .int 0, .int 0])), (q102, .inl (y103, 3000, .inl (fun _ => 0))), (q106, .inl (y107, 8, .inl (fun _ => 0))), (q108, .inl (y109, 24016, .inl (fun _ => 0))), (q110, .inl (y111, 8, .inl (fun _ => 0))), (q112, .inl (y113, 8, .inl (fun _ => 0))), (q114, .inl (y115, 8, .inl (fun _ => 0))), (q118, .inl (y119, 8, .inl (fun _ => 0))), (q128, .inl (y129, 1600, .inl (fun _ => 0)))] := hD
  have hP : va_P (dC, dI) classes [(h0, .inr (11, [.int 0, .ref q102, .int 0, .int 0, .int 0, .int 0, .ref q104, .int 0, .ref q106, .ref q108, .ref q110, .ref q112, .ref q114, .ref q116, .ref q118, .ref q120, .ref q122, .ref q124, .ref q126, .ref q128, .null, .null, .null, .null, .null, .null, .null, .null, .null, .null, .int 0, .null, .null, .null, .null, .int 0, .null, .null, .null, .null, .long 0, .long 0, .int 0, .null, .int 0, .int 0])), (q102, .inl (y103, 3000, .inl (fun _ => 0))), (q106, .inl (y107, 8, .inl (fun _ => 0))), (q108, .inl (y109, 24016, .inl (fun _ => 0))), (q110, .inl (y111, 8, .inl (fun _ => 0))), (q112, .inl (y113, 8, .inl (fun _ => 0))), (q114, .inl (y115, 8, .inl (fun _ => 0))), (q118, .inl (y119, 8, .inl (fun _ => 0)))] H := hP.sub [0, 1, 2, 3, 4, 5, 6, 7] rfl
  have hD : va_D A [(h0, .inr (11, [.int 0, .ref q102, .int 0, .int 0, .int 0, .int 0, .ref q104, .int 0, .ref q106, .ref q108, .ref q110, .ref q112, .ref q114, .ref q116, .ref q118, .ref q120, .ref q122, .ref q124, .ref q126, .ref q128, .null, .null, .null, .null, .null, .null, .null, .null, .null, .null, .int 0, .null, .null, .null, .null, .int 0, .null, .null, .null, .null, .long 0, .long 0, .int 0, .null, .int 0, .int 0])), (q102, .inl (y103, 3000, .inl (fun _ => 0))), (q106, .inl (y107, 8, .inl (fun _ => 0))), (q108, .inl (y109, 24016, .inl (fun _ => 0))), (q110, .inl (y111, 8, .inl (fun _ => 0))), (q112, .inl (y113, 8, .inl (fun _ => 0))), (q114, .inl (y115, 8, .inl (fun _ => 0))), (q118, .inl (y119, 8, .inl (fun _ => 0)))] := hD.sub [0, 1, 2, 3, 4, 5, 6, 7] (by decide) rfl
  have hK : va_K (dC, dI) classes [(y103, .int), (y107, .boolean), (y109, .int), (y111, .int), (y113, .int), (y115, .int), (y119, .int)] s := hK.sub [0, 1, 2, 3, 4, 5, 6] rfl
  refine lv_aload_n hx hb dX12_init_125 rfl (lv_at hl 0 rfl) ?_
  refine lv_sipush (v := 1600) hx hb dX12_init_126 (by decide) ?_
  refine va_newa (atype := .int) (ty := .int) (N' := 1600) (a0 := (1600, .inl (fun _ => 0))) hx hb (hts _ wd_13) rfl hK hP hD hS hA (fun _ => rfl) (by decide) (by decide) (by decide) (Nat.le_of_ble_eq_true rfl) (Nat.le_of_ble_eq_true rfl) dX12_init_129 (fun q130 y131 H hK hP hD hS => ?_)
  have hK : va_K (dC, dI) classes [(y103, .int), (y107, .boolean), (y109, .int), (y111, .int), (y113, .int), (y115, .int), (y119, .int), (y131, .int)] s := hK
  have hP : va_P (dC, dI) classes [(h0, .inr (11, [.int 0, .ref q102, .int 0, .int 0, .int 0, .int 0, .ref q104, .int 0, .ref q106, .ref q108, .ref q110, .ref q112, .ref q114, .ref q116, .ref q118, .ref q120, .ref q122, .ref q124, .ref q126, .ref q128, .null, .null, .null, .null, .null, .null, .null, .null, .null, .null, .int 0, .null, .null, .null, .null, .int 0, .null, .null, .null, .null, .long 0, .long 0, .int 0, .null, .int 0, .int 0])), (q102, .inl (y103, 3000, .inl (fun _ => 0))), (q106, .inl (y107, 8, .inl (fun _ => 0))), (q108, .inl (y109, 24016, .inl (fun _ => 0))), (q110, .inl (y111, 8, .inl (fun _ => 0))), (q112, .inl (y113, 8, .inl (fun _ => 0))), (q114, .inl (y115, 8, .inl (fun _ => 0))), (q118, .inl (y119, 8, .inl (fun _ => 0))), (q130, .inl (y131, 1600, .inl (fun _ => 0)))] H := hP
  have hD : va_D A [(h0, .inr (11, [.int 0, .ref q102, .int 0, .int 0, .int 0, .int 0, .ref q104, .int 0, .ref q106, .ref q108, .ref q110, .ref q112, .ref q114, .ref q116, .ref q118, .ref q120, .ref q122, .ref q124, .ref q126, .ref q128, .null, .null, .null, .null, .null, .null, .null, .null, .null, .null, .int 0, .null, .null, .null, .null, .int 0, .null, .null, .null, .null, .long 0, .long 0, .int 0, .null, .int 0, .int 0])), (q102, .inl (y103, 3000, .inl (fun _ => 0))), (q106, .inl (y107, 8, .inl (fun _ => 0))), (q108, .inl (y109, 24016, .inl (fun _ => 0))), (q110, .inl (y111, 8, .inl (fun _ => 0))), (q112, .inl (y113, 8, .inl (fun _ => 0))), (q114, .inl (y115, 8, .inl (fun _ => 0))), (q118, .inl (y119, 8, .inl (fun _ => 0))), (q130, .inl (y131, 1600, .inl (fun _ => 0)))] := hD
  refine W.widen (k := 15) (n := 41738) (Nat.le_of_ble_eq_true rfl) (Nat.le_of_ble_eq_true rfl) ?_
  refine va_putF (D := (dC, dI)) (ci := 11) (v := .ref q130) (ty := (.array .int)) (C := RX12) (T := TX12) (N := 46) hx hb hts inX12 tyX12 tyX12_ok nmX12 hown hK hP hD hS 0 rfl rfl 20 (by decide) (hts _ wd_168) (fun _ h9 => h9) rfl hin rfl (by decide +kernel) rfl rfl (Nat.le_of_ble_eq_true rfl) dX12_init_131 (fun H locs hP hD hS => ?_)
  have hP : va_P (dC, dI) classes [(h0, .inr (11, [.int 0, .ref q102, .int 0, .int 0, .int 0, .int 0, .ref q104, .int 0, .ref q106, .ref q108, .ref q110, .ref q112, .ref q114, .ref q116, .ref q118, .ref q120, .ref q122, .ref q124, .ref q126, .ref q128, .ref q130, .null, .null, .null, .null, .null, .null, .null, .null, .null, .int 0, .null, .null, .null, .null, .int 0, .null, .null, .null, .null, .long 0, .long 0, .int 0, .null, .int 0, .int 0])), (q102, .inl (y103, 3000, .inl (fun _ => 0))), (q106, .inl (y107, 8, .inl (fun _ => 0))), (q108, .inl (y109, 24016, .inl (fun _ => 0))), (q110, .inl (y111, 8, .inl (fun _ => 0))), (q112, .inl (y113, 8, .inl (fun _ => 0))), (q114, .inl (y115, 8, .inl (fun _ => 0))), (q118, .inl (y119, 8, .inl (fun _ => 0))), (q130, .inl (y131, 1600, .inl (fun _ => 0)))] H := hP
  have hD : va_D A [(h0, .inr (11, [.int 0, .ref q102, .int 0, .int 0, .int 0, .int 0, .ref q104, .int 0, .ref q106, .ref q108, .ref q110, .ref q112, .ref q114, .ref q116, .ref q118, .ref q120, .ref q122, .ref q124, .ref q126, .ref q128, .ref q130, .null, .null, .null, .null, .null, .null, .null, .null, .null, .int 0, .null, .null, .null, .null, .int 0, .null, .null, .null, .null, .long 0, .long 0, .int 0, .null, .int 0, .int 0])), (q102, .inl (y103, 3000, .inl (fun _ => 0))), (q106, .inl (y107, 8, .inl (fun _ => 0))), (q108, .inl (y109, 24016, .inl (fun _ => 0))), (q110, .inl (y111, 8, .inl (fun _ => 0))), (q112, .inl (y113, 8, .inl (fun _ => 0))), (q114, .inl (y115, 8, .inl (fun _ => 0))), (q118, .inl (y119, 8, .inl (fun _ => 0))), (q130, .inl (y131, 1600, .inl (fun _ => 0)))] := hD
  have hP : va_P (dC, dI) classes [(h0, .inr (11, [.int 0, .ref q102, .int 0, .int 0, .int 0, .int 0, .ref q104, .int 0, .ref q106, .ref q108, .ref q110, .ref q112, .ref q114, .ref q116, .ref q118, .ref q120, .ref q122, .ref q124, .ref q126, .ref q128, .ref q130, .null, .null, .null, .null, .null, .null, .null, .null, .null, .int 0, .null, .null, .null, .null, .int 0, .null, .null, .null, .null, .long 0, .long 0, .int 0, .null, .int 0, .int 0])), (q102, .inl (y103, 3000, .inl (fun _ => 0))), (q106, .inl (y107, 8, .inl (fun _ => 0))), (q108, .inl (y109, 24016, .inl (fun _ => 0))), (q110, .inl (y111, 8, .inl (fun _ => 0))), (q112, .inl (y113, 8, .inl (fun _ => 0))), (q114, .inl (y115, 8, .inl (fun _ => 0))), (q118, .inl (y119, 8, .inl (fun _ => 0)))] H := hP.sub [0, 1, 2, 3, 4, 5, 6, 7] rfl
  have hD : va_D A [(h0, .inr (11, [.int 0, .ref q102, .int 0, .int 0, .int 0, .int 0, .ref q104, .int 0, .ref q106, .ref q108, .ref q110, .ref q112, .ref q114, .ref q116, .ref q118, .ref q120, .ref q122, .ref q124, .ref q126, .ref q128, .ref q130, .null, .null, .null, .null, .null, .null, .null, .null, .null, .int 0, .null, .null, .null, .null, .int 0, .null, .null, .null, .null, .long 0, .long 0, .int 0, .null, .int 0, .int 0])), (q102, .inl (y103, 3000, .inl (fun _ => 0))), (q106, .inl (y107, 8, .inl (fun _ => 0))), (q108, .inl (y109, 24016, .inl (fun _ => 0))), (q110, .inl (y111, 8, .inl (fun _ => 0))), (q112, .inl (y113, 8, .inl (fun _ => 0))), (q114, .inl (y115, 8, .inl (fun _ => 0))), (q118, .inl (y119, 8, .inl (fun _ => 0)))] := hD.sub [0, 1, 2, 3, 4, 5, 6, 7] (by decide) rfl
  have hK : va_K (dC, dI) classes [(y103, .int), (y107, .boolean), (y109, .int), (y111, .int), (y113, .int), (y115, .int), (y119, .int)] s := hK.sub [0, 1, 2, 3, 4, 5, 6] rfl
  refine lv_aload_n hx hb dX12_init_134 rfl (lv_at hl 0 rfl) ?_
  refine lv_sipush (v := 1600) hx hb dX12_init_135 (by decide) ?_
  refine va_newa (atype := .int) (ty := .int) (N' := 1600) (a0 := (1600, .inl (fun _ => 0))) hx hb (hts _ wd_13) rfl hK hP hD hS hA (fun _ => rfl) (by decide) (by decide) (by decide) (Nat.le_of_ble_eq_true rfl) (Nat.le_of_ble_eq_true rfl) dX12_init_138 (fun q132 y133 H hK hP hD hS => ?_)
  have hK : va_K (dC, dI) classes [(y103, .int), (y107, .boolean), (y109, .int), (y111, .int), (y113, .int), (y115, .int), (y119, .int), (y133, .int)] s := hK
  have hP : va_P (dC, dI) classes [(h0, .inr (11, [.int 0, .ref q102, .int 0, .int 0, .int 0, .int 0, .ref q104, .int 0, .ref q106, .ref q108, .ref q110, .ref q112, .ref q114, .ref q116, .ref q118, .ref q120, .ref q122, .ref q124, .ref q126, .ref q128, .ref q130, .null, .null, .null, .null, .null, .null, .null, .null, .null, .int 0, .null, .null, .null, .null, .int 0, .null, .null, .null, .null, .long 0, .long 0, .int 0, .null, .int 0, .int 0])), (q102, .inl (y103, 3000, .inl (fun _ => 0))), (q106, .inl (y107, 8, .inl (fun _ => 0))), (q108, .inl (y109, 24016, .inl (fun _ => 0))), (q110, .inl (y111, 8, .inl (fun _ => 0))), (q112, .inl (y113, 8, .inl (fun _ => 0))), (q114, .inl (y115, 8, .inl (fun _ => 0))), (q118, .inl (y119, 8, .inl (fun _ => 0))), (q132, .inl (y133, 1600, .inl (fun _ => 0)))] H := hP
  have hD : va_D A [(h0, .inr (11, [.int 0, .ref q102, .int 0, .int 0, .int 0, .int 0, .ref q104, .int 0, .ref q106, .ref q108, .ref q110, .ref q112, .ref q114, .ref q116, .ref q118, .ref q120, .ref q122, .ref q124, .ref q126, .ref q128, .ref q130, .null, .null, .null, .null, .null, .null, .null, .null, .null, .int 0, .null, .null, .null, .null, .int 0, .null, .null, .null, .null, .long 0, .long 0, .int 0, .null, .int 0, .int 0])), (q102, .inl (y103, 3000, .inl (fun _ => 0))), (q106, .inl (y107, 8, .inl (fun _ => 0))), (q108, .inl (y109, 24016, .inl (fun _ => 0))), (q110, .inl (y111, 8, .inl (fun _ => 0))), (q112, .inl (y113, 8, .inl (fun _ => 0))), (q114, .inl (y115, 8, .inl (fun _ => 0))), (q118, .inl (y119, 8, .inl (fun _ => 0))), (q132, .inl (y133, 1600, .inl (fun _ => 0)))] := hD
  refine W.widen (k := 16) (n := 43338) (Nat.le_of_ble_eq_true rfl) (Nat.le_of_ble_eq_true rfl) ?_
  refine va_putF (D := (dC, dI)) (ci := 11) (v := .ref q132) (ty := (.array .int)) (C := RX12) (T := TX12) (N := 46) hx hb hts inX12 tyX12 tyX12_ok nmX12 hown hK hP hD hS 0 rfl rfl 21 (by decide) (hts _ wd_169) (fun _ h9 => h9) rfl hin rfl (by decide +kernel) rfl rfl (Nat.le_of_ble_eq_true rfl) dX12_init_140 (fun H locs hP hD hS => ?_)
  have hP : va_P (dC, dI) classes [(h0, .inr (11, [.int 0, .ref q102, .int 0, .int 0, .int 0, .int 0, .ref q104, .int 0, .ref q106, .ref q108, .ref q110, .ref q112, .ref q114, .ref q116, .ref q118, .ref q120, .ref q122, .ref q124, .ref q126, .ref q128, .ref q130, .ref q132, .null, .null, .null, .null, .null, .null, .null, .null, .int 0, .null, .null, .null, .null, .int 0, .null, .null, .null, .null, .long 0, .long 0, .int 0, .null, .int 0, .int 0])), (q102, .inl (y103, 3000, .inl (fun _ => 0))), (q106, .inl (y107, 8, .inl (fun _ => 0))), (q108, .inl (y109, 24016, .inl (fun _ => 0))), (q110, .inl (y111, 8, .inl (fun _ => 0))), (q112, .inl (y113, 8, .inl (fun _ => 0))), (q114, .inl (y115, 8, .inl (fun _ => 0))), (q118, .inl (y119, 8, .inl (fun _ => 0))), (q132, .inl (y133, 1600, .inl (fun _ => 0)))] H := hP
  have hD : va_D A [(h0, .inr (11, [.int 0, .ref q102, .int 0, .int 0, .int 0, .int 0, .ref q104, .int 0, .ref q106, .ref q108, .ref q110, .ref q112, .ref q114, .ref q116, .ref q118, .ref q120, .ref q122, .ref q124, .ref q126, .ref q128, .ref q130, .ref q132, .null, .null, .null, .null, .null, .null, .null, .null, .int 0, .null, .null, .null, .null, .int 0, .null, .null, .null, .null, .long 0, .long 0, .int 0, .null, .int 0, .int 0])), (q102, .inl (y103, 3000, .inl (fun _ => 0))), (q106, .inl (y107, 8, .inl (fun _ => 0))), (q108, .inl (y109, 24016, .inl (fun _ => 0))), (q110, .inl (y111, 8, .inl (fun _ => 0))), (q112, .inl (y113, 8, .inl (fun _ => 0))), (q114, .inl (y115, 8, .inl (fun _ => 0))), (q118, .inl (y119, 8, .inl (fun _ => 0))), (q132, .inl (y133, 1600, .inl (fun _ => 0)))] := hD
  have hP : va_P (dC, dI) classes [(h0, .inr (11, [.int 0, .ref q102, .int 0, .int 0, .int 0, .int 0, .ref q104, .int 0, .ref q106, .ref q108, .ref q110, .ref q112, .ref q114, .ref q116, .ref q118, .ref q120, .ref q122, .ref q124, .ref q126, .ref q128, .ref q130, .ref q132, .null, .null, .null, .null, .null, .null, .null, .null, .int 0, .null, .null, .null, .null, .int 0, .null, .null, .null, .null, .long 0, .long 0, .int 0, .null, .int 0, .int 0])), (q102, .inl (y103, 3000, .inl (fun _ => 0))), (q106, .inl (y107, 8, .inl (fun _ => 0))), (q108, .inl (y109, 24016, .inl (fun _ => 0))), (q110, .inl (y111, 8, .inl (fun _ => 0))), (q112, .inl (y113, 8, .inl (fun _ => 0))), (q114, .inl (y115, 8, .inl (fun _ => 0))), (q118, .inl (y119, 8, .inl (fun _ => 0)))] H := hP.sub [0, 1, 2, 3, 4, 5, 6, 7] rfl
  have hD : va_D A [(h0, .inr (11, [.int 0, .ref q102, .int 0, .int 0, .int 0, .int 0, .ref q104, .int 0, .ref q106, .ref q108, .ref q110, .ref q112, .ref q114, .ref q116, .ref q118, .ref q120, .ref q122, .ref q124, .ref q126, .ref q128, .ref q130, .ref q132, .null, .null, .null, .null, .null, .null, .null, .null, .int 0, .null, .null, .null, .null, .int 0, .null, .null, .null, .null, .long 0, .long 0, .int 0, .null, .int 0, .int 0])), (q102, .inl (y103, 3000, .inl (fun _ => 0))), (q106, .inl (y107, 8, .inl (fun _ => 0))), (q108, .inl (y109, 24016, .inl (fun _ => 0))), (q110, .inl (y111, 8, .inl (fun _ => 0))), (q112, .inl (y113, 8, .inl (fun _ => 0))), (q114, .inl (y115, 8, .inl (fun _ => 0))), (q118, .inl (y119, 8, .inl (fun _ => 0)))] := hD.sub [0, 1, 2, 3, 4, 5, 6, 7] (by decide) rfl
  have hK : va_K (dC, dI) classes [(y103, .int), (y107, .boolean), (y109, .int), (y111, .int), (y113, .int), (y115, .int), (y119, .int)] s := hK.sub [0, 1, 2, 3, 4, 5, 6] rfl
  refine lv_aload_n hx hb dX12_init_143 rfl (lv_at hl 0 rfl) ?_
  refine lv_sipush (v := 1608) hx hb dX12_init_144 (by decide) ?_
  refine va_newa (atype := .long) (ty := .long) (N' := 1608) (a0 := (1608, .inr (.inl (fun _ => 0)))) hx hb (hts _ wd_160) rfl hK hP hD hS hA (fun _ => rfl) (by decide) (by decide) (by decide) (Nat.le_of_ble_eq_true rfl) (Nat.le_of_ble_eq_true rfl) dX12_init_147 (fun q134 y135 H hK hP hD hS => ?_)
  have hK : va_K (dC, dI) classes [(y103, .int), (y107, .boolean), (y109, .int), (y111, .int), (y113, .int), (y115, .int), (y119, .int), (y135, .long)] s := hK
  have hP : va_P (dC, dI) classes [(h0, .inr (11, [.int 0, .ref q102, .int 0, .int 0, .int 0, .int 0, .ref q104, .int 0, .ref q106, .ref q108, .ref q110, .ref q112, .ref q114, .ref q116, .ref q118, .ref q120, .ref q122, .ref q124, .ref q126, .ref q128, .ref q130, .ref q132, .null, .null, .null, .null, .null, .null, .null, .null, .int 0, .null, .null, .null, .null, .int 0, .null, .null, .null, .null, .long 0, .long 0, .int 0, .null, .int 0, .int 0])), (q102, .inl (y103, 3000, .inl (fun _ => 0))), (q106, .inl (y107, 8, .inl (fun _ => 0))), (q108, .inl (y109, 24016, .inl (fun _ => 0))), (q110, .inl (y111, 8, .inl (fun _ => 0))), (q112, .inl (y113, 8, .inl (fun _ => 0))), (q114, .inl (y115, 8, .inl (fun _ => 0))), (q118, .inl (y119, 8, .inl (fun _ => 0))), (q134, .inl (y135, 1608, .inr (.inl (fun _ => 0))))] H := hP
  have hD : va_D A [(h0, .inr (11, [.int 0, .ref q102, .int 0, .int 0, .int 0, .int 0, .ref q104, .int 0, .ref q106, .ref q108, .ref q110, .ref q112, .ref q114, .ref q116, .ref q118, .ref q120, .ref q122, .ref q124, .ref q126, .ref q128, .ref q130, .ref q132, .null, .null, .null, .null, .null, .null, .null, .null, .int 0, .null, .null, .null, .null, .int 0, .null, .null, .null, .null, .long 0, .long 0, .int 0, .null, .int 0, .int 0])), (q102, .inl (y103, 3000, .inl (fun _ => 0))), (q106, .inl (y107, 8, .inl (fun _ => 0))), (q108, .inl (y109, 24016, .inl (fun _ => 0))), (q110, .inl (y111, 8, .inl (fun _ => 0))), (q112, .inl (y113, 8, .inl (fun _ => 0))), (q114, .inl (y115, 8, .inl (fun _ => 0))), (q118, .inl (y119, 8, .inl (fun _ => 0))), (q134, .inl (y135, 1608, .inr (.inl (fun _ => 0))))] := hD
  refine W.widen (k := 17) (n := 44946) (Nat.le_of_ble_eq_true rfl) (Nat.le_of_ble_eq_true rfl) ?_
  refine va_putF (D := (dC, dI)) (ci := 11) (v := .ref q134) (ty := (.array .long)) (C := RX12) (T := TX12) (N := 46) hx hb hts inX12 tyX12 tyX12_ok nmX12 hown hK hP hD hS 0 rfl rfl 22 (by decide) (hts _ wd_170) (fun _ h9 => h9) rfl hin rfl (by decide +kernel) rfl rfl (Nat.le_of_ble_eq_true rfl) dX12_init_149 (fun H locs hP hD hS => ?_)
  have hP : va_P (dC, dI) classes [(h0, .inr (11, [.int 0, .ref q102, .int 0, .int 0, .int 0, .int 0, .ref q104, .int 0, .ref q106, .ref q108, .ref q110, .ref q112, .ref q114, .ref q116, .ref q118, .ref q120, .ref q122, .ref q124, .ref q126, .ref q128, .ref q130, .ref q132, .ref q134, .null, .null, .null, .null, .null, .null, .null, .int 0, .null, .null, .null, .null, .int 0, .null, .null, .null, .null, .long 0, .long 0, .int 0, .null, .int 0, .int 0])), (q102, .inl (y103, 3000, .inl (fun _ => 0))), (q106, .inl (y107, 8, .inl (fun _ => 0))), (q108, .inl (y109, 24016, .inl (fun _ => 0))), (q110, .inl (y111, 8, .inl (fun _ => 0))), (q112, .inl (y113, 8, .inl (fun _ => 0))), (q114, .inl (y115, 8, .inl (fun _ => 0))), (q118, .inl (y119, 8, .inl (fun _ => 0))), (q134, .inl (y135, 1608, .inr (.inl (fun _ => 0))))] H := hP
  have hD : va_D A [(h0, .inr (11, [.int 0, .ref q102, .int 0, .int 0, .int 0, .int 0, .ref q104, .int 0, .ref q106, .ref q108, .ref q110, .ref q112, .ref q114, .ref q116, .ref q118, .ref q120, .ref q122, .ref q124, .ref q126, .ref q128, .ref q130, .ref q132, .ref q134, .null, .null, .null, .null, .null, .null, .null, .int 0, .null, .null, .null, .null, .int 0, .null, .null, .null, .null, .long 0, .long 0, .int 0, .null, .int 0, .int 0])), (q102, .inl (y103, 3000, .inl (fun _ => 0))), (q106, .inl (y107, 8, .inl (fun _ => 0))), (q108, .inl (y109, 24016, .inl (fun _ => 0))), (q110, .inl (y111, 8, .inl (fun _ => 0))), (q112, .inl (y113, 8, .inl (fun _ => 0))), (q114, .inl (y115, 8, .inl (fun _ => 0))), (q118, .inl (y119, 8, .inl (fun _ => 0))), (q134, .inl (y135, 1608, .inr (.inl (fun _ => 0))))] := hD
  refine lv_aload_n hx hb dX12_init_152 rfl (lv_at hl 0 rfl) ?_
  refine lv_sipush (v := 1608) hx hb dX12_init_153 (by decide) ?_
  refine va_newa (atype := .long) (ty := .long) (N' := 1608) (a0 := (1608, .inr (.inl (fun _ => 0)))) hx hb (hts _ wd_160) rfl hK hP hD hS hA (fun _ => rfl) (by decide) (by decide) (by decide) (Nat.le_of_ble_eq_true rfl) (Nat.le_of_ble_eq_true rfl) dX12_init_156 (fun q136 y137 H hK hP hD hS => ?_)
  have hK : va_K (dC, dI) classes [(y103, .int), (y107, .boolean), (y109, .int), (y111, .int), (y113, .int), (y115, .int), (y119, .int), (y135, .long), (y137, .long)] s := hK
  have hP : va_P (dC, dI) classes [(h0, .inr (11, [.int 0, .ref q102, .int 0, .int 0, .int 0, .int 0, .ref q104, .int 0, .ref q106, .ref q108, .ref q110, .ref q112, .ref q114, .ref q116, .ref q118, .ref q120, .ref q122, .ref q124, .ref q126, .ref q128, .ref q130, .ref q132, .ref q134, .null, .null, .null, .null, .null, .null, .null, .int 0, .null, .null, .null, .null, .int 0, .null, .null, .null, .null, .long 0, .long 0, .int 0, .null, .int 0, .int 0])), (q102, .inl (y103, 3000, .inl (fun _ => 0))), (q106, .inl (y107, 8, .inl (fun _ => 0))), (q108, .inl (y109, 24016, .inl (fun _ => 0))), (q110, .inl (y111, 8, .inl (fun _ => 0))), (q112, .inl (y113, 8, .inl (fun _ => 0))), (q114, .inl (y115, 8, .inl (fun _ => 0))), (q118, .inl (y119, 8, .inl (fun _ => 0))), (q134, .inl (y135, 1608, .inr (.inl (fun _ => 0)))), (q136, .inl (y137, 1608, .inr (.inl (fun _ => 0))))] H := hP
  have hD : va_D A [(h0, .inr (11, [.int 0, .ref q102, .int 0, .int 0, .int 0, .int 0, .ref q104, .int 0, .ref q106, .ref q108, .ref q110, .ref q112, .ref q114, .ref q116, .ref q118, .ref q120, .ref q122, .ref q124, .ref q126, .ref q128, .ref q130, .ref q132, .ref q134, .null, .null, .null, .null, .null, .null, .null, .int 0, .null, .null, .null, .null, .int 0, .null, .null, .null, .null, .long 0, .long 0, .int 0, .null, .int 0, .int 0])), (q102, .inl (y103, 3000, .inl (fun _ => 0))), (q106, .inl (y107, 8, .inl (fun _ => 0))), (q108, .inl (y109, 24016, .inl (fun _ => 0))), (q110, .inl (y111, 8, .inl (fun _ => 0))), (q112, .inl (y113, 8, .inl (fun _ => 0))), (q114, .inl (y115, 8, .inl (fun _ => 0))), (q118, .inl (y119, 8, .inl (fun _ => 0))), (q134, .inl (y135, 1608, .inr (.inl (fun _ => 0)))), (q136, .inl (y137, 1608, .inr (.inl (fun _ => 0))))] := hD
  refine W.widen (k := 18) (n := 46554) (Nat.le_of_ble_eq_true rfl) (Nat.le_of_ble_eq_true rfl) ?_
  refine va_putF (D := (dC, dI)) (ci := 11) (v := .ref q136) (ty := (.array .long)) (C := RX12) (T := TX12) (N := 46) hx hb hts inX12 tyX12 tyX12_ok nmX12 hown hK hP hD hS 0 rfl rfl 23 (by decide) (hts _ wd_171) (fun _ h9 => h9) rfl hin rfl (by decide +kernel) rfl rfl (Nat.le_of_ble_eq_true rfl) dX12_init_158 (fun H locs hP hD hS => ?_)
  have hP : va_P (dC, dI) classes [(h0, .inr (11, [.int 0, .ref q102, .int 0, .int 0, .int 0, .int 0, .ref q104, .int 0, .ref q106, .ref q108, .ref q110, .ref q112, .ref q114, .ref q116, .ref q118, .ref q120, .ref q122, .ref q124, .ref q126, .ref q128, .ref q130, .ref q132, .ref q134, .ref q136, .null, .null, .null, .null, .null, .null, .int 0, .null, .null, .null, .null, .int 0, .null, .null, .null, .null, .long 0, .long 0, .int 0, .null, .int 0, .int 0])), (q102, .inl (y103, 3000, .inl (fun _ => 0))), (q106, .inl (y107, 8, .inl (fun _ => 0))), (q108, .inl (y109, 24016, .inl (fun _ => 0))), (q110, .inl (y111, 8, .inl (fun _ => 0))), (q112, .inl (y113, 8, .inl (fun _ => 0))), (q114, .inl (y115, 8, .inl (fun _ => 0))), (q118, .inl (y119, 8, .inl (fun _ => 0))), (q134, .inl (y135, 1608, .inr (.inl (fun _ => 0)))), (q136, .inl (y137, 1608, .inr (.inl (fun _ => 0))))] H := hP
  have hD : va_D A [(h0, .inr (11, [.int 0, .ref q102, .int 0, .int 0, .int 0, .int 0, .ref q104, .int 0, .ref q106, .ref q108, .ref q110, .ref q112, .ref q114, .ref q116, .ref q118, .ref q120, .ref q122, .ref q124, .ref q126, .ref q128, .ref q130, .ref q132, .ref q134, .ref q136, .null, .null, .null, .null, .null, .null, .int 0, .null, .null, .null, .null, .int 0, .null, .null, .null, .null, .long 0, .long 0, .int 0, .null, .int 0, .int 0])), (q102, .inl (y103, 3000, .inl (fun _ => 0))), (q106, .inl (y107, 8, .inl (fun _ => 0))), (q108, .inl (y109, 24016, .inl (fun _ => 0))), (q110, .inl (y111, 8, .inl (fun _ => 0))), (q112, .inl (y113, 8, .inl (fun _ => 0))), (q114, .inl (y115, 8, .inl (fun _ => 0))), (q118, .inl (y119, 8, .inl (fun _ => 0))), (q134, .inl (y135, 1608, .inr (.inl (fun _ => 0)))), (q136, .inl (y137, 1608, .inr (.inl (fun _ => 0))))] := hD
  refine lv_aload_n hx hb dX12_init_161 rfl (lv_at hl 0 rfl) ?_
  refine lv_sipush (v := 19200) hx hb dX12_init_162 (by decide) ?_
  refine va_newa (atype := .int) (ty := .int) (N' := 19200) (a0 := (19200, .inl (fun _ => 0))) hx hb (hts _ wd_13) rfl hK hP hD hS hA (fun _ => rfl) (by decide) (by decide) (by decide) (Nat.le_of_ble_eq_true rfl) (Nat.le_of_ble_eq_true rfl) dX12_init_165 (fun q138 y139 H hK hP hD hS => ?_)
  have hK : va_K (dC, dI) classes [(y103, .int), (y107, .boolean), (y109, .int), (y111, .int), (y113, .int), (y115, .int), (y119, .int), (y135, .long), (y137, .long), (y139, .int)] s := hK
  have hP : va_P (dC, dI) classes [(h0, .inr (11, [.int 0, .ref q102, .int 0, .int 0, .int 0, .int 0, .ref q104, .int 0, .ref q106, .ref q108, .ref q110, .ref q112, .ref q114, .ref q116, .ref q118, .ref q120, .ref q122, .ref q124, .ref q126, .ref q128, .ref q130, .ref q132, .ref q134, .ref q136, .null, .null, .null, .null, .null, .null, .int 0, .null, .null, .null, .null, .int 0, .null, .null, .null, .null, .long 0, .long 0, .int 0, .null, .int 0, .int 0])), (q102, .inl (y103, 3000, .inl (fun _ => 0))), (q106, .inl (y107, 8, .inl (fun _ => 0))), (q108, .inl (y109, 24016, .inl (fun _ => 0))), (q110, .inl (y111, 8, .inl (fun _ => 0))), (q112, .inl (y113, 8, .inl (fun _ => 0))), (q114, .inl (y115, 8, .inl (fun _ => 0))), (q118, .inl (y119, 8, .inl (fun _ => 0))), (q134, .inl (y135, 1608, .inr (.inl (fun _ => 0)))), (q136, .inl (y137, 1608, .inr (.inl (fun _ => 0)))), (q138, .inl (y139, 19200, .inl (fun _ => 0)))] H := hP
  have hD : va_D A [(h0, .inr (11, [.int 0, .ref q102, .int 0, .int 0, .int 0, .int 0, .ref q104, .int 0, .ref q106, .ref q108, .ref q110, .ref q112, .ref q114, .ref q116, .ref q118, .ref q120, .ref q122, .ref q124, .ref q126, .ref q128, .ref q130, .ref q132, .ref q134, .ref q136, .null, .null, .null, .null, .null, .null, .int 0, .null, .null, .null, .null, .int 0, .null, .null, .null, .null, .long 0, .long 0, .int 0, .null, .int 0, .int 0])), (q102, .inl (y103, 3000, .inl (fun _ => 0))), (q106, .inl (y107, 8, .inl (fun _ => 0))), (q108, .inl (y109, 24016, .inl (fun _ => 0))), (q110, .inl (y111, 8, .inl (fun _ => 0))), (q112, .inl (y113, 8, .inl (fun _ => 0))), (q114, .inl (y115, 8, .inl (fun _ => 0))), (q118, .inl (y119, 8, .inl (fun _ => 0))), (q134, .inl (y135, 1608, .inr (.inl (fun _ => 0)))), (q136, .inl (y137, 1608, .inr (.inl (fun _ => 0)))), (q138, .inl (y139, 19200, .inl (fun _ => 0)))] := hD
  refine W.widen (k := 19) (n := 65754) (Nat.le_of_ble_eq_true rfl) (Nat.le_of_ble_eq_true rfl) ?_
  refine va_putF (D := (dC, dI)) (ci := 11) (v := .ref q138) (ty := (.array .int)) (C := RX12) (T := TX12) (N := 46) hx hb hts inX12 tyX12 tyX12_ok nmX12 hown hK hP hD hS 0 rfl rfl 24 (by decide) (hts _ wd_172) (fun _ h9 => h9) rfl hin rfl (by decide +kernel) rfl rfl (Nat.le_of_ble_eq_true rfl) dX12_init_167 (fun H locs hP hD hS => ?_)
  have hP : va_P (dC, dI) classes [(h0, .inr (11, [.int 0, .ref q102, .int 0, .int 0, .int 0, .int 0, .ref q104, .int 0, .ref q106, .ref q108, .ref q110, .ref q112, .ref q114, .ref q116, .ref q118, .ref q120, .ref q122, .ref q124, .ref q126, .ref q128, .ref q130, .ref q132, .ref q134, .ref q136, .ref q138, .null, .null, .null, .null, .null, .int 0, .null, .null, .null, .null, .int 0, .null, .null, .null, .null, .long 0, .long 0, .int 0, .null, .int 0, .int 0])), (q102, .inl (y103, 3000, .inl (fun _ => 0))), (q106, .inl (y107, 8, .inl (fun _ => 0))), (q108, .inl (y109, 24016, .inl (fun _ => 0))), (q110, .inl (y111, 8, .inl (fun _ => 0))), (q112, .inl (y113, 8, .inl (fun _ => 0))), (q114, .inl (y115, 8, .inl (fun _ => 0))), (q118, .inl (y119, 8, .inl (fun _ => 0))), (q134, .inl (y135, 1608, .inr (.inl (fun _ => 0)))), (q136, .inl (y137, 1608, .inr (.inl (fun _ => 0)))), (q138, .inl (y139, 19200, .inl (fun _ => 0)))] H := hP
  have hD : va_D A [(h0, .inr (11, [.int 0, .ref q102, .int 0, .int 0, .int 0, .int 0, .ref q104, .int 0, .ref q106, .ref q108, .ref q110, .ref q112, .ref q114, .ref q116, .ref q118, .ref q120, .ref q122, .ref q124, .ref q126, .ref q128, .ref q130, .ref q132, .ref q134, .ref q136, .ref q138, .null, .null, .null, .null, .null, .int 0, .null, .null, .null, .null, .int 0, .null, .null, .null, .null, .long 0, .long 0, .int 0, .null, .int 0, .int 0])), (q102, .inl (y103, 3000, .inl (fun _ => 0))), (q106, .inl (y107, 8, .inl (fun _ => 0))), (q108, .inl (y109, 24016, .inl (fun _ => 0))), (q110, .inl (y111, 8, .inl (fun _ => 0))), (q112, .inl (y113, 8, .inl (fun _ => 0))), (q114, .inl (y115, 8, .inl (fun _ => 0))), (q118, .inl (y119, 8, .inl (fun _ => 0))), (q134, .inl (y135, 1608, .inr (.inl (fun _ => 0)))), (q136, .inl (y137, 1608, .inr (.inl (fun _ => 0)))), (q138, .inl (y139, 19200, .inl (fun _ => 0)))] := hD
  have hP : va_P (dC, dI) classes [(h0, .inr (11, [.int 0, .ref q102, .int 0, .int 0, .int 0, .int 0, .ref q104, .int 0, .ref q106, .ref q108, .ref q110, .ref q112, .ref q114, .ref q116, .ref q118, .ref q120, .ref q122, .ref q124, .ref q126, .ref q128, .ref q130, .ref q132, .ref q134, .ref q136, .ref q138, .null, .null, .null, .null, .null, .int 0, .null, .null, .null, .null, .int 0, .null, .null, .null, .null, .long 0, .long 0, .int 0, .null, .int 0, .int 0])), (q102, .inl (y103, 3000, .inl (fun _ => 0))), (q106, .inl (y107, 8, .inl (fun _ => 0))), (q108, .inl (y109, 24016, .inl (fun _ => 0))), (q110, .inl (y111, 8, .inl (fun _ => 0))), (q112, .inl (y113, 8, .inl (fun _ => 0))), (q114, .inl (y115, 8, .inl (fun _ => 0))), (q118, .inl (y119, 8, .inl (fun _ => 0))), (q134, .inl (y135, 1608, .inr (.inl (fun _ => 0)))), (q136, .inl (y137, 1608, .inr (.inl (fun _ => 0))))] H := hP.sub [0, 1, 2, 3, 4, 5, 6, 7, 8, 9] rfl
  have hD : va_D A [(h0, .inr (11, [.int 0, .ref q102, .int 0, .int 0, .int 0, .int 0, .ref q104, .int 0, .ref q106, .ref q108, .ref q110, .ref q112, .ref q114, .ref q116, .ref q118, .ref q120, .ref q122, .ref q124, .ref q126, .ref q128, .ref q130, .ref q132, .ref q134, .ref q136, .ref q138, .null, .null, .null, .null, .null, .int 0, .null, .null, .null, .null, .int 0, .null, .null, .null, .null, .long 0, .long 0, .int 0, .null, .int 0, .int 0])), (q102, .inl (y103, 3000, .inl (fun _ => 0))), (q106, .inl (y107, 8, .inl (fun _ => 0))), (q108, .inl (y109, 24016, .inl (fun _ => 0))), (q110, .inl (y111, 8, .inl (fun _ => 0))), (q112, .inl (y113, 8, .inl (fun _ => 0))), (q114, .inl (y115, 8, .inl (fun _ => 0))), (q118, .inl (y119, 8, .inl (fun _ => 0))), (q134, .inl (y135, 1608, .inr (.inl (fun _ => 0)))), (q136, .inl (y137, 1608, .inr (.inl (fun _ => 0))))] := hD.sub [0, 1, 2, 3, 4, 5, 6, 7, 8, 9] (by decide) rfl
  have hK : va_K (dC, dI) classes [(y103, .int), (y107, .boolean), (y109, .int), (y111, .int), (y113, .int), (y115, .int), (y119, .int), (y135, .long), (y137, .long)] s := hK.sub [0, 1, 2, 3, 4, 5, 6, 7, 8] rfl
  refine lv_aload_n hx hb dX12_init_170 rfl (lv_at hl 0 rfl) ?_
  refine lv_sipush (v := 19200) hx hb dX12_init_171 (by decide) ?_
  refine va_newa (atype := .int) (ty := .int) (N' := 19200) (a0 := (19200, .inl (fun _ => 0))) hx hb (hts _ wd_13) rfl hK hP hD hS hA (fun _ => rfl) (by decide) (by decide) (by decide) (Nat.le_of_ble_eq_true rfl) (Nat.le_of_ble_eq_true rfl) dX12_init_174 (fun q140 y141 H hK hP hD hS => ?_)
  have hK : va_K (dC, dI) classes [(y103, .int), (y107, .boolean), (y109, .int), (y111, .int), (y113, .int), (y115, .int), (y119, .int), (y135, .long), (y137, .long), (y141, .int)] s := hK
  have hP : va_P (dC, dI) classes [(h0, .inr (11, [.int 0, .ref q102, .int 0, .int 0, .int 0, .int 0, .ref q104, .int 0, .ref q106, .ref q108, .ref q110, .ref q112, .ref q114, .ref q116, .ref q118, .ref q120, .ref q122, .ref q124, .ref q126, .ref q128, .ref q130, .ref q132, .ref q134, .ref q136, .ref q138, .null, .null, .null, .null, .null, .int 0, .null, .null, .null, .null, .int 0, .null, .null, .null, .null, .long 0, .long 0, .int 0, .null, .int 0, .int 0])), (q102, .inl (y103, 3000, .inl (fun _ => 0))), (q106, .inl (y107, 8, .inl (fun _ => 0))), (q108, .inl (y109, 24016, .inl (fun _ => 0))), (q110, .inl (y111, 8, .inl (fun _ => 0))), (q112, .inl (y113, 8, .inl (fun _ => 0))), (q114, .inl (y115, 8, .inl (fun _ => 0))), (q118, .inl (y119, 8, .inl (fun _ => 0))), (q134, .inl (y135, 1608, .inr (.inl (fun _ => 0)))), (q136, .inl (y137, 1608, .inr (.inl (fun _ => 0)))), (q140, .inl (y141, 19200, .inl (fun _ => 0)))] H := hP
  have hD : va_D A [(h0, .inr (11, [.int 0, .ref q102, .int 0, .int 0, .int 0, .int 0, .ref q104, .int 0, .ref q106, .ref q108, .ref q110, .ref q112, .ref q114, .ref q116, .ref q118, .ref q120, .ref q122, .ref q124, .ref q126, .ref q128, .ref q130, .ref q132, .ref q134, .ref q136, .ref q138, .null, .null, .null, .null, .null, .int 0, .null, .null, .null, .null, .int 0, .null, .null, .null, .null, .long 0, .long 0, .int 0, .null, .int 0, .int 0])), (q102, .inl (y103, 3000, .inl (fun _ => 0))), (q106, .inl (y107, 8, .inl (fun _ => 0))), (q108, .inl (y109, 24016, .inl (fun _ => 0))), (q110, .inl (y111, 8, .inl (fun _ => 0))), (q112, .inl (y113, 8, .inl (fun _ => 0))), (q114, .inl (y115, 8, .inl (fun _ => 0))), (q118, .inl (y119, 8, .inl (fun _ => 0))), (q134, .inl (y135, 1608, .inr (.inl (fun _ => 0)))), (q136, .inl (y137, 1608, .inr (.inl (fun _ => 0)))), (q140, .inl (y141, 19200, .inl (fun _ => 0)))] := hD
  refine W.widen (k := 20) (n := 84954) (Nat.le_of_ble_eq_true rfl) (Nat.le_of_ble_eq_true rfl) ?_
  refine va_putF (D := (dC, dI)) (ci := 11) (v := .ref q140) (ty := (.array .int)) (C := RX12) (T := TX12) (N := 46) hx hb hts inX12 tyX12 tyX12_ok nmX12 hown hK hP hD hS 0 rfl rfl 25 (by decide) (hts _ wd_173) (fun _ h9 => h9) rfl hin rfl (by decide +kernel) rfl rfl (Nat.le_of_ble_eq_true rfl) dX12_init_176 (fun H locs hP hD hS => ?_)
  have hP : va_P (dC, dI) classes [(h0, .inr (11, [.int 0, .ref q102, .int 0, .int 0, .int 0, .int 0, .ref q104, .int 0, .ref q106, .ref q108, .ref q110, .ref q112, .ref q114, .ref q116, .ref q118, .ref q120, .ref q122, .ref q124, .ref q126, .ref q128, .ref q130, .ref q132, .ref q134, .ref q136, .ref q138, .ref q140, .null, .null, .null, .null, .int 0, .null, .null, .null, .null, .int 0, .null, .null, .null, .null, .long 0, .long 0, .int 0, .null, .int 0, .int 0])), (q102, .inl (y103, 3000, .inl (fun _ => 0))), (q106, .inl (y107, 8, .inl (fun _ => 0))), (q108, .inl (y109, 24016, .inl (fun _ => 0))), (q110, .inl (y111, 8, .inl (fun _ => 0))), (q112, .inl (y113, 8, .inl (fun _ => 0))), (q114, .inl (y115, 8, .inl (fun _ => 0))), (q118, .inl (y119, 8, .inl (fun _ => 0))), (q134, .inl (y135, 1608, .inr (.inl (fun _ => 0)))), (q136, .inl (y137, 1608, .inr (.inl (fun _ => 0)))), (q140, .inl (y141, 19200, .inl (fun _ => 0)))] H := hP
  have hD : va_D A [(h0, .inr (11, [.int 0, .ref q102, .int 0, .int 0, .int 0, .int 0, .ref q104, .int 0, .ref q106, .ref q108, .ref q110, .ref q112, .ref q114, .ref q116, .ref q118, .ref q120, .ref q122, .ref q124, .ref q126, .ref q128, .ref q130, .ref q132, .ref q134, .ref q136, .ref q138, .ref q140, .null, .null, .null, .null, .int 0, .null, .null, .null, .null, .int 0, .null, .null, .null, .null, .long 0, .long 0, .int 0, .null, .int 0, .int 0])), (q102, .inl (y103, 3000, .inl (fun _ => 0))), (q106, .inl (y107, 8, .inl (fun _ => 0))), (q108, .inl (y109, 24016, .inl (fun _ => 0))), (q110, .inl (y111, 8, .inl (fun _ => 0))), (q112, .inl (y113, 8, .inl (fun _ => 0))), (q114, .inl (y115, 8, .inl (fun _ => 0))), (q118, .inl (y119, 8, .inl (fun _ => 0))), (q134, .inl (y135, 1608, .inr (.inl (fun _ => 0)))), (q136, .inl (y137, 1608, .inr (.inl (fun _ => 0)))), (q140, .inl (y141, 19200, .inl (fun _ => 0)))] := hD
  have hP : va_P (dC, dI) classes [(h0, .inr (11, [.int 0, .ref q102, .int 0, .int 0, .int 0, .int 0, .ref q104, .int 0, .ref q106, .ref q108, .ref q110, .ref q112, .ref q114, .ref q116, .ref q118, .ref q120, .ref q122, .ref q124, .ref q126, .ref q128, .ref q130, .ref q132, .ref q134, .ref q136, .ref q138, .ref q140, .null, .null, .null, .null, .int 0, .null, .null, .null, .null, .int 0, .null, .null, .null, .null, .long 0, .long 0, .int 0, .null, .int 0, .int 0])), (q102, .inl (y103, 3000, .inl (fun _ => 0))), (q106, .inl (y107, 8, .inl (fun _ => 0))), (q108, .inl (y109, 24016, .inl (fun _ => 0))), (q110, .inl (y111, 8, .inl (fun _ => 0))), (q112, .inl (y113, 8, .inl (fun _ => 0))), (q114, .inl (y115, 8, .inl (fun _ => 0))), (q118, .inl (y119, 8, .inl (fun _ => 0))), (q134, .inl (y135, 1608, .inr (.inl (fun _ => 0)))), (q136, .inl (y137, 1608, .inr (.inl (fun _ => 0))))] H := hP.sub [0, 1, 2, 3, 4, 5, 6, 7, 8, 9] rfl
  have hD : va_D A [(h0, .inr (11, [.int 0, .ref q102, .int 0, .int 0, .int 0, .int 0, .ref q104, .int 0, .ref q106, .ref q108, .ref q110, .ref q112, .ref q114, .ref q116, .ref q118, .ref q120, .ref q122, .ref q124, .ref q126, .ref q128, .ref q130, .ref q132, .ref q134, .ref q136, .ref q138, .ref q140, .null, .null, .null, .null, .int 0, .null, .null, .null, .null, .int 0, .null, .null, .null, .null, .long 0, .long 0, .int 0, .null, .int 0, .int 0])), (q102, .inl (y103, 3000, .inl (fun _ => 0))), (q106, .inl (y107, 8, .inl (fun _ => 0))), (q108, .inl (y109, 24016, .inl (fun _ => 0))), (q110, .inl (y111, 8, .inl (fun _ => 0))), (q112, .inl (y113, 8, .inl (fun _ => 0))), (q114, .inl (y115, 8, .inl (fun _ => 0))), (q118, .inl (y119, 8, .inl (fun _ => 0))), (q134, .inl (y135, 1608, .inr (.inl (fun _ => 0)))), (q136, .inl (y137, 1608, .inr (.inl (fun _ => 0))))] := hD.sub [0, 1, 2, 3, 4, 5, 6, 7, 8, 9] (by decide) rfl
  have hK : va_K (dC, dI) classes [(y103, .int), (y107, .boolean), (y109, .int), (y111, .int), (y113, .int), (y115, .int), (y119, .int), (y135, .long), (y137, .long)] s := hK.sub [0, 1, 2, 3, 4, 5, 6, 7, 8] rfl
  refine lv_aload_n hx hb dX12_init_179 rfl (lv_at hl 0 rfl) ?_
  refine lv_sipush (v := 19200) hx hb dX12_init_180 (by decide) ?_
  refine va_newa (atype := .int) (ty := .int) (N' := 19200) (a0 := (19200, .inl (fun _ => 0))) hx hb (hts _ wd_13) rfl hK hP hD hS hA (fun _ => rfl) (by decide) (by decide) (by decide) (Nat.le_of_ble_eq_true rfl) (Nat.le_of_ble_eq_true rfl) dX12_init_183 (fun q142 y143 H hK hP hD hS => ?_)
  have hK : va_K (dC, dI) classes [(y103, .int), (y107, .boolean), (y109, .int), (y111, .int), (y113, .int), (y115, .int), (y119, .int), (y135, .long), (y137, .long), (y143, .int)] s := hK
  have hP : va_P (dC, dI) classes [(h0, .inr (11, [.int 0, .ref q102, .int 0, .int 0, .int 0, .int 0, .ref q104, .int 0, .ref q106, .ref q108, .ref q110, .ref q112, .ref q114, .ref q116, .ref q118, .ref q120, .ref q122, .ref q124, .ref q126, .ref q128, .ref q130, .ref q132, .ref q134, .ref q136, .ref q138, .ref q140, .null, .null, .null, .null, .int 0, .null, .null, .null, .null, .int 0, .null, .null, .null, .null, .long 0, .long 0, .int 0, .null, .int 0, .int 0])), (q102, .inl (y103, 3000, .inl (fun _ => 0))), (q106, .inl (y107, 8, .inl (fun _ => 0))), (q108, .inl (y109, 24016, .inl (fun _ => 0))), (q110, .inl (y111, 8, .inl (fun _ => 0))), (q112, .inl (y113, 8, .inl (fun _ => 0))), (q114, .inl (y115, 8, .inl (fun _ => 0))), (q118, .inl (y119, 8, .inl (fun _ => 0))), (q134, .inl (y135, 1608, .inr (.inl (fun _ => 0)))), (q136, .inl (y137, 1608, .inr (.inl (fun _ => 0)))), (q142, .inl (y143, 19200, .inl (fun _ => 0)))] H := hP
  have hD : va_D A [(h0, .inr (11, [.int 0, .ref q102, .int 0, .int 0, .int 0, .int 0, .ref q104, .int 0, .ref q106, .ref q108, .ref q110, .ref q112, .ref q114, .ref q116, .ref q118, .ref q120, .ref q122, .ref q124, .ref q126, .ref q128, .ref q130, .ref q132, .ref q134, .ref q136, .ref q138, .ref q140, .null, .null, .null, .null, .int 0, .null, .null, .null, .null, .int 0, .null, .null, .null, .null, .long 0, .long 0, .int 0, .null, .int 0, .int 0])), (q102, .inl (y103, 3000, .inl (fun _ => 0))), (q106, .inl (y107, 8, .inl (fun _ => 0))), (q108, .inl (y109, 24016, .inl (fun _ => 0))), (q110, .inl (y111, 8, .inl (fun _ => 0))), (q112, .inl (y113, 8, .inl (fun _ => 0))), (q114, .inl (y115, 8, .inl (fun _ => 0))), (q118, .inl (y119, 8, .inl (fun _ => 0))), (q134, .inl (y135, 1608, .inr (.inl (fun _ => 0)))), (q136, .inl (y137, 1608, .inr (.inl (fun _ => 0)))), (q142, .inl (y143, 19200, .inl (fun _ => 0)))] := hD
  refine W.widen (k := 21) (n := 104154) (Nat.le_of_ble_eq_true rfl) (Nat.le_of_ble_eq_true rfl) ?_
  refine va_putF (D := (dC, dI)) (ci := 11) (v := .ref q142) (ty := (.array .int)) (C := RX12) (T := TX12) (N := 46) hx hb hts inX12 tyX12 tyX12_ok nmX12 hown hK hP hD hS 0 rfl rfl 26 (by decide) (hts _ wd_174) (fun _ h9 => h9) rfl hin rfl (by decide +kernel) rfl rfl (Nat.le_of_ble_eq_true rfl) dX12_init_185 (fun H locs hP hD hS => ?_)
  have hP : va_P (dC, dI) classes [(h0, .inr (11, [.int 0, .ref q102, .int 0, .int 0, .int 0, .int 0, .ref q104, .int 0, .ref q106, .ref q108, .ref q110, .ref q112, .ref q114, .ref q116, .ref q118, .ref q120, .ref q122, .ref q124, .ref q126, .ref q128, .ref q130, .ref q132, .ref q134, .ref q136, .ref q138, .ref q140, .ref q142, .null, .null, .null, .int 0, .null, .null, .null, .null, .int 0, .null, .null, .null, .null, .long 0, .long 0, .int 0, .null, .int 0, .int 0])), (q102, .inl (y103, 3000, .inl (fun _ => 0))), (q106, .inl (y107, 8, .inl (fun _ => 0))), (q108, .inl (y109, 24016, .inl (fun _ => 0))), (q110, .inl (y111, 8, .inl (fun _ => 0))), (q112, .inl (y113, 8, .inl (fun _ => 0))), (q114, .inl (y115, 8, .inl (fun _ => 0))), (q118, .inl (y119, 8, .inl (fun _ => 0))), (q134, .inl (y135, 1608, .inr (.inl (fun _ => 0)))), (q136, .inl (y137, 1608, .inr (.inl (fun _ => 0)))), (q142, .inl (y143, 19200, .inl (fun _ => 0)))] H := hP
  have hD : va_D A [(h0, .inr (11, [.int 0, .ref q102, .int 0, .int 0, .int 0, .int 0, .ref q104, .int 0, .ref q106, .ref q108, .ref q110, .ref q112, .ref q114, .ref q116, .ref q118, .ref q120, .ref q122, .ref q124, .ref q126, .ref q128, .ref q130, .ref q132, .ref q134, .ref q136, .ref q138, .ref q140, .ref q142, .null, .null, .null, .int 0, .null, .null, .null, .null, .int 0, .null, .null, .null, .null, .long 0, .long 0, .int 0, .null, .int 0, .int 0])), (q102, .inl (y103, 3000, .inl (fun _ => 0))), (q106, .inl (y107, 8, .inl (fun _ => 0))), (q108, .inl (y109, 24016, .inl (fun _ => 0))), (q110, .inl (y111, 8, .inl (fun _ => 0))), (q112, .inl (y113, 8, .inl (fun _ => 0))), (q114, .inl (y115, 8, .inl (fun _ => 0))), (q118, .inl (y119, 8, .inl (fun _ => 0))), (q134, .inl (y135, 1608, .inr (.inl (fun _ => 0)))), (q136, .inl (y137, 1608, .inr (.inl (fun _ => 0)))), (q142, .inl (y143, 19200, .inl (fun _ => 0)))] := hD
  have hP : va_P (dC, dI) classes [(h0, .inr (11, [.int 0, .ref q102, .int 0, .int 0, .int 0, .int 0, .ref q104, .int 0, .ref q106, .ref q108, .ref q110, .ref q112, .ref q114, .ref q116, .ref q118, .ref q120, .ref q122, .ref q124, .ref q126, .ref q128, .ref q130, .ref q132, .ref q134, .ref q136, .ref q138, .ref q140, .ref q142, .null, .null, .null, .int 0, .null, .null, .null, .null, .int 0, .null, .null, .null, .null, .long 0, .long 0, .int 0, .null, .int 0, .int 0])), (q102, .inl (y103, 3000, .inl (fun _ => 0))), (q106, .inl (y107, 8, .inl (fun _ => 0))), (q108, .inl (y109, 24016, .inl (fun _ => 0))), (q110, .inl (y111, 8, .inl (fun _ => 0))), (q112, .inl (y113, 8, .inl (fun _ => 0))), (q114, .inl (y115, 8, .inl (fun _ => 0))), (q118, .inl (y119, 8, .inl (fun _ => 0))), (q134, .inl (y135, 1608, .inr (.inl (fun _ => 0)))), (q136, .inl (y137, 1608, .inr (.inl (fun _ => 0))))] H := hP.sub [0, 1, 2, 3, 4, 5, 6, 7, 8, 9] rfl
  have hD : va_D A [(h0, .inr (11, [.int 0, .ref q102, .int 0, .int 0, .int 0, .int 0, .ref q104, .int 0, .ref q106, .ref q108, .ref q110, .ref q112, .ref q114, .ref q116, .ref q118, .ref q120, .ref q122, .ref q124, .ref q126, .ref q128, .ref q130, .ref q132, .ref q134, .ref q136, .ref q138, .ref q140, .ref q142, .null, .null, .null, .int 0, .null, .null, .null, .null, .int 0, .null, .null, .null, .null, .long 0, .long 0, .int 0, .null, .int 0, .int 0])), (q102, .inl (y103, 3000, .inl (fun _ => 0))), (q106, .inl (y107, 8, .inl (fun _ => 0))), (q108, .inl (y109, 24016, .inl (fun _ => 0))), (q110, .inl (y111, 8, .inl (fun _ => 0))), (q112, .inl (y113, 8, .inl (fun _ => 0))), (q114, .inl (y115, 8, .inl (fun _ => 0))), (q118, .inl (y119, 8, .inl (fun _ => 0))), (q134, .inl (y135, 1608, .inr (.inl (fun _ => 0)))), (q136, .inl (y137, 1608, .inr (.inl (fun _ => 0))))] := hD.sub [0, 1, 2, 3, 4, 5, 6, 7, 8, 9] (by decide) rfl
  have hK : va_K (dC, dI) classes [(y103, .int), (y107, .boolean), (y109, .int), (y111, .int), (y113, .int), (y115, .int), (y119, .int), (y135, .long), (y137, .long)] s := hK.sub [0, 1, 2, 3, 4, 5, 6, 7, 8] rfl
  refine lv_aload_n hx hb dX12_init_188 rfl (lv_at hl 0 rfl) ?_
  refine lv_sipush (v := 19200) hx hb dX12_init_189 (by decide) ?_
  refine va_newa (atype := .int) (ty := .int) (N' := 19200) (a0 := (19200, .inl (fun _ => 0))) hx hb (hts _ wd_13) rfl hK hP hD hS hA (fun _ => rfl) (by decide) (by decide) (by decide) (Nat.le_of_ble_eq_true rfl) (Nat.le_of_ble_eq_true rfl) dX12_init_192 (fun q144 y145 H hK hP hD hS => ?_)
  have hK : va_K (dC, dI) classes [(y103, .int), (y107, .boolean), (y109, .int), (y111, .int), (y113, .int), (y115, .int), (y119, .int), (y135, .long), (y137, .long), (y145, .int)] s := hK
  have hP : va_P (dC, dI) classes [(h0, .inr (11, [.int 0, .ref q102, .int 0, .int 0, .int 0, .int 0, .ref q104, .int 0, .ref q106, .ref q108, .ref q110, .ref q112, .ref q114, .ref q116, .ref q118, .ref q120, .ref q122, .ref q124, .ref q126, .ref q128, .ref q130, .ref q132, .ref q134, .ref q136, .ref q138, .ref q140, .ref q142, .null, .null, .null, .int 0, .null, .null, .null, .null, .int 0, .null, .null, .null, .null, .long 0, .long 0, .int 0, .null, .int 0, .int 0])), (q102, .inl (y103, 3000, .inl (fun _ => 0))), (q106, .inl (y107, 8, .inl (fun _ => 0))), (q108, .inl (y109, 24016, .inl (fun _ => 0))), (q110, .inl (y111, 8, .inl (fun _ => 0))), (q112, .inl (y113, 8, .inl (fun _ => 0))), (q114, .inl (y115, 8, .inl (fun _ => 0))), (q118, .inl (y119, 8, .inl (fun _ => 0))), (q134, .inl (y135, 1608, .inr (.inl (fun _ => 0)))), (q136, .inl (y137, 1608, .inr (.inl (fun _ => 0)))), (q144, .inl (y145, 19200, .inl (fun _ => 0)))] H := hP
  have hD : va_D A [(h0, .inr (11, [.int 0, .ref q102, .int 0, .int 0, .int 0, .int 0, .ref q104, .int 0, .ref q106, .ref q108, .ref q110, .ref q112, .ref q114, .ref q116, .ref q118, .ref q120, .ref q122, .ref q124, .ref q126, .ref q128, .ref q130, .ref q132, .ref q134, .ref q136, .ref q138, .ref q140, .ref q142, .null, .null, .null, .int 0, .null, .null, .null, .null, .int 0, .null, .null, .null, .null, .long 0, .long 0, .int 0, .null, .int 0, .int 0])), (q102, .inl (y103, 3000, .inl (fun _ => 0))), (q106, .inl (y107, 8, .inl (fun _ => 0))), (q108, .inl (y109, 24016, .inl (fun _ => 0))), (q110, .inl (y111, 8, .inl (fun _ => 0))), (q112, .inl (y113, 8, .inl (fun _ => 0))), (q114, .inl (y115, 8, .inl (fun _ => 0))), (q118, .inl (y119, 8, .inl (fun _ => 0))), (q134, .inl (y135, 1608, .inr (.inl (fun _ => 0)))), (q136, .inl (y137, 1608, .inr (.inl (fun _ => 0)))), (q144, .inl (y145, 19200, .inl (fun _ => 0)))] := hD
  refine W.widen (k := 22) (n := 123354) (Nat.le_of_ble_eq_true rfl) (Nat.le_of_ble_eq_true rfl) ?_
  refine va_putF (D := (dC, dI)) (ci := 11) (v := .ref q144) (ty := (.array .int)) (C := RX12) (T := TX12) (N := 46) hx hb hts inX12 tyX12 tyX12_ok nmX12 hown hK hP hD hS 0 rfl rfl 27 (by decide) (hts _ wd_175) (fun _ h9 => h9) rfl hin rfl (by decide +kernel) rfl rfl (Nat.le_of_ble_eq_true rfl) dX12_init_194 (fun H locs hP hD hS => ?_)
  have hP : va_P (dC, dI) classes [(h0, .inr (11, [.int 0, .ref q102, .int 0, .int 0, .int 0, .int 0, .ref q104, .int 0, .ref q106, .ref q108, .ref q110, .ref q112, .ref q114, .ref q116, .ref q118, .ref q120, .ref q122, .ref q124, .ref q126, .ref q128, .ref q130, .ref q132, .ref q134, .ref q136, .ref q138, .ref q140, .ref q142, .ref q144, .null, .null, .int 0, .null, .null, .null, .null, .int 0, .null, .null, .null, .null, .long 0, .long 0, .int 0, .null, .int 0, .int 0])), (q102, .inl (y103, 3000, .inl (fun _ => 0))), (q106, .inl (y107, 8, .inl (fun _ => 0))), (q108, .inl (y109, 24016, .inl (fun _ => 0))), (q110, .inl (y111, 8, .inl (fun _ => 0))), (q112, .inl (y113, 8, .inl (fun _ => 0))), (q114, .inl (y115, 8, .inl (fun _ => 0))), (q118, .inl (y119, 8, .inl (fun _ => 0))), (q134, .inl (y135, 1608, .inr (.inl (fun _ => 0)))), (q136, .inl (y137, 1608, .inr (.inl (fun _ => 0)))), (q144, .inl (y145, 19200, .inl (fun _ => 0)))] H := hP
  have hD : va_D A [(h0, .inr (11, [.int 0, .ref q102, .int 0, .int 0, .int 0, .int 0, .ref q104, .int 0, .ref q106, .ref q108, .ref q110, .ref q112, .ref q114, .ref q116, .ref q118, .ref q120, .ref q122, .ref q124, .ref q126, .ref q128, .ref q130, .ref q132, .ref q134, .ref q136, .ref q138, .ref q140, .ref q142, .ref q144, .null, .null, .int 0, .null, .null, .null, .null, .int 0, .null, .null, .null, .null, .long 0, .long 0, .int 0, .null, .int 0, .int 0])), (q102, .inl (y103, 3000, .inl (fun _ => 0))), (q106, .inl (y107, 8, .inl (fun _ => 0))), (q108, .inl (y109, 24016, .inl (fun _ => 0))), (q110, .inl (y111, 8, .inl (fun _ => 0))), (q112, .inl (y113, 8, .inl (fun _ => 0))), (q114, .inl (y115, 8, .inl (fun _ => 0))), (q118, .inl (y119, 8, .inl (fun _ => 0))), (q134, .inl (y135, 1608, .inr (.inl (fun _ => 0)))), (q136, .inl (y137, 1608, .inr (.inl (fun _ => 0)))), (q144, .inl (y145, 19200, .inl (fun _ => 0)))] := hD
  have hP : va_P (dC, dI) classes [(h0, .inr (11, [.int 0, .ref q102, .int 0, .int 0, .int 0, .int 0, .ref q104, .int 0, .ref q106, .ref q108, .ref q110, .ref q112, .ref q114, .ref q116, .ref q118, .ref q120, .ref q122, .ref q124, .ref q126, .ref q128, .ref q130, .ref q132, .ref q134, .ref q136, .ref q138, .ref q140, .ref q142, .ref q144, .null, .null, .int 0, .null, .null, .null, .null, .int 0, .null, .null, .null, .null, .long 0, .long 0, .int 0, .null, .int 0, .int 0])), (q102, .inl (y103, 3000, .inl (fun _ => 0))), (q106, .inl (y107, 8, .inl (fun _ => 0))), (q108, .inl (y109, 24016, .inl (fun _ => 0))), (q110, .inl (y111, 8, .inl (fun _ => 0))), (q112, .inl (y113, 8, .inl (fun _ => 0))), (q114, .inl (y115, 8, .inl (fun _ => 0))), (q118, .inl (y119, 8, .inl (fun _ => 0))), (q134, .inl (y135, 1608, .inr (.inl (fun _ => 0)))), (q136, .inl (y137, 1608, .inr (.inl (fun _ => 0))))] H := hP.sub [0, 1, 2, 3, 4, 5, 6, 7, 8, 9] rfl
  have hD : va_D A [(h0, .inr (11, [.int 0, .ref q102, .int 0, .int 0, .int 0, .int 0, .ref q104, .int 0, .ref q106, .ref q108, .ref q110, .ref q112, .ref q114, .ref q116, .ref q118, .ref q120, .ref q122, .ref q124, .ref q126, .ref q128, .ref q130, .ref q132, .ref q134, .ref q136, .ref q138, .ref q140, .ref q142, .ref q144, .null, .null, .int 0, .null, .null, .null, .null, .int 0, .null, .null, .null, .null, .long 0, .long 0, .int 0, .null, .int 0, .int 0])), (q102, .inl (y103, 3000, .inl (fun _ => 0))), (q106, .inl (y107, 8, .inl (fun _ => 0))), (q108, .inl (y109, 24016, .inl (fun _ => 0))), (q110, .inl (y111, 8, .inl (fun _ => 0))), (q112, .inl (y113, 8, .inl (fun _ => 0))), (q114, .inl (y115, 8, .inl (fun _ => 0))), (q118, .inl (y119, 8, .inl (fun _ => 0))), (q134, .inl (y135, 1608, .inr (.inl (fun _ => 0)))), (q136, .inl (y137, 1608, .inr (.inl (fun _ => 0))))] := hD.sub [0, 1, 2, 3, 4, 5, 6, 7, 8, 9] (by decide) rfl
  have hK : va_K (dC, dI) classes [(y103, .int), (y107, .boolean), (y109, .int), (y111, .int), (y113, .int), (y115, .int), (y119, .int), (y135, .long), (y137, .long)] s := hK.sub [0, 1, 2, 3, 4, 5, 6, 7, 8] rfl
  refine lv_aload_n hx hb dX12_init_197 rfl (lv_at hl 0 rfl) ?_
  refine lv_bipush (v := 8) hx hb dX12_init_198 (by decide) ?_
  refine va_newa (atype := .int) (ty := .int) (N' := 8) (a0 := (8, .inl (fun _ => 0))) hx hb (hts _ wd_13) rfl hK hP hD hS hA (fun _ => rfl) (by decide) (by decide) (by decide) (Nat.le_of_ble_eq_true rfl) (Nat.le_of_ble_eq_true rfl) dX12_init_200 (fun q146 y147 H hK hP hD hS => ?_)
  have hK : va_K (dC, dI) classes [(y103, .int), (y107, .boolean), (y109, .int), (y111, .int), (y113, .int), (y115, .int), (y119, .int), (y135, .long), (y137, .long), (y147, .int)] s := hK
  have hP : va_P (dC, dI) classes [(h0, .inr (11, [.int 0, .ref q102, .int 0, .int 0, .int 0, .int 0, .ref q104, .int 0, .ref q106, .ref q108, .ref q110, .ref q112, .ref q114, .ref q116, .ref q118, .ref q120, .ref q122, .ref q124, .ref q126, .ref q128, .ref q130, .ref q132, .ref q134, .ref q136, .ref q138, .ref q140, .ref q142, .ref q144, .null, .null, .int 0, .null, .null, .null, .null, .int 0, .null, .null, .null, .null, .long 0, .long 0, .int 0, .null, .int 0, .int 0])), (q102, .inl (y103, 3000, .inl (fun _ => 0))), (q106, .inl (y107, 8, .inl (fun _ => 0))), (q108, .inl (y109, 24016, .inl (fun _ => 0))), (q110, .inl (y111, 8, .inl (fun _ => 0))), (q112, .inl (y113, 8, .inl (fun _ => 0))), (q114, .inl (y115, 8, .inl (fun _ => 0))), (q118, .inl (y119, 8, .inl (fun _ => 0))), (q134, .inl (y135, 1608, .inr (.inl (fun _ => 0)))), (q136, .inl (y137, 1608, .inr (.inl (fun _ => 0)))), (q146, .inl (y147, 8, .inl (fun _ => 0)))] H := hP
  have hD : va_D A [(h0, .inr (11, [.int 0, .ref q102, .int 0, .int 0, .int 0, .int 0, .ref q104, .int 0, .ref q106, .ref q108, .ref q110, .ref q112, .ref q114, .ref q116, .ref q118, .ref q120, .ref q122, .ref q124, .ref q126, .ref q128, .ref q130, .ref q132, .ref q134, .ref q136, .ref q138, .ref q140, .ref q142, .ref q144, .null, .null, .int 0, .null, .null, .null, .null, .int 0, .null, .null, .null, .null, .long 0, .long 0, .int 0, .null, .int 0, .int 0])), (q102, .inl (y103, 3000, .inl (fun _ => 0))), (q106, .inl (y107, 8, .inl (fun _ => 0))), (q108, .inl (y109, 24016, .inl (fun _ => 0))), (q110, .inl (y111, 8, .inl (fun _ => 0))), (q112, .inl (y113, 8, .inl (fun _ => 0))), (q114, .inl (y115, 8, .inl (fun _ => 0))), (q118, .inl (y119, 8, .inl (fun _ => 0))), (q134, .inl (y135, 1608, .inr (.inl (fun _ => 0)))), (q136, .inl (y137, 1608, .inr (.inl (fun _ => 0)))), (q146, .inl (y147, 8, .inl (fun _ => 0)))] := hD
  refine W.widen (k := 23) (n := 123362) (Nat.le_of_ble_eq_true rfl) (Nat.le_of_ble_eq_true rfl) ?_
  refine va_putF (D := (dC, dI)) (ci := 11) (v := .ref q146) (ty := (.array .int)) (C := RX12) (T := TX12) (N := 46) hx hb hts inX12 tyX12 tyX12_ok nmX12 hown hK hP hD hS 0 rfl rfl 28 (by decide) (hts _ wd_176) (fun _ h9 => h9) rfl hin rfl (by decide +kernel) rfl rfl (Nat.le_of_ble_eq_true rfl) dX12_init_202 (fun H locs hP hD hS => ?_)
  have hP : va_P (dC, dI) classes [(h0, .inr (11, [.int 0, .ref q102, .int 0, .int 0, .int 0, .int 0, .ref q104, .int 0, .ref q106, .ref q108, .ref q110, .ref q112, .ref q114, .ref q116, .ref q118, .ref q120, .ref q122, .ref q124, .ref q126, .ref q128, .ref q130, .ref q132, .ref q134, .ref q136, .ref q138, .ref q140, .ref q142, .ref q144, .ref q146, .null, .int 0, .null, .null, .null, .null, .int 0, .null, .null, .null, .null, .long 0, .long 0, .int 0, .null, .int 0, .int 0])), (q102, .inl (y103, 3000, .inl (fun _ => 0))), (q106, .inl (y107, 8, .inl (fun _ => 0))), (q108, .inl (y109, 24016, .inl (fun _ => 0))), (q110, .inl (y111, 8, .inl (fun _ => 0))), (q112, .inl (y113, 8, .inl (fun _ => 0))), (q114, .inl (y115, 8, .inl (fun _ => 0))), (q118, .inl (y119, 8, .inl (fun _ => 0))), (q134, .inl (y135, 1608, .inr (.inl (fun _ => 0)))), (q136, .inl (y137, 1608, .inr (.inl (fun _ => 0)))), (q146, .inl (y147, 8, .inl (fun _ => 0)))] H := hP
  have hD : va_D A [(h0, .inr (11, [.int 0, .ref q102, .int 0, .int 0, .int 0, .int 0, .ref q104, .int 0, .ref q106, .ref q108, .ref q110, .ref q112, .ref q114, .ref q116, .ref q118, .ref q120, .ref q122, .ref q124, .ref q126, .ref q128, .ref q130, .ref q132, .ref q134, .ref q136, .ref q138, .ref q140, .ref q142, .ref q144, .ref q146, .null, .int 0, .null, .null, .null, .null, .int 0, .null, .null, .null, .null, .long 0, .long 0, .int 0, .null, .int 0, .int 0])), (q102, .inl (y103, 3000, .inl (fun _ => 0))), (q106, .inl (y107, 8, .inl (fun _ => 0))), (q108, .inl (y109, 24016, .inl (fun _ => 0))), (q110, .inl (y111, 8, .inl (fun _ => 0))), (q112, .inl (y113, 8, .inl (fun _ => 0))), (q114, .inl (y115, 8, .inl (fun _ => 0))), (q118, .inl (y119, 8, .inl (fun _ => 0))), (q134, .inl (y135, 1608, .inr (.inl (fun _ => 0)))), (q136, .inl (y137, 1608, .inr (.inl (fun _ => 0)))), (q146, .inl (y147, 8, .inl (fun _ => 0)))] := hD
  refine lv_aload_n hx hb dX12_init_205 rfl (lv_at hl 0 rfl) ?_
  refine lv_bipush (v := 8) hx hb dX12_init_206 (by decide) ?_
  refine va_newa (atype := .int) (ty := .int) (N' := 8) (a0 := (8, .inl (fun _ => 0))) hx hb (hts _ wd_13) rfl hK hP hD hS hA (fun _ => rfl) (by decide) (by decide) (by decide) (Nat.le_of_ble_eq_true rfl) (Nat.le_of_ble_eq_true rfl) dX12_init_208 (fun q148 y149 H hK hP hD hS => ?_)
  have hK : va_K (dC, dI) classes [(y103, .int), (y107, .boolean), (y109, .int), (y111, .int), (y113, .int), (y115, .int), (y119, .int), (y135, .long), (y137, .long), (y147, .int), (y149, .int)] s := hK
  have hP : va_P (dC, dI) classes [(h0, .inr (11, [.int 0, .ref q102, .int 0, .int 0, .int 0, .int 0, .ref q104, .int 0, .ref q106, .ref q108, .ref q110, .ref q112, .ref q114, .ref q116, .ref q118, .ref q120, .ref q122, .ref q124, .ref q126, .ref q128, .ref q130, .ref q132, .ref q134, .ref q136, .ref q138, .ref q140, .ref q142, .ref q144, .ref q146, .null, .int 0, .null, .null, .null, .null, .int 0, .null, .null, .null, .null, .long 0, .long 0, .int 0, .null, .int 0, .int 0])), (q102, .inl (y103, 3000, .inl (fun _ => 0))), (q106, .inl (y107, 8, .inl (fun _ => 0))), (q108, .inl (y109, 24016, .inl (fun _ => 0))), (q110, .inl (y111, 8, .inl (fun _ => 0))), (q112, .inl (y113, 8, .inl (fun _ => 0))), (q114, .inl (y115, 8, .inl (fun _ => 0))), (q118, .inl (y119, 8, .inl (fun _ => 0))), (q134, .inl (y135, 1608, .inr (.inl (fun _ => 0)))), (q136, .inl (y137, 1608, .inr (.inl (fun _ => 0)))), (q146, .inl (y147, 8, .inl (fun _ => 0))), (q148, .inl (y149, 8, .inl (fun _ => 0)))] H := hP
  have hD : va_D A [(h0, .inr (11, [.int 0, .ref q102, .int 0, .int 0, .int 0, .int 0, .ref q104, .int 0, .ref q106, .ref q108, .ref q110, .ref q112, .ref q114, .ref q116, .ref q118, .ref q120, .ref q122, .ref q124, .ref q126, .ref q128, .ref q130, .ref q132, .ref q134, .ref q136, .ref q138, .ref q140, .ref q142, .ref q144, .ref q146, .null, .int 0, .null, .null, .null, .null, .int 0, .null, .null, .null, .null, .long 0, .long 0, .int 0, .null, .int 0, .int 0])), (q102, .inl (y103, 3000, .inl (fun _ => 0))), (q106, .inl (y107, 8, .inl (fun _ => 0))), (q108, .inl (y109, 24016, .inl (fun _ => 0))), (q110, .inl (y111, 8, .inl (fun _ => 0))), (q112, .inl (y113, 8, .inl (fun _ => 0))), (q114, .inl (y115, 8, .inl (fun _ => 0))), (q118, .inl (y119, 8, .inl (fun _ => 0))), (q134, .inl (y135, 1608, .inr (.inl (fun _ => 0)))), (q136, .inl (y137, 1608, .inr (.inl (fun _ => 0)))), (q146, .inl (y147, 8, .inl (fun _ => 0))), (q148, .inl (y149, 8, .inl (fun _ => 0)))] := hD
  refine W.widen (k := 24) (n := 123370) (Nat.le_of_ble_eq_true rfl) (Nat.le_of_ble_eq_true rfl) ?_
  refine va_putF (D := (dC, dI)) (ci := 11) (v := .ref q148) (ty := (.array .int)) (C := RX12) (T := TX12) (N := 46) hx hb hts inX12 tyX12 tyX12_ok nmX12 hown hK hP hD hS 0 rfl rfl 29 (by decide) (hts _ wd_177) (fun _ h9 => h9) rfl hin rfl (by decide +kernel) rfl rfl (Nat.le_of_ble_eq_true rfl) dX12_init_210 (fun H locs hP hD hS => ?_)
  have hP : va_P (dC, dI) classes [(h0, .inr (11, [.int 0, .ref q102, .int 0, .int 0, .int 0, .int 0, .ref q104, .int 0, .ref q106, .ref q108, .ref q110, .ref q112, .ref q114, .ref q116, .ref q118, .ref q120, .ref q122, .ref q124, .ref q126, .ref q128, .ref q130, .ref q132, .ref q134, .ref q136, .ref q138, .ref q140, .ref q142, .ref q144, .ref q146, .ref q148, .int 0, .null, .null, .null, .null, .int 0, .null, .null, .null, .null, .long 0, .long 0, .int 0, .null, .int 0, .int 0])), (q102, .inl (y103, 3000, .inl (fun _ => 0))), (q106, .inl (y107, 8, .inl (fun _ => 0))), (q108, .inl (y109, 24016, .inl (fun _ => 0))), (q110, .inl (y111, 8, .inl (fun _ => 0))), (q112, .inl (y113, 8, .inl (fun _ => 0))), (q114, .inl (y115, 8, .inl (fun _ => 0))), (q118, .inl (y119, 8, .inl (fun _ => 0))), (q134, .inl (y135, 1608, .inr (.inl (fun _ => 0)))), (q136, .inl (y137, 1608, .inr (.inl (fun _ => 0)))), (q146, .inl (y147, 8, .inl (fun _ => 0))), (q148, .inl (y149, 8, .inl (fun _ => 0)))] H := hP
  have hD : va_D A [(h0, .inr (11, [.int 0, .ref q102, .int 0, .int 0, .int 0, .int 0, .ref q104, .int 0, .ref q106, .ref q108, .ref q110, .ref q112, .ref q114, .ref q116, .ref q118, .ref q120, .ref q122, .ref q124, .ref q126, .ref q128, .ref q130, .ref q132, .ref q134, .ref q136, .ref q138, .ref q140, .ref q142, .ref q144, .ref q146, .ref q148, .int 0, .null, .null, .null, .null, .int 0, .null, .null, .null, .null, .long 0, .long 0, .int 0, .null, .int 0, .int 0])), (q102, .inl (y103, 3000, .inl (fun _ => 0))), (q106, .inl (y107, 8, .inl (fun _ => 0))), (q108, .inl (y109, 24016, .inl (fun _ => 0))), (q110, .inl (y111, 8, .inl (fun _ => 0))), (q112, .inl (y113, 8, .inl (fun _ => 0))), (q114, .inl (y115, 8, .inl (fun _ => 0))), (q118, .inl (y119, 8, .inl (fun _ => 0))), (q134, .inl (y135, 1608, .inr (.inl (fun _ => 0)))), (q136, .inl (y137, 1608, .inr (.inl (fun _ => 0)))), (q146, .inl (y147, 8, .inl (fun _ => 0))), (q148, .inl (y149, 8, .inl (fun _ => 0)))] := hD
  refine lv_aload_n hx hb dX12_init_213 rfl (lv_at hl 0 rfl) ?_
  refine lv_bipush (v := 32) hx hb dX12_init_214 (by decide) ?_
  refine va_newa (atype := .int) (ty := .int) (N' := 32) (a0 := (32, .inl (fun _ => 0))) hx hb (hts _ wd_13) rfl hK hP hD hS hA (fun _ => rfl) (by decide) (by decide) (by decide) (Nat.le_of_ble_eq_true rfl) (Nat.le_of_ble_eq_true rfl) dX12_init_216 (fun q150 y151 H hK hP hD hS => ?_)
  have hK : va_K (dC, dI) classes [(y103, .int), (y107, .boolean), (y109, .int), (y111, .int), (y113, .int), (y115, .int), (y119, .int), (y135, .long), (y137, .long), (y147, .int), (y149, .int), (y151, .int)] s := hK
  have hP : va_P (dC, dI) classes [(h0, .inr (11, [.int 0, .ref q102, .int 0, .int 0, .int 0, .int 0, .ref q104, .int 0, .ref q106, .ref q108, .ref q110, .ref q112, .ref q114, .ref q116, .ref q118, .ref q120, .ref q122, .ref q124, .ref q126, .ref q128, .ref q130, .ref q132, .ref q134, .ref q136, .ref q138, .ref q140, .ref q142, .ref q144, .ref q146, .ref q148, .int 0, .null, .null, .null, .null, .int 0, .null, .null, .null, .null, .long 0, .long 0, .int 0, .null, .int 0, .int 0])), (q102, .inl (y103, 3000, .inl (fun _ => 0))), (q106, .inl (y107, 8, .inl (fun _ => 0))), (q108, .inl (y109, 24016, .inl (fun _ => 0))), (q110, .inl (y111, 8, .inl (fun _ => 0))), (q112, .inl (y113, 8, .inl (fun _ => 0))), (q114, .inl (y115, 8, .inl (fun _ => 0))), (q118, .inl (y119, 8, .inl (fun _ => 0))), (q134, .inl (y135, 1608, .inr (.inl (fun _ => 0)))), (q136, .inl (y137, 1608, .inr (.inl (fun _ => 0)))), (q146, .inl (y147, 8, .inl (fun _ => 0))), (q148, .inl (y149, 8, .inl (fun _ => 0))), (q150, .inl (y151, 32, .inl (fun _ => 0)))] H := hP
  have hD : va_D A [(h0, .inr (11, [.int 0, .ref q102, .int 0, .int 0, .int 0, .int 0, .ref q104, .int 0, .ref q106, .ref q108, .ref q110, .ref q112, .ref q114, .ref q116, .ref q118, .ref q120, .ref q122, .ref q124, .ref q126, .ref q128, .ref q130, .ref q132, .ref q134, .ref q136, .ref q138, .ref q140, .ref q142, .ref q144, .ref q146, .ref q148, .int 0, .null, .null, .null, .null, .int 0, .null, .null, .null, .null, .long 0, .long 0, .int 0, .null, .int 0, .int 0])), (q102, .inl (y103, 3000, .inl (fun _ => 0))), (q106, .inl (y107, 8, .inl (fun _ => 0))), (q108, .inl (y109, 24016, .inl (fun _ => 0))), (q110, .inl (y111, 8, .inl (fun _ => 0))), (q112, .inl (y113, 8, .inl (fun _ => 0))), (q114, .inl (y115, 8, .inl (fun _ => 0))), (q118, .inl (y119, 8, .inl (fun _ => 0))), (q134, .inl (y135, 1608, .inr (.inl (fun _ => 0)))), (q136, .inl (y137, 1608, .inr (.inl (fun _ => 0)))), (q146, .inl (y147, 8, .inl (fun _ => 0))), (q148, .inl (y149, 8, .inl (fun _ => 0))), (q150, .inl (y151, 32, .inl (fun _ => 0)))] := hD
  refine W.widen (k := 25) (n := 123402) (Nat.le_of_ble_eq_true rfl) (Nat.le_of_ble_eq_true rfl) ?_
  refine va_putF (D := (dC, dI)) (ci := 11) (v := .ref q150) (ty := (.array .int)) (C := RX12) (T := TX12) (N := 46) hx hb hts inX12 tyX12 tyX12_ok nmX12 hown hK hP hD hS 0 rfl rfl 31 (by decide) (hts _ wd_178) (fun _ h9 => h9) rfl hin rfl (by decide +kernel) rfl rfl (Nat.le_of_ble_eq_true rfl) dX12_init_218 (fun H locs hP hD hS => ?_)
  have hP : va_P (dC, dI) classes [(h0, .inr (11, [.int 0, .ref q102, .int 0, .int 0, .int 0, .int 0, .ref q104, .int 0, .ref q106, .ref q108, .ref q110, .ref q112, .ref q114, .ref q116, .ref q118, .ref q120, .ref q122, .ref q124, .ref q126, .ref q128, .ref q130, .ref q132, .ref q134, .ref q136, .ref q138, .ref q140, .ref q142, .ref q144, .ref q146, .ref q148, .int 0, .ref q150, .null, .null, .null, .int 0, .null, .null, .null, .null, .long 0, .long 0, .int 0, .null, .int 0, .int 0])), (q102, .inl (y103, 3000, .inl (fun _ => 0))), (q106, .inl (y107, 8, .inl (fun _ => 0))), (q108, .inl (y109, 24016, .inl (fun _ => 0))), (q110, .inl (y111, 8, .inl (fun _ => 0))), (q112, .inl (y113, 8, .inl (fun _ => 0))), (q114, .inl (y115, 8, .inl (fun _ => 0))), (q118, .inl (y119, 8, .inl (fun _ => 0))), (q134, .inl (y135, 1608, .inr (.inl (fun _ => 0)))), (q136, .inl (y137, 1608, .inr (.inl (fun _ => 0)))), (q146, .inl (y147, 8, .inl (fun _ => 0))), (q148, .inl (y149, 8, .inl (fun _ => 0))), (q150, .inl (y151, 32, .inl (fun _ => 0)))] H := hP
  have hD : va_D A [(h0, .inr (11, [.int 0, .ref q102, .int 0, .int 0, .int 0, .int 0, .ref q104, .int 0, .ref q106, .ref q108, .ref q110, .ref q112, .ref q114, .ref q116, .ref q118, .ref q120, .ref q122, .ref q124, .ref q126, .ref q128, .ref q130, .ref q132, .ref q134, .ref q136, .ref q138, .ref q140, .ref q142, .ref q144, .ref q146, .ref q148, .int 0, .ref q150, .null, .null, .null, .int 0, .null, .null, .null, .null, .long 0, .long 0, .int 0, .null, .int 0, .int 0])), (q102, .inl (y103, 3000, .inl (fun _ => 0))), (q106, .inl (y107, 8, .inl (fun _ => 0))), (q108, .inl (y109, 24016, .inl (fun _ => 0))), (q110, .inl (y111, 8, .inl (fun _ => 0))), (q112, .inl (y113, 8, .inl (fun _ => 0))), (q114, .inl (y115, 8, .inl (fun _ => 0))), (q118, .inl (y119, 8, .inl (fun _ => 0))), (q134, .inl (y135, 1608, .inr (.inl (fun _ => 0)))), (q136, .inl (y137, 1608, .inr (.inl (fun _ => 0)))), (q146, .inl (y147, 8, .inl (fun _ => 0))), (q148, .inl (y149, 8, .inl (fun _ => 0))), (q150, .inl (y151, 32, .inl (fun _ => 0)))] := hD
  have hP : va_P (dC, dI) classes [(h0, .inr (11, [.int 0, .ref q102, .int 0, .int 0, .int 0, .int 0, .ref q104, .int 0, .ref q106, .ref q108, .ref q110, .ref q112, .ref q114, .ref q116, .ref q118, .ref q120, .ref q122, .ref q124, .ref q126, .ref q128, .ref q130, .ref q132, .ref q134, .ref q136, .ref q138, .ref q140, .ref q142, .ref q144, .ref q146, .ref q148, .int 0, .ref q150, .null, .null, .null, .int 0, .null, .null, .null, .null, .long 0, .long 0, .int 0, .null, .int 0, .int 0])), (q102, .inl (y103, 3000, .inl (fun _ => 0))), (q106, .inl (y107, 8, .inl (fun _ => 0))), (q108, .inl (y109, 24016, .inl (fun _ => 0))), (q110, .inl (y111, 8, .inl (fun _ => 0))), (q112, .inl (y113, 8, .inl (fun _ => 0))), (q114, .inl (y115, 8, .inl (fun _ => 0))), (q118, .inl (y119, 8, .inl (fun _ => 0))), (q134, .inl (y135, 1608, .inr (.inl (fun _ => 0)))), (q136, .inl (y137, 1608, .inr (.inl (fun _ => 0)))), (q146, .inl (y147, 8, .inl (fun _ => 0))), (q148, .inl (y149, 8, .inl (fun _ => 0)))] H := hP.sub [0, 1, 2, 3, 4, 5, 6, 7, 8, 9, 10, 11] rfl
  have hD : va_D A [(h0, .inr (11, [.int 0, .ref q102, .int 0, .int 0, .int 0, .int 0, .ref q104, .int 0, .ref q106, .ref q108, .ref q110, .ref q112, .ref q114, .ref q116, .ref q118, .ref q120, .ref q122, .ref q124, .ref q126, .ref q128, .ref q130, .ref q132, .ref q134, .ref q136, .ref q138, .ref q140, .ref q142, .ref q144, .ref q146, .ref q148, .int 0, .ref q150, .null, .null, .null, .int 0, .null, .null, .null, .null, .long 0, .long 0, .int 0, .null, .int 0, .int 0])), (q102, .inl (y103, 3000, .inl (fun _ => 0))), (q106, .inl (y107, 8, .inl (fun _ => 0))), (q108, .inl (y109, 24016, .inl (fun _ => 0))), (q110, .inl (y111, 8, .inl (fun _ => 0))), (q112, .inl (y113, 8, .inl (fun _ => 0))), (q114, .inl (y115, 8, .inl (fun _ => 0))), (q118, .inl (y119, 8, .inl (fun _ => 0))), (q134, .inl (y135, 1608, .inr (.inl (fun _ => 0)))), (q136, .inl (y137, 1608, .inr (.inl (fun _ => 0)))), (q146, .inl (y147, 8, .inl (fun _ => 0))), (q148, .inl (y149, 8, .inl (fun _ => 0)))] := hD.sub [0, 1, 2, 3, 4, 5, 6, 7, 8, 9, 10, 11] (by decide) rfl
  have hK : va_K (dC, dI) classes [(y103, .int), (y107, .boolean), (y109, .int), (y111, .int), (y113, .int), (y115, .int), (y119, .int), (y135, .long), (y137, .long), (y147, .int), (y149, .int)] s := hK.sub [0, 1, 2, 3, 4, 5, 6, 7, 8, 9, 10] rfl
  refine lv_aload_n hx hb dX12_init_221 rfl (lv_at hl 0 rfl) ?_
  refine lv_bipush (v := 32) hx hb dX12_init_222 (by decide) ?_
  refine va_newa (atype := .int) (ty := .int) (N' := 32) (a0 := (32, .inl (fun _ => 0))) hx hb (hts _ wd_13) rfl hK hP hD hS hA (fun _ => rfl) (by decide) (by decide) (by decide) (Nat.le_of_ble_eq_true rfl) (Nat.le_of_ble_eq_true rfl) dX12_init_224 (fun q152 y153 H hK hP hD hS => ?_)
  have hK : va_K (dC, dI) classes [(y103, .int), (y107, .boolean), (y109, .int), (y111, .int), (y113, .int), (y115, .int), (y119, .int), (y135, .long), (y137, .long), (y147, .int), (y149, .int), (y153, .int)] s := hK
  have hP : va_P (dC, dI) classes [(h0, .inr (11, [.int 0, .ref q102, .int 0, .int 0, .int 0, .int 0, .ref q104, .int 0, .ref q106, .ref q108, .ref q110, .ref q112, .ref q114, .ref q116, .ref q118, .ref q120, .ref q122, .ref q124, .ref q126, .ref q128, .ref q130, .ref q132, .ref q134, .ref q136, .ref q138, .ref q140, .ref q142, .ref q144, .ref q146, .ref q148, .int 0, .ref q150, .null, .null, .null, .int 0, .null, .null, .null, .null, .long 0, .long 0, .int 0, .null, .int 0, .int 0])), (q102, .inl (y103, 3000, .inl (fun _ => 0))), (q106, .inl (y107, 8, .inl (fun _ => 0))), (q108, .inl (y109, 24016, .inl (fun _ => 0))), (q110, .inl (y111, 8, .inl (fun _ => 0))), (q112, .inl (y113, 8, .inl (fun _ => 0))), (q114, .inl (y115, 8, .inl (fun _ => 0))), (q118, .inl (y119, 8, .inl (fun _ => 0))), (q134, .inl (y135, 1608, .inr (.inl (fun _ => 0)))), (q136, .inl (y137, 1608, .inr (.inl (fun _ => 0)))), (q146, .inl (y147, 8, .inl (fun _ => 0))), (q148, .inl (y149, 8, .inl (fun _ => 0))), (q152, .inl (y153, 32, .inl (fun _ => 0)))] H := hP
  have hD : va_D A [(h0, .inr (11, [.int 0, .ref q102, .int 0, .int 0, .int 0, .int 0, .ref q104, .int 0, .ref q106, .ref q108, .ref q110, .ref q112, .ref q114, .ref q116, .ref q118, .ref q120, .ref q122, .ref q124, .ref q126, .ref q128, .ref q130, .ref q132, .ref q134, .ref q136, .ref q138, .ref q140, .ref q142, .ref q144, .ref q146, .ref q148, .int 0, .ref q150, .null, .null, .null, .int 0, .null, .null, .null, .null, .long 0, .long 0, .int 0, .null, .int 0, .int 0])), (q102, .inl (y103, 3000, .inl (fun _ => 0))), (q106, .inl (y107, 8, .inl (fun _ => 0))), (q108, .inl (y109, 24016, .inl (fun _ => 0))), (q110, .inl (y111, 8, .inl (fun _ => 0))), (q112, .inl (y113, 8, .inl (fun _ => 0))), (q114, .inl (y115, 8, .inl (fun _ => 0))), (q118, .inl (y119, 8, .inl (fun _ => 0))), (q134, .inl (y135, 1608, .inr (.inl (fun _ => 0)))), (q136, .inl (y137, 1608, .inr (.inl (fun _ => 0)))), (q146, .inl (y147, 8, .inl (fun _ => 0))), (q148, .inl (y149, 8, .inl (fun _ => 0))), (q152, .inl (y153, 32, .inl (fun _ => 0)))] := hD
  refine W.widen (k := 26) (n := 123434) (Nat.le_of_ble_eq_true rfl) (Nat.le_of_ble_eq_true rfl) ?_
  refine va_putF (D := (dC, dI)) (ci := 11) (v := .ref q152) (ty := (.array .int)) (C := RX12) (T := TX12) (N := 46) hx hb hts inX12 tyX12 tyX12_ok nmX12 hown hK hP hD hS 0 rfl rfl 32 (by decide) (hts _ wd_179) (fun _ h9 => h9) rfl hin rfl (by decide +kernel) rfl rfl (Nat.le_of_ble_eq_true rfl) dX12_init_226 (fun H locs hP hD hS => ?_)
  have hP : va_P (dC, dI) classes [(h0, .inr (11, [.int 0, .ref q102, .int 0, .int 0, .int 0, .int 0, .ref q104, .int 0, .ref q106, .ref q108, .ref q110, .ref q112, .ref q114, .ref q116, .ref q118, .ref q120, .ref q122, .ref q124, .ref q126, .ref q128, .ref q130, .ref q132, .ref q134, .ref q136, .ref q138, .ref q140, .ref q142, .ref q144, .ref q146, .ref q148, .int 0, .ref q150, .ref q152, .null, .null, .int 0, .null, .null, .null, .null, .long 0, .long 0, .int 0, .null, .int 0, .int 0])), (q102, .inl (y103, 3000, .inl (fun _ => 0))), (q106, .inl (y107, 8, .inl (fun _ => 0))), (q108, .inl (y109, 24016, .inl (fun _ => 0))), (q110, .inl (y111, 8, .inl (fun _ => 0))), (q112, .inl (y113, 8, .inl (fun _ => 0))), (q114, .inl (y115, 8, .inl (fun _ => 0))), (q118, .inl (y119, 8, .inl (fun _ => 0))), (q134, .inl (y135, 1608, .inr (.inl (fun _ => 0)))), (q136, .inl (y137, 1608, .inr (.inl (fun _ => 0)))), (q146, .inl (y147, 8, .inl (fun _ => 0))), (q148, .inl (y149, 8, .inl (fun _ => 0))), (q152, .inl (y153, 32, .inl (fun _ => 0)))] H := hP
  have hD : va_D A [(h0, .inr (11, [.int 0, .ref q102, .int 0, .int 0, .int 0, .int 0, .ref q104, .int 0, .ref q106, .ref q108, .ref q110, .ref q112, .ref q114, .ref q116, .ref q118, .ref q120, .ref q122, .ref q124, .ref q126, .ref q128, .ref q130, .ref q132, .ref q134, .ref q136, .ref q138, .ref q140, .ref q142, .ref q144, .ref q146, .ref q148, .int 0, .ref q150, .ref q152, .null, .null, .int 0, .null, .null, .null, .null, .long 0, .long 0, .int 0, .null, .int 0, .int 0])), (q102, .inl (y103, 3000, .inl (fun _ => 0))), (q106, .inl (y107, 8, .inl (fun _ => 0))), (q108, .inl (y109, 24016, .inl (fun _ => 0))), (q110, .inl (y111, 8, .inl (fun _ => 0))), (q112, .inl (y113, 8, .inl (fun _ => 0))), (q114, .inl (y115, 8, .inl (fun _ => 0))), (q118, .inl (y119, 8, .inl (fun _ => 0))), (q134, .inl (y135, 1608, .inr (.inl (fun _ => 0)))), (q136, .inl (y137, 1608, .inr (.inl (fun _ => 0)))), (q146, .inl (y147, 8, .inl (fun _ => 0))), (q148, .inl (y149, 8, .inl (fun _ => 0))), (q152, .inl (y153, 32, .inl (fun _ => 0)))] := hD
  have hP : va_P (dC, dI) classes [(h0, .inr (11, [.int 0, .ref q102, .int 0, .int 0, .int 0, .int 0, .ref q104, .int 0, .ref q106, .ref q108, .ref q110, .ref q112, .ref q114, .ref q116, .ref q118, .ref q120, .ref q122, .ref q124, .ref q126, .ref q128, .ref q130, .ref q132, .ref q134, .ref q136, .ref q138, .ref q140, .ref q142, .ref q144, .ref q146, .ref q148, .int 0, .ref q150, .ref q152, .null, .null, .int 0, .null, .null, .null, .null, .long 0, .long 0, .int 0, .null, .int 0, .int 0])), (q102, .inl (y103, 3000, .inl (fun _ => 0))), (q106, .inl (y107, 8, .inl (fun _ => 0))), (q108, .inl (y109, 24016, .inl (fun _ => 0))), (q110, .inl (y111, 8, .inl (fun _ => 0))), (q112, .inl (y113, 8, .inl (fun _ => 0))), (q114, .inl (y115, 8, .inl (fun _ => 0))), (q118, .inl (y119, 8, .inl (fun _ => 0))), (q134, .inl (y135, 1608, .inr (.inl (fun _ => 0)))), (q136, .inl (y137, 1608, .inr (.inl (fun _ => 0)))), (q146, .inl (y147, 8, .inl (fun _ => 0))), (q148, .inl (y149, 8, .inl (fun _ => 0)))] H := hP.sub [0, 1, 2, 3, 4, 5, 6, 7, 8, 9, 10, 11] rfl
  have hD : va_D A [(h0, .inr (11, [.int 0, .ref q102, .int 0, .int 0, .int 0, .int 0, .ref q104, .int 0, .ref q106, .ref q108, .ref q110, .ref q112, .ref q114, .ref q116, .ref q118, .ref q120, .ref q122, .ref q124, .ref q126, .ref q128, .ref q130, .ref q132, .ref q134, .ref q136, .ref q138, .ref q140, .ref q142, .ref q144, .ref q146, .ref q148, .int 0, .ref q150, .ref q152, .null, .null, .int 0, .null, .null, .null, .null, .long 0, .long 0, .int 0, .null, .int 0, .int 0])), (q102, .inl (y103, 3000, .inl (fun _ => 0))), (q106, .inl (y107, 8, .inl (fun _ => 0))), (q108, .inl (y109, 24016, .inl (fun _ => 0))), (q110, .inl (y111, 8, .inl (fun _ => 0))), (q112, .inl (y113, 8, .inl (fun _ => 0))), (q114, .inl (y115, 8, .inl (fun _ => 0))), (q118, .inl (y119, 8, .inl (fun _ => 0))), (q134, .inl (y135, 1608, .inr (.inl (fun _ => 0)))), (q136, .inl (y137, 1608, .inr (.inl (fun _ => 0)))), (q146, .inl (y147, 8, .inl (fun _ => 0))), (q148, .inl (y149, 8, .inl (fun _ => 0)))] := hD.sub [0, 1, 2, 3, 4, 5, 6, 7, 8, 9, 10, 11] (by decide) rfl
  have hK : va_K (dC, dI) classes [(y103, .int), (y107, .boolean), (y109, .int), (y111, .int), (y113, .int), (y115, .int), (y119, .int), (y135, .long), (y137, .long), (y147, .int), (y149, .int)] s := hK.sub [0, 1, 2, 3, 4, 5, 6, 7, 8, 9, 10] rfl
  refine lv_aload_n hx hb dX12_init_229 rfl (lv_at hl 0 rfl) ?_
  refine lv_bipush (v := 32) hx hb dX12_init_230 (by decide) ?_
  refine va_newa (atype := .long) (ty := .long) (N' := 32) (a0 := (32, .inr (.inl (fun _ => 0)))) hx hb (hts _ wd_160) rfl hK hP hD hS hA (fun _ => rfl) (by decide) (by decide) (by decide) (Nat.le_of_ble_eq_true rfl) (Nat.le_of_ble_eq_true rfl) dX12_init_232 (fun q154 y155 H hK hP hD hS => ?_)
  have hK : va_K (dC, dI) classes [(y103, .int), (y107, .boolean), (y109, .int), (y111, .int), (y113, .int), (y115, .int), (y119, .int), (y135, .long), (y137, .long), (y147, .int), (y149, .int), (y155, .long)] s := hK
  have hP : va_P (dC, dI) classes [(h0, .inr (11, [.int 0, .ref q102, .int 0, .int 0, .int 0, .int 0, .ref q104, .int 0, .ref q106, .ref q108, .ref q110, .ref q112, .ref q114, .ref q116, .ref q118, .ref q120, .ref q122, .ref q124, .ref q126, .ref q128, .ref q130, .ref q132, .ref q134, .ref q136, .ref q138, .ref q140, .ref q142, .ref q144, .ref q146, .ref q148, .int 0, .ref q150, .ref q152, .null, .null, .int 0, .null, .null, .null, .null, .long 0, .long 0, .int 0, .null, .int 0, .int 0])), (q102, .inl (y103, 3000, .inl (fun _ => 0))), (q106, .inl (y107, 8, .inl (fun _ => 0))), (q108, .inl (y109, 24016, .inl (fun _ => 0))), (q110, .inl (y111, 8, .inl (fun _ => 0))), (q112, .inl (y113, 8, .inl (fun _ => 0))), (q114, .inl (y115, 8, .inl (fun _ => 0))), (q118, .inl (y119, 8, .inl (fun _ => 0))), (q134, .inl (y135, 1608, .inr (.inl (fun _ => 0)))), (q136, .inl (y137, 1608, .inr (.inl (fun _ => 0)))), (q146, .inl (y147, 8, .inl (fun _ => 0))), (q148, .inl (y149, 8, .inl (fun _ => 0))), (q154, .inl (y155, 32, .inr (.inl (fun _ => 0))))] H := hP
  have hD : va_D A [(h0, .inr (11, [.int 0, .ref q102, .int 0, .int 0, .int 0, .int 0, .ref q104, .int 0, .ref q106, .ref q108, .ref q110, .ref q112, .ref q114, .ref q116, .ref q118, .ref q120, .ref q122, .ref q124, .ref q126, .ref q128, .ref q130, .ref q132, .ref q134, .ref q136, .ref q138, .ref q140, .ref q142, .ref q144, .ref q146, .ref q148, .int 0, .ref q150, .ref q152, .null, .null, .int 0, .null, .null, .null, .null, .long 0, .long 0, .int 0, .null, .int 0, .int 0])), (q102, .inl (y103, 3000, .inl (fun _ => 0))), (q106, .inl (y107, 8, .inl (fun _ => 0))), (q108, .inl (y109, 24016, .inl (fun _ => 0))), (q110, .inl (y111, 8, .inl (fun _ => 0))), (q112, .inl (y113, 8, .inl (fun _ => 0))), (q114, .inl (y115, 8, .inl (fun _ => 0))), (q118, .inl (y119, 8, .inl (fun _ => 0))), (q134, .inl (y135, 1608, .inr (.inl (fun _ => 0)))), (q136, .inl (y137, 1608, .inr (.inl (fun _ => 0)))), (q146, .inl (y147, 8, .inl (fun _ => 0))), (q148, .inl (y149, 8, .inl (fun _ => 0))), (q154, .inl (y155, 32, .inr (.inl (fun _ => 0))))] := hD
  refine W.widen (k := 27) (n := 123466) (Nat.le_of_ble_eq_true rfl) (Nat.le_of_ble_eq_true rfl) ?_
  refine va_putF (D := (dC, dI)) (ci := 11) (v := .ref q154) (ty := (.array .long)) (C := RX12) (T := TX12) (N := 46) hx hb hts inX12 tyX12 tyX12_ok nmX12 hown hK hP hD hS 0 rfl rfl 33 (by decide) (hts _ wd_180) (fun _ h9 => h9) rfl hin rfl (by decide +kernel) rfl rfl (Nat.le_of_ble_eq_true rfl) dX12_init_234 (fun H locs hP hD hS => ?_)
  have hP : va_P (dC, dI) classes [(h0, .inr (11, [.int 0, .ref q102, .int 0, .int 0, .int 0, .int 0, .ref q104, .int 0, .ref q106, .ref q108, .ref q110, .ref q112, .ref q114, .ref q116, .ref q118, .ref q120, .ref q122, .ref q124, .ref q126, .ref q128, .ref q130, .ref q132, .ref q134, .ref q136, .ref q138, .ref q140, .ref q142, .ref q144, .ref q146, .ref q148, .int 0, .ref q150, .ref q152, .ref q154, .null, .int 0, .null, .null, .null, .null, .long 0, .long 0, .int 0, .null, .int 0, .int 0])), (q102, .inl (y103, 3000, .inl (fun _ => 0))), (q106, .inl (y107, 8, .inl (fun _ => 0))), (q108, .inl (y109, 24016, .inl (fun _ => 0))), (q110, .inl (y111, 8, .inl (fun _ => 0))), (q112, .inl (y113, 8, .inl (fun _ => 0))), (q114, .inl (y115, 8, .inl (fun _ => 0))), (q118, .inl (y119, 8, .inl (fun _ => 0))), (q134, .inl (y135, 1608, .inr (.inl (fun _ => 0)))), (q136, .inl (y137, 1608, .inr (.inl (fun _ => 0)))), (q146, .inl (y147, 8, .inl (fun _ => 0))), (q148, .inl (y149, 8, .inl (fun _ => 0))), (q154, .inl (y155, 32, .inr (.inl (fun _ => 0))))] H := hP
  have hD : va_D A [(h0, .inr (11, [.int 0, .ref q102, .int 0, .int 0, .int 0, .int 0, .ref q104, .int 0, .ref q106, .ref q108, .ref q110, .ref q112, .ref q114, .ref q116, .ref q118, .ref q120, .ref q122, .ref q124, .ref q126, .ref q128, .ref q130, .ref q132, .ref q134, .ref q136, .ref q138, .ref q140, .ref q142, .ref q144, .ref q146, .ref q148, .int 0, .ref q150, .ref q152, .ref q154, .null, .int 0, .null, .null, .null, .null, .long 0, .long 0, .int 0, .null, .int 0, .int 0])), (q102, .inl (y103, 3000, .inl (fun _ => 0))), (q106, .inl (y107, 8, .inl (fun _ => 0))), (q108, .inl (y109, 24016, .inl (fun _ => 0))), (q110, .inl (y111, 8, .inl (fun _ => 0))), (q112, .inl (y113, 8, .inl (fun _ => 0))), (q114, .inl (y115, 8, .inl (fun _ => 0))), (q118, .inl (y119, 8, .inl (fun _ => 0))), (q134, .inl (y135, 1608, .inr (.inl (fun _ => 0)))), (q136, .inl (y137, 1608, .inr (.inl (fun _ => 0)))), (q146, .inl (y147, 8, .inl (fun _ => 0))), (q148, .inl (y149, 8, .inl (fun _ => 0))), (q154, .inl (y155, 32, .inr (.inl (fun _ => 0))))] := hD
  have hP : va_P (dC, dI) classes [(h0, .inr (11, [.int 0, .ref q102, .int 0, .int 0, .int 0, .int 0, .ref q104, .int 0, .ref q106, .ref q108, .ref q110, .ref q112, .ref q114, .ref q116, .ref q118, .ref q120, .ref q122, .ref q124, .ref q126, .ref q128, .ref q130, .ref q132, .ref q134, .ref q136, .ref q138, .ref q140, .ref q142, .ref q144, .ref q146, .ref q148, .int 0, .ref q150, .ref q152, .ref q154, .null, .int 0, .null, .null, .null, .null, .long 0, .long 0, .int 0, .null, .int 0, .int 0])), (q102, .inl (y103, 3000, .inl (fun _ => 0))), (q106, .inl (y107, 8, .inl (fun _ => 0))), (q108, .inl (y109, 24016, .inl (fun _ => 0))), (q110, .inl (y111, 8, .inl (fun _ => 0))), (q112, .inl (y113, 8, .inl (fun _ => 0))), (q114, .inl (y115, 8, .inl (fun _ => 0))), (q118, .inl (y119, 8, .inl (fun _ => 0))), (q134, .inl (y135, 1608, .inr (.inl (fun _ => 0)))), (q136, .inl (y137, 1608, .inr (.inl (fun _ => 0)))), (q146, .inl (y147, 8, .inl (fun _ => 0))), (q148, .inl (y149, 8, .inl (fun _ => 0)))] H := hP.sub [0, 1, 2, 3, 4, 5, 6, 7, 8, 9, 10, 11] rfl
  have hD : va_D A [(h0, .inr (11, [.int 0, .ref q102, .int 0, .int 0, .int 0, .int 0, .ref q104, .int 0, .ref q106, .ref q108, .ref q110, .ref q112, .ref q114, .ref q116, .ref q118, .ref q120, .ref q122, .ref q124, .ref q126, .ref q128, .ref q130, .ref q132, .ref q134, .ref q136, .ref q138, .ref q140, .ref q142, .ref q144, .ref q146, .ref q148, .int 0, .ref q150, .ref q152, .ref q154, .null, .int 0, .null, .null, .null, .null, .long 0, .long 0, .int 0, .null, .int 0, .int 0])), (q102, .inl (y103, 3000, .inl (fun _ => 0))), (q106, .inl (y107, 8, .inl (fun _ => 0))), (q108, .inl (y109, 24016, .inl (fun _ => 0))), (q110, .inl (y111, 8, .inl (fun _ => 0))), (q112, .inl (y113, 8, .inl (fun _ => 0))), (q114, .inl (y115, 8, .inl (fun _ => 0))), (q118, .inl (y119, 8, .inl (fun _ => 0))), (q134, .inl (y135, 1608, .inr (.inl (fun _ => 0)))), (q136, .inl (y137, 1608, .inr (.inl (fun _ => 0)))), (q146, .inl (y147, 8, .inl (fun _ => 0))), (q148, .inl (y149, 8, .inl (fun _ => 0)))] := hD.sub [0, 1, 2, 3, 4, 5, 6, 7, 8, 9, 10, 11] (by decide) rfl
  have hK : va_K (dC, dI) classes [(y103, .int), (y107, .boolean), (y109, .int), (y111, .int), (y113, .int), (y115, .int), (y119, .int), (y135, .long), (y137, .long), (y147, .int), (y149, .int)] s := hK.sub [0, 1, 2, 3, 4, 5, 6, 7, 8, 9, 10] rfl
  refine lv_aload_n hx hb dX12_init_237 rfl (lv_at hl 0 rfl) ?_
  refine lv_bipush (v := 32) hx hb dX12_init_238 (by decide) ?_
  refine va_newa (atype := .long) (ty := .long) (N' := 32) (a0 := (32, .inr (.inl (fun _ => 0)))) hx hb (hts _ wd_160) rfl hK hP hD hS hA (fun _ => rfl) (by decide) (by decide) (by decide) (Nat.le_of_ble_eq_true rfl) (Nat.le_of_ble_eq_true rfl) dX12_init_240 (fun q156 y157 H hK hP hD hS => ?_)
  have hK : va_K (dC, dI) classes [(y103, .int), (y107, .boolean), (y109, .int), (y111, .int), (y113, .int), (y115, .int), (y119, .int), (y135, .long), (y137, .long), (y147, .int), (y149, .int), (y157, .long)] s := hK
  have hP : va_P (dC, dI) classes [(h0, .inr (11, [.int 0, .ref q102, .int 0, .int 0, .int 0, .int 0, .ref q104, .int 0, .ref q106, .ref q108, .ref q110, .ref q112, .ref q114, .ref q116, .ref q118, .ref q120, .ref q122, .ref q124, .ref q126, .ref q128, .ref q130, .ref q132, .ref q134, .ref q136, .ref q138, .ref q140, .ref q142, .ref q144, .ref q146, .ref q148, .int 0, .ref q150, .ref q152, .ref q154, .null, .int 0, .null, .null, .null, .null, .long 0, .long 0, .int 0, .null, .int 0, .int 0])), (q102, .inl (y103, 3000, .inl (fun _ => 0))), (q106, .inl (y107, 8, .inl (fun _ => 0))), (q108, .inl (y109, 24016, .inl (fun _ => 0))), (q110, .inl (y111, 8, .inl (fun _ => 0))), (q112, .inl (y113, 8, .inl (fun _ => 0))), (q114, .inl (y115, 8, .inl (fun _ => 0))), (q118, .inl (y119, 8, .inl (fun _ => 0))), (q134, .inl (y135, 1608, .inr (.inl (fun _ => 0)))), (q136, .inl (y137, 1608, .inr (.inl (fun _ => 0)))), (q146, .inl (y147, 8, .inl (fun _ => 0))), (q148, .inl (y149, 8, .inl (fun _ => 0))), (q156, .inl (y157, 32, .inr (.inl (fun _ => 0))))] H := hP
  have hD : va_D A [(h0, .inr (11, [.int 0, .ref q102, .int 0, .int 0, .int 0, .int 0, .ref q104, .int 0, .ref q106, .ref q108, .ref q110, .ref q112, .ref q114, .ref q116, .ref q118, .ref q120, .ref q122, .ref q124, .ref q126, .ref q128, .ref q130, .ref q132, .ref q134, .ref q136, .ref q138, .ref q140, .ref q142, .ref q144, .ref q146, .ref q148, .int 0, .ref q150, .ref q152, .ref q154, .null, .int 0, .null, .null, .null, .null, .long 0, .long 0, .int 0, .null, .int 0, .int 0])), (q102, .inl (y103, 3000, .inl (fun _ => 0))), (q106, .inl (y107, 8, .inl (fun _ => 0))), (q108, .inl (y109, 24016, .inl (fun _ => 0))), (q110, .inl (y111, 8, .inl (fun _ => 0))), (q112, .inl (y113, 8, .inl (fun _ => 0))), (q114, .inl (y115, 8, .inl (fun _ => 0))), (q118, .inl (y119, 8, .inl (fun _ => 0))), (q134, .inl (y135, 1608, .inr (.inl (fun _ => 0)))), (q136, .inl (y137, 1608, .inr (.inl (fun _ => 0)))), (q146, .inl (y147, 8, .inl (fun _ => 0))), (q148, .inl (y149, 8, .inl (fun _ => 0))), (q156, .inl (y157, 32, .inr (.inl (fun _ => 0))))] := hD
  refine W.widen (k := 28) (n := 123498) (Nat.le_of_ble_eq_true rfl) (Nat.le_of_ble_eq_true rfl) ?_
  refine va_putF (D := (dC, dI)) (ci := 11) (v := .ref q156) (ty := (.array .long)) (C := RX12) (T := TX12) (N := 46) hx hb hts inX12 tyX12 tyX12_ok nmX12 hown hK hP hD hS 0 rfl rfl 34 (by decide) (hts _ wd_181) (fun _ h9 => h9) rfl hin rfl (by decide +kernel) rfl rfl (Nat.le_of_ble_eq_true rfl) dX12_init_242 (fun H locs hP hD hS => ?_)
  have hP : va_P (dC, dI) classes [(h0, .inr (11, [.int 0, .ref q102, .int 0, .int 0, .int 0, .int 0, .ref q104, .int 0, .ref q106, .ref q108, .ref q110, .ref q112, .ref q114, .ref q116, .ref q118, .ref q120, .ref q122, .ref q124, .ref q126, .ref q128, .ref q130, .ref q132, .ref q134, .ref q136, .ref q138, .ref q140, .ref q142, .ref q144, .ref q146, .ref q148, .int 0, .ref q150, .ref q152, .ref q154, .ref q156, .int 0, .null, .null, .null, .null, .long 0, .long 0, .int 0, .null, .int 0, .int 0])), (q102, .inl (y103, 3000, .inl (fun _ => 0))), (q106, .inl (y107, 8, .inl (fun _ => 0))), (q108, .inl (y109, 24016, .inl (fun _ => 0))), (q110, .inl (y111, 8, .inl (fun _ => 0))), (q112, .inl (y113, 8, .inl (fun _ => 0))), (q114, .inl (y115, 8, .inl (fun _ => 0))), (q118, .inl (y119, 8, .inl (fun _ => 0))), (q134, .inl (y135, 1608, .inr (.inl (fun _ => 0)))), (q136, .inl (y137, 1608, .inr (.inl (fun _ => 0)))), (q146, .inl (y147, 8, .inl (fun _ => 0))), (q148, .inl (y149, 8, .inl (fun _ => 0))), (q156, .inl (y157, 32, .inr (.inl (fun _ => 0))))] H := hP
  have hD : va_D A [(h0, .inr (11, [.int 0, .ref q102, .int 0, .int 0, .int 0, .int 0, .ref q104, .int 0, .ref q106, .ref q108, .ref q110, .ref q112, .ref q114, .ref q116, .ref q118, .ref q120, .ref q122, .ref q124, .ref q126, .ref q128, .ref q130, .ref q132, .ref q134, .ref q136, .ref q138, .ref q140, .ref q142, .ref q144, .ref q146, .ref q148, .int 0, .ref q150, .ref q152, .ref q154, .ref q156, .int 0, .null, .null, .null, .null, .long 0, .long 0, .int 0, .null, .int 0, .int 0])), (q102, .inl (y103, 3000, .inl (fun _ => 0))), (q106, .inl (y107, 8, .inl (fun _ => 0))), (q108, .inl (y109, 24016, .inl (fun _ => 0))), (q110, .inl (y111, 8, .inl (fun _ => 0))), (q112, .inl (y113, 8, .inl (fun _ => 0))), (q114, .inl (y115, 8, .inl (fun _ => 0))), (q118, .inl (y119, 8, .inl (fun _ => 0))), (q134, .inl (y135, 1608, .inr (.inl (fun _ => 0)))), (q136, .inl (y137, 1608, .inr (.inl (fun _ => 0)))), (q146, .inl (y147, 8, .inl (fun _ => 0))), (q148, .inl (y149, 8, .inl (fun _ => 0))), (q156, .inl (y157, 32, .inr (.inl (fun _ => 0))))] := hD
  have hP : va_P (dC, dI) classes [(h0, .inr (11, [.int 0, .ref q102, .int 0, .int 0, .int 0, .int 0, .ref q104, .int 0, .ref q106, .ref q108, .ref q110, .ref q112, .ref q114, .ref q116, .ref q118, .ref q120, .ref q122, .ref q124, .ref q126, .ref q128, .ref q130, .ref q132, .ref q134, .ref q136, .ref q138, .ref q140, .ref q142, .ref q144, .ref q146, .ref q148, .int 0, .ref q150, .ref q152, .ref q154, .ref q156, .int 0, .null, .null, .null, .null, .long 0, .long 0, .int 0, .null, .int 0, .int 0])), (q102, .inl (y103, 3000, .inl (fun _ => 0))), (q106, .inl (y107, 8, .inl (fun _ => 0))), (q108, .inl (y109, 24016, .inl (fun _ => 0))), (q110, .inl (y111, 8, .inl (fun _ => 0))), (q112, .inl (y113, 8, .inl (fun _ => 0))), (q114, .inl (y115, 8, .inl (fun _ => 0))), (q118, .inl (y119, 8, .inl (fun _ => 0))), (q134, .inl (y135, 1608, .inr (.inl (fun _ => 0)))), (q136, .inl (y137, 1608, .inr (.inl (fun _ => 0)))), (q146, .inl (y147, 8, .inl (fun _ => 0))), (q148, .inl (y149, 8, .inl (fun _ => 0)))] H := hP.sub [0, 1, 2, 3, 4, 5, 6, 7, 8, 9, 10, 11] rfl
  have hD : va_D A [(h0, .inr (11, [.int 0, .ref q102, .int 0, .int 0, .int 0, .int 0, .ref q104, .int 0, .ref q106, .ref q108, .ref q110, .ref q112, .ref q114, .ref q116, .ref q118, .ref q120, .ref q122, .ref q124, .ref q126, .ref q128, .ref q130, .ref q132, .ref q134, .ref q136, .ref q138, .ref q140, .ref q142, .ref q144, .ref q146, .ref q148, .int 0, .ref q150, .ref q152, .ref q154, .ref q156, .int 0, .null, .null, .null, .null, .long 0, .long 0, .int 0, .null, .int 0, .int 0])), (q102, .inl (y103, 3000, .inl (fun _ => 0))), (q106, .inl (y107, 8, .inl (fun _ => 0))), (q108, .inl (y109, 24016, .inl (fun _ => 0))), (q110, .inl (y111, 8, .inl (fun _ => 0))), (q112, .inl (y113, 8, .inl (fun _ => 0))), (q114, .inl (y115, 8, .inl (fun _ => 0))), (q118, .inl (y119, 8, .inl (fun _ => 0))), (q134, .inl (y135, 1608, .inr (.inl (fun _ => 0)))), (q136, .inl (y137, 1608, .inr (.inl (fun _ => 0)))), (q146, .inl (y147, 8, .inl (fun _ => 0))), (q148, .inl (y149, 8, .inl (fun _ => 0)))] := hD.sub [0, 1, 2, 3, 4, 5, 6, 7, 8, 9, 10, 11] (by decide) rfl
  have hK : va_K (dC, dI) classes [(y103, .int), (y107, .boolean), (y109, .int), (y111, .int), (y113, .int), (y115, .int), (y119, .int), (y135, .long), (y137, .long), (y147, .int), (y149, .int)] s := hK.sub [0, 1, 2, 3, 4, 5, 6, 7, 8, 9, 10] rfl
  refine lv_aload_n hx hb dX12_init_245 rfl (lv_at hl 0 rfl) ?_
  refine lv_bipush (v := 32) hx hb dX12_init_246 (by decide) ?_
  refine va_newa (atype := .int) (ty := .int) (N' := 32) (a0 := (32, .inl (fun _ => 0))) hx hb (hts _ wd_13) rfl hK hP hD hS hA (fun _ => rfl) (by decide) (by decide) (by decide) (Nat.le_of_ble_eq_true rfl) (Nat.le_of_ble_eq_true rfl) dX12_init_248 (fun q158 y159 H hK hP hD hS => ?_)
  have hK : va_K (dC, dI) classes [(y103, .int), (y107, .boolean), (y109, .int), (y111, .int), (y113, .int), (y115, .int), (y119, .int), (y135, .long), (y137, .long), (y147, .int), (y149, .int), (y159, .int)] s := hK
  have hP : va_P (dC, dI) classes [(h0, .inr (11, [.int 0, .ref q102, .int 0, .int 0, .int 0, .int 0, .ref q104, .int 0, .ref q106, .ref q108, .ref q110, .ref q112, .ref q114, .ref q116, .ref q118, .ref q120, .ref q122, .ref q124, .ref q126, .ref q128, .ref q130, .ref q132, .ref q134, .ref q136, .ref q138, .ref q140, .ref q142, .ref q144, .ref q146, .ref q148, .int 0, .ref q150, .ref q152, .ref q154, .ref q156, .int 0, .null, .null, .null, .null, .long 0, .long 0, .int 0, .null, .int 0, .int 0])), (q102, .inl (y103, 3000, .inl (fun _ => 0))), (q106, .inl (y107, 8, .inl (fun _ => 0))), (q108, .inl (y109, 24016, .inl (fun _ => 0))), (q110, .inl (y111, 8, .inl (fun _ => 0))), (q112, .inl (y113, 8, .inl (fun _ => 0))), (q114, .inl (y115, 8, .inl (fun _ => 0))), (q118, .inl (y119, 8, .inl (fun _ => 0))), (q134, .inl (y135, 1608, .inr (.inl (fun _ => 0)))), (q136, .inl (y137, 1608, .inr (.inl (fun _ => 0)))), (q146, .inl (y147, 8, .inl (fun _ => 0))), (q148, .inl (y149, 8, .inl (fun _ => 0))), (q158, .inl (y159, 32, .inl (fun _ => 0)))] H := hP
  have hD : va_D A [(h0, .inr (11, [.int 0, .ref q102, .int 0, .int 0, .int 0, .int 0, .ref q104, .int 0, .ref q106, .ref q108, .ref q110, .ref q112, .ref q114, .ref q116, .ref q118, .ref q120, .ref q122, .ref q124, .ref q126, .ref q128, .ref q130, .ref q132, .ref q134, .ref q136, .ref q138, .ref q140, .ref q142, .ref q144, .ref q146, .ref q148, .int 0, .ref q150, .ref q152, .ref q154, .ref q156, .int 0, .null, .null, .null, .null, .long 0, .long 0, .int 0, .null, .int 0, .int 0])), (q102, .inl (y103, 3000, .inl (fun _ => 0))), (q106, .inl (y107, 8, .inl (fun _ => 0))), (q108, .inl (y109, 24016, .inl (fun _ => 0))), (q110, .inl (y111, 8, .inl (fun _ => 0))), (q112, .inl (y113, 8, .inl (fun _ => 0))), (q114, .inl (y115, 8, .inl (fun _ => 0))), (q118, .inl (y119, 8, .inl (fun _ => 0))), (q134, .inl (y135, 1608, .inr (.inl (fun _ => 0)))), (q136, .inl (y137, 1608, .inr (.inl (fun _ => 0)))), (q146, .inl (y147, 8, .inl (fun _ => 0))), (q148, .inl (y149, 8, .inl (fun _ => 0))), (q158, .inl (y159, 32, .inl (fun _ => 0)))] := hD
  refine W.widen (k := 29) (n := 123530) (Nat.le_of_ble_eq_true rfl) (Nat.le_of_ble_eq_true rfl) ?_
  refine va_putF (D := (dC, dI)) (ci := 11) (v := .ref q158) (ty := (.array .int)) (C := RX12) (T := TX12) (N := 46) hx hb hts inX12 tyX12 tyX12_ok nmX12 hown hK hP hD hS 0 rfl rfl 36 (by decide) (hts _ wd_182) (fun _ h9 => h9) rfl hin rfl (by decide +kernel) rfl rfl (Nat.le_of_ble_eq_true rfl) dX12_init_250 (fun H locs hP hD hS => ?_)
  have hP : va_P (dC, dI) classes [(h0, .inr (11, [.int 0, .ref q102, .int 0, .int 0, .int 0, .int 0, .ref q104, .int 0, .ref q106, .ref q108, .ref q110, .ref q112, .ref q114, .ref q116, .ref q118, .ref q120, .ref q122, .ref q124, .ref q126, .ref q128, .ref q130, .ref q132, .ref q134, .ref q136, .ref q138, .ref q140, .ref q142, .ref q144, .ref q146, .ref q148, .int 0, .ref q150, .ref q152, .ref q154, .ref q156, .int 0, .ref q158, .null, .null, .null, .long 0, .long 0, .int 0, .null, .int 0, .int 0])), (q102, .inl (y103, 3000, .inl (fun _ => 0))), (q106, .inl (y107, 8, .inl (fun _ => 0))), (q108, .inl (y109, 24016, .inl (fun _ => 0))), (q110, .inl (y111, 8, .inl (fun _ => 0))), (q112, .inl (y113, 8, .inl (fun _ => 0))), (q114, .inl (y115, 8, .inl (fun _ => 0))), (q118, .inl (y119, 8, .inl (fun _ => 0))), (q134, .inl (y135, 1608, .inr (.inl (fun _ => 0)))), (q136, .inl (y137, 1608, .inr (.inl (fun _ => 0)))), (q146, .inl (y147, 8, .inl (fun _ => 0))), (q148, .inl (y149, 8, .inl (fun _ => 0))), (q158, .inl (y159, 32, .inl (fun _ => 0)))] H := hP
  have hD : va_D A [(h0, .inr (11, [.int 0, .ref q102, .int 0, .int 0, .int 0, .int 0, .ref q104, .int 0, .ref q106, .ref q108, .ref q110, .ref q112, .ref q114, .ref q116, .ref q118, .ref q120, .ref q122, .ref q124, .ref q126, .ref q128, .ref q130, .ref q132, .ref q134, .ref q136, .ref q138, .ref q140, .ref q142, .ref q144, .ref q146, .ref q148, .int 0, .ref q150, .ref q152, .ref q154, .ref q156, .int 0, .ref q158, .null, .null, .null, .long 0, .long 0, .int 0, .null, .int 0, .int 0])), (q102, .inl (y103, 3000, .inl (fun _ => 0))), (q106, .inl (y107, 8, .inl (fun _ => 0))), (q108, .inl (y109, 24016, .inl (fun _ => 0))), (q110, .inl (y111, 8, .inl (fun _ => 0))), (q112, .inl (y113, 8, .inl (fun _ => 0))), (q114, .inl (y115, 8, .inl (fun _ => 0))), (q118, .inl (y119, 8, .inl (fun _ => 0))), (q134, .inl (y135, 1608, .inr (.inl (fun _ => 0)))), (q136, .inl (y137, 1608, .inr (.inl (fun _ => 0)))), (q146, .inl (y147, 8, .inl (fun _ => 0))), (q148, .inl (y149, 8, .inl (fun _ => 0))), (q158, .inl (y159, 32, .inl (fun _ => 0)))] := hD
  have hP : va_P (dC, dI) classes [(h0, .inr (11, [.int 0, .ref q102, .int 0, .int 0, .int 0, .int 0, .ref q104, .int 0, .ref q106, .ref q108, .ref q110, .ref q112, .ref q114, .ref q116, .ref q118, .ref q120, .ref q122, .ref q124, .ref q126, .ref q128, .ref q130, .ref q132, .ref q134, .ref q136, .ref q138, .ref q140, .ref q142, .ref q144, .ref q146, .ref q148, .int 0, .ref q150, .ref q152, .ref q154, .ref q156, .int 0, .ref q158, .null, .null, .null, .long 0, .long 0, .int 0, .null, .int 0, .int 0])), (q102, .inl (y103, 3000, .inl (fun _ => 0))), (q106, .inl (y107, 8, .inl (fun _ => 0))), (q108, .inl (y109, 24016, .inl (fun _ => 0))), (q110, .inl (y111, 8, .inl (fun _ => 0))), (q112, .inl (y113, 8, .inl (fun _ => 0))), (q114, .inl (y115, 8, .inl (fun _ => 0))), (q118, .inl (y119, 8, .inl (fun _ => 0))), (q134, .inl (y135, 1608, .inr (.inl (fun _ => 0)))), (q136, .inl (y137, 1608, .inr (.inl (fun _ => 0)))), (q146, .inl (y147, 8, .inl (fun _ => 0))), (q148, .inl (y149, 8, .inl (fun _ => 0)))] H := hP.sub [0, 1, 2, 3, 4, 5, 6, 7, 8, 9, 10, 11] rfl
  have hD : va_D A [(h0, .inr (11, [.int 0, .ref q102, .int 0, .int 0, .int 0, .int 0, .ref q104, .int 0, .ref q106, .ref q108, .ref q110, .ref q112, .ref q114, .ref q116, .ref q118, .ref q120, .ref q122, .ref q124, .ref q126, .ref q128, .ref q130, .ref q132, .ref q134, .ref q136, .ref q138, .ref q140, .ref q142, .ref q144, .ref q146, .ref q148, .int 0, .ref q150, .ref q152, .ref q154, .ref q156, .int 0, .ref q158, .null, .null, .null, .long 0, .long 0, .int 0, .null, .int 0, .int 0])), (q102, .inl (y103, 3000, .inl (fun _ => 0))), (q106, .inl (y107, 8, .inl (fun _ => 0))), (q108, .inl (y109, 24016, .inl (fun _ => 0))), (q110, .inl (y111, 8, .inl (fun _ => 0))), (q112, .inl (y113, 8, .inl (fun _ => 0))), (q114, .inl (y115, 8, .inl (fun _ => 0))), (q118, .inl (y119, 8, .inl (fun _ => 0))), (q134, .inl (y135, 1608, .inr (.inl (fun _ => 0)))), (q136, .inl (y137, 1608, .inr (.inl (fun _ => 0)))), (q146, .inl (y147, 8, .inl (fun _ => 0))), (q148, .inl (y149, 8, .inl (fun _ => 0)))] := hD.sub [0, 1, 2, 3, 4, 5, 6, 7, 8, 9, 10, 11] (by decide) rfl
  have hK : va_K (dC, dI) classes [(y103, .int), (y107, .boolean), (y109, .int), (y111, .int), (y113, .int), (y115, .int), (y119, .int), (y135, .long), (y137, .long), (y147, .int), (y149, .int)] s := hK.sub [0, 1, 2, 3, 4, 5, 6, 7, 8, 9, 10] rfl
  refine lv_aload_n hx hb dX12_init_253 rfl (lv_at hl 0 rfl) ?_
  refine lv_bipush (v := 32) hx hb dX12_init_254 (by decide) ?_
  refine va_newa (atype := .int) (ty := .int) (N' := 32) (a0 := (32, .inl (fun _ => 0))) hx hb (hts _ wd_13) rfl hK hP hD hS hA (fun _ => rfl) (by decide) (by decide) (by decide) (Nat.le_of_ble_eq_true rfl) (Nat.le_of_ble_eq_true rfl) dX12_init_256 (fun q160 y161 H hK hP hD hS => ?_)
  have hK : va_K (dC, dI) classes [(y103, .int), (y107, .boolean), (y109, .int), (y111, .int), (y113, .int), (y115, .int), (y119, .int), (y135, .long), (y137, .long), (y147, .int), (y149, .int), (y161, .int)] s := hK
  have hP : va_P (dC, dI) classes [(h0, .inr (11, [.int 0, .ref q102, .int 0, .int 0, .int 0, .int 0, .ref q104, .int 0, .ref q106, .ref q108, .ref q110, .ref q112, .ref q114, .ref q116, .ref q118, .ref q120, .ref q122, .ref q124, .ref q126, .ref q128, .ref q130, .ref q132, .ref q134, .ref q136, .ref q138, .ref q140, .ref q142, .ref q144, .ref q146, .ref q148, .int 0, .ref q150, .ref q152, .ref q154, .ref q156, .int 0, .ref q158, .null, .null, .null, .long 0, .long 0, .int 0, .null, .int 0, .int 0])), (q102, .inl (y103, 3000, .inl (fun _ => 0))), (q106, .inl (y107, 8, .inl (fun _ => 0))), (q108, .inl (y109, 24016, .inl (fun _ => 0))), (q110, .inl (y111, 8, .inl (fun _ => 0))), (q112, .inl (y113, 8, .inl (fun _ => 0))), (q114, .inl (y115, 8, .inl (fun _ => 0))), (q118, .inl (y119, 8, .inl (fun _ => 0))), (q134, .inl (y135, 1608, .inr (.inl (fun _ => 0)))), (q136, .inl (y137, 1608, .inr (.inl (fun _ => 0)))), (q146, .inl (y147, 8, .inl (fun _ => 0))), (q148, .inl (y149, 8, .inl (fun _ => 0))), (q160, .inl (y161, 32, .inl (fun _ => 0)))] H := hP
  have hD : va_D A [(h0, .inr (11, [.int 0, .ref q102, .int 0, .int 0, .int 0, .int 0, .ref q104, .int 0, .ref q106, .ref q108, .ref q110, .ref q112, .ref q114, .ref q116, .ref q118, .ref q120, .ref q122, .ref q124, .ref q126, .ref q128, .ref q130, .ref q132, .ref q134, .ref q136, .ref q138, .ref q140, .ref q142, .ref q144, .ref q146, .ref q148, .int 0, .ref q150, .ref q152, .ref q154, .ref q156, .int 0, .ref q158, .null, .null, .null, .long 0, .long 0, .int 0, .null, .int 0, .int 0])), (q102, .inl (y103, 3000, .inl (fun _ => 0))), (q106, .inl (y107, 8, .inl (fun _ => 0))), (q108, .inl (y109, 24016, .inl (fun _ => 0))), (q110, .inl (y111, 8, .inl (fun _ => 0))), (q112, .inl (y113, 8, .inl (fun _ => 0))), (q114, .inl (y115, 8, .inl (fun _ => 0))), (q118, .inl (y119, 8, .inl (fun _ => 0))), (q134, .inl (y135, 1608, .inr (.inl (fun _ => 0)))), (q136, .inl (y137, 1608, .inr (.inl (fun _ => 0)))), (q146, .inl (y147, 8, .inl (fun _ => 0))), (q148, .inl (y149, 8, .inl (fun _ => 0))), (q160, .inl (y161, 32, .inl (fun _ => 0)))] := hD
  refine W.widen (k := 30) (n := 123562) (Nat.le_of_ble_eq_true rfl) (Nat.le_of_ble_eq_true rfl) ?_
  refine va_putF (D := (dC, dI)) (ci := 11) (v := .ref q160) (ty := (.array .int)) (C := RX12) (T := TX12) (N := 46) hx hb hts inX12 tyX12 tyX12_ok nmX12 hown hK hP hD hS 0 rfl rfl 37 (by decide) (hts _ wd_183) (fun _ h9 => h9) rfl hin rfl (by decide +kernel) rfl rfl (Nat.le_of_ble_eq_true rfl) dX12_init_258 (fun H locs hP hD hS => ?_)
  have hP : va_P (dC, dI) classes [(h0, .inr (11, [.int 0, .ref q102, .int 0, .int 0, .int 0, .int 0, .ref q104, .int 0, .ref q106, .ref q108, .ref q110, .ref q112, .ref q114, .ref q116, .ref q118, .ref q120, .ref q122, .ref q124, .ref q126, .ref q128, .ref q130, .ref q132, .ref q134, .ref q136, .ref q138, .ref q140, .ref q142, .ref q144, .ref q146, .ref q148, .int 0, .ref q150, .ref q152, .ref q154, .ref q156, .int 0, .ref q158, .ref q160, .null, .null, .long 0, .long 0, .int 0, .null, .int 0, .int 0])), (q102, .inl (y103, 3000, .inl (fun _ => 0))), (q106, .inl (y107, 8, .inl (fun _ => 0))), (q108, .inl (y109, 24016, .inl (fun _ => 0))), (q110, .inl (y111, 8, .inl (fun _ => 0))), (q112, .inl (y113, 8, .inl (fun _ => 0))), (q114, .inl (y115, 8, .inl (fun _ => 0))), (q118, .inl (y119, 8, .inl (fun _ => 0))), (q134, .inl (y135, 1608, .inr (.inl (fun _ => 0)))), (q136, .inl (y137, 1608, .inr (.inl (fun _ => 0)))), (q146, .inl (y147, 8, .inl (fun _ => 0))), (q148, .inl (y149, 8, .inl (fun _ => 0))), (q160, .inl (y161, 32, .inl (fun _ => 0)))] H := hP
  have hD : va_D A [(h0, .inr (11, [.int 0, .ref q102, .int 0, .int 0, .int 0, .int 0, .ref q104, .int 0, .ref q106, .ref q108, .ref q110, .ref q112, .ref q114, .ref q116, .ref q118, .ref q120, .ref q122, .ref q124, .ref q126, .ref q128, .ref q130, .ref q132, .ref q134, .ref q136, .ref q138, .ref q140, .ref q142, .ref q144, .ref q146, .ref q148, .int 0, .ref q150, .ref q152, .ref q154, .ref q156, .int 0, .ref q158, .ref q160, .null, .null, .long 0, .long 0, .int 0, .null, .int 0, .int 0])), (q102, .inl (y103, 3000, .inl (fun _ => 0))), (q106, .inl (y107, 8, .inl (fun _ => 0))), (q108, .inl (y109, 24016, .inl (fun _ => 0))), (q110, .inl (y111, 8, .inl (fun _ => 0))), (q112, .inl (y113, 8, .inl (fun _ => 0))), (q114, .inl (y115, 8, .inl (fun _ => 0))), (q118, .inl (y119, 8, .inl (fun _ => 0))), (q134, .inl (y135, 1608, .inr (.inl (fun _ => 0)))), (q136, .inl (y137, 1608, .inr (.inl (fun _ => 0)))), (q146, .inl (y147, 8, .inl (fun _ => 0))), (q148, .inl (y149, 8, .inl (fun _ => 0))), (q160, .inl (y161, 32, .inl (fun _ => 0)))] := hD
  have hP : va_P (dC, dI) classes [(h0, .inr (11, [.int 0, .ref q102, .int 0, .int 0, .int 0, .int 0, .ref q104, .int 0, .ref q106, .ref q108, .ref q110, .ref q112, .ref q114, .ref q116, .ref q118, .ref q120, .ref q122, .ref q124, .ref q126, .ref q128, .ref q130, .ref q132, .ref q134, .ref q136, .ref q138, .ref q140, .ref q142, .ref q144, .ref q146, .ref q148, .int 0, .ref q150, .ref q152, .ref q154, .ref q156, .int 0, .ref q158, .ref q160, .null, .null, .long 0, .long 0, .int 0, .null, .int 0, .int 0])), (q102, .inl (y103, 3000, .inl (fun _ => 0))), (q106, .inl (y107, 8, .inl (fun _ => 0))), (q108, .inl (y109, 24016, .inl (fun _ => 0))), (q110, .inl (y111, 8, .inl (fun _ => 0))), (q112, .inl (y113, 8, .inl (fun _ => 0))), (q114, .inl (y115, 8, .inl (fun _ => 0))), (q118, .inl (y119, 8, .inl (fun _ => 0))), (q134, .inl (y135, 1608, .inr (.inl (fun _ => 0)))), (q136, .inl (y137, 1608, .inr (.inl (fun _ => 0)))), (q146, .inl (y147, 8, .inl (fun _ => 0))), (q148, .inl (y149, 8, .inl (fun _ => 0)))] H := hP.sub [0, 1, 2, 3, 4, 5, 6, 7, 8, 9, 10, 11] rfl
  have hD : va_D A [(h0, .inr (11, [.int 0, .ref q102, .int 0, .int 0, .int 0, .int 0, .ref q104, .int 0, .ref q106, .ref q108, .ref q110, .ref q112, .ref q114, .ref q116, .ref q118, .ref q120, .ref q122, .ref q124, .ref q126, .ref q128, .ref q130, .ref q132, .ref q134, .ref q136, .ref q138, .ref q140, .ref q142, .ref q144, .ref q146, .ref q148, .int 0, .ref q150, .ref q152, .ref q154, .ref q156, .int 0, .ref q158, .ref q160, .null, .null, .long 0, .long 0, .int 0, .null, .int 0, .int 0])), (q102, .inl (y103, 3000, .inl (fun _ => 0))), (q106, .inl (y107, 8, .inl (fun _ => 0))), (q108, .inl (y109, 24016, .inl (fun _ => 0))), (q110, .inl (y111, 8, .inl (fun _ => 0))), (q112, .inl (y113, 8, .inl (fun _ => 0))), (q114, .inl (y115, 8, .inl (fun _ => 0))), (q118, .inl (y119, 8, .inl (fun _ => 0))), (q134, .inl (y135, 1608, .inr (.inl (fun _ => 0)))), (q136, .inl (y137, 1608, .inr (.inl (fun _ => 0)))), (q146, .inl (y147, 8, .inl (fun _ => 0))), (q148, .inl (y149, 8, .inl (fun _ => 0)))] := hD.sub [0, 1, 2, 3, 4, 5, 6, 7, 8, 9, 10, 11] (by decide) rfl
  have hK : va_K (dC, dI) classes [(y103, .int), (y107, .boolean), (y109, .int), (y111, .int), (y113, .int), (y115, .int), (y119, .int), (y135, .long), (y137, .long), (y147, .int), (y149, .int)] s := hK.sub [0, 1, 2, 3, 4, 5, 6, 7, 8, 9, 10] rfl
  refine lv_aload_n hx hb dX12_init_261 rfl (lv_at hl 0 rfl) ?_
  refine lv_bipush (v := 32) hx hb dX12_init_262 (by decide) ?_
  refine va_newa (atype := .long) (ty := .long) (N' := 32) (a0 := (32, .inr (.inl (fun _ => 0)))) hx hb (hts _ wd_160) rfl hK hP hD hS hA (fun _ => rfl) (by decide) (by decide) (by decide) (Nat.le_of_ble_eq_true rfl) (Nat.le_of_ble_eq_true rfl) dX12_init_264 (fun q162 y163 H hK hP hD hS => ?_)
  have hK : va_K (dC, dI) classes [(y103, .int), (y107, .boolean), (y109, .int), (y111, .int), (y113, .int), (y115, .int), (y119, .int), (y135, .long), (y137, .long), (y147, .int), (y149, .int), (y163, .long)] s := hK
  have hP : va_P (dC, dI) classes [(h0, .inr (11, [.int 0, .ref q102, .int 0, .int 0, .int 0, .int 0, .ref q104, .int 0, .ref q106, .ref q108, .ref q110, .ref q112, .ref q114, .ref q116, .ref q118, .ref q120, .ref q122, .ref q124, .ref q126, .ref q128, .ref q130, .ref q132, .ref q134, .ref q136, .ref q138, .ref q140, .ref q142, .ref q144, .ref q146, .ref q148, .int 0, .ref q150, .ref q152, .ref q154, .ref q156, .int 0, .ref q158, .ref q160, .null, .null, .long 0, .long 0, .int 0, .null, .int 0, .int 0])), (q102, .inl (y103, 3000, .inl (fun _ => 0))), (q106, .inl (y107, 8, .inl (fun _ => 0))), (q108, .inl (y109, 24016, .inl (fun _ => 0))), (q110, .inl (y111, 8, .inl (fun _ => 0))), (q112, .inl (y113, 8, .inl (fun _ => 0))), (q114, .inl (y115, 8, .inl (fun _ => 0))), (q118, .inl (y119, 8, .inl (fun _ => 0))), (q134, .inl (y135, 1608, .inr (.inl (fun _ => 0)))), (q136, .inl (y137, 1608, .inr (.inl (fun _ => 0)))), (q146, .inl (y147, 8, .inl (fun _ => 0))), (q148, .inl (y149, 8, .inl (fun _ => 0))), (q162, .inl (y163, 32, .inr (.inl (fun _ => 0))))] H := hP
  have hD : va_D A [(h0, .inr (11, [.int 0, .ref q102, .int 0, .int 0, .int 0, .int 0, .ref q104, .int 0, .ref q106, .ref q108, .ref q110, .ref q112, .ref q114, .ref q116, .ref q118, .ref q120, .ref q122, .ref q124, .ref q126, .ref q128, .ref q130, .ref q132, .ref q134, .ref q136, .ref q138, .ref q140, .ref q142, .ref q144, .ref q146, .ref q148, .int 0, .ref q150, .ref q152, .ref q154, .ref q156, .int 0, .ref q158, .ref q160, .null, .null, .long 0, .long 0, .int 0, .null, .int 0, .int 0])), (q102, .inl (y103, 3000, .inl (fun _ => 0))), (q106, .inl (y107, 8, .inl (fun _ => 0))), (q108, .inl (y109, 24016, .inl (fun _ => 0))), (q110, .inl (y111, 8, .inl (fun _ => 0))), (q112, .inl (y113, 8, .inl (fun _ => 0))), (q114, .inl (y115, 8, .inl (fun _ => 0))), (q118, .inl (y119, 8, .inl (fun _ => 0))), (q134, .inl (y135, 1608, .inr (.inl (fun _ => 0)))), (q136, .inl (y137, 1608, .inr (.inl (fun _ => 0)))), (q146, .inl (y147, 8, .inl (fun _ => 0))), (q148, .inl (y149, 8, .inl (fun _ => 0))), (q162, .inl (y163, 32, .inr (.inl (fun _ => 0))))] := hD
  refine W.widen (k := 31) (n := 123594) (Nat.le_of_ble_eq_true rfl) (Nat.le_of_ble_eq_true rfl) ?_
  refine va_putF (D := (dC, dI)) (ci := 11) (v := .ref q162) (ty := (.array .long)) (C := RX12) (T := TX12) (N := 46) hx hb hts inX12 tyX12 tyX12_ok nmX12 hown hK hP hD hS 0 rfl rfl 38 (by decide) (hts _ wd_184) (fun _ h9 => h9) rfl hin rfl (by decide +kernel) rfl rfl (Nat.le_of_ble_eq_true rfl) dX12_init_266 (fun H locs hP hD hS => ?_)
  have hP : va_P (dC, dI) classes [(h0, .inr (11, [.int 0, .ref q102, .int 0, .int 0, .int 0, .int 0, .ref q104, .int 0, .ref q106, .ref q108, .ref q110, .ref q112, .ref q114, .ref q116, .ref q118, .ref q120, .ref q122, .ref q124, .ref q126, .ref q128, .ref q130, .ref q132, .ref q134, .ref q136, .ref q138, .ref q140, .ref q142, .ref q144, .ref q146, .ref q148, .int 0, .ref q150, .ref q152, .ref q154, .ref q156, .int 0, .ref q158, .ref q160, .ref q162, .null, .long 0, .long 0, .int 0, .null, .int 0, .int 0])), (q102, .inl (y103, 3000, .inl (fun _ => 0))), (q106, .inl (y107, 8, .inl (fun _ => 0))), (q108, .inl (y109, 24016, .inl (fun _ => 0))), (q110, .inl (y111, 8, .inl (fun _ => 0))), (q112, .inl (y113, 8, .inl (fun _ => 0))), (q114, .inl (y115, 8, .inl (fun _ => 0))), (q118, .inl (y119, 8, .inl (fun _ => 0))), (q134, .inl (y135, 1608, .inr (.inl (fun _ => 0)))), (q136, .inl (y137, 1608, .inr (.inl (fun _ => 0)))), (q146, .inl (y147, 8, .inl (fun _ => 0))), (q148, .inl (y149, 8, .inl (fun _ => 0))), (q162, .inl (y163, 32, .inr (.inl (fun _ => 0))))] H := hP
  have hD : va_D A [(h0, .inr (11, [.int 0, .ref q102, .int 0, .int 0, .int 0, .int 0, .ref q104, .int 0, .ref q106, .ref q108, .ref q110, .ref q112, .ref q114, .ref q116, .ref q118, .ref q120, .ref q122, .ref q124, .ref q126, .ref q128, .ref q130, .ref q132, .ref q134, .ref q136, .ref q138, .ref q140, .ref q142, .ref q144, .ref q146, .ref q148, .int 0, .ref q150, .ref q152, .ref q154, .ref q156, .int 0, .ref q158, .ref q160, .ref q162, .null, .long 0, .long 0, .int 0, .null, .int 0, .int 0])), (q102, .inl (y103, 3000, .inl (fun _ => 0))), (q106, .inl (y107, 8, .inl (fun _ => 0))), (q108, .inl (y109, 24016, .inl (fun _ => 0))), (q110, .inl (y111, 8, .inl (fun _ => 0))), (q112, .inl (y113, 8, .inl (fun _ => 0))), (q114, .inl (y115, 8, .inl (fun _ => 0))), (q118, .inl (y119, 8, .inl (fun _ => 0))), (q134, .inl (y135, 1608, .inr (.inl (fun _ => 0)))), (q136, .inl (y137, 1608, .inr (.inl (fun _ => 0)))), (q146, .inl (y147, 8, .inl (fun _ => 0))), (q148, .inl (y149, 8, .inl (fun _ => 0))), (q162, .inl (y163, 32, .inr (.inl (fun _ => 0))))] := hD
  have hP : va_P (dC, dI) classes [(h0, .inr (11, [.int 0, .ref q102, .int 0, .int 0, .int 0, .int 0, .ref q104, .int 0, .ref q106, .ref q108, .ref q110, .ref q112, .ref q114, .ref q116, .ref q118, .ref q120, .ref q122, .ref q124, .ref q126, .ref q128, .ref q130, .ref q132, .ref q134, .ref q136, .ref q138, .ref q140, .ref q142, .ref q144, .ref q146, .ref q148, .int 0, .ref q150, .ref q152, .ref q154, .ref q156, .int 0, .ref q158, .ref q160, .ref q162, .null, .long 0, .long 0, .int 0, .null, .int 0, .int 0])), (q102, .inl (y103, 3000, .inl (fun _ => 0))), (q106, .inl (y107, 8, .inl (fun _ => 0))), (q108, .inl (y109, 24016, .inl (fun _ => 0))), (q110, .inl (y111, 8, .inl (fun _ => 0))), (q112, .inl (y113, 8, .inl (fun _ => 0))), (q114, .inl (y115, 8, .inl (fun _ => 0))), (q118, .inl (y119, 8, .inl (fun _ => 0))), (q134, .inl (y135, 1608, .inr (.inl (fun _ => 0)))), (q136, .inl (y137, 1608, .inr (.inl (fun _ => 0)))), (q146, .inl (y147, 8, .inl (fun _ => 0))), (q148, .inl (y149, 8, .inl (fun _ => 0)))] H := hP.sub [0, 1, 2, 3, 4, 5, 6, 7, 8, 9, 10, 11] rfl
  have hD : va_D A [(h0, .inr (11, [.int 0, .ref q102, .int 0, .int 0, .int 0, .int 0, .ref q104, .int 0, .ref q106, .ref q108, .ref q110, .ref q112, .ref q114, .ref q116, .ref q118, .ref q120, .ref q122, .ref q124, .ref q126, .ref q128, .ref q130, .ref q132, .ref q134, .ref q136, .ref q138, .ref q140, .ref q142, .ref q144, .ref q146, .ref q148, .int 0, .ref q150, .ref q152, .ref q154, .ref q156, .int 0, .ref q158, .ref q160, .ref q162, .null, .long 0, .long 0, .int 0, .null, .int 0, .int 0])), (q102, .inl (y103, 3000, .inl (fun _ => 0))), (q106, .inl (y107, 8, .inl (fun _ => 0))), (q108, .inl (y109, 24016, .inl (fun _ => 0))), (q110, .inl (y111, 8, .inl (fun _ => 0))), (q112, .inl (y113, 8, .inl (fun _ => 0))), (q114, .inl (y115, 8, .inl (fun _ => 0))), (q118, .inl (y119, 8, .inl (fun _ => 0))), (q134, .inl (y135, 1608, .inr (.inl (fun _ => 0)))), (q136, .inl (y137, 1608, .inr (.inl (fun _ => 0)))), (q146, .inl (y147, 8, .inl (fun _ => 0))), (q148, .inl (y149, 8, .inl (fun _ => 0)))] := hD.sub [0, 1, 2, 3, 4, 5, 6, 7, 8, 9, 10, 11] (by decide) rfl
  have hK : va_K (dC, dI) classes [(y103, .int), (y107, .boolean), (y109, .int), (y111, .int), (y113, .int), (y115, .int), (y119, .int), (y135, .long), (y137, .long), (y147, .int), (y149, .int)] s := hK.sub [0, 1, 2, 3, 4, 5, 6, 7, 8, 9, 10] rfl
  refine lv_aload_n hx hb dX12_init_269 rfl (lv_at hl 0 rfl) ?_
  refine lv_bipush (v := 32) hx hb dX12_init_270 (by decide) ?_
  refine va_newa (atype := .long) (ty := .long) (N' := 32) (a0 := (32, .inr (.inl (fun _ => 0)))) hx hb (hts _ wd_160) rfl hK hP hD hS hA (fun _ => rfl) (by decide) (by decide) (by decide) (Nat.le_of_ble_eq_true rfl) (Nat.le_of_ble_eq_true rfl) dX12_init_272 (fun q164 y165 H hK hP hD hS => ?_)
  have hK : va_K (dC, dI) classes [(y103, .int), (y107, .boolean), (y109, .int), (y111, .int), (y113, .int), (y115, .int), (y119, .int), (y135, .long), (y137, .long), (y147, .int), (y149, .int), (y165, .long)] s := hK
  have hP : va_P (dC, dI) classes [(h0, .inr (11, [.int 0, .ref q102, .int 0, .int 0, .int 0, .int 0, .ref q104, .int 0, .ref q106, .ref q108, .ref q110, .ref q112, .ref q114, .ref q116, .ref q118, .ref q120, .ref q122, .ref q124, .ref q126, .ref q128, .ref q130, .ref q132, .ref q134, .ref q136, .ref q138, .ref q140, .ref q142, .ref q144, .ref q146, .ref q148, .int 0, .ref q150, .ref q152, .ref q154, .ref q156, .int 0, .ref q158, .ref q160, .ref q162, .null, .long 0, .long 0, .int 0, .null, .int 0, .int 0])), (q102, .inl (y103, 3000, .inl (fun _ => 0))), (q106, .inl (y107, 8, .inl (fun _ => 0))), (q108, .inl (y109, 24016, .inl (fun _ => 0))), (q110, .inl (y111, 8, .inl (fun _ => 0))), (q112, .inl (y113, 8, .inl (fun _ => 0))), (q114, .inl (y115, 8, .inl (fun _ => 0))), (q118, .inl (y119, 8, .inl (fun _ => 0))), (q134, .inl (y135, 1608, .inr (.inl (fun _ => 0)))), (q136, .inl (y137, 1608, .inr (.inl (fun _ => 0)))), (q146, .inl (y147, 8, .inl (fun _ => 0))), (q148, .inl (y149, 8, .inl (fun _ => 0))), (q164, .inl (y165, 32, .inr (.inl (fun _ => 0))))] H := hP
  have hD : va_D A [(h0, .inr (11, [.int 0, .ref q102, .int 0, .int 0, .int 0, .int 0, .ref q104, .int 0, .ref q106, .ref q108, .ref q110, .ref q112, .ref q114, .ref q116, .ref q118, .ref q120, .ref q122, .ref q124, .ref q126, .ref q128, .ref q130, .ref q132, .ref q134, .ref q136, .ref q138, .ref q140, .ref q142, .ref q144, .ref q146, .ref q148, .int 0, .ref q150, .ref q152, .ref q154, .ref q156, .int 0, .ref q158, .ref q160, .ref q162, .null, .long 0, .long 0, .int 0, .null, .int 0, .int 0])), (q102, .inl (y103, 3000, .inl (fun _ => 0))), (q106, .inl (y107, 8, .inl (fun _ => 0))), (q108, .inl (y109, 24016, .inl (fun _ => 0))), (q110, .inl (y111, 8, .inl (fun _ => 0))), (q112, .inl (y113, 8, .inl (fun _ => 0))), (q114, .inl (y115, 8, .inl (fun _ => 0))), (q118, .inl (y119, 8, .inl (fun _ => 0))), (q134, .inl (y135, 1608, .inr (.inl (fun _ => 0)))), (q136, .inl (y137, 1608, .inr (.inl (fun _ => 0)))), (q146, .inl (y147, 8, .inl (fun _ => 0))), (q148, .inl (y149, 8, .inl (fun _ => 0))), (q164, .inl (y165, 32, .inr (.inl (fun _ => 0))))] := hD
  refine W.widen (k := 32) (n := 123626) (Nat.le_of_ble_eq_true rfl) (Nat.le_of_ble_eq_true rfl) ?_
  refine va_putF (D := (dC, dI)) (ci := 11) (v := .ref q164) (ty := (.array .long)) (C := RX12) (T := TX12) (N := 46) hx hb hts inX12 tyX12 tyX12_ok nmX12 hown hK hP hD hS 0 rfl rfl 39 (by decide) (hts _ wd_185) (fun _ h9 => h9) rfl hin rfl (by decide +kernel) rfl rfl (Nat.le_of_ble_eq_true rfl) dX12_init_274 (fun H locs hP hD hS => ?_)
  have hP : va_P (dC, dI) classes [(h0, .inr (11, [.int 0, .ref q102, .int 0, .int 0, .int 0, .int 0, .ref q104, .int 0, .ref q106, .ref q108, .ref q110, .ref q112, .ref q114, .ref q116, .ref q118, .ref q120, .ref q122, .ref q124, .ref q126, .ref q128, .ref q130, .ref q132, .ref q134, .ref q136, .ref q138, .ref q140, .ref q142, .ref q144, .ref q146, .ref q148, .int 0, .ref q150, .ref q152, .ref q154, .ref q156, .int 0, .ref q158, .ref q160, .ref q162, .ref q164, .long 0, .long 0, .int 0, .null, .int 0, .int 0])), (q102, .inl (y103, 3000, .inl (fun _ => 0))), (q106, .inl (y107, 8, .inl (fun _ => 0))), (q108, .inl (y109, 24016, .inl (fun _ => 0))), (q110, .inl (y111, 8, .inl (fun _ => 0))), (q112, .inl (y113, 8, .inl (fun _ => 0))), (q114, .inl (y115, 8, .inl (fun _ => 0))), (q118, .inl (y119, 8, .inl (fun _ => 0))), (q134, .inl (y135, 1608, .inr (.inl (fun _ => 0)))), (q136, .inl (y137, 1608, .inr (.inl (fun _ => 0)))), (q146, .inl (y147, 8, .inl (fun _ => 0))), (q148, .inl (y149, 8, .inl (fun _ => 0))), (q164, .inl (y165, 32, .inr (.inl (fun _ => 0))))] H := hP
  have hD : va_D A [(h0, .inr (11, [.int 0, .ref q102, .int 0, .int 0, .int 0, .int 0, .ref q104, .int 0, .ref q106, .ref q108, .ref q110, .ref q112, .ref q114, .ref q116, .ref q118, .ref q120, .ref q122, .ref q124, .ref q126, .ref q128, .ref q130, .ref q132, .ref q134, .ref q136, .ref q138, .ref q140, .ref q142, .ref q144, .ref q146, .ref q148, .int 0, .ref q150, .ref q152, .ref q154, .ref q156, .int 0, .ref q158, .ref q160, .ref q162, .ref q164, .long 0, .long 0, .int 0, .null, .int 0, .int 0])), (q102, .inl (y103, 3000, .inl (fun _ => 0))), (q106, .inl (y107, 8, .inl (fun _ => 0))), (q108, .inl (y109, 24016, .inl (fun _ => 0))), (q110, .inl (y111, 8, .inl (fun _ => 0))), (q112, .inl (y113, 8, .inl (fun _ => 0))), (q114, .inl (y115, 8, .inl (fun _ => 0))), (q118, .inl (y119, 8, .inl (fun _ => 0))), (q134, .inl (y135, 1608, .inr (.inl (fun _ => 0)))), (q136, .inl (y137, 1608, .inr (.inl (fun _ => 0)))), (q146, .inl (y147, 8, .inl (fun _ => 0))), (q148, .inl (y149, 8, .inl (fun _ => 0))), (q164, .inl (y165, 32, .inr (.inl (fun _ => 0))))] := hD
  have hP : va_P (dC, dI) classes [(h0, .inr (11, [.int 0, .ref q102, .int 0, .int 0, .int 0, .int 0, .ref q104, .int 0, .ref q106, .ref q108, .ref q110, .ref q112, .ref q114, .ref q116, .ref q118, .ref q120, .ref q122, .ref q124, .ref q126, .ref q128, .ref q130, .ref q132, .ref q134, .ref q136, .ref q138, .ref q140, .ref q142, .ref q144, .ref q146, .ref q148, .int 0, .ref q150, .ref q152, .ref q154, .ref q156, .int 0, .ref q158, .ref q160, .ref q162, .ref q164, .long 0, .long 0, .int 0, .null, .int 0, .int 0])), (q102, .inl (y103, 3000, .inl (fun _ => 0))), (q106, .inl (y107, 8, .inl (fun _ => 0))), (q108, .inl (y109, 24016, .inl (fun _ => 0))), (q110, .inl (y111, 8, .inl (fun _ => 0))), (q112, .inl (y113, 8, .inl (fun _ => 0))), (q114, .inl (y115, 8, .inl (fun _ => 0))), (q118, .inl (y119, 8, .inl (fun _ => 0))), (q134, .inl (y135, 1608, .inr (.inl (fun _ => 0)))), (q136, .inl (y137, 1608, .inr (.inl (fun _ => 0)))), (q146, .inl (y147, 8, .inl (fun _ => 0))), (q148, .inl (y149, 8, .inl (fun _ => 0)))] H := hP.sub [0, 1, 2, 3, 4, 5, 6, 7, 8, 9, 10, 11] rfl
  have hD : va_D A [(h0, .inr (11, [.int 0, .ref q102, .int 0, .int 0, .int 0, .int 0, .ref q104, .int 0, .ref q106, .ref q108, .ref q110, .ref q112, .ref q114, .ref q116, .ref q118, .ref q120, .ref q122, .ref q124, .ref q126, .ref q128, .ref q130, .ref q132, .ref q134, .ref q136, .ref q138, .ref q140, .ref q142, .ref q144, .ref q146, .ref q148, .int 0, .ref q150, .ref q152, .ref q154, .ref q156, .int 0, .ref q158, .ref q160, .ref q162, .ref q164, .long 0, .long 0, .int 0, .null, .int 0, .int 0])), (q102, .inl (y103, 3000, .inl (fun _ => 0))), (q106, .inl (y107, 8, .inl (fun _ => 0))), (q108, .inl (y109, 24016, .inl (fun _ => 0))), (q110, .inl (y111, 8, .inl (fun _ => 0))), (q112, .inl (y113, 8, .inl (fun _ => 0))), (q114, .inl (y115, 8, .inl (fun _ => 0))), (q118, .inl (y119, 8, .inl (fun _ => 0))), (q134, .inl (y135, 1608, .inr (.inl (fun _ => 0)))), (q136, .inl (y137, 1608, .inr (.inl (fun _ => 0)))), (q146, .inl (y147, 8, .inl (fun _ => 0))), (q148, .inl (y149, 8, .inl (fun _ => 0)))] := hD.sub [0, 1, 2, 3, 4, 5, 6, 7, 8, 9, 10, 11] (by decide) rfl
  have hK : va_K (dC, dI) classes [(y103, .int), (y107, .boolean), (y109, .int), (y111, .int), (y113, .int), (y115, .int), (y119, .int), (y135, .long), (y137, .long), (y147, .int), (y149, .int)] s := hK.sub [0, 1, 2, 3, 4, 5, 6, 7, 8, 9, 10] rfl
  refine lv_aload_n hx hb dX12_init_277 rfl (lv_at hl 0 rfl) ?_
  refine lv_sipush (v := 20000) hx hb dX12_init_278 (by decide) ?_
  refine va_newa (atype := .int) (ty := .int) (N' := 20000) (a0 := (20000, .inl (fun _ => 0))) hx hb (hts _ wd_13) rfl hK hP hD hS hA (fun _ => rfl) (by decide) (by decide) (by decide) (Nat.le_of_ble_eq_true rfl) (Nat.le_of_ble_eq_true rfl) dX12_init_281 (fun q166 y167 H hK hP hD hS => ?_)
  have hK : va_K (dC, dI) classes [(y103, .int), (y107, .boolean), (y109, .int), (y111, .int), (y113, .int), (y115, .int), (y119, .int), (y135, .long), (y137, .long), (y147, .int), (y149, .int), (y167, .int)] s := hK
  have hP : va_P (dC, dI) classes [(h0, .inr (11, [.int 0, .ref q102, .int 0, .int 0, .int 0, .int 0, .ref q104, .int 0, .ref q106, .ref q108, .ref q110, .ref q112, .ref q114, .ref q116, .ref q118, .ref q120, .ref q122, .ref q124, .ref q126, .ref q128, .ref q130, .ref q132, .ref q134, .ref q136, .ref q138, .ref q140, .ref q142, .ref q144, .ref q146, .ref q148, .int 0, .ref q150, .ref q152, .ref q154, .ref q156, .int 0, .ref q158, .ref q160, .ref q162, .ref q164, .long 0, .long 0, .int 0, .null, .int 0, .int 0])), (q102, .inl (y103, 3000, .inl (fun _ => 0))), (q106, .inl (y107, 8, .inl (fun _ => 0))), (q108, .inl (y109, 24016, .inl (fun _ => 0))), (q110, .inl (y111, 8, .inl (fun _ => 0))), (q112, .inl (y113, 8, .inl (fun _ => 0))), (q114, .inl (y115, 8, .inl (fun _ => 0))), (q118, .inl (y119, 8, .inl (fun _ => 0))), (q134, .inl (y135, 1608, .inr (.inl (fun _ => 0)))), (q136, .inl (y137, 1608, .inr (.inl (fun _ => 0)))), (q146, .inl (y147, 8, .inl (fun _ => 0))), (q148, .inl (y149, 8, .inl (fun _ => 0))), (q166, .inl (y167, 20000, .inl (fun _ => 0)))] H := hP
  have hD : va_D A [(h0, .inr (11, [.int 0, .ref q102, .int 0, .int 0, .int 0, .int 0, .ref q104, .int 0, .ref q106, .ref q108, .ref q110, .ref q112, .ref q114, .ref q116, .ref q118, .ref q120, .ref q122, .ref q124, .ref q126, .ref q128, .ref q130, .ref q132, .ref q134, .ref q136, .ref q138, .ref q140, .ref q142, .ref q144, .ref q146, .ref q148, .int 0, .ref q150, .ref q152, .ref q154, .ref q156, .int 0, .ref q158, .ref q160, .ref q162, .ref q164, .long 0, .long 0, .int 0, .null, .int 0, .int 0])), (q102, .inl (y103, 3000, .inl (fun _ => 0))), (q106, .inl (y107, 8, .inl (fun _ => 0))), (q108, .inl (y109, 24016, .inl (fun _ => 0))), (q110, .inl (y111, 8, .inl (fun _ => 0))), (q112, .inl (y113, 8, .inl (fun _ => 0))), (q114, .inl (y115, 8, .inl (fun _ => 0))), (q118, .inl (y119, 8, .inl (fun _ => 0))), (q134, .inl (y135, 1608, .inr (.inl (fun _ => 0)))), (q136, .inl (y137, 1608, .inr (.inl (fun _ => 0)))), (q146, .inl (y147, 8, .inl (fun _ => 0))), (q148, .inl (y149, 8, .inl (fun _ => 0))), (q166, .inl (y167, 20000, .inl (fun _ => 0)))] := hD
  refine W.widen (k := 33) (n := 143626) (Nat.le_of_ble_eq_true rfl) (Nat.le_of_ble_eq_true rfl) ?_
  refine va_putF (D := (dC, dI)) (ci := 11) (v := .ref q166) (ty := (.array .int)) (C := RX12) (T := TX12) (N := 46) hx hb hts inX12 tyX12 tyX12_ok nmX12 hown hK hP hD hS 0 rfl rfl 43 (by decide) (hts _ wd_186) (fun _ h9 => h9) rfl hin rfl (by decide +kernel) rfl rfl (Nat.le_of_ble_eq_true rfl) dX12_init_283 (fun H locs hP hD hS => ?_)
  have hP : va_P (dC, dI) classes [(h0, .inr (11, [.int 0, .ref q102, .int 0, .int 0, .int 0, .int 0, .ref q104, .int 0, .ref q106, .ref q108, .ref q110, .ref q112, .ref q114, .ref q116, .ref q118, .ref q120, .ref q122, .ref q124, .ref q126, .ref q128, .ref q130, .ref q132, .ref q134, .ref q136, .ref q138, .ref q140, .ref q142, .ref q144, .ref q146, .ref q148, .int 0, .ref q150, .ref q152, .ref q154, .ref q156, .int 0, .ref q158, .ref q160, .ref q162, .ref q164, .long 0, .long 0, .int 0, .ref q166, .int 0, .int 0])), (q102, .inl (y103, 3000, .inl (fun _ => 0))), (q106, .inl (y107, 8, .inl (fun _ => 0))), (q108, .inl (y109, 24016, .inl (fun _ => 0))), (q110, .inl (y111, 8, .inl (fun _ => 0))), (q112, .inl (y113, 8, .inl (fun _ => 0))), (q114, .inl (y115, 8, .inl (fun _ => 0))), (q118, .inl (y119, 8, .inl (fun _ => 0))), (q134, .inl (y135, 1608, .inr (.inl (fun _ => 0)))), (q136, .inl (y137, 1608, .inr (.inl (fun _ => 0)))), (q146, .inl (y147, 8, .inl (fun _ => 0))), (q148, .inl (y149, 8, .inl (fun _ => 0))), (q166, .inl (y167, 20000, .inl (fun _ => 0)))] H := hP
  have hD : va_D A [(h0, .inr (11, [.int 0, .ref q102, .int 0, .int 0, .int 0, .int 0, .ref q104, .int 0, .ref q106, .ref q108, .ref q110, .ref q112, .ref q114, .ref q116, .ref q118, .ref q120, .ref q122, .ref q124, .ref q126, .ref q128, .ref q130, .ref q132, .ref q134, .ref q136, .ref q138, .ref q140, .ref q142, .ref q144, .ref q146, .ref q148, .int 0, .ref q150, .ref q152, .ref q154, .ref q156, .int 0, .ref q158, .ref q160, .ref q162, .ref q164, .long 0, .long 0, .int 0, .ref q166, .int 0, .int 0])), (q102, .inl (y103, 3000, .inl (fun _ => 0))), (q106, .inl (y107, 8, .inl (fun _ => 0))), (q108, .inl (y109, 24016, .inl (fun _ => 0))), (q110, .inl (y111, 8, .inl (fun _ => 0))), (q112, .inl (y113, 8, .inl (fun _ => 0))), (q114, .inl (y115, 8, .inl (fun _ => 0))), (q118, .inl (y119, 8, .inl (fun _ => 0))), (q134, .inl (y135, 1608, .inr (.inl (fun _ => 0)))), (q136, .inl (y137, 1608, .inr (.inl (fun _ => 0)))), (q146, .inl (y147, 8, .inl (fun _ => 0))), (q148, .inl (y149, 8, .inl (fun _ => 0))), (q166, .inl (y167, 20000, .inl (fun _ => 0)))] := hD
  have hP : va_P (dC, dI) classes [(h0, .inr (11, [.int 0, .ref q102, .int 0, .int 0, .int 0, .int 0, .ref q104, .int 0, .ref q106, .ref q108, .ref q110, .ref q112, .ref q114, .ref q116, .ref q118, .ref q120, .ref q122, .ref q124, .ref q126, .ref q128, .ref q130, .ref q132, .ref q134, .ref q136, .ref q138, .ref q140, .ref q142, .ref q144, .ref q146, .ref q148, .int 0, .ref q150, .ref q152, .ref q154, .ref q156, .int 0, .ref q158, .ref q160, .ref q162, .ref q164, .long 0, .long 0, .int 0, .ref q166, .int 0, .int 0])), (q102, .inl (y103, 3000, .inl (fun _ => 0))), (q106, .inl (y107, 8, .inl (fun _ => 0))), (q108, .inl (y109, 24016, .inl (fun _ => 0))), (q110, .inl (y111, 8, .inl (fun _ => 0))), (q112, .inl (y113, 8, .inl (fun _ => 0))), (q114, .inl (y115, 8, .inl (fun _ => 0))), (q118, .inl (y119, 8, .inl (fun _ => 0))), (q134, .inl (y135, 1608, .inr (.inl (fun _ => 0)))), (q136, .inl (y137, 1608, .inr (.inl (fun _ => 0)))), (q146, .inl (y147, 8, .inl (fun _ => 0))), (q148, .inl (y149, 8, .inl (fun _ => 0)))] H := hP.sub [0, 1, 2, 3, 4, 5, 6, 7, 8, 9, 10, 11] rfl
  have hD : va_D A [(h0, .inr (11, [.int 0, .ref q102, .int 0, .int 0, .int 0, .int 0, .ref q104, .int 0, .ref q106, .ref q108, .ref q110, .ref q112, .ref q114, .ref q116, .ref q118, .ref q120, .ref q122, .ref q124, .ref q126, .ref q128, .ref q130, .ref q132, .ref q134, .ref q136, .ref q138, .ref q140, .ref q142, .ref q144, .ref q146, .ref q148, .int 0, .ref q150, .ref q152, .ref q154, .ref q156, .int 0, .ref q158, .ref q160, .ref q162, .ref q164, .long 0, .long 0, .int 0, .ref q166, .int 0, .int 0])), (q102, .inl (y103, 3000, .inl (fun _ => 0))), (q106, .inl (y107, 8, .inl (fun _ => 0))), (q108, .inl (y109, 24016, .inl (fun _ => 0))), (q110, .inl (y111, 8, .inl (fun _ => 0))), (q112, .inl (y113, 8, .inl (fun _ => 0))), (q114, .inl (y115, 8, .inl (fun _ => 0))), (q118, .inl (y119, 8, .inl (fun _ => 0))), (q134, .inl (y135, 1608, .inr (.inl (fun _ => 0)))), (q136, .inl (y137, 1608, .inr (.inl (fun _ => 0)))), (q146, .inl (y147, 8, .inl (fun _ => 0))), (q148, .inl (y149, 8, .inl (fun _ => 0)))] := hD.sub [0, 1, 2, 3, 4, 5, 6, 7, 8, 9, 10, 11] (by decide) rfl
  have hK : va_K (dC, dI) classes [(y103, .int), (y107, .boolean), (y109, .int), (y111, .int), (y113, .int), (y115, .int), (y119, .int), (y135, .long), (y137, .long), (y147, .int), (y149, .int)] s := hK.sub [0, 1, 2, 3, 4, 5, 6, 7, 8, 9, 10] rfl
  have hP9 := hP.sub (ws' := [(h0, .inr (11, [.int 0, .ref q102, .int 0, .int 0, .int 0, .int 0, .ref q104, .int 0, .ref q106, .ref q108, .ref q110, .ref q112, .ref q114, .ref q116, .ref q118, .ref q120, .ref q122, .ref q124, .ref q126, .ref q128, .ref q130, .ref q132, .ref q134, .ref q136, .ref q138, .ref q140, .ref q142, .ref q144, .ref q146, .ref q148, .int 0, .ref q150, .ref q152, .ref q154, .ref q156, .int 0, .ref q158, .ref q160, .ref q162, .ref q164, .long 0, .long 0, .int 0, .ref q166, .int 0, .int 0])), (q102, .inl (y103, 3000, .inl (fun _ => 0))), (q106, .inl (y107, 8, .inl (fun _ => 0))), (q108, .inl (y109, 24016, .inl (fun _ => 0))), (q110, .inl (y111, 8, .inl (fun _ => 0))), (q112, .inl (y113, 8, .inl (fun _ => 0))), (q114, .inl (y115, 8, .inl (fun _ => 0))), (q118, .inl (y119, 8, .inl (fun _ => 0))), (q134, .inl (y135, 1608, .inr (.inl (fun _ => 0)))), (q136, .inl (y137, 1608, .inr (.inl (fun _ => 0)))), (q146, .inl (y147, 8, .inl (fun _ => 0))), (q148, .inl (y149, 8, .inl (fun _ => 0)))]) [0, 1, 2, 3, 4, 5, 6, 7, 8, 9, 10, 11] rfl
  have hD9 := hD.sub (ws' := [(h0, .inr (11, [.int 0, .ref q102, .int 0, .int 0, .int 0, .int 0, .ref q104, .int 0, .ref q106, .ref q108, .ref q110, .ref q112, .ref q114, .ref q116, .ref q118, .ref q120, .ref q122, .ref q124, .ref q126, .ref q128, .ref q130, .ref q132, .ref q134, .ref q136, .ref q138, .ref q140, .ref q142, .ref q144, .ref q146, .ref q148, .int 0, .ref q150, .ref q152, .ref q154, .ref q156, .int 0, .ref q158, .ref q160, .ref q162, .ref q164, .long 0, .long 0, .int 0, .ref q166, .int 0, .int 0])), (q102, .inl (y103, 3000, .inl (fun _ => 0))), (q106, .inl (y107, 8, .inl (fun _ => 0))), (q108, .inl (y109, 24016, .inl (fun _ => 0))), (q110, .inl (y111, 8, .inl (fun _ => 0))), (q112, .inl (y113, 8, .inl (fun _ => 0))), (q114, .inl (y115, 8, .inl (fun _ => 0))), (q118, .inl (y119, 8, .inl (fun _ => 0))), (q134, .inl (y135, 1608, .inr (.inl (fun _ => 0)))), (q136, .inl (y137, 1608, .inr (.inl (fun _ => 0)))), (q146, .inl (y147, 8, .inl (fun _ => 0))), (q148, .inl (y149, 8, .inl (fun _ => 0)))]) [0, 1, 2, 3, 4, 5, 6, 7, 8, 9, 10, 11] (by decide) rfl
  have hK9 := hK.sub (tys' := [(y103, .int), (y107, .boolean), (y109, .int), (y111, .int), (y113, .int), (y115, .int), (y119, .int), (y135, .long), (y137, .long), (y147, .int), (y149, .int)]) [0, 1, 2, 3, 4, 5, 6, 7, 8, 9, 10] rfl
  refine W.widen (k := 33) (n := 143626) (Nat.le_of_ble_eq_true rfl) (Nat.le_of_ble_eq_true rfl) ?_
  exact W.vret hx hb hr (fun t ht hW => ⟨⟨(), rfl, trivial, q102, q104, q106, q108, q110, q112, q114, q116, q118, q120, q122, q124, q126, q128, q130, q132, q134, q136, q138, q140, q142, q144, q146, q148, q150, q152, q154, q156, q158, q160, q162, q164, q166, y103, y107, y109, y111, y113, y115, y119, y135, y137, y147, y149, by rw [ht]; exact hP9, va_K.moved hW.alike hK9, hD9⟩, hS.F ht⟩) hS.2.2 dX12_init_286
end
section
set_option maxHeartbeats 4000000 in
set_option maxRecDepth 100000 in
/-- feedNumber -/
theorem c_feedNumber (l : Launch) (dC : Nat → ClassId) (dI : Nat → Nat → Nat) (h0 : Nat) (k : Int32) (h1 : Nat) (x : Int32) (y : Int32) (v2 : Value) (v3 : Value) (v4 : Value) (v5 : Value) (v6 : Value) (v7 : Value) (v8 : Value) (v9 : Value) (v10 : Value) (v11 : Value) (v12 : Value) (v13 : Value) (cB : ClassId) (f0 : Nat → Int32) (h0x : x = 0 ∨ x = 4 ∨ x = 8 ∨ x = 12 ∨ x = 16) (hy : y = x + 4) (sz : Nat) : Met l yX11_feedNumber (.code yX11_feedNumber cX11_feedNumber 3 none :: wU) ({ frames := 0, cells := 0, slots := 0, locals := 0 } : Room) (va_Pc [.ref h0, .int k] (fun U => P5 dC dI [(h0, .inr (10, [.ref h1, .int x, v2, v3, v4, v5, v6, v7, v8, v9, v10, v11, v12, v13])), (h1, .inl (cB, 3000, .inl f0))] [(cB, .byte)] sz U)) (va_Qv (fun _ : Unit => True) (fun _ t => ∃ f9 : Nat → Int32, P3 dC dI (va_A [(h0, .inr (10, [.ref h1, .int x, v2, v3, v4, v5, v6, v7, v8, v9, v10, v11, v12, v13])), (h1, .inl (cB, 3000, .inl f0))] sz) [(h0, .inr (10, [.ref h1, .int y, v2, v3, v4, v5, v6, v7, v8, v9, v10, v11, v12, v13])), (h1, .inl (cB, 3000, .inl f9))] [(cB, .byte)] t) (va_A [(h0, .inr (10, [.ref h1, .int x, v2, v3, v4, v5, v6, v7, v8, v9, v10, v11, v12, v13])), (h1, .inl (cB, 3000, .inl f0))] sz)) 0 0 (va_A [(h0, .inr (10, [.ref h1, .int x, v2, v3, v4, v5, v6, v7, v8, v9, v10, v11, v12, v13])), (h1, .inl (cB, 3000, .inl f0))] sz) := by
  refine Met.ofW (cc := cX11_feedNumber) (maxL := 3) (ret := none) (by decide) rfl ?_
  intro p e s m args below meth c s₁ B hml hv
  obtain ⟨rfl, hsz, hP, hK, hD0, hE⟩ := hv
  have hx := B.exec
  have hb := B.bytes
  have hr := B.returns
  have hts0 := atoms_spec (ws := (.code yX11_feedNumber cX11_feedNumber 3 none :: wU)) B.pre
  have hts : ∀ w ∈ wU, w.before _ s = true := fun w h => hts0 w (List.mem_cons_of_mem _ h)
  have hown : s.vm.findClass "SpineTables" = some m.cls := findClass_of_methodNamed B.named
  have hlocks := B.notSynchronized
  subst hsz
  have hD := hD0.self (sz := s.heap.size)
  generalize hAe : va_A [(h0, .inr (10, [.ref h1, .int x, v2, v3, v4, v5, v6, v7, v8, v9, v10, v11, v12, v13])), (h1, .inl (cB, 3000, .inl f0))] s.heap.size = A at hD ⊢
  have hA : ∀ q : Nat, s.heap.size ≤ q → A q := fun q h => by rw [← hAe]; exact Or.inr h
  have hP : va_P (dC, dI) classes [(h0, .inr (10, [.ref h1, .int x, v2, v3, v4, v5, v6, v7, v8, v9, v10, v11, v12, v13])), (h1, .inl (cB, 3000, .inl f0))] s.heap := hP
  have hl := lv_entry ([.ref h0, .int k]) (n := 3) (Nat.le_of_ble_eq_true rfl)
  rw [lg_entry_eq]
  generalize (lg_sl ([.ref h0, .int k]) ++ List.replicate (3 - (lg_sl ([.ref h0, .int k])).length) Slot.unset).toArray = ls at hl ⊢
  have hl : lv_has ls 3 [(0, .ref h0), (1, .int k)] := hl
  obtain ⟨H, hH⟩ : ∃ H, H = s.heap := ⟨_, rfl⟩
  rw [← hH] at hP
  have hS : va_S A s.heap H [] := by rw [hH]; exact va_S.rf
  refine w_heap hH ?_
  refine lv_bipush (v := 24) hx hb dX11_feedNumber_0 (by decide) ?_
  refine lv_istore_n (lv' := [(2, .int 24), (0, .ref h0), (1, .int k)]) hx hb dX11_feedNumber_2 rfl hl (by decide) rfl (fun ls hl => ?_)
  refine lv_iload_n hx hb dX11_feedNumber_3 rfl (lv_at hl 0 rfl) ?_
  refine lv_if_lt (tgt := 46) hx hb dX11_feedNumber_4 (by decide) (fun hc => absurd hc (by decide)) (fun _ => ?_)
  refine lv_aload_n hx hb dX11_feedNumber_7 rfl (lv_at hl 1 rfl) ?_
  refine va_get (D := (dC, dI)) (ci := 10) (v := .int x) (C := RX11) (T := TX11) (N := 14) hx hb hts inX11 hown hK hP 0 rfl rfl 1 (by decide) (hts _ wd_107) (fun _ h9 => h9) rfl dX11_feedNumber_8 ?_
  refine lv_sipush (v := 3000) hx hb dX11_feedNumber_11 (by decide) ?_
  refine lv_icmp_ge (tgt := 46) hx hb dX11_feedNumber_14 (by decide) (fun hc => absurd hc (by rcases h0x with rfl | rfl | rfl | rfl | rfl <;> subst_vars <;> decide)) (fun _ => ?_)
  refine lv_aload_n hx hb dX11_feedNumber_17 rfl (lv_at hl 1 rfl) ?_
  refine va_get (D := (dC, dI)) (ci := 10) (v := .ref h1) (C := RX11) (T := TX11) (N := 14) hx hb hts inX11 hown hK hP 0 rfl rfl 0 (by decide) (hts _ wd_106) (fun _ h9 => h9) rfl dX11_feedNumber_18 ?_
  refine lv_aload_n hx hb dX11_feedNumber_21 rfl (lv_at hl 1 rfl) ?_
  refine va_get (D := (dC, dI)) (ci := 10) (v := .int x) (C := RX11) (T := TX11) (N := 14) hx hb hts inX11 hown hK hP 0 rfl rfl 1 (by decide) (hts _ wd_107) (fun _ h9 => h9) rfl dX11_feedNumber_22 ?_
  refine lv_iload_n hx hb dX11_feedNumber_25 rfl (lv_at hl 2 rfl) ?_
  refine lv_iload_n hx hb dX11_feedNumber_26 rfl (lv_at hl 0 rfl) ?_
  refine lv_ishr hx hb dX11_feedNumber_27 ?_
  refine lv_topi (fun n168 en168 => ?_)
  refine lv_i2b hx hb dX11_feedNumber_28 rfl ?_
  refine lv_topi (fun n169 en169 => ?_)
  refine va_bast hx hb hK hP hD hS 1 0 rfl rfl (by rcases h0x with rfl | rfl | rfl | rfl | rfl <;> subst_vars <;> (unfold vp_in; decide)) dX11_feedNumber_29 (fun H locs hP hD hS => ?_)
  generalize upd f0 _ _ = f170 at hP hD
  have hP : va_P (dC, dI) classes [(h0, .inr (10, [.ref h1, .int x, v2, v3, v4, v5, v6, v7, v8, v9, v10, v11, v12, v13])), (h1, .inl (cB, 3000, .inl f170))] H := hP
  have hD : va_D A [(h0, .inr (10, [.ref h1, .int x, v2, v3, v4, v5, v6, v7, v8, v9, v10, v11, v12, v13])), (h1, .inl (cB, 3000, .inl f170))] := hD
  refine lv_aload_n hx hb dX11_feedNumber_30 rfl (lv_at hl 1 rfl) ?_
  refine lv_dup hx hb dX11_feedNumber_31 rfl ?_
  refine va_get (D := (dC, dI)) (ci := 10) (v := .int x) (C := RX11) (T := TX11) (N := 14) hx hb hts inX11 hown hK hP 0 rfl rfl 1 (by decide) (hts _ wd_107) (fun _ h9 => h9) rfl dX11_feedNumber_32 ?_
  refine lv_iconst (v := 1) hx hb dX11_feedNumber_35 (by decide) ?_
  refine lv_iadd hx hb dX11_feedNumber_36 ?_
  refine lv_topi (fun n171 en171 => ?_)
  refine va_put (D := (dC, dI)) (ci := 10) (v := .int n171) (ty := .int) (C := RX11) (T := TX11) (N := 14) hx hb hts inX11 tyX11 tyX11_ok nmX11 hown hK hP hD hS 0 rfl rfl 1 (by decide) (hts _ wd_107) (fun _ h9 => h9) rfl (by decide +kernel) rfl rfl (Nat.le_of_ble_eq_true rfl) dX11_feedNumber_37 (fun H locs hP hD hS => ?_)
  have hP : va_P (dC, dI) classes [(h0, .inr (10, [.ref h1, .int n171, v2, v3, v4, v5, v6, v7, v8, v9, v10, v11, v12, v13])), (h1, .inl (cB, 3000, .inl f170))] H := hP
  have hD : va_D A [(h0, .inr (10, [.ref h1, .int n171, v2, v3, v4, v5, v6, v7, v8, v9, v10, v11, v12, v13])), (h1, .inl (cB, 3000, .inl f170))] := hD
  refine lv_iinc (v := 16) (lv' := [(2, .int 16), (0, .ref h0), (1, .int k)]) hx hb dX11_feedNumber_40 hl (k := 0) rfl (by decide) (by decide) rfl (fun ls hl => ?_)
  refine lv_goto (tgt := 3) hx hb dX11_feedNumber_43 (by decide) ?_
  refine lv_iload_n hx hb dX11_feedNumber_3 rfl (lv_at hl 0 rfl) ?_
  refine lv_if_lt (tgt := 46) hx hb dX11_feedNumber_4 (by decide) (fun hc => absurd hc (by decide)) (fun _ => ?_)
  refine lv_aload_n hx hb dX11_feedNumber_7 rfl (lv_at hl 1 rfl) ?_
  refine va_get (D := (dC, dI)) (ci := 10) (v := .int n171) (C := RX11) (T := TX11) (N := 14) hx hb hts inX11 hown hK hP 0 rfl rfl 1 (by decide) (hts _ wd_107) (fun _ h9 => h9) rfl dX11_feedNumber_8 ?_
  refine lv_sipush (v := 3000) hx hb dX11_feedNumber_11 (by decide) ?_
  refine lv_icmp_ge (tgt := 46) hx hb dX11_feedNumber_14 (by decide) (fun hc => absurd hc (by rcases h0x with rfl | rfl | rfl | rfl | rfl <;> subst_vars <;> decide)) (fun _ => ?_)
  refine lv_aload_n hx hb dX11_feedNumber_17 rfl (lv_at hl 1 rfl) ?_
  refine va_get (D := (dC, dI)) (ci := 10) (v := .ref h1) (C := RX11) (T := TX11) (N := 14) hx hb hts inX11 hown hK hP 0 rfl rfl 0 (by decide) (hts _ wd_106) (fun _ h9 => h9) rfl dX11_feedNumber_18 ?_
  refine lv_aload_n hx hb dX11_feedNumber_21 rfl (lv_at hl 1 rfl) ?_
  refine va_get (D := (dC, dI)) (ci := 10) (v := .int n171) (C := RX11) (T := TX11) (N := 14) hx hb hts inX11 hown hK hP 0 rfl rfl 1 (by decide) (hts _ wd_107) (fun _ h9 => h9) rfl dX11_feedNumber_22 ?_
  refine lv_iload_n hx hb dX11_feedNumber_25 rfl (lv_at hl 2 rfl) ?_
  refine lv_iload_n hx hb dX11_feedNumber_26 rfl (lv_at hl 0 rfl) ?_
  refine lv_ishr hx hb dX11_feedNumber_27 ?_
  refine lv_topi (fun n172 en172 => ?_)
  refine lv_i2b hx hb dX11_feedNumber_28 rfl ?_
  refine lv_topi (fun n173 en173 => ?_)
  refine va_bast hx hb hK hP hD hS 1 0 rfl rfl (by rcases h0x with rfl | rfl | rfl | rfl | rfl <;> subst_vars <;> (unfold vp_in; decide)) dX11_feedNumber_29 (fun H locs hP hD hS => ?_)
  generalize upd f170 _ _ = f174 at hP hD
  have hP : va_P (dC, dI) classes [(h0, .inr (10, [.ref h1, .int n171, v2, v3, v4, v5, v6, v7, v8, v9, v10, v11, v12, v13])), (h1, .inl (cB, 3000, .inl f174))] H := hP
  have hD : va_D A [(h0, .inr (10, [.ref h1, .int n171, v2, v3, v4, v5, v6, v7, v8, v9, v10, v11, v12, v13])), (h1, .inl (cB, 3000, .inl f174))] := hD
  refine lv_aload_n hx hb dX11_feedNumber_30 rfl (lv_at hl 1 rfl) ?_
  refine lv_dup hx hb dX11_feedNumber_31 rfl ?_
  refine va_get (D := (dC, dI)) (ci := 10) (v := .int n171) (C := RX11) (T := TX11) (N := 14) hx hb hts inX11 hown hK hP 0 rfl rfl 1 (by decide) (hts _ wd_107) (fun _ h9 => h9) rfl dX11_feedNumber_32 ?_
  refine lv_iconst (v := 1) hx hb dX11_feedNumber_35 (by decide) ?_
  refine lv_iadd hx hb dX11_feedNumber_36 ?_
  refine lv_topi (fun n175 en175 => ?_)
  refine va_put (D := (dC, dI)) (ci := 10) (v := .int n175) (ty := .int) (C := RX11) (T := TX11) (N := 14) hx hb hts inX11 tyX11 tyX11_ok nmX11 hown hK hP hD hS 0 rfl rfl 1 (by decide) (hts _ wd_107) (fun _ h9 => h9) rfl (by decide +kernel) rfl rfl (Nat.le_of_ble_eq_true rfl) dX11_feedNumber_37 (fun H locs hP hD hS => ?_)
  have hP : va_P (dC, dI) classes [(h0, .inr (10, [.ref h1, .int n175, v2, v3, v4, v5, v6, v7, v8, v9, v10, v11, v12, v13])), (h1, .inl (cB, 3000, .inl f174))] H := hP
  have hD : va_D A [(h0, .inr (10, [.ref h1, .int n175, v2, v3, v4, v5, v6, v7, v8, v9, v10, v11, v12, v13])), (h1, .inl (cB, 3000, .inl f174))] := hD
  refine lv_iinc (v := 8) (lv' := [(2, .int 8), (0, .ref h0), (1, .int k)]) hx hb dX11_feedNumber_40 hl (k := 0) rfl (by decide) (by decide) rfl (fun ls hl => ?_)
  refine lv_goto (tgt := 3) hx hb dX11_feedNumber_43 (by decide) ?_
  refine lv_iload_n hx hb dX11_feedNumber_3 rfl (lv_at hl 0 rfl) ?_
  refine lv_if_lt (tgt := 46) hx hb dX11_feedNumber_4 (by decide) (fun hc => absurd hc (by decide)) (fun _ => ?_)
  refine lv_aload_n hx hb dX11_feedNumber_7 rfl (lv_at hl 1 rfl) ?_
  refine va_get (D := (dC, dI)) (ci := 10) (v := .int n175) (C := RX11) (T := TX11) (N := 14) hx hb hts inX11 hown hK hP 0 rfl rfl 1 (by decide) (hts _ wd_107) (fun _ h9 => h9) rfl dX11_feedNumber_8 ?_
  refine lv_sipush (v := 3000) hx hb dX11_feedNumber_11 (by decide) ?_
  refine lv_icmp_ge (tgt := 46) hx hb dX11_feedNumber_14 (by decide) (fun hc => absurd hc (by rcases h0x with rfl | rfl | rfl | rfl | rfl <;> subst_vars <;> decide)) (fun _ => ?_)
  refine lv_aload_n hx hb dX11_feedNumber_17 rfl (lv_at hl 1 rfl) ?_
  refine va_get (D := (dC, dI)) (ci := 10) (v := .ref h1) (C := RX11) (T := TX11) (N := 14) hx hb hts inX11 hown hK hP 0 rfl rfl 0 (by decide) (hts _ wd_106) (fun _ h9 => h9) rfl dX11_feedNumber_18 ?_
  refine lv_aload_n hx hb dX11_feedNumber_21 rfl (lv_at hl 1 rfl) ?_
  refine va_get (D := (dC, dI)) (ci := 10) (v := .int n175) (C := RX11) (T := TX11) (N := 14) hx hb hts inX11 hown hK hP 0 rfl rfl 1 (by decide) (hts _ wd_107) (fun _ h9 => h9) rfl dX11_feedNumber_22 ?_
  refine lv_iload_n hx hb dX11_feedNumber_25 rfl (lv_at hl 2 rfl) ?_
  refine lv_iload_n hx hb dX11_feedNumber_26 rfl (lv_at hl 0 rfl) ?_
  refine lv_ishr hx hb dX11_feedNumber_27 ?_
  refine lv_topi (fun n176 en176 => ?_)
  refine lv_i2b hx hb dX11_feedNumber_28 rfl ?_
  refine lv_topi (fun n177 en177 => ?_)
  refine va_bast hx hb hK hP hD hS 1 0 rfl rfl (by rcases h0x with rfl | rfl | rfl | rfl | rfl <;> subst_vars <;> (unfold vp_in; decide)) dX11_feedNumber_29 (fun H locs hP hD hS => ?_)
  generalize upd f174 _ _ = f178 at hP hD
  have hP : va_P (dC, dI) classes [(h0, .inr (10, [.ref h1, .int n175, v2, v3, v4, v5, v6, v7, v8, v9, v10, v11, v12, v13])), (h1, .inl (cB, 3000, .inl f178))] H := hP
  have hD : va_D A [(h0, .inr (10, [.ref h1, .int n175, v2, v3, v4, v5, v6, v7, v8, v9, v10, v11, v12, v13])), (h1, .inl (cB, 3000, .inl f178))] := hD
  refine lv_aload_n hx hb dX11_feedNumber_30 rfl (lv_at hl 1 rfl) ?_
  refine lv_dup hx hb dX11_feedNumber_31 rfl ?_
  refine va_get (D := (dC, dI)) (ci := 10) (v := .int n175) (C := RX11) (T := TX11) (N := 14) hx hb hts inX11 hown hK hP 0 rfl rfl 1 (by decide) (hts _ wd_107) (fun _ h9 => h9) rfl dX11_feedNumber_32 ?_
  refine lv_iconst (v := 1) hx hb dX11_feedNumber_35 (by decide) ?_
  refine lv_iadd hx hb dX11_feedNumber_36 ?_
  refine lv_topi (fun n179 en179 => ?_)
  refine va_put (D := (dC, dI)) (ci := 10) (v := .int n179) (ty := .int) (C := RX11) (T := TX11) (N := 14) hx hb hts inX11 tyX11 tyX11_ok nmX11 hown hK hP hD hS 0 rfl rfl 1 (by decide) (hts _ wd_107) (fun _ h9 => h9) rfl (by decide +kernel) rfl rfl (Nat.le_of_ble_eq_true rfl) dX11_feedNumber_37 (fun H locs hP hD hS => ?_)
  have hP : va_P (dC, dI) classes [(h0, .inr (10, [.ref h1, .int n179, v2, v3, v4, v5, v6, v7, v8, v9, v10, v11, v12, v13])), (h1, .inl (cB, 3000, .inl f178))] H := hP
  have hD : va_D A [(h0, .inr (10, [.ref h1, .int n179, v2, v3, v4, v5, v6, v7, v8, v9, v10, v11, v12, v13])), (h1, .inl (cB, 3000, .inl f178))] := hD
  refine lv_iinc (v := 0) (lv' := [(2, .int 0), (0, .ref h0), (1, .int k)]) hx hb dX11_feedNumber_40 hl (k := 0) rfl (by decide) (by decide) rfl (fun ls hl => ?_)
  refine lv_goto (tgt := 3) hx hb dX11_feedNumber_43 (by decide) ?_
  refine lv_iload_n hx hb dX11_feedNumber_3 rfl (lv_at hl 0 rfl) ?_
  refine lv_if_lt (tgt := 46) hx hb dX11_feedNumber_4 (by decide) (fun hc => absurd hc (by decide)) (fun _ => ?_)
  refine lv_aload_n hx hb dX11_feedNumber_7 rfl (lv_at hl 1 rfl) ?_
  refine va_get (D := (dC, dI)) (ci := 10) (v := .int n179) (C := RX11) (T := TX11) (N := 14) hx hb hts inX11 hown hK hP 0 rfl rfl 1 (by decide) (hts _ wd_107) (fun _ h9 => h9) rfl dX11_feedNumber_8 ?_
  refine lv_sipush (v := 3000) hx hb dX11_feedNumber_11 (by decide) ?_
  refine lv_icmp_ge (tgt := 46) hx hb dX11_feedNumber_14 (by decide) (fun hc => absurd hc (by rcases h0x with rfl | rfl | rfl | rfl | rfl <;> subst_vars <;> decide)) (fun _ => ?_)
  refine lv_aload_n hx hb dX11_feedNumber_17 rfl (lv_at hl 1 rfl) ?_
  refine va_get (D := (dC, dI)) (ci := 10) (v := .ref h1) (C := RX11) (T := TX11) (N := 14) hx hb hts inX11 hown hK hP 0 rfl rfl 0 (by decide) (hts _ wd_106) (fun _ h9 => h9) rfl dX11_feedNumber_18 ?_
  refine lv_aload_n hx hb dX11_feedNumber_21 rfl (lv_at hl 1 rfl) ?_
  refine va_get (D := (dC, dI)) (ci := 10) (v := .int n179) (C := RX11) (T := TX11) (N := 14) hx hb hts inX11 hown hK hP 0 rfl rfl 1 (by decide) (hts _ wd_107) (fun _ h9 => h9) rfl dX11_feedNumber_22 ?_
  refine lv_iload_n hx hb dX11_feedNumber_25 rfl (lv_at hl 2 rfl) ?_
  refine lv_iload_n hx hb dX11_feedNumber_26 rfl (lv_at hl 0 rfl) ?_
  refine lv_ishr hx hb dX11_feedNumber_27 ?_
  refine lv_topi (fun n180 en180 => ?_)
  refine lv_i2b hx hb dX11_feedNumber_28 rfl ?_
  refine lv_topi (fun n181 en181 => ?_)
  refine va_bast hx hb hK hP hD hS 1 0 rfl rfl (by rcases h0x with rfl | rfl | rfl | rfl | rfl <;> subst_vars <;> (unfold vp_in; decide)) dX11_feedNumber_29 (fun H locs hP hD hS => ?_)
  generalize upd f178 _ _ = f182 at hP hD
  have hP : va_P (dC, dI) classes [(h0, .inr (10, [.ref h1, .int n179, v2, v3, v4, v5, v6, v7, v8, v9, v10, v11, v12, v13])), (h1, .inl (cB, 3000, .inl f182))] H := hP
  have hD : va_D A [(h0, .inr (10, [.ref h1, .int n179, v2, v3, v4, v5, v6, v7, v8, v9, v10, v11, v12, v13])), (h1, .inl (cB, 3000, .inl f182))] := hD
  refine lv_aload_n hx hb dX11_feedNumber_30 rfl (lv_at hl 1 rfl) ?_
  refine lv_dup hx hb dX11_feedNumber_31 rfl ?_
  refine va_get (D := (dC, dI)) (ci := 10) (v := .int n179) (C := RX11) (T := TX11) (N := 14) hx hb hts inX11 hown hK hP 0 rfl rfl 1 (by decide) (hts _ wd_107) (fun _ h9 => h9) rfl dX11_feedNumber_32 ?_
  refine lv_iconst (v := 1) hx hb dX11_feedNumber_35 (by decide) ?_
  refine lv_iadd hx hb dX11_feedNumber_36 ?_
  refine lv_topi (fun n183 en183 => ?_)
  refine va_put (D := (dC, dI)) (ci := 10) (v := .int n183) (ty := .int) (C := RX11) (T := TX11) (N := 14) hx hb hts inX11 tyX11 tyX11_ok nmX11 hown hK hP hD hS 0 rfl rfl 1 (by decide) (hts _ wd_107) (fun _ h9 => h9) rfl (by decide +kernel) rfl rfl (Nat.le_of_ble_eq_true rfl) dX11_feedNumber_37 (fun H locs hP hD hS => ?_)
  have hP : va_P (dC, dI) classes [(h0, .inr (10, [.ref h1, .int n183, v2, v3, v4, v5, v6, v7, v8, v9, v10, v11, v12, v13])), (h1, .inl (cB, 3000, .inl f182))] H := hP
  have hD : va_D A [(h0, .inr (10, [.ref h1, .int n183, v2, v3, v4, v5, v6, v7, v8, v9, v10, v11, v12, v13])), (h1, .inl (cB, 3000, .inl f182))] := hD
  refine lv_iinc (v := -8) (lv' := [(2, .int (-8)), (0, .ref h0), (1, .int k)]) hx hb dX11_feedNumber_40 hl (k := 0) rfl (by decide) (by decide) rfl (fun ls hl => ?_)
  refine lv_goto (tgt := 3) hx hb dX11_feedNumber_43 (by decide) ?_
  refine lv_iload_n hx hb dX11_feedNumber_3 rfl (lv_at hl 0 rfl) ?_
  refine lv_if_lt (tgt := 46) hx hb dX11_feedNumber_4 (by decide) (fun _ => ?_) (fun hc => absurd (by decide) hc)
  have hn9 : n183 = y := by rw [hy]; rcases h0x with rfl | rfl | rfl | rfl | rfl <;> subst_vars <;> decide
  rw [hn9] at hP hD
  have hP : va_P (dC, dI) classes [(h0, .inr (10, [.ref h1, .int y, v2, v3, v4, v5, v6, v7, v8, v9, v10, v11, v12, v13])), (h1, .inl (cB, 3000, .inl f182))] H := hP
  have hD : va_D A [(h0, .inr (10, [.ref h1, .int y, v2, v3, v4, v5, v6, v7, v8, v9, v10, v11, v12, v13])), (h1, .inl (cB, 3000, .inl f182))] := hD
  have hP9 := hP.sub (ws' := [(h0, .inr (10, [.ref h1, .int y, v2, v3, v4, v5, v6, v7, v8, v9, v10, v11, v12, v13])), (h1, .inl (cB, 3000, .inl f182))]) [0, 1] rfl
  have hD9 := hD.sub (ws' := [(h0, .inr (10, [.ref h1, .int y, v2, v3, v4, v5, v6, v7, v8, v9, v10, v11, v12, v13])), (h1, .inl (cB, 3000, .inl f182))]) [0, 1] (by decide) rfl
  have hK9 := hK.sub (tys' := [(cB, .byte)]) [0] rfl
  refine W.widen (k := 0) (n := 0) (Nat.le_of_ble_eq_true rfl) (Nat.le_of_ble_eq_true rfl) ?_
  exact W.vret hx hb hr (fun t ht hW => ⟨⟨(), rfl, trivial, f182, by rw [ht]; exact hP9, va_K.moved hW.alike hK9, hD9⟩, hS.F ht⟩) hS.2.2 dX11_feedNumber_46
set_option maxHeartbeats 4000000 in
set_option maxRecDepth 100000 in
/-- feed -/
theorem c_feed (l : Launch) (dC : Nat → ClassId) (dI : Nat → Nat → Nat) (h0 : Nat) (a : Int32) (b : Int32) (cc : Int32) (d : Int32) (ee : Int32) (h1 : Nat) (v2 : Value) (v3 : Value) (v4 : Value) (v5 : Value) (v6 : Value) (v7 : Value) (v8 : Value) (v9 : Value) (v10 : Value) (v11 : Value) (v12 : Value) (v13 : Value) (cB : ClassId) (f0 : Nat → Int32) (sz : Nat) : Met l yX11_feed (.code yX11_feed cX11_feed 6 (some .int) :: wU) ({ frames := 1, cells := 0, slots := 0, locals := 22 } : Room) (va_Pc [.ref h0, .int a, .int b, .int cc, .int d, .int ee] (fun U => P5 dC dI [(h0, .inr (10, [.ref h1, .int 0, v2, v3, v4, v5, v6, v7, v8, v9, v10, v11, v12, v13])), (h1, .inl (cB, 3000, .inl f0))] [(cB, .byte)] sz U)) (va_Qi (fun (r : Int32) (_ : Unit) => r = 20) (fun _ t => P3 dC dI (va_A [(h0, .inr (10, [.ref h1, .int 0, v2, v3, v4, v5, v6, v7, v8, v9, v10, v11, v12, v13])), (h1, .inl (cB, 3000, .inl f0))] sz) [] [] t) (va_A [(h0, .inr (10, [.ref h1, .int 0, v2, v3, v4, v5, v6, v7, v8, v9, v10, v11, v12, v13])), (h1, .inl (cB, 3000, .inl f0))] sz)) 0 0 (va_A [(h0, .inr (10, [.ref h1, .int 0, v2, v3, v4, v5, v6, v7, v8, v9, v10, v11, v12, v13])), (h1, .inl (cB, 3000, .inl f0))] sz) := by
  refine Met.ofW (cc := cX11_feed) (maxL := 6) (ret := (some .int)) (by decide) rfl ?_
  intro p e s m args below meth c s₁ B hml hv
  obtain ⟨rfl, hsz, hP, hK, hD0, hE⟩ := hv
  have hx := B.exec
  have hb := B.bytes
  have hr := B.returns
  have hts0 := atoms_spec (ws := (.code yX11_feed cX11_feed 6 (some .int) :: wU)) B.pre
  have hts : ∀ w ∈ wU, w.before _ s = true := fun w h => hts0 w (List.mem_cons_of_mem _ h)
  have hown : s.vm.findClass "SpineTables" = some m.cls := findClass_of_methodNamed B.named
  have hlocks := B.notSynchronized
  subst hsz
  have hD := hD0.self (sz := s.heap.size)
  generalize hAe : va_A [(h0, .inr (10, [.ref h1, .int 0, v2, v3, v4, v5, v6, v7, v8, v9, v10, v11, v12, v13])), (h1, .inl (cB, 3000, .inl f0))] s.heap.size = A at hD ⊢
  have hA : ∀ q : Nat, s.heap.size ≤ q → A q := fun q h => by rw [← hAe]; exact Or.inr h
  have hP : va_P (dC, dI) classes [(h0, .inr (10, [.ref h1, .int 0, v2, v3, v4, v5, v6, v7, v8, v9, v10, v11, v12, v13])), (h1, .inl (cB, 3000, .inl f0))] s.heap := hP
  have hl := lv_entry ([.ref h0, .int a, .int b, .int cc, .int d, .int ee]) (n := 6) (Nat.le_of_ble_eq_true rfl)
  rw [lg_entry_eq]
  generalize (lg_sl ([.ref h0, .int a, .int b, .int cc, .int d, .int ee]) ++ List.replicate (6 - (lg_sl ([.ref h0, .int a, .int b, .int cc, .int d, .int ee])).length) Slot.unset).toArray = ls at hl ⊢
  have hl : lv_has ls 6 [(0, .ref h0), (1, .int a), (2, .int b), (3, .int cc), (4, .int d), (5, .int ee)] := hl
  obtain ⟨H, hH⟩ : ∃ H, H = s.heap := ⟨_, rfl⟩
  rw [← hH] at hP
  have hS : va_S A s.heap H [] := by rw [hH]; exact va_S.rf
  refine w_heap hH ?_
  refine lv_aload_n hx hb dX11_feed_0 rfl (lv_at hl 0 rfl) ?_
  refine va_get (D := (dC, dI)) (ci := 10) (v := .int 0) (C := RX11) (T := TX11) (N := 14) hx hb hts inX11 hown hK hP 0 rfl rfl 1 (by decide) (hts _ wd_107) (fun _ h9 => h9) rfl dX11_feed_1 ?_
  refine lv_bipush (v := 20) hx hb dX11_feed_4 (by decide) ?_
  refine lv_iadd hx hb dX11_feed_6 ?_
  refine lv_topi (fun n184 en184 => ?_)
  obtain rfl : n184 = 20 := by rw [en184]; decide
  refine lv_sipush (v := 3000) hx hb dX11_feed_7 (by decide) ?_
  refine lv_icmp_le (tgt := 15) hx hb dX11_feed_10 (by decide) (fun _ => ?_) (fun hc => absurd (by decide) hc)
  refine lv_aload_n hx hb dX11_feed_15 rfl (lv_at hl 0 rfl) ?_
  refine lv_iload_n hx hb dX11_feed_16 rfl (lv_at hl 1 rfl) ?_
  have hPc := hP.sub (ws' := [(h0, .inr (10, [.ref h1, .int 0, v2, v3, v4, v5, v6, v7, v8, v9, v10, v11, v12, v13])), (h1, .inl (cB, 3000, .inl f0))]) [0, 1] rfl
  have hDc := hD.sub (ws' := [(h0, .inr (10, [.ref h1, .int 0, v2, v3, v4, v5, v6, v7, v8, v9, v10, v11, v12, v13])), (h1, .inl (cB, 3000, .inl f0))]) [0, 1] (by decide) rfl
  have hKc := hK.sub (tys' := [(cB, .byte)]) [0] rfl
  have hFc := va_free (wc := [(h0, .inr (10, [.ref h1, .int 0, v2, v3, v4, v5, v6, v7, v8, v9, v10, v11, v12, v13])), (h1, .inl (cB, 3000, .inl f0))]) hD hS hA [0, 1] rfl
  refine va_callv (va_runV (As := [.int a]) (rest := []) ⟨hx, hb, hml, hown, hts⟩ (c_feedNumber l dC dI h0 a h1 0 4 v2 v3 v4 v5 v6 v7 v8 v9 v10 v11 v12 v13 cB f0 (by decide) (by decide) H.size) (cwV 1 hts (goV wd_189 wd_190 wd_188 wd_191 wd_187) rfl rfl rfl (by decide +kernel) ⟨Nat.le_of_ble_eq_true rfl, Nat.le_of_ble_eq_true rfl⟩) ⟨blind5, va_recv hKc hPc (ci := 10) (q0 := 0) rfl rfl, fun U hU hW => ⟨rfl, pre5 hU hW hPc hKc hDc hE⟩⟩ rfl rfl hl.1 rfl (lv_room (Nat.le_of_ble_eq_true rfl)) dX11_feed_17 ⟨Nat.le_of_ble_eq_true rfl, Nat.le_of_ble_eq_true rfl⟩) hS (fun q _ h => hFc q h) hFc (fun u t H1 locs ht hvm hw hB hz1 hk1 hS => ?_)
  obtain ⟨f185, hP1, hK1, hD1⟩ := hB
  rw [ht] at hP1
  have hK1 := va_K.moved hvm.symm hK1
  obtain ⟨hP, hD⟩ := va_join (wr := []) (w1 := [(h0, .inr (10, [.ref h1, .int 4, v2, v3, v4, v5, v6, v7, v8, v9, v10, v11, v12, v13])), (h1, .inl (cB, 3000, .inl f185))]) hP hD [0, 1] [] rfl rfl (by decide) (by decide) hk1 hFc hP1 hD1
  have hK := (hK.sub (tys' := []) [] rfl).app hK1
  generalize H1 = H at hP hS ⊢
  have hK : va_K (dC, dI) classes [(cB, .byte)] s := hK
  have hP : va_P (dC, dI) classes [(h0, .inr (10, [.ref h1, .int 4, v2, v3, v4, v5, v6, v7, v8, v9, v10, v11, v12, v13])), (h1, .inl (cB, 3000, .inl f185))] H := hP
  have hD : va_D A [(h0, .inr (10, [.ref h1, .int 4, v2, v3, v4, v5, v6, v7, v8, v9, v10, v11, v12, v13])), (h1, .inl (cB, 3000, .inl f185))] := hD
  refine lv_aload_n hx hb dX11_feed_20 rfl (lv_at hl 0 rfl) ?_
  refine lv_iload_n hx hb dX11_feed_21 rfl (lv_at hl 2 rfl) ?_
  have hPc := hP.sub (ws' := [(h0, .inr (10, [.ref h1, .int 4, v2, v3, v4, v5, v6, v7, v8, v9, v10, v11, v12, v13])), (h1, .inl (cB, 3000, .inl f185))]) [0, 1] rfl
  have hDc := hD.sub (ws' := [(h0, .inr (10, [.ref h1, .int 4, v2, v3, v4, v5, v6, v7, v8, v9, v10, v11, v12, v13])), (h1, .inl (cB, 3000, .inl f185))]) [0, 1] (by decide) rfl
  have hKc := hK.sub (tys' := [(cB, .byte)]) [0] rfl
  have hFc := va_free (wc := [(h0, .inr (10, [.ref h1, .int 4, v2, v3, v4, v5, v6, v7, v8, v9, v10, v11, v12, v13])), (h1, .inl (cB, 3000, .inl f185))]) hD hS hA [0, 1] rfl
  refine va_callv (va_runV (As := [.int b]) (rest := []) ⟨hx, hb, hml, hown, hts⟩ (c_feedNumber l dC dI h0 b h1 4 8 v2 v3 v4 v5 v6 v7 v8 v9 v10 v11 v12 v13 cB f185 (by decide) (by decide) H.size) (cwV 1 hts (goV wd_189 wd_190 wd_188 wd_191 wd_187) rfl rfl rfl (by decide +kernel) ⟨Nat.le_of_ble_eq_true rfl, Nat.le_of_ble_eq_true rfl⟩) ⟨blind5, va_recv hKc hPc (ci := 10) (q0 := 0) rfl rfl, fun U hU hW => ⟨rfl, pre5 hU hW hPc hKc hDc hE⟩⟩ rfl rfl hl.1 rfl (lv_room (Nat.le_of_ble_eq_true rfl)) dX11_feed_22 ⟨Nat.le_of_ble_eq_true rfl, Nat.le_of_ble_eq_true rfl⟩) hS (fun q _ h => hFc q h) hFc (fun u t H1 locs ht hvm hw hB hz1 hk1 hS => ?_)
  obtain ⟨f186, hP1, hK1, hD1⟩ := hB
  rw [ht] at hP1
  have hK1 := va_K.moved hvm.symm hK1
  obtain ⟨hP, hD⟩ := va_join (wr := []) (w1 := [(h0, .inr (10, [.ref h1, .int 8, v2, v3, v4, v5, v6, v7, v8, v9, v10, v11, v12, v13])), (h1, .inl (cB, 3000, .inl f186))]) hP hD [0, 1] [] rfl rfl (by decide) (by decide) hk1 hFc hP1 hD1
  have hK := (hK.sub (tys' := []) [] rfl).app hK1
  generalize H1 = H at hP hS ⊢
  have hK : va_K (dC, dI) classes [(cB, .byte)] s := hK
  have hP : va_P (dC, dI) classes [(h0, .inr (10, [.ref h1, .int 8, v2, v3, v4, v5, v6, v7, v8, v9, v10, v11, v12, v13])), (h1, .inl (cB, 3000, .inl f186))] H := hP
  have hD : va_D A [(h0, .inr (10, [.ref h1, .int 8, v2, v3, v4, v5, v6, v7, v8, v9, v10, v11, v12, v13])), (h1, .inl (cB, 3000, .inl f186))] := hD
  refine lv_aload_n hx hb dX11_feed_25 rfl (lv_at hl 0 rfl) ?_
  refine lv_iload_n hx hb dX11_feed_26 rfl (lv_at hl 3 rfl) ?_
  have hPc := hP.sub (ws' := [(h0, .inr (10, [.ref h1, .int 8, v2, v3, v4, v5, v6, v7, v8, v9, v10, v11, v12, v13])), (h1, .inl (cB, 3000, .inl f186))]) [0, 1] rfl
  have hDc := hD.sub (ws' := [(h0, .inr (10, [.ref h1, .int 8, v2, v3, v4, v5, v6, v7, v8, v9, v10, v11, v12, v13])), (h1, .inl (cB, 3000, .inl f186))]) [0, 1] (by decide) rfl
  have hKc := hK.sub (tys' := [(cB, .byte)]) [0] rfl
  have hFc := va_free (wc := [(h0, .inr (10, [.ref h1, .int 8, v2, v3, v4, v5, v6, v7, v8, v9, v10, v11, v12, v13])), (h1, .inl (cB, 3000, .inl f186))]) hD hS hA [0, 1] rfl
  refine va_callv (va_runV (As := [.int cc]) (rest := []) ⟨hx, hb, hml, hown, hts⟩ (c_feedNumber l dC dI h0 cc h1 8 12 v2 v3 v4 v5 v6 v7 v8 v9 v10 v11 v12 v13 cB f186 (by decide) (by decide) H.size) (cwV 1 hts (goV wd_189 wd_190 wd_188 wd_191 wd_187) rfl rfl rfl (by decide +kernel) ⟨Nat.le_of_ble_eq_true rfl, Nat.le_of_ble_eq_true rfl⟩) ⟨blind5, va_recv hKc hPc (ci := 10) (q0 := 0) rfl rfl, fun U hU hW => ⟨rfl, pre5 hU hW hPc hKc hDc hE⟩⟩ rfl rfl hl.1 rfl (lv_room (Nat.le_of_ble_eq_true rfl)) dX11_feed_27 ⟨Nat.le_of_ble_eq_true rfl, Nat.le_of_ble_eq_true rfl⟩) hS (fun q _ h => hFc q h) hFc (fun u t H1 locs ht hvm hw hB hz1 hk1 hS => ?_)
  obtain ⟨f187, hP1, hK1, hD1⟩ := hB
  rw [ht] at hP1
  have hK1 := va_K.moved hvm.symm hK1
  obtain ⟨hP, hD⟩ := va_join (wr := []) (w1 := [(h0, .inr (10, [.ref h1, .int 12, v2, v3, v4, v5, v6, v7, v8, v9, v10, v11, v12, v13])), (h1, .inl (cB, 3000, .inl f187))]) hP hD [0, 1] [] rfl rfl (by decide) (by decide) hk1 hFc hP1 hD1
  have hK := (hK.sub (tys' := []) [] rfl).app hK1
  generalize H1 = H at hP hS ⊢
  have hK : va_K (dC, dI) classes [(cB, .byte)] s := hK
  have hP : va_P (dC, dI) classes [(h0, .inr (10, [.ref h1, .int 12, v2, v3, v4, v5, v6, v7, v8, v9, v10, v11, v12, v13])), (h1, .inl (cB, 3000, .inl f187))] H := hP
  have hD : va_D A [(h0, .inr (10, [.ref h1, .int 12, v2, v3, v4, v5, v6, v7, v8, v9, v10, v11, v12, v13])), (h1, .inl (cB, 3000, .inl f187))] := hD
  refine lv_aload_n hx hb dX11_feed_30 rfl (lv_at hl 0 rfl) ?_
  refine lv_iload hx hb dX11_feed_31 (lv_at hl 4 rfl) ?_
  have hPc := hP.sub (ws' := [(h0, .inr (10, [.ref h1, .int 12, v2, v3, v4, v5, v6, v7, v8, v9, v10, v11, v12, v13])), (h1, .inl (cB, 3000, .inl f187))]) [0, 1] rfl
  have hDc := hD.sub (ws' := [(h0, .inr (10, [.ref h1, .int 12, v2, v3, v4, v5, v6, v7, v8, v9, v10, v11, v12, v13])), (h1, .inl (cB, 3000, .inl f187))]) [0, 1] (by decide) rfl
  have hKc := hK.sub (tys' := [(cB, .byte)]) [0] rfl
  have hFc := va_free (wc := [(h0, .inr (10, [.ref h1, .int 12, v2, v3, v4, v5, v6, v7, v8, v9, v10, v11, v12, v13])), (h1, .inl (cB, 3000, .inl f187))]) hD hS hA [0, 1] rfl
  refine va_callv (va_runV (As := [.int d]) (rest := []) ⟨hx, hb, hml, hown, hts⟩ (c_feedNumber l dC dI h0 d h1 12 16 v2 v3 v4 v5 v6 v7 v8 v9 v10 v11 v12 v13 cB f187 (by decide) (by decide) H.size) (cwV 1 hts (goV wd_189 wd_190 wd_188 wd_191 wd_187) rfl rfl rfl (by decide +kernel) ⟨Nat.le_of_ble_eq_true rfl, Nat.le_of_ble_eq_true rfl⟩) ⟨blind5, va_recv hKc hPc (ci := 10) (q0 := 0) rfl rfl, fun U hU hW => ⟨rfl, pre5 hU hW hPc hKc hDc hE⟩⟩ rfl rfl hl.1 rfl (lv_room (Nat.le_of_ble_eq_true rfl)) dX11_feed_33 ⟨Nat.le_of_ble_eq_true rfl, Nat.le_of_ble_eq_true rfl⟩) hS (fun q _ h => hFc q h) hFc (fun u t H1 locs ht hvm hw hB hz1 hk1 hS => ?_)
  obtain ⟨f188, hP1, hK1, hD1⟩ := hB
  rw [ht] at hP1
  have hK1 := va_K.moved hvm.symm hK1
  obtain ⟨hP, hD⟩ := va_join (wr := []) (w1 := [(h0, .inr (10, [.ref h1, .int 16, v2, v3, v4, v5, v6, v7, v8, v9, v10, v11, v12, v13])), (h1, .inl (cB, 3000, .inl f188))]) hP hD [0, 1] [] rfl rfl (by decide) (by decide) hk1 hFc hP1 hD1
  have hK := (hK.sub (tys' := []) [] rfl).app hK1
  generalize H1 = H at hP hS ⊢
  have hK : va_K (dC, dI) classes [(cB, .byte)] s := hK
  have hP : va_P (dC, dI) classes [(h0, .inr (10, [.ref h1, .int 16, v2, v3, v4, v5, v6, v7, v8, v9, v10, v11, v12, v13])), (h1, .inl (cB, 3000, .inl f188))] H := hP
  have hD : va_D A [(h0, .inr (10, [.ref h1, .int 16, v2, v3, v4, v5, v6, v7, v8, v9, v10, v11, v12, v13])), (h1, .inl (cB, 3000, .inl f188))] := hD
  refine lv_aload_n hx hb dX11_feed_36 rfl (lv_at hl 0 rfl) ?_
  refine lv_iload hx hb dX11_feed_37 (lv_at hl 5 rfl) ?_
  have hPc := hP.sub (ws' := [(h0, .inr (10, [.ref h1, .int 16, v2, v3, v4, v5, v6, v7, v8, v9, v10, v11, v12, v13])), (h1, .inl (cB, 3000, .inl f188))]) [0, 1] rfl
  have hDc := hD.sub (ws' := [(h0, .inr (10, [.ref h1, .int 16, v2, v3, v4, v5, v6, v7, v8, v9, v10, v11, v12, v13])), (h1, .inl (cB, 3000, .inl f188))]) [0, 1] (by decide) rfl
  have hKc := hK.sub (tys' := [(cB, .byte)]) [0] rfl
  have hFc := va_free (wc := [(h0, .inr (10, [.ref h1, .int 16, v2, v3, v4, v5, v6, v7, v8, v9, v10, v11, v12, v13])), (h1, .inl (cB, 3000, .inl f188))]) hD hS hA [0, 1] rfl
  refine va_callv (va_runV (As := [.int ee]) (rest := []) ⟨hx, hb, hml, hown, hts⟩ (c_feedNumber l dC dI h0 ee h1 16 20 v2 v3 v4 v5 v6 v7 v8 v9 v10 v11 v12 v13 cB f188 (by decide) (by decide) H.size) (cwV 1 hts (goV wd_189 wd_190 wd_188 wd_191 wd_187) rfl rfl rfl (by decide +kernel) ⟨Nat.le_of_ble_eq_true rfl, Nat.le_of_ble_eq_true rfl⟩) ⟨blind5, va_recv hKc hPc (ci := 10) (q0 := 0) rfl rfl, fun U hU hW => ⟨rfl, pre5 hU hW hPc hKc hDc hE⟩⟩ rfl rfl hl.1 rfl (lv_room (Nat.le_of_ble_eq_true rfl)) dX11_feed_39 ⟨Nat.le_of_ble_eq_true rfl, Nat.le_of_ble_eq_true rfl⟩) hS (fun q _ h => hFc q h) hFc (fun u t H1 locs ht hvm hw hB hz1 hk1 hS => ?_)
  obtain ⟨f189, hP1, hK1, hD1⟩ := hB
  rw [ht] at hP1
  have hK1 := va_K.moved hvm.symm hK1
  obtain ⟨hP, hD⟩ := va_join (wr := []) (w1 := [(h0, .inr (10, [.ref h1, .int 20, v2, v3, v4, v5, v6, v7, v8, v9, v10, v11, v12, v13])), (h1, .inl (cB, 3000, .inl f189))]) hP hD [0, 1] [] rfl rfl (by decide) (by decide) hk1 hFc hP1 hD1
  have hK := (hK.sub (tys' := []) [] rfl).app hK1
  generalize H1 = H at hP hS ⊢
  have hK : va_K (dC, dI) classes [(cB, .byte)] s := hK
  have hP : va_P (dC, dI) classes [(h0, .inr (10, [.ref h1, .int 20, v2, v3, v4, v5, v6, v7, v8, v9, v10, v11, v12, v13])), (h1, .inl (cB, 3000, .inl f189))] H := hP
  have hD : va_D A [(h0, .inr (10, [.ref h1, .int 20, v2, v3, v4, v5, v6, v7, v8, v9, v10, v11, v12, v13])), (h1, .inl (cB, 3000, .inl f189))] := hD
  refine lv_aload_n hx hb dX11_feed_42 rfl (lv_at hl 0 rfl) ?_
  refine va_get (D := (dC, dI)) (ci := 10) (v := .int 20) (C := RX11) (T := TX11) (N := 14) hx hb hts inX11 hown hK hP 0 rfl rfl 1 (by decide) (hts _ wd_107) (fun _ h9 => h9) rfl dX11_feed_43 ?_
  have hP9 := hP.sub (ws' := []) [] rfl
  have hD9 := hD.sub (ws' := []) [] (by decide) rfl
  have hK9 := hK.sub (tys' := []) [] rfl
  refine W.widen (k := 0) (n := 0) (Nat.le_of_ble_eq_true rfl) (Nat.le_of_ble_eq_true rfl) ?_
  exact W.iret (v := 20) hx hb hr (fun t ht hW => ⟨⟨20, (), rfl, rfl, by rw [ht]; exact hP9, va_K.moved hW.alike hK9, hD9⟩, hS.F ht⟩) hS.2.2 dX11_feed_46
set_option maxHeartbeats 4000000 in
set_option maxRecDepth 100000 in
/-- cut -/
theorem c_cut (l : Launch) (dC : Nat → ClassId) (dI : Nat → Nat → Nat) (h0 : Nat) (k : Int32) (v0 : Value) (v2 : Value) (v3 : Value) (v4 : Value) (v5 : Value) (v6 : Value) (v7 : Value) (v8 : Value) (v9 : Value) (v10 : Value) (v11 : Value) (v12 : Value) (v13 : Value) (sz : Nat) : Met l yX11_cut (.code yX11_cut cX11_cut 3 (some .int) :: wU) ({ frames := 0, cells := 0, slots := 0, locals := 0 } : Room) (va_Pc [.ref h0, .int k] (fun U => P5 dC dI [(h0, .inr (10, [v0, .int 0, v2, v3, v4, v5, v6, v7, v8, v9, v10, v11, v12, v13]))] [] sz U)) (va_Qi (fun (r : Int32) (_ : Unit) => r = (cutA k)) (fun _ t => P3 dC dI (va_A [(h0, .inr (10, [v0, .int 0, v2, v3, v4, v5, v6, v7, v8, v9, v10, v11, v12, v13]))] sz) [] [] t) (va_A [(h0, .inr (10, [v0, .int 0, v2, v3, v4, v5, v6, v7, v8, v9, v10, v11, v12, v13]))] sz)) 0 0 (va_A [(h0, .inr (10, [v0, .int 0, v2, v3, v4, v5, v6, v7, v8, v9, v10, v11, v12, v13]))] sz) := by
  refine Met.ofW (cc := cX11_cut) (maxL := 3) (ret := (some .int)) (by decide) rfl ?_
  intro p e s m args below meth c s₁ B hml hv
  obtain ⟨rfl, hsz, hP, hK, hD0, hE⟩ := hv
  have hx := B.exec
  have hb := B.bytes
  have hr := B.returns
  have hts0 := atoms_spec (ws := (.code yX11_cut cX11_cut 3 (some .int) :: wU)) B.pre
  have hts : ∀ w ∈ wU, w.before _ s = true := fun w h => hts0 w (List.mem_cons_of_mem _ h)
  have hown : s.vm.findClass "SpineTables" = some m.cls := findClass_of_methodNamed B.named
  have hlocks := B.notSynchronized
  subst hsz
  have hD := hD0.self (sz := s.heap.size)
  generalize hAe : va_A [(h0, .inr (10, [v0, .int 0, v2, v3, v4, v5, v6, v7, v8, v9, v10, v11, v12, v13]))] s.heap.size = A at hD ⊢
  have hA : ∀ q : Nat, s.heap.size ≤ q → A q := fun q h => by rw [← hAe]; exact Or.inr h
  have hP : va_P (dC, dI) classes [(h0, .inr (10, [v0, .int 0, v2, v3, v4, v5, v6, v7, v8, v9, v10, v11, v12, v13]))] s.heap := hP
  have hl := lv_entry ([.ref h0, .int k]) (n := 3) (Nat.le_of_ble_eq_true rfl)
  rw [lg_entry_eq]
  generalize (lg_sl ([.ref h0, .int k]) ++ List.replicate (3 - (lg_sl ([.ref h0, .int k])).length) Slot.unset).toArray = ls at hl ⊢
  have hl : lv_has ls 3 [(0, .ref h0), (1, .int k)] := hl
  obtain ⟨H, hH⟩ : ∃ H, H = s.heap := ⟨_, rfl⟩
  rw [← hH] at hP
  have hS : va_S A s.heap H [] := by rw [hH]; exact va_S.rf
  refine w_heap hH ?_
  refine lv_iload_n hx hb dX11_cut_0 rfl (lv_at hl 1 rfl) ?_
  refine lv_if_lt (tgt := 12) hx hb dX11_cut_1 (by decide) (fun c190 => ?_) (fun c190 => ?_)
  · refine lv_iconst (v := -1) hx hb dX11_cut_12 (by decide) ?_
    have hP9 := hP.sub (ws' := []) [] rfl
    have hD9 := hD.sub (ws' := []) [] (by decide) rfl
    have hK9 := hK.sub (tys' := []) [] rfl
    refine W.widen (k := 0) (n := 0) (Nat.le_of_ble_eq_true rfl) (Nat.le_of_ble_eq_true rfl) ?_
    exact W.iret (v := (-1)) hx hb hr (fun t ht hW => ⟨⟨(-1), (), rfl, (if_pos c190).symm, by rw [ht]; exact hP9, va_K.moved hW.alike hK9, hD9⟩, hS.F ht⟩) hS.2.2 dX11_cut_13
  · refine lv_iload_n hx hb dX11_cut_4 rfl (lv_at hl 1 rfl) ?_
    refine lv_aload_n hx hb dX11_cut_5 rfl (lv_at hl 0 rfl) ?_
    refine va_get (D := (dC, dI)) (ci := 10) (v := .int 0) (C := RX11) (T := TX11) (N := 14) hx hb hts inX11 hown hK hP 0 rfl rfl 1 (by decide) (hts _ wd_107) (fun _ h9 => h9) rfl dX11_cut_6 ?_
    refine lv_icmp_le (tgt := 14) hx hb dX11_cut_9 (by decide) (fun c191 => ?_) (fun c191 => ?_)
    · refine lv_aload_n hx hb dX11_cut_14 rfl (lv_at hl 0 rfl) ?_
      refine va_get (D := (dC, dI)) (ci := 10) (v := .int 0) (C := RX11) (T := TX11) (N := 14) hx hb hts inX11 hown hK hP 0 rfl rfl 1 (by decide) (hts _ wd_107) (fun _ h9 => h9) rfl dX11_cut_15 ?_
      refine lv_iload_n hx hb dX11_cut_18 rfl (lv_at hl 1 rfl) ?_
      refine lv_isub hx hb dX11_cut_19 ?_
      refine lv_topi (fun n192 en192 => ?_)
      refine lv_istore_n (lv' := [(2, .int n192), (0, .ref h0), (1, .int k)]) hx hb dX11_cut_20 rfl hl (by decide) rfl (fun ls hl => ?_)
      refine lv_aload_n hx hb dX11_cut_21 rfl (lv_at hl 1 rfl) ?_
      refine lv_iload_n hx hb dX11_cut_22 rfl (lv_at hl 2 rfl) ?_
      refine va_put (D := (dC, dI)) (ci := 10) (v := .int k) (ty := .int) (C := RX11) (T := TX11) (N := 14) hx hb hts inX11 tyX11 tyX11_ok nmX11 hown hK hP hD hS 0 rfl rfl 1 (by decide) (hts _ wd_107) (fun _ h9 => h9) rfl (by decide +kernel) rfl rfl (Nat.le_of_ble_eq_true rfl) dX11_cut_23 (fun H locs hP hD hS => ?_)
      have hP : va_P (dC, dI) classes [(h0, .inr (10, [v0, .int k, v2, v3, v4, v5, v6, v7, v8, v9, v10, v11, v12, v13]))] H := hP
      have hD : va_D A [(h0, .inr (10, [v0, .int k, v2, v3, v4, v5, v6, v7, v8, v9, v10, v11, v12, v13]))] := hD
      refine lv_iload_n hx hb dX11_cut_26 rfl (lv_at hl 0 rfl) ?_
      have hP9 := hP.sub (ws' := []) [] rfl
      have hD9 := hD.sub (ws' := []) [] (by decide) rfl
      have hK9 := hK.sub (tys' := []) [] rfl
      refine W.widen (k := 0) (n := 0) (Nat.le_of_ble_eq_true rfl) (Nat.le_of_ble_eq_true rfl) ?_
      exact W.iret (v := n192) hx hb hr (fun t ht hW => ⟨⟨n192, (), rfl, (by unfold cutA; rw [if_neg c190, if_pos c191]; exact en192), by rw [ht]; exact hP9, va_K.moved hW.alike hK9, hD9⟩, hS.F ht⟩) hS.2.2 dX11_cut_27
    · refine lv_iconst (v := -1) hx hb dX11_cut_12 (by decide) ?_
      have hP9 := hP.sub (ws' := []) [] rfl
      have hD9 := hD.sub (ws' := []) [] (by decide) rfl
      have hK9 := hK.sub (tys' := []) [] rfl
      refine W.widen (k := 0) (n := 0) (Nat.le_of_ble_eq_true rfl) (Nat.le_of_ble_eq_true rfl) ?_
      exact W.iret (v := (-1)) hx hb hr (fun t ht hW => ⟨⟨(-1), (), rfl, (by unfold cutA; rw [if_neg c190, if_neg c191]), by rw [ht]; exact hP9, va_K.moved hW.alike hK9, hD9⟩, hS.F ht⟩) hS.2.2 dX11_cut_13
set_option maxHeartbeats 4000000 in
set_option maxRecDepth 100000 in
/-- freePlace -/
theorem c_freePlace (l : Launch) (dC : Nat → ClassId) (dI : Nat → Nat → Nat) (h0 : Nat) (h1 : Nat) (v0 : Value) (v1 : Value) (v2 : Value) (v3 : Value) (v4 : Value) (v5 : Value) (v7 : Value) (v8 : Value) (v9 : Value) (v10 : Value) (v11 : Value) (v12 : Value) (v13 : Value) (cZ : ClassId) (sz : Nat) : Met l yX11_freePlace (.code yX11_freePlace cX11_freePlace 2 (some .int) :: wU) ({ frames := 0, cells := 0, slots := 0, locals := 0 } : Room) (va_Pc [.ref h0] (fun U => P5 dC dI [(h0, .inr (10, [v0, v1, v2, v3, v4, v5, .ref h1, v7, v8, v9, v10, v11, v12, v13])), (h1, .inl (cZ, 8, .inl (fun _ => 0)))] [(cZ, .boolean)] sz U)) (va_Qi (fun (r : Int32) (_ : Unit) => r = 0) (fun _ t => P3 dC dI (va_A [(h0, .inr (10, [v0, v1, v2, v3, v4, v5, .ref h1, v7, v8, v9, v10, v11, v12, v13])), (h1, .inl (cZ, 8, .inl (fun _ => 0)))] sz) [(h0, .inr (10, [v0, v1, v2, v3, v4, v5, .ref h1, v7, v8, v9, v10, v11, v12, v13])), (h1, .inl (cZ, 8, .inl (fun _ => 0)))] [(cZ, .boolean)] t) (va_A [(h0, .inr (10, [v0, v1, v2, v3, v4, v5, .ref h1, v7, v8, v9, v10, v11, v12, v13])), (h1, .inl (cZ, 8, .inl (fun _ => 0)))] sz)) 0 0 (va_A [(h0, .inr (10, [v0, v1, v2, v3, v4, v5, .ref h1, v7, v8, v9, v10, v11, v12, v13])), (h1, .inl (cZ, 8, .inl (fun _ => 0)))] sz) := by
  refine Met.ofW (cc := cX11_freePlace) (maxL := 2) (ret := (some .int)) (by decide) rfl ?_
  intro p e s m args below meth c s₁ B hml hv
  obtain ⟨rfl, hsz, hP, hK, hD0, hE⟩ := hv
  have hx := B.exec
  have hb := B.bytes
  have hr := B.returns
  have hts0 := atoms_spec (ws := (.code yX11_freePlace cX11_freePlace 2 (some .int) :: wU)) B.pre
  have hts : ∀ w ∈ wU, w.before _ s = true := fun w h => hts0 w (List.mem_cons_of_mem _ h)
  have hown : s.vm.findClass "SpineTables" = some m.cls := findClass_of_methodNamed B.named
  have hlocks := B.notSynchronized
  subst hsz
  have hD := hD0.self (sz := s.heap.size)
  generalize hAe : va_A [(h0, .inr (10, [v0, v1, v2, v3, v4, v5, .ref h1, v7, v8, v9, v10, v11, v12, v13])), (h1, .inl (cZ, 8, .inl (fun _ => 0)))] s.heap.size = A at hD ⊢
  have hA : ∀ q : Nat, s.heap.size ≤ q → A q := fun q h => by rw [← hAe]; exact Or.inr h
  have hP : va_P (dC, dI) classes [(h0, .inr (10, [v0, v1, v2, v3, v4, v5, .ref h1, v7, v8, v9, v10, v11, v12, v13])), (h1, .inl (cZ, 8, .inl (fun _ => 0)))] s.heap := hP
  have hl := lv_entry ([.ref h0]) (n := 2) (Nat.le_of_ble_eq_true rfl)
  rw [lg_entry_eq]
  generalize (lg_sl ([.ref h0]) ++ List.replicate (2 - (lg_sl ([.ref h0])).length) Slot.unset).toArray = ls at hl ⊢
  have hl : lv_has ls 2 [(0, .ref h0)] := hl
  obtain ⟨H, hH⟩ : ∃ H, H = s.heap := ⟨_, rfl⟩
  rw [← hH] at hP
  have hS : va_S A s.heap H [] := by rw [hH]; exact va_S.rf
  refine w_heap hH ?_
  refine lv_iconst (v := 0) hx hb dX11_freePlace_0 (by decide) ?_
  refine lv_istore_n (lv' := [(1, .int 0), (0, .ref h0)]) hx hb dX11_freePlace_1 rfl hl (by decide) rfl (fun ls hl => ?_)
  refine lv_iload_n hx hb dX11_freePlace_2 rfl (lv_at hl 0 rfl) ?_
  refine lv_bipush (v := 8) hx hb dX11_freePlace_3 (by decide) ?_
  refine lv_icmp_ge (tgt := 25) hx hb dX11_freePlace_5 (by decide) (fun hc => absurd hc (by decide)) (fun _ => ?_)
  refine lv_aload_n hx hb dX11_freePlace_8 rfl (lv_at hl 1 rfl) ?_
  refine va_get (D := (dC, dI)) (ci := 10) (v := .ref h1) (C := RX11) (T := TX11) (N := 14) hx hb hts inX11 hown hK hP 0 rfl rfl 6 (by decide) (hts _ wd_114) (fun _ h9 => h9) rfl dX11_freePlace_9 ?_
  refine lv_iload_n hx hb dX11_freePlace_12 rfl (lv_at hl 0 rfl) ?_
  refine va_zald hx hb hK hP 1 0 rfl rfl (by unfold vp_in; decide) dX11_freePlace_13 ?_
  refine lv_topi (fun z9 ez9 => ?_)
  obtain rfl : z9 = 0 := ez9
  refine lv_if_ne (tgt := 19) hx hb dX11_freePlace_14 (by decide) (fun hc => absurd hc (by decide)) (fun _ => ?_)
  refine lv_iload_n hx hb dX11_freePlace_17 rfl (lv_at hl 0 rfl) ?_
  have hP9 := hP.sub (ws' := [(h0, .inr (10, [v0, v1, v2, v3, v4, v5, .ref h1, v7, v8, v9, v10, v11, v12, v13])), (h1, .inl (cZ, 8, .inl (fun _ => 0)))]) [0, 1] rfl
  have hD9 := hD.sub (ws' := [(h0, .inr (10, [v0, v1, v2, v3, v4, v5, .ref h1, v7, v8, v9, v10, v11, v12, v13])), (h1, .inl (cZ, 8, .inl (fun _ => 0)))]) [0, 1] (by decide) rfl
  have hK9 := hK.sub (tys' := [(cZ, .boolean)]) [0] rfl
  refine W.widen (k := 0) (n := 0) (Nat.le_of_ble_eq_true rfl) (Nat.le_of_ble_eq_true rfl) ?_
  exact W.iret (v := 0) hx hb hr (fun t ht hW => ⟨⟨0, (), rfl, rfl, by rw [ht]; exact hP9, va_K.moved hW.alike hK9, hD9⟩, hS.F ht⟩) hS.2.2 dX11_freePlace_18
set_option maxHeartbeats 4000000 in
set_option maxRecDepth 100000 in
/-- fault -/
theorem c_fault (l : Launch) (dC : Nat → ClassId) (dI : Nat → Nat → Nat) (h0 : Nat) (v0 : Value) (v1 : Value) (v2 : Value) (v3 : Value) (v5 : Value) (v6 : Value) (v7 : Value) (v8 : Value) (v9 : Value) (v10 : Value) (v11 : Value) (v12 : Value) (v13 : Value) (sz : Nat) : Met l yX11_fault (.code yX11_fault cX11_fault 1 (some .int) :: wU) ({ frames := 0, cells := 0, slots := 0, locals := 0 } : Room) (va_Pc [.ref h0] (fun U => P5 dC dI [(h0, .inr (10, [v0, v1, v2, v3, .int 0, v5, v6, v7, v8, v9, v10, v11, v12, v13]))] [] sz U)) (va_Qi (fun (r : Int32) (_ : Unit) => r = 0) (fun _ t => P3 dC dI (va_A [(h0, .inr (10, [v0, v1, v2, v3, .int 0, v5, v6, v7, v8, v9, v10, v11, v12, v13]))] sz) [] [] t) (va_A [(h0, .inr (10, [v0, v1, v2, v3, .int 0, v5, v6, v7, v8, v9, v10, v11, v12, v13]))] sz)) 0 0 (va_A [(h0, .inr (10, [v0, v1, v2, v3, .int 0, v5, v6, v7, v8, v9, v10, v11, v12, v13]))] sz) := by
  refine Met.ofW (cc := cX11_fault) (maxL := 1) (ret := (some .int)) (by decide) rfl ?_
  intro p e s m args below meth c s₁ B hml hv
  obtain ⟨rfl, hsz, hP, hK, hD0, hE⟩ := hv
  have hx := B.exec
  have hb := B.bytes
  have hr := B.returns
  have hts0 := atoms_spec (ws := (.code yX11_fault cX11_fault 1 (some .int) :: wU)) B.pre
  have hts : ∀ w ∈ wU, w.before _ s = true := fun w h => hts0 w (List.mem_cons_of_mem _ h)
  have hown : s.vm.findClass "SpineTables" = some m.cls := findClass_of_methodNamed B.named
  have hlocks := B.notSynchronized
  subst hsz
  have hD := hD0.self (sz := s.heap.size)
  generalize hAe : va_A [(h0, .inr (10, [v0, v1, v2, v3, .int 0, v5, v6, v7, v8, v9, v10, v11, v12, v13]))] s.heap.size = A at hD ⊢
  have hA : ∀ q : Nat, s.heap.size ≤ q → A q := fun q h => by rw [← hAe]; exact Or.inr h
  have hP : va_P (dC, dI) classes [(h0, .inr (10, [v0, v1, v2, v3, .int 0, v5, v6, v7, v8, v9, v10, v11, v12, v13]))] s.heap := hP
  have hl := lv_entry ([.ref h0]) (n := 1) (Nat.le_of_ble_eq_true rfl)
  rw [lg_entry_eq]
  generalize (lg_sl ([.ref h0]) ++ List.replicate (1 - (lg_sl ([.ref h0])).length) Slot.unset).toArray = ls at hl ⊢
  have hl : lv_has ls 1 [(0, .ref h0)] := hl
  obtain ⟨H, hH⟩ : ∃ H, H = s.heap := ⟨_, rfl⟩
  rw [← hH] at hP
  have hS : va_S A s.heap H [] := by rw [hH]; exact va_S.rf
  refine w_heap hH ?_
  refine lv_aload_n hx hb dX11_fault_0 rfl (lv_at hl 0 rfl) ?_
  refine va_get (D := (dC, dI)) (ci := 10) (v := .int 0) (C := RX11) (T := TX11) (N := 14) hx hb hts inX11 hown hK hP 0 rfl rfl 4 (by decide) (hts _ wd_110) (fun _ h9 => h9) rfl dX11_fault_1 ?_
  have hP9 := hP.sub (ws' := []) [] rfl
  have hD9 := hD.sub (ws' := []) [] (by decide) rfl
  have hK9 := hK.sub (tys' := []) [] rfl
  refine W.widen (k := 0) (n := 0) (Nat.le_of_ble_eq_true rfl) (Nat.le_of_ble_eq_true rfl) ?_
  exact W.iret (v := 0) hx hb hr (fun t ht hW => ⟨⟨0, (), rfl, rfl, by rw [ht]; exact hP9, va_K.moved hW.alike hK9, hD9⟩, hS.F ht⟩) hS.2.2 dX11_fault_4
set_option maxHeartbeats 4000000 in
set_option maxRecDepth 100000 in
/-- out -/
theorem c_out (l : Launch) (dC : Nat → ClassId) (dI : Nat → Nat → Nat) (h0 : Nat) (k : Int32) (v0 : Value) (v1 : Value) (v2 : Value) (v4 : Value) (v5 : Value) (v6 : Value) (v7 : Value) (v8 : Value) (v9 : Value) (v10 : Value) (v11 : Value) (v12 : Value) (v13 : Value) (sz : Nat) : Met l yX11_out (.code yX11_out cX11_out 2 (some .int) :: wU) ({ frames := 0, cells := 0, slots := 0, locals := 0 } : Room) (va_Pc [.ref h0, .int k] (fun U => P5 dC dI [(h0, .inr (10, [v0, v1, v2, .int 0, v4, v5, v6, v7, v8, v9, v10, v11, v12, v13]))] [] sz U)) (va_Qi (fun (r : Int32) (_ : Unit) => r = (-1)) (fun _ t => P3 dC dI (va_A [(h0, .inr (10, [v0, v1, v2, .int 0, v4, v5, v6, v7, v8, v9, v10, v11, v12, v13]))] sz) [] [] t) (va_A [(h0, .inr (10, [v0, v1, v2, .int 0, v4, v5, v6, v7, v8, v9, v10, v11, v12, v13]))] sz)) 0 0 (va_A [(h0, .inr (10, [v0, v1, v2, .int 0, v4, v5, v6, v7, v8, v9, v10, v11, v12, v13]))] sz) := by
  refine Met.ofW (cc := cX11_out) (maxL := 2) (ret := (some .int)) (by decide) rfl ?_
  intro p e s m args below meth c s₁ B hml hv
  obtain ⟨rfl, hsz, hP, hK, hD0, hE⟩ := hv
  have hx := B.exec
  have hb := B.bytes
  have hr := B.returns
  have hts0 := atoms_spec (ws := (.code yX11_out cX11_out 2 (some .int) :: wU)) B.pre
  have hts : ∀ w ∈ wU, w.before _ s = true := fun w h => hts0 w (List.mem_cons_of_mem _ h)
  have hown : s.vm.findClass "SpineTables" = some m.cls := findClass_of_methodNamed B.named
  have hlocks := B.notSynchronized
  subst hsz
  have hD := hD0.self (sz := s.heap.size)
  generalize hAe : va_A [(h0, .inr (10, [v0, v1, v2, .int 0, v4, v5, v6, v7, v8, v9, v10, v11, v12, v13]))] s.heap.size = A at hD ⊢
  have hA : ∀ q : Nat, s.heap.size ≤ q → A q := fun q h => by rw [← hAe]; exact Or.inr h
  have hP : va_P (dC, dI) classes [(h0, .inr (10, [v0, v1, v2, .int 0, v4, v5, v6, v7, v8, v9, v10, v11, v12, v13]))] s.heap := hP
  have hl := lv_entry ([.ref h0, .int k]) (n := 2) (Nat.le_of_ble_eq_true rfl)
  rw [lg_entry_eq]
  generalize (lg_sl ([.ref h0, .int k]) ++ List.replicate (2 - (lg_sl ([.ref h0, .int k])).length) Slot.unset).toArray = ls at hl ⊢
  have hl : lv_has ls 2 [(0, .ref h0), (1, .int k)] := hl
  obtain ⟨H, hH⟩ : ∃ H, H = s.heap := ⟨_, rfl⟩
  rw [← hH] at hP
  have hS : va_S A s.heap H [] := by rw [hH]; exact va_S.rf
  refine w_heap hH ?_
  refine lv_iload_n hx hb dX11_out_0 rfl (lv_at hl 1 rfl) ?_
  refine lv_if_lt (tgt := 19) hx hb dX11_out_1 (by decide) (fun c193 => ?_) (fun c193 => ?_)
  · refine lv_iconst (v := -1) hx hb dX11_out_19 (by decide) ?_
    refine lv_goto (tgt := 29) hx hb dX11_out_20 (by decide) ?_
    have hP9 := hP.sub (ws' := []) [] rfl
    have hD9 := hD.sub (ws' := []) [] (by decide) rfl
    have hK9 := hK.sub (tys' := []) [] rfl
    refine W.widen (k := 0) (n := 0) (Nat.le_of_ble_eq_true rfl) (Nat.le_of_ble_eq_true rfl) ?_
    exact W.iret (v := (-1)) hx hb hr (fun t ht hW => ⟨⟨(-1), (), rfl, rfl, by rw [ht]; exact hP9, va_K.moved hW.alike hK9, hD9⟩, hS.F ht⟩) hS.2.2 dX11_out_29
  · refine lv_iload_n hx hb dX11_out_4 rfl (lv_at hl 1 rfl) ?_
    refine lv_aload_n hx hb dX11_out_5 rfl (lv_at hl 0 rfl) ?_
    refine va_get (D := (dC, dI)) (ci := 10) (v := .int 0) (C := RX11) (T := TX11) (N := 14) hx hb hts inX11 hown hK hP 0 rfl rfl 3 (by decide) (hts _ wd_109) (fun _ h9 => h9) rfl dX11_out_6 ?_
    refine lv_icmp_ge (tgt := 19) hx hb dX11_out_9 (by decide) (fun _ => ?_) (fun hc => absurd (Int32.not_lt.mp c193) hc)
    refine lv_iconst (v := -1) hx hb dX11_out_19 (by decide) ?_
    refine lv_goto (tgt := 29) hx hb dX11_out_20 (by decide) ?_
    have hP9 := hP.sub (ws' := []) [] rfl
    have hD9 := hD.sub (ws' := []) [] (by decide) rfl
    have hK9 := hK.sub (tys' := []) [] rfl
    refine W.widen (k := 0) (n := 0) (Nat.le_of_ble_eq_true rfl) (Nat.le_of_ble_eq_true rfl) ?_
    exact W.iret (v := (-1)) hx hb hr (fun t ht hW => ⟨⟨(-1), (), rfl, rfl, by rw [ht]; exact hP9, va_K.moved hW.alike hK9, hD9⟩, hS.F ht⟩) hS.2.2 dX11_out_29
end
section
set_option maxHeartbeats 4000000 in
set_option maxRecDepth 100000 in
/-- tableAt -/
theorem c_tableAt (l : Launch) (hlt : l.stackTraces = false) (dC : Nat → ClassId) (dI : Nat → Nat → Nat) (h0 : Nat) (k : Int32) (h1 : Nat) (v0 : Value) (v1 : Value) (v2 : Value) (v3 : Value) (v4 : Value) (v5 : Value) (v7 : Value) (v8 : Value) (v9 : Value) (v10 : Value) (v11 : Value) (v12 : Value) (v13 : Value) (cZ : ClassId) (sa : Nat) (sz : Nat) : vx_Met l yX11_tableAt (.code yX11_tableAt cX11_tableAt 3 (some (.object "SpineTables$Table")) :: wU) ({ frames := 6, cells := 1, slots := 6, locals := 82 } : Room) (va_Pc [.ref h0, .int k] (fun U => P5 dC dI [(h0, .inr (10, [v0, v1, v2, v3, v4, v5, .ref h1, v7, v8, v9, v10, v11, v12, v13])), (h1, .inl (cZ, 8, .inl (fun _ => 0)))] [(cZ, .boolean)] sz U ∧ Tn (va_A [(h0, .inr (10, [v0, v1, v2, v3, v4, v5, .ref h1, v7, v8, v9, v10, v11, v12, v13])), (h1, .inl (cZ, 8, .inl (fun _ => 0)))] sz) sa U)) (fun _ _ _ _ => False) (vx_X (fun _ : Unit => True) (fun E _ _ => E = "java/lang/IndexOutOfBoundsException") (va_A [(h0, .inr (10, [v0, v1, v2, v3, v4, v5, .ref h1, v7, v8, v9, v10, v11, v12, v13])), (h1, .inl (cZ, 8, .inl (fun _ => 0)))] sz)) 1 6 (va_A [(h0, .inr (10, [v0, v1, v2, v3, v4, v5, .ref h1, v7, v8, v9, v10, v11, v12, v13])), (h1, .inl (cZ, 8, .inl (fun _ => 0)))] sz) := by
  refine vx_ofW (cc := cX11_tableAt) (maxL := 3) (ret := (some (.object "SpineTables$Table"))) (by decide) rfl ?_
  intro p e s m args below meth c s₁ B hml htb hv
  obtain ⟨rfl, ⟨hsz, hP, hK, hD0, hE⟩, hT⟩ := hv
  have hx := B.exec
  have hb := B.bytes
  have hr := B.returns
  have hts0 := atoms_spec (ws := (.code yX11_tableAt cX11_tableAt 3 (some (.object "SpineTables$Table")) :: wU)) B.pre
  have hts : ∀ w ∈ wU, w.before _ s = true := fun w h => hts0 w (List.mem_cons_of_mem _ h)
  have hown : s.vm.findClass "SpineTables" = some m.cls := findClass_of_methodNamed B.named
  have hlocks := B.notSynchronized
  subst hsz
  have hD := hD0.self (sz := s.heap.size)
  generalize hAe : va_A [(h0, .inr (10, [v0, v1, v2, v3, v4, v5, .ref h1, v7, v8, v9, v10, v11, v12, v13])), (h1, .inl (cZ, 8, .inl (fun _ => 0)))] s.heap.size = A at hT hD ⊢
  have hA : ∀ q : Nat, s.heap.size ≤ q → A q := fun q h => by rw [← hAe]; exact Or.inr h
  have hP : va_P (dC, dI) classes [(h0, .inr (10, [v0, v1, v2, v3, v4, v5, .ref h1, v7, v8, v9, v10, v11, v12, v13])), (h1, .inl (cZ, 8, .inl (fun _ => 0)))] s.heap := hP
  have hl := lv_entry ([.ref h0, .int k]) (n := 3) (Nat.le_of_ble_eq_true rfl)
  rw [lg_entry_eq]
  generalize (lg_sl ([.ref h0, .int k]) ++ List.replicate (3 - (lg_sl ([.ref h0, .int k])).length) Slot.unset).toArray = ls at hl ⊢
  have hl : lv_has ls 3 [(0, .ref h0), (1, .int k)] := hl
  obtain ⟨H, hH⟩ : ∃ H, H = s.heap := ⟨_, rfl⟩
  rw [← hH] at hP
  have hS : va_S A s.heap H [] := by rw [hH]; exact va_S.rf
  refine w_heap hH ?_
  refine lv_iload_n hx hb dX11_tableAt_0 rfl (lv_at hl 1 rfl) ?_
  refine lv_if_lt (tgt := 19) hx hb dX11_tableAt_1 (by decide) (fun c194 => ?_) (fun c194 => ?_)
  · refine lv_null hx hb dX11_tableAt_19 ?_
    refine lv_goto (tgt := 29) hx hb dX11_tableAt_20 (by decide) ?_
    refine lv_astore_nN (lv' := [(2, .null), (0, .ref h0), (1, .int k)]) hx hb dX11_tableAt_29 rfl hl (by decide) rfl (fun ls hl => ?_)
    refine lv_aload_nN hx hb dX11_tableAt_30 rfl (lv_at hl 0 rfl) ?_
    refine lv_ifnonnullN hx hb dX11_tableAt_31 ?_
    exact vx_throwSW (rest := []) (own := "SpineTables") (cls := "java/lang/IndexOutOfBoundsException") (names := ["java/lang/RuntimeException", "java/lang/Exception"]) (ik := 177) (is := 274) (ic := 181) (A := A) hx hb hlt hown (by decide +kernel) (by decide +kernel) (hts _ wd_192) (hts _ wd_193) hT.1 (thr_at hts hE) thr_ot hT.2.1 hT.2.2 hS (by rw [hml]; exact hl.1) dX11_tableAt_34 dX11_tableAt_37 dX11_tableAt_38 dX11_tableAt_41 dX11_tableAt_44 (fun x hx => (htb x hx).elim) (Nat.le_of_ble_eq_true rfl) (Nat.le_of_ble_eq_true rfl) (Nat.le_of_ble_eq_true rfl) (Nat.le_of_ble_eq_true rfl) hlocks (fun t ha hz hq => ⟨(), trivial, rfl, thr_F hS hz hq⟩) hS.2.2 (Nat.le_of_ble_eq_true rfl) (Nat.le_of_ble_eq_true rfl)
  · refine lv_iload_n hx hb dX11_tableAt_4 rfl (lv_at hl 1 rfl) ?_
    refine lv_bipush (v := 8) hx hb dX11_tableAt_5 (by decide) ?_
    refine lv_icmp_ge (tgt := 19) hx hb dX11_tableAt_7 (by decide) (fun c195 => ?_) (fun c195 => ?_)
    · refine lv_null hx hb dX11_tableAt_19 ?_
      refine lv_goto (tgt := 29) hx hb dX11_tableAt_20 (by decide) ?_
      refine lv_astore_nN (lv' := [(2, .null), (0, .ref h0), (1, .int k)]) hx hb dX11_tableAt_29 rfl hl (by decide) rfl (fun ls hl => ?_)
      refine lv_aload_nN hx hb dX11_tableAt_30 rfl (lv_at hl 0 rfl) ?_
      refine lv_ifnonnullN hx hb dX11_tableAt_31 ?_
      exact vx_throwSW (rest := []) (own := "SpineTables") (cls := "java/lang/IndexOutOfBoundsException") (names := ["java/lang/RuntimeException", "java/lang/Exception"]) (ik := 177) (is := 274) (ic := 181) (A := A) hx hb hlt hown (by decide +kernel) (by decide +kernel) (hts _ wd_192) (hts _ wd_193) hT.1 (thr_at hts hE) thr_ot hT.2.1 hT.2.2 hS (by rw [hml]; exact hl.1) dX11_tableAt_34 dX11_tableAt_37 dX11_tableAt_38 dX11_tableAt_41 dX11_tableAt_44 (fun x hx => (htb x hx).elim) (Nat.le_of_ble_eq_true rfl) (Nat.le_of_ble_eq_true rfl) (Nat.le_of_ble_eq_true rfl) (Nat.le_of_ble_eq_true rfl) hlocks (fun t ha hz hq => ⟨(), trivial, rfl, thr_F hS hz hq⟩) hS.2.2 (Nat.le_of_ble_eq_true rfl) (Nat.le_of_ble_eq_true rfl)
    · refine lv_aload_n hx hb dX11_tableAt_10 rfl (lv_at hl 0 rfl) ?_
      refine va_get (D := (dC, dI)) (ci := 10) (v := .ref h1) (C := RX11) (T := TX11) (N := 14) hx hb hts inX11 hown hK hP 0 rfl rfl 6 (by decide) (hts _ wd_114) (fun _ h9 => h9) rfl dX11_tableAt_11 ?_
      refine lv_iload_n hx hb dX11_tableAt_14 rfl (lv_at hl 1 rfl) ?_
      refine va_zald hx hb hK hP 1 0 rfl rfl (in8 c194 c195) dX11_tableAt_15 ?_
      refine lv_topi (fun z9 ez9 => ?_)
      obtain rfl : z9 = 0 := ez9
      refine lv_if_ne (tgt := 23) hx hb dX11_tableAt_16 (by decide) (fun hc => absurd hc (by decide)) (fun _ => ?_)
      refine lv_null hx hb dX11_tableAt_19 ?_
      refine lv_goto (tgt := 29) hx hb dX11_tableAt_20 (by decide) ?_
      refine lv_astore_nN (lv' := [(2, .null), (0, .ref h0), (1, .int k)]) hx hb dX11_tableAt_29 rfl hl (by decide) rfl (fun ls hl => ?_)
      refine lv_aload_nN hx hb dX11_tableAt_30 rfl (lv_at hl 0 rfl) ?_
      refine lv_ifnonnullN hx hb dX11_tableAt_31 ?_
      exact vx_throwSW (rest := []) (own := "SpineTables") (cls := "java/lang/IndexOutOfBoundsException") (names := ["java/lang/RuntimeException", "java/lang/Exception"]) (ik := 177) (is := 274) (ic := 181) (A := A) hx hb hlt hown (by decide +kernel) (by decide +kernel) (hts _ wd_192) (hts _ wd_193) hT.1 (thr_at hts hE) thr_ot hT.2.1 hT.2.2 hS (by rw [hml]; exact hl.1) dX11_tableAt_34 dX11_tableAt_37 dX11_tableAt_38 dX11_tableAt_41 dX11_tableAt_44 (fun x hx => (htb x hx).elim) (Nat.le_of_ble_eq_true rfl) (Nat.le_of_ble_eq_true rfl) (Nat.le_of_ble_eq_true rfl) (Nat.le_of_ble_eq_true rfl) hlocks (fun t ha hz hq => ⟨(), trivial, rfl, thr_F hS hz hq⟩) hS.2.2 (Nat.le_of_ble_eq_true rfl) (Nat.le_of_ble_eq_true rfl)
set_option maxHeartbeats 4000000 in
set_option maxRecDepth 100000 in
/-- x_drop -/
theorem c_x_drop (l : Launch) (hlt : l.stackTraces = false) (dC : Nat → ClassId) (dI : Nat → Nat → Nat) (h0 : Nat) (k : Int32) (h1 : Nat) (v0 : Value) (v1 : Value) (v2 : Value) (v3 : Value) (v4 : Value) (v5 : Value) (v7 : Value) (v8 : Value) (v9 : Value) (v10 : Value) (v11 : Value) (v12 : Value) (v13 : Value) (cZ : ClassId) (sa : Nat) (sz : Nat) : vx_Met l yX11_drop (.code yX11_drop cX11_drop 3 (some .int) :: wU) ({ frames := 7, cells := 1, slots := 6, locals := 104 } : Room) (va_Pc [.ref h0, .int k] (fun U => P5 dC dI [(h0, .inr (10, [v0, v1, v2, v3, v4, v5, .ref h1, v7, v8, v9, v10, v11, v12, v13])), (h1, .inl (cZ, 8, .inl (fun _ => 0)))] [(cZ, .boolean)] sz U ∧ Tn (va_A [(h0, .inr (10, [v0, v1, v2, v3, v4, v5, .ref h1, v7, v8, v9, v10, v11, v12, v13])), (h1, .inl (cZ, 8, .inl (fun _ => 0)))] sz) sa U)) (fun _ _ _ _ => False) (vx_X (fun _ : Unit => True) (fun E _ _ => E = "java/lang/IndexOutOfBoundsException") (va_A [(h0, .inr (10, [v0, v1, v2, v3, v4, v5, .ref h1, v7, v8, v9, v10, v11, v12, v13])), (h1, .inl (cZ, 8, .inl (fun _ => 0)))] sz)) 1 6 (va_A [(h0, .inr (10, [v0, v1, v2, v3, v4, v5, .ref h1, v7, v8, v9, v10, v11, v12, v13])), (h1, .inl (cZ, 8, .inl (fun _ => 0)))] sz) := by
  refine vx_ofW (cc := cX11_drop) (maxL := 3) (ret := (some .int)) (by decide) rfl ?_
  intro p e s m args below meth c s₁ B hml htb hv
  obtain ⟨rfl, ⟨hsz, hP, hK, hD0, hE⟩, hT⟩ := hv
  have hx := B.exec
  have hb := B.bytes
  have hr := B.returns
  have hts0 := atoms_spec (ws := (.code yX11_drop cX11_drop 3 (some .int) :: wU)) B.pre
  have hts : ∀ w ∈ wU, w.before _ s = true := fun w h => hts0 w (List.mem_cons_of_mem _ h)
  have hown : s.vm.findClass "SpineTables" = some m.cls := findClass_of_methodNamed B.named
  have hlocks := B.notSynchronized
  subst hsz
  have hD := hD0.self (sz := s.heap.size)
  generalize hAe : va_A [(h0, .inr (10, [v0, v1, v2, v3, v4, v5, .ref h1, v7, v8, v9, v10, v11, v12, v13])), (h1, .inl (cZ, 8, .inl (fun _ => 0)))] s.heap.size = A at hT hD ⊢
  have hA : ∀ q : Nat, s.heap.size ≤ q → A q := fun q h => by rw [← hAe]; exact Or.inr h
  have hP : va_P (dC, dI) classes [(h0, .inr (10, [v0, v1, v2, v3, v4, v5, .ref h1, v7, v8, v9, v10, v11, v12, v13])), (h1, .inl (cZ, 8, .inl (fun _ => 0)))] s.heap := hP
  have hl := lv_entry ([.ref h0, .int k]) (n := 3) (Nat.le_of_ble_eq_true rfl)
  rw [lg_entry_eq]
  generalize (lg_sl ([.ref h0, .int k]) ++ List.replicate (3 - (lg_sl ([.ref h0, .int k])).length) Slot.unset).toArray = ls at hl ⊢
  have hl : lv_has ls 3 [(0, .ref h0), (1, .int k)] := hl
  obtain ⟨H, hH⟩ : ∃ H, H = s.heap := ⟨_, rfl⟩
  rw [← hH] at hP
  have hS : va_S A s.heap H [] := by rw [hH]; exact va_S.rf
  refine w_heap hH ?_
  refine lv_aload_n hx hb dX11_drop_0 rfl (lv_at hl 0 rfl) ?_
  refine lv_iload_n hx hb dX11_drop_1 rfl (lv_at hl 1 rfl) ?_
  have hPc := hP.sub (ws' := [(h0, .inr (10, [v0, v1, v2, v3, v4, v5, .ref h1, v7, v8, v9, v10, v11, v12, v13])), (h1, .inl (cZ, 8, .inl (fun _ => 0)))]) [0, 1] rfl
  have hDc := hD.sub (ws' := [(h0, .inr (10, [v0, v1, v2, v3, v4, v5, .ref h1, v7, v8, v9, v10, v11, v12, v13])), (h1, .inl (cZ, 8, .inl (fun _ => 0)))]) [0, 1] (by decide) rfl
  have hKc := hK.sub (tys' := [(cZ, .boolean)]) [0] rfl
  have hFc := va_free (wc := [(h0, .inr (10, [v0, v1, v2, v3, v4, v5, .ref h1, v7, v8, v9, v10, v11, v12, v13])), (h1, .inl (cZ, 8, .inl (fun _ => 0)))]) hD hS hA [0, 1] rfl
  refine vy_callX (vx_runV (As := [.int k]) (rest := []) ⟨hx, hb, hml, hown, hts⟩ (c_tableAt l hlt dC dI h0 k h1 v0 v1 v2 v3 v4 v5 v7 v8 v9 v10 v11 v12 v13 cZ sa H.size) (cwV 1 hts (goV wd_196 wd_197 wd_195 wd_191 wd_194) rfl rfl rfl (by decide +kernel) ⟨Nat.le_of_ble_eq_true rfl, Nat.le_of_ble_eq_true rfl⟩) ⟨blind6, va_recv hKc hPc (ci := 10) (q0 := 0) rfl rfl, fun U hU hW => ⟨rfl, pre6 hU hW hPc hKc hDc hE (hT.call hS hFc)⟩⟩ rfl rfl hl.1 rfl (lv_room (Nat.le_of_ble_eq_true rfl)) dX11_drop_2 ⟨Nat.le_of_ble_eq_true rfl, Nat.le_of_ble_eq_true rfl⟩) hS hFc (fun q _ h => hFc q h) (fun E ce q9 u t H locs ht hvm hw hB hz1 hk1 hS hce hcv hcl => ?_)
  obtain rfl : E = _ := hB
  exact vx_out (fun x hx => (htb x hx).elim) hlocks hce hcv hcl (fun t ht ha => ⟨(), trivial, rfl, hS.F ht⟩) hS.2.2 (Nat.le_of_ble_eq_true rfl) (Nat.le_of_ble_eq_true rfl)
set_option maxHeartbeats 4000000 in
set_option maxRecDepth 100000 in
/-- x_told -/
theorem c_x_told (l : Launch) (hlt : l.stackTraces = false) (dC : Nat → ClassId) (dI : Nat → Nat → Nat) (h0 : Nat) (k : Int32) (k1 : Int32) (h1 : Nat) (v0 : Value) (v1 : Value) (v2 : Value) (v3 : Value) (v4 : Value) (v5 : Value) (v7 : Value) (v8 : Value) (v9 : Value) (v10 : Value) (v11 : Value) (v12 : Value) (v13 : Value) (cZ : ClassId) (sa : Nat) (sz : Nat) : vx_Met l yX11_told (.code yX11_told cX11_told 4 (some .int) :: wU) ({ frames := 7, cells := 1, slots := 6, locals := 104 } : Room) (va_Pc [.ref h0, .int k, .int k1] (fun U => P5 dC dI [(h0, .inr (10, [v0, v1, v2, v3, v4, v5, .ref h1, v7, v8, v9, v10, v11, v12, v13])), (h1, .inl (cZ, 8, .inl (fun _ => 0)))] [(cZ, .boolean)] sz U ∧ Tn (va_A [(h0, .inr (10, [v0, v1, v2, v3, v4, v5, .ref h1, v7, v8, v9, v10, v11, v12, v13])), (h1, .inl (cZ, 8, .inl (fun _ => 0)))] sz) sa U)) (fun _ _ _ _ => False) (vx_X (fun _ : Unit => True) (fun E _ _ => E = "java/lang/IndexOutOfBoundsException") (va_A [(h0, .inr (10, [v0, v1, v2, v3, v4, v5, .ref h1, v7, v8, v9, v10, v11, v12, v13])), (h1, .inl (cZ, 8, .inl (fun _ => 0)))] sz)) 1 6 (va_A [(h0, .inr (10, [v0, v1, v2, v3, v4, v5, .ref h1, v7, v8, v9, v10, v11, v12, v13])), (h1, .inl (cZ, 8, .inl (fun _ => 0)))] sz) := by
  refine vx_ofW (cc := cX11_told) (maxL := 4) (ret := (some .int)) (by decide) rfl ?_
  intro p e s m args below meth c s₁ B hml htb hv
  obtain ⟨rfl, ⟨hsz, hP, hK, hD0, hE⟩, hT⟩ := hv
  have hx := B.exec
  have hb := B.bytes
  have hr := B.returns
  have hts0 := atoms_spec (ws := (.code yX11_told cX11_told 4 (some .int) :: wU)) B.pre
  have hts : ∀ w ∈ wU, w.before _ s = true := fun w h => hts0 w (List.mem_cons_of_mem _ h)
  have hown : s.vm.findClass "SpineTables" = some m.cls := findClass_of_methodNamed B.named
  have hlocks := B.notSynchronized
  subst hsz
  have hD := hD0.self (sz := s.heap.size)
  generalize hAe : va_A [(h0, .inr (10, [v0, v1, v2, v3, v4, v5, .ref h1, v7, v8, v9, v10, v11, v12, v13])), (h1, .inl (cZ, 8, .inl (fun _ => 0)))] s.heap.size = A at hT hD ⊢
  have hA : ∀ q : Nat, s.heap.size ≤ q → A q := fun q h => by rw [← hAe]; exact Or.inr h
  have hP : va_P (dC, dI) classes [(h0, .inr (10, [v0, v1, v2, v3, v4, v5, .ref h1, v7, v8, v9, v10, v11, v12, v13])), (h1, .inl (cZ, 8, .inl (fun _ => 0)))] s.heap := hP
  have hl := lv_entry ([.ref h0, .int k, .int k1]) (n := 4) (Nat.le_of_ble_eq_true rfl)
  rw [lg_entry_eq]
  generalize (lg_sl ([.ref h0, .int k, .int k1]) ++ List.replicate (4 - (lg_sl ([.ref h0, .int k, .int k1])).length) Slot.unset).toArray = ls at hl ⊢
  have hl : lv_has ls 4 [(0, .ref h0), (1, .int k), (2, .int k1)] := hl
  obtain ⟨H, hH⟩ : ∃ H, H = s.heap := ⟨_, rfl⟩
  rw [← hH] at hP
  have hS : va_S A s.heap H [] := by rw [hH]; exact va_S.rf
  refine w_heap hH ?_
  refine lv_aload_n hx hb dX11_told_0 rfl (lv_at hl 0 rfl) ?_
  refine lv_iload_n hx hb dX11_told_1 rfl (lv_at hl 1 rfl) ?_
  have hPc := hP.sub (ws' := [(h0, .inr (10, [v0, v1, v2, v3, v4, v5, .ref h1, v7, v8, v9, v10, v11, v12, v13])), (h1, .inl (cZ, 8, .inl (fun _ => 0)))]) [0, 1] rfl
  have hDc := hD.sub (ws' := [(h0, .inr (10, [v0, v1, v2, v3, v4, v5, .ref h1, v7, v8, v9, v10, v11, v12, v13])), (h1, .inl (cZ, 8, .inl (fun _ => 0)))]) [0, 1] (by decide) rfl
  have hKc := hK.sub (tys' := [(cZ, .boolean)]) [0] rfl
  have hFc := va_free (wc := [(h0, .inr (10, [v0, v1, v2, v3, v4, v5, .ref h1, v7, v8, v9, v10, v11, v12, v13])), (h1, .inl (cZ, 8, .inl (fun _ => 0)))]) hD hS hA [0, 1] rfl
  refine vy_callX (vx_runV (As := [.int k]) (rest := []) ⟨hx, hb, hml, hown, hts⟩ (c_tableAt l hlt dC dI h0 k h1 v0 v1 v2 v3 v4 v5 v7 v8 v9 v10 v11 v12 v13 cZ sa H.size) (cwV 1 hts (goV wd_196 wd_197 wd_195 wd_191 wd_194) rfl rfl rfl (by decide +kernel) ⟨Nat.le_of_ble_eq_true rfl, Nat.le_of_ble_eq_true rfl⟩) ⟨blind6, va_recv hKc hPc (ci := 10) (q0 := 0) rfl rfl, fun U hU hW => ⟨rfl, pre6 hU hW hPc hKc hDc hE (hT.call hS hFc)⟩⟩ rfl rfl hl.1 rfl (lv_room (Nat.le_of_ble_eq_true rfl)) dX11_told_2 ⟨Nat.le_of_ble_eq_true rfl, Nat.le_of_ble_eq_true rfl⟩) hS hFc (fun q _ h => hFc q h) (fun E ce q9 u t H locs ht hvm hw hB hz1 hk1 hS hce hcv hcl => ?_)
  obtain rfl : E = _ := hB
  exact vx_out (fun x hx => (htb x hx).elim) hlocks hce hcv hcl (fun t ht ha => ⟨(), trivial, rfl, hS.F ht⟩) hS.2.2 (Nat.le_of_ble_eq_true rfl) (Nat.le_of_ble_eq_true rfl)
set_option maxHeartbeats 4000000 in
set_option maxRecDepth 100000 in
/-- x_row -/
theorem c_x_row (l : Launch) (hlt : l.stackTraces = false) (dC : Nat → ClassId) (dI : Nat → Nat → Nat) (h0 : Nat) (k : Int32) (k1 : Int32) (k2 : Int32) (h1 : Nat) (v0 : Value) (v1 : Value) (v2 : Value) (v3 : Value) (v4 : Value) (v5 : Value) (v7 : Value) (v8 : Value) (v9 : Value) (v10 : Value) (v11 : Value) (v12 : Value) (v13 : Value) (cZ : ClassId) (sa : Nat) (sz : Nat) : vx_Met l yX11_row (.code yX11_row cX11_row 5 (some .int) :: wU) ({ frames := 7, cells := 1, slots := 6, locals := 104 } : Room) (va_Pc [.ref h0, .int k, .int k1, .int k2] (fun U => P5 dC dI [(h0, .inr (10, [v0, v1, v2, v3, v4, v5, .ref h1, v7, v8, v9, v10, v11, v12, v13])), (h1, .inl (cZ, 8, .inl (fun _ => 0)))] [(cZ, .boolean)] sz U ∧ Tn (va_A [(h0, .inr (10, [v0, v1, v2, v3, v4, v5, .ref h1, v7, v8, v9, v10, v11, v12, v13])), (h1, .inl (cZ, 8, .inl (fun _ => 0)))] sz) sa U)) (fun _ _ _ _ => False) (vx_X (fun _ : Unit => True) (fun E _ _ => E = "java/lang/IndexOutOfBoundsException") (va_A [(h0, .inr (10, [v0, v1, v2, v3, v4, v5, .ref h1, v7, v8, v9, v10, v11, v12, v13])), (h1, .inl (cZ, 8, .inl (fun _ => 0)))] sz)) 1 6 (va_A [(h0, .inr (10, [v0, v1, v2, v3, v4, v5, .ref h1, v7, v8, v9, v10, v11, v12, v13])), (h1, .inl (cZ, 8, .inl (fun _ => 0)))] sz) := by
  refine vx_ofW (cc := cX11_row) (maxL := 5) (ret := (some .int)) (by decide) rfl ?_
  intro p e s m args below meth c s₁ B hml htb hv
  obtain ⟨rfl, ⟨hsz, hP, hK, hD0, hE⟩, hT⟩ := hv
  have hx := B.exec
  have hb := B.bytes
  have hr := B.returns
  have hts0 := atoms_spec (ws := (.code yX11_row cX11_row 5 (some .int) :: wU)) B.pre
  have hts : ∀ w ∈ wU, w.before _ s = true := fun w h => hts0 w (List.mem_cons_of_mem _ h)
  have hown : s.vm.findClass "SpineTables" = some m.cls := findClass_of_methodNamed B.named
  have hlocks := B.notSynchronized
  subst hsz
  have hD := hD0.self (sz := s.heap.size)
  generalize hAe : va_A [(h0, .inr (10, [v0, v1, v2, v3, v4, v5, .ref h1, v7, v8, v9, v10, v11, v12, v13])), (h1, .inl (cZ, 8, .inl (fun _ => 0)))] s.heap.size = A at hT hD ⊢
  have hA : ∀ q : Nat, s.heap.size ≤ q → A q := fun q h => by rw [← hAe]; exact Or.inr h
  have hP : va_P (dC, dI) classes [(h0, .inr (10, [v0, v1, v2, v3, v4, v5, .ref h1, v7, v8, v9, v10, v11, v12, v13])), (h1, .inl (cZ, 8, .inl (fun _ => 0)))] s.heap := hP
  have hl := lv_entry ([.ref h0, .int k, .int k1, .int k2]) (n := 5) (Nat.le_of_ble_eq_true rfl)
  rw [lg_entry_eq]
  generalize (lg_sl ([.ref h0, .int k, .int k1, .int k2]) ++ List.replicate (5 - (lg_sl ([.ref h0, .int k, .int k1, .int k2])).length) Slot.unset).toArray = ls at hl ⊢
  have hl : lv_has ls 5 [(0, .ref h0), (1, .int k), (2, .int k1), (3, .int k2)] := hl
  obtain ⟨H, hH⟩ : ∃ H, H = s.heap := ⟨_, rfl⟩
  rw [← hH] at hP
  have hS : va_S A s.heap H [] := by rw [hH]; exact va_S.rf
  refine w_heap hH ?_
  refine lv_aload_n hx hb dX11_row_0 rfl (lv_at hl 0 rfl) ?_
  refine lv_iload_n hx hb dX11_row_1 rfl (lv_at hl 1 rfl) ?_
  have hPc := hP.sub (ws' := [(h0, .inr (10, [v0, v1, v2, v3, v4, v5, .ref h1, v7, v8, v9, v10, v11, v12, v13])), (h1, .inl (cZ, 8, .inl (fun _ => 0)))]) [0, 1] rfl
  have hDc := hD.sub (ws' := [(h0, .inr (10, [v0, v1, v2, v3, v4, v5, .ref h1, v7, v8, v9, v10, v11, v12, v13])), (h1, .inl (cZ, 8, .inl (fun _ => 0)))]) [0, 1] (by decide) rfl
  have hKc := hK.sub (tys' := [(cZ, .boolean)]) [0] rfl
  have hFc := va_free (wc := [(h0, .inr (10, [v0, v1, v2, v3, v4, v5, .ref h1, v7, v8, v9, v10, v11, v12, v13])), (h1, .inl (cZ, 8, .inl (fun _ => 0)))]) hD hS hA [0, 1] rfl
  refine vy_callX (vx_runV (As := [.int k]) (rest := []) ⟨hx, hb, hml, hown, hts⟩ (c_tableAt l hlt dC dI h0 k h1 v0 v1 v2 v3 v4 v5 v7 v8 v9 v10 v11 v12 v13 cZ sa H.size) (cwV 1 hts (goV wd_196 wd_197 wd_195 wd_191 wd_194) rfl rfl rfl (by decide +kernel) ⟨Nat.le_of_ble_eq_true rfl, Nat.le_of_ble_eq_true rfl⟩) ⟨blind6, va_recv hKc hPc (ci := 10) (q0 := 0) rfl rfl, fun U hU hW => ⟨rfl, pre6 hU hW hPc hKc hDc hE (hT.call hS hFc)⟩⟩ rfl rfl hl.1 rfl (lv_room (Nat.le_of_ble_eq_true rfl)) dX11_row_2 ⟨Nat.le_of_ble_eq_true rfl, Nat.le_of_ble_eq_true rfl⟩) hS hFc (fun q _ h => hFc q h) (fun E ce q9 u t H locs ht hvm hw hB hz1 hk1 hS hce hcv hcl => ?_)
  obtain rfl : E = _ := hB
  exact vx_out (fun x hx => (htb x hx).elim) hlocks hce hcv hcl (fun t ht ha => ⟨(), trivial, rfl, hS.F ht⟩) hS.2.2 (Nat.le_of_ble_eq_true rfl) (Nat.le_of_ble_eq_true rfl)
set_option maxHeartbeats 4000000 in
set_option maxRecDepth 100000 in
/-- x_strand -/
theorem c_x_strand (l : Launch) (hlt : l.stackTraces = false) (dC : Nat → ClassId) (dI : Nat → Nat → Nat) (h0 : Nat) (k : Int32) (k1 : Int32) (k2 : Int32) (k3 : Int32) (h1 : Nat) (v0 : Value) (v1 : Value) (v2 : Value) (v3 : Value) (v4 : Value) (v5 : Value) (v7 : Value) (v8 : Value) (v9 : Value) (v10 : Value) (v11 : Value) (v12 : Value) (v13 : Value) (cZ : ClassId) (sa : Nat) (sz : Nat) : vx_Met l yX11_strand (.code yX11_strand cX11_strand 7 (some .int) :: wU) ({ frames := 7, cells := 1, slots := 6, locals := 104 } : Room) (va_Pc [.ref h0, .int k, .int k1, .int k2, .int k3] (fun U => P5 dC dI [(h0, .inr (10, [v0, v1, v2, v3, v4, v5, .ref h1, v7, v8, v9, v10, v11, v12, v13])), (h1, .inl (cZ, 8, .inl (fun _ => 0)))] [(cZ, .boolean)] sz U ∧ Tn (va_A [(h0, .inr (10, [v0, v1, v2, v3, v4, v5, .ref h1, v7, v8, v9, v10, v11, v12, v13])), (h1, .inl (cZ, 8, .inl (fun _ => 0)))] sz) sa U)) (fun _ _ _ _ => False) (vx_X (fun _ : Unit => True) (fun E _ _ => E = "java/lang/IndexOutOfBoundsException") (va_A [(h0, .inr (10, [v0, v1, v2, v3, v4, v5, .ref h1, v7, v8, v9, v10, v11, v12, v13])), (h1, .inl (cZ, 8, .inl (fun _ => 0)))] sz)) 1 6 (va_A [(h0, .inr (10, [v0, v1, v2, v3, v4, v5, .ref h1, v7, v8, v9, v10, v11, v12, v13])), (h1, .inl (cZ, 8, .inl (fun _ => 0)))] sz) := by
  refine vx_ofW (cc := cX11_strand) (maxL := 7) (ret := (some .int)) (by decide) rfl ?_
  intro p e s m args below meth c s₁ B hml htb hv
  obtain ⟨rfl, ⟨hsz, hP, hK, hD0, hE⟩, hT⟩ := hv
  have hx := B.exec
  have hb := B.bytes
  have hr := B.returns
  have hts0 := atoms_spec (ws := (.code yX11_strand cX11_strand 7 (some .int) :: wU)) B.pre
  have hts : ∀ w ∈ wU, w.before _ s = true := fun w h => hts0 w (List.mem_cons_of_mem _ h)
  have hown : s.vm.findClass "SpineTables" = some m.cls := findClass_of_methodNamed B.named
  have hlocks := B.notSynchronized
  subst hsz
  have hD := hD0.self (sz := s.heap.size)
  generalize hAe : va_A [(h0, .inr (10, [v0, v1, v2, v3, v4, v5, .ref h1, v7, v8, v9, v10, v11, v12, v13])), (h1, .inl (cZ, 8, .inl (fun _ => 0)))] s.heap.size = A at hT hD ⊢
  have hA : ∀ q : Nat, s.heap.size ≤ q → A q := fun q h => by rw [← hAe]; exact Or.inr h
  have hP : va_P (dC, dI) classes [(h0, .inr (10, [v0, v1, v2, v3, v4, v5, .ref h1, v7, v8, v9, v10, v11, v12, v13])), (h1, .inl (cZ, 8, .inl (fun _ => 0)))] s.heap := hP
  have hl := lv_entry ([.ref h0, .int k, .int k1, .int k2, .int k3]) (n := 7) (Nat.le_of_ble_eq_true rfl)
  rw [lg_entry_eq]
  generalize (lg_sl ([.ref h0, .int k, .int k1, .int k2, .int k3]) ++ List.replicate (7 - (lg_sl ([.ref h0, .int k, .int k1, .int k2, .int k3])).length) Slot.unset).toArray = ls at hl ⊢
  have hl : lv_has ls 7 [(0, .ref h0), (1, .int k), (2, .int k1), (3, .int k2), (4, .int k3)] := hl
  obtain ⟨H, hH⟩ : ∃ H, H = s.heap := ⟨_, rfl⟩
  rw [← hH] at hP
  have hS : va_S A s.heap H [] := by rw [hH]; exact va_S.rf
  refine w_heap hH ?_
  refine lv_aload_n hx hb dX11_strand_0 rfl (lv_at hl 0 rfl) ?_
  refine lv_iload_n hx hb dX11_strand_1 rfl (lv_at hl 1 rfl) ?_
  have hPc := hP.sub (ws' := [(h0, .inr (10, [v0, v1, v2, v3, v4, v5, .ref h1, v7, v8, v9, v10, v11, v12, v13])), (h1, .inl (cZ, 8, .inl (fun _ => 0)))]) [0, 1] rfl
  have hDc := hD.sub (ws' := [(h0, .inr (10, [v0, v1, v2, v3, v4, v5, .ref h1, v7, v8, v9, v10, v11, v12, v13])), (h1, .inl (cZ, 8, .inl (fun _ => 0)))]) [0, 1] (by decide) rfl
  have hKc := hK.sub (tys' := [(cZ, .boolean)]) [0] rfl
  have hFc := va_free (wc := [(h0, .inr (10, [v0, v1, v2, v3, v4, v5, .ref h1, v7, v8, v9, v10, v11, v12, v13])), (h1, .inl (cZ, 8, .inl (fun _ => 0)))]) hD hS hA [0, 1] rfl
  refine vy_callX (vx_runV (As := [.int k]) (rest := []) ⟨hx, hb, hml, hown, hts⟩ (c_tableAt l hlt dC dI h0 k h1 v0 v1 v2 v3 v4 v5 v7 v8 v9 v10 v11 v12 v13 cZ sa H.size) (cwV 1 hts (goV wd_196 wd_197 wd_195 wd_191 wd_194) rfl rfl rfl (by decide +kernel) ⟨Nat.le_of_ble_eq_true rfl, Nat.le_of_ble_eq_true rfl⟩) ⟨blind6, va_recv hKc hPc (ci := 10) (q0 := 0) rfl rfl, fun U hU hW => ⟨rfl, pre6 hU hW hPc hKc hDc hE (hT.call hS hFc)⟩⟩ rfl rfl hl.1 rfl (lv_room (Nat.le_of_ble_eq_true rfl)) dX11_strand_2 ⟨Nat.le_of_ble_eq_true rfl, Nat.le_of_ble_eq_true rfl⟩) hS hFc (fun q _ h => hFc q h) (fun E ce q9 u t H locs ht hvm hw hB hz1 hk1 hS hce hcv hcl => ?_)
  obtain rfl : E = _ := hB
  exact vx_out (fun x hx => (htb x hx).elim) hlocks hce hcv hcl (fun t ht ha => ⟨(), trivial, rfl, hS.F ht⟩) hS.2.2 (Nat.le_of_ble_eq_true rfl) (Nat.le_of_ble_eq_true rfl)
set_option maxHeartbeats 4000000 in
set_option maxRecDepth 100000 in
/-- x_kind -/
theorem c_x_kind (l : Launch) (hlt : l.stackTraces = false) (dC : Nat → ClassId) (dI : Nat → Nat → Nat) (h0 : Nat) (k : Int32) (k1 : Int32) (k2 : Int32) (h1 : Nat) (v0 : Value) (v1 : Value) (v2 : Value) (v3 : Value) (v4 : Value) (v5 : Value) (v7 : Value) (v8 : Value) (v9 : Value) (v10 : Value) (v11 : Value) (v12 : Value) (v13 : Value) (cZ : ClassId) (sa : Nat) (sz : Nat) : vx_Met l yX11_kind (.code yX11_kind cX11_kind 5 (some .int) :: wU) ({ frames := 7, cells := 1, slots := 6, locals := 104 } : Room) (va_Pc [.ref h0, .int k, .int k1, .int k2] (fun U => P5 dC dI [(h0, .inr (10, [v0, v1, v2, v3, v4, v5, .ref h1, v7, v8, v9, v10, v11, v12, v13])), (h1, .inl (cZ, 8, .inl (fun _ => 0)))] [(cZ, .boolean)] sz U ∧ Tn (va_A [(h0, .inr (10, [v0, v1, v2, v3, v4, v5, .ref h1, v7, v8, v9, v10, v11, v12, v13])), (h1, .inl (cZ, 8, .inl (fun _ => 0)))] sz) sa U)) (fun _ _ _ _ => False) (vx_X (fun _ : Unit => True) (fun E _ _ => E = "java/lang/IndexOutOfBoundsException") (va_A [(h0, .inr (10, [v0, v1, v2, v3, v4, v5, .ref h1, v7, v8, v9, v10, v11, v12, v13])), (h1, .inl (cZ, 8, .inl (fun _ => 0)))] sz)) 1 6 (va_A [(h0, .inr (10, [v0, v1, v2, v3, v4, v5, .ref h1, v7, v8, v9, v10, v11, v12, v13])), (h1, .inl (cZ, 8, .inl (fun _ => 0)))] sz) := by
  refine vx_ofW (cc := cX11_kind) (maxL := 5) (ret := (some .int)) (by decide) rfl ?_
  intro p e s m args below meth c s₁ B hml htb hv
  obtain ⟨rfl, ⟨hsz, hP, hK, hD0, hE⟩, hT⟩ := hv
  have hx := B.exec
  have hb := B.bytes
  have hr := B.returns
  have hts0 := atoms_spec (ws := (.code yX11_kind cX11_kind 5 (some .int) :: wU)) B.pre
  have hts : ∀ w ∈ wU, w.before _ s = true := fun w h => hts0 w (List.mem_cons_of_mem _ h)
  have hown : s.vm.findClass "SpineTables" = some m.cls := findClass_of_methodNamed B.named
  have hlocks := B.notSynchronized
  subst hsz
  have hD := hD0.self (sz := s.heap.size)
  generalize hAe : va_A [(h0, .inr (10, [v0, v1, v2, v3, v4, v5, .ref h1, v7, v8, v9, v10, v11, v12, v13])), (h1, .inl (cZ, 8, .inl (fun _ => 0)))] s.heap.size = A at hT hD ⊢
  have hA : ∀ q : Nat, s.heap.size ≤ q → A q := fun q h => by rw [← hAe]; exact Or.inr h
  have hP : va_P (dC, dI) classes [(h0, .inr (10, [v0, v1, v2, v3, v4, v5, .ref h1, v7, v8, v9, v10, v11, v12, v13])), (h1, .inl (cZ, 8, .inl (fun _ => 0)))] s.heap := hP
  have hl := lv_entry ([.ref h0, .int k, .int k1, .int k2]) (n := 5) (Nat.le_of_ble_eq_true rfl)
  rw [lg_entry_eq]
  generalize (lg_sl ([.ref h0, .int k, .int k1, .int k2]) ++ List.replicate (5 - (lg_sl ([.ref h0, .int k, .int k1, .int k2])).length) Slot.unset).toArray = ls at hl ⊢
  have hl : lv_has ls 5 [(0, .ref h0), (1, .int k), (2, .int k1), (3, .int k2)] := hl
  obtain ⟨H, hH⟩ : ∃ H, H = s.heap := ⟨_, rfl⟩
  rw [← hH] at hP
  have hS : va_S A s.heap H [] := by rw [hH]; exact va_S.rf
  refine w_heap hH ?_
  refine lv_aload_n hx hb dX11_kind_0 rfl (lv_at hl 0 rfl) ?_
  refine lv_iload_n hx hb dX11_kind_1 rfl (lv_at hl 1 rfl) ?_
  have hPc := hP.sub (ws' := [(h0, .inr (10, [v0, v1, v2, v3, v4, v5, .ref h1, v7, v8, v9, v10, v11, v12, v13])), (h1, .inl (cZ, 8, .inl (fun _ => 0)))]) [0, 1] rfl
  have hDc := hD.sub (ws' := [(h0, .inr (10, [v0, v1, v2, v3, v4, v5, .ref h1, v7, v8, v9, v10, v11, v12, v13])), (h1, .inl (cZ, 8, .inl (fun _ => 0)))]) [0, 1] (by decide) rfl
  have hKc := hK.sub (tys' := [(cZ, .boolean)]) [0] rfl
  have hFc := va_free (wc := [(h0, .inr (10, [v0, v1, v2, v3, v4, v5, .ref h1, v7, v8, v9, v10, v11, v12, v13])), (h1, .inl (cZ, 8, .inl (fun _ => 0)))]) hD hS hA [0, 1] rfl
  refine vy_callX (vx_runV (As := [.int k]) (rest := []) ⟨hx, hb, hml, hown, hts⟩ (c_tableAt l hlt dC dI h0 k h1 v0 v1 v2 v3 v4 v5 v7 v8 v9 v10 v11 v12 v13 cZ sa H.size) (cwV 1 hts (goV wd_196 wd_197 wd_195 wd_191 wd_194) rfl rfl rfl (by decide +kernel) ⟨Nat.le_of_ble_eq_true rfl, Nat.le_of_ble_eq_true rfl⟩) ⟨blind6, va_recv hKc hPc (ci := 10) (q0 := 0) rfl rfl, fun U hU hW => ⟨rfl, pre6 hU hW hPc hKc hDc hE (hT.call hS hFc)⟩⟩ rfl rfl hl.1 rfl (lv_room (Nat.le_of_ble_eq_true rfl)) dX11_kind_2 ⟨Nat.le_of_ble_eq_true rfl, Nat.le_of_ble_eq_true rfl⟩) hS hFc (fun q _ h => hFc q h) (fun E ce q9 u t H locs ht hvm hw hB hz1 hk1 hS hce hcv hcl => ?_)
  obtain rfl : E = _ := hB
  exact vx_out (fun x hx => (htb x hx).elim) hlocks hce hcv hcl (fun t ht ha => ⟨(), trivial, rfl, hS.F ht⟩) hS.2.2 (Nat.le_of_ble_eq_true rfl) (Nat.le_of_ble_eq_true rfl)
set_option maxHeartbeats 4000000 in
set_option maxRecDepth 100000 in
/-- x_token -/
theorem c_x_token (l : Launch) (hlt : l.stackTraces = false) (dC : Nat → ClassId) (dI : Nat → Nat → Nat) (h0 : Nat) (k : Int32) (k1 : Int32) (k2 : Int32) (k3 : Int32) (h1 : Nat) (v0 : Value) (v1 : Value) (v2 : Value) (v3 : Value) (v4 : Value) (v5 : Value) (v7 : Value) (v8 : Value) (v9 : Value) (v10 : Value) (v11 : Value) (v12 : Value) (v13 : Value) (cZ : ClassId) (sa : Nat) (sz : Nat) : vx_Met l yX11_token (.code yX11_token cX11_token 7 (some .int) :: wU) ({ frames := 7, cells := 1, slots := 6, locals := 104 } : Room) (va_Pc [.ref h0, .int k, .int k1, .int k2, .int k3] (fun U => P5 dC dI [(h0, .inr (10, [v0, v1, v2, v3, v4, v5, .ref h1, v7, v8, v9, v10, v11, v12, v13])), (h1, .inl (cZ, 8, .inl (fun _ => 0)))] [(cZ, .boolean)] sz U ∧ Tn (va_A [(h0, .inr (10, [v0, v1, v2, v3, v4, v5, .ref h1, v7, v8, v9, v10, v11, v12, v13])), (h1, .inl (cZ, 8, .inl (fun _ => 0)))] sz) sa U)) (fun _ _ _ _ => False) (vx_X (fun _ : Unit => True) (fun E _ _ => E = "java/lang/IndexOutOfBoundsException") (va_A [(h0, .inr (10, [v0, v1, v2, v3, v4, v5, .ref h1, v7, v8, v9, v10, v11, v12, v13])), (h1, .inl (cZ, 8, .inl (fun _ => 0)))] sz)) 1 6 (va_A [(h0, .inr (10, [v0, v1, v2, v3, v4, v5, .ref h1, v7, v8, v9, v10, v11, v12, v13])), (h1, .inl (cZ, 8, .inl (fun _ => 0)))] sz) := by
  refine vx_ofW (cc := cX11_token) (maxL := 7) (ret := (some .int)) (by decide) rfl ?_
  intro p e s m args below meth c s₁ B hml htb hv
  obtain ⟨rfl, ⟨hsz, hP, hK, hD0, hE⟩, hT⟩ := hv
  have hx := B.exec
  have hb := B.bytes
  have hr := B.returns
  have hts0 := atoms_spec (ws := (.code yX11_token cX11_token 7 (some .int) :: wU)) B.pre
  have hts : ∀ w ∈ wU, w.before _ s = true := fun w h => hts0 w (List.mem_cons_of_mem _ h)
  have hown : s.vm.findClass "SpineTables" = some m.cls := findClass_of_methodNamed B.named
  have hlocks := B.notSynchronized
  subst hsz
  have hD := hD0.self (sz := s.heap.size)
  generalize hAe : va_A [(h0, .inr (10, [v0, v1, v2, v3, v4, v5, .ref h1, v7, v8, v9, v10, v11, v12, v13])), (h1, .inl (cZ, 8, .inl (fun _ => 0)))] s.heap.size = A at hT hD ⊢
  have hA : ∀ q : Nat, s.heap.size ≤ q → A q := fun q h => by rw [← hAe]; exact Or.inr h
  have hP : va_P (dC, dI) classes [(h0, .inr (10, [v0, v1, v2, v3, v4, v5, .ref h1, v7, v8, v9, v10, v11, v12, v13])), (h1, .inl (cZ, 8, .inl (fun _ => 0)))] s.heap := hP
  have hl := lv_entry ([.ref h0, .int k, .int k1, .int k2, .int k3]) (n := 7) (Nat.le_of_ble_eq_true rfl)
  rw [lg_entry_eq]
  generalize (lg_sl ([.ref h0, .int k, .int k1, .int k2, .int k3]) ++ List.replicate (7 - (lg_sl ([.ref h0, .int k, .int k1, .int k2, .int k3])).length) Slot.unset).toArray = ls at hl ⊢
  have hl : lv_has ls 7 [(0, .ref h0), (1, .int k), (2, .int k1), (3, .int k2), (4, .int k3)] := hl
  obtain ⟨H, hH⟩ : ∃ H, H = s.heap := ⟨_, rfl⟩
  rw [← hH] at hP
  have hS : va_S A s.heap H [] := by rw [hH]; exact va_S.rf
  refine w_heap hH ?_
  refine lv_aload_n hx hb dX11_token_0 rfl (lv_at hl 0 rfl) ?_
  refine lv_iload_n hx hb dX11_token_1 rfl (lv_at hl 1 rfl) ?_
  have hPc := hP.sub (ws' := [(h0, .inr (10, [v0, v1, v2, v3, v4, v5, .ref h1, v7, v8, v9, v10, v11, v12, v13])), (h1, .inl (cZ, 8, .inl (fun _ => 0)))]) [0, 1] rfl
  have hDc := hD.sub (ws' := [(h0, .inr (10, [v0, v1, v2, v3, v4, v5, .ref h1, v7, v8, v9, v10, v11, v12, v13])), (h1, .inl (cZ, 8, .inl (fun _ => 0)))]) [0, 1] (by decide) rfl
  have hKc := hK.sub (tys' := [(cZ, .boolean)]) [0] rfl
  have hFc := va_free (wc := [(h0, .inr (10, [v0, v1, v2, v3, v4, v5, .ref h1, v7, v8, v9, v10, v11, v12, v13])), (h1, .inl (cZ, 8, .inl (fun _ => 0)))]) hD hS hA [0, 1] rfl
  refine vy_callX (vx_runV (As := [.int k]) (rest := []) ⟨hx, hb, hml, hown, hts⟩ (c_tableAt l hlt dC dI h0 k h1 v0 v1 v2 v3 v4 v5 v7 v8 v9 v10 v11 v12 v13 cZ sa H.size) (cwV 1 hts (goV wd_196 wd_197 wd_195 wd_191 wd_194) rfl rfl rfl (by decide +kernel) ⟨Nat.le_of_ble_eq_true rfl, Nat.le_of_ble_eq_true rfl⟩) ⟨blind6, va_recv hKc hPc (ci := 10) (q0 := 0) rfl rfl, fun U hU hW => ⟨rfl, pre6 hU hW hPc hKc hDc hE (hT.call hS hFc)⟩⟩ rfl rfl hl.1 rfl (lv_room (Nat.le_of_ble_eq_true rfl)) dX11_token_2 ⟨Nat.le_of_ble_eq_true rfl, Nat.le_of_ble_eq_true rfl⟩) hS hFc (fun q _ h => hFc q h) (fun E ce q9 u t H locs ht hvm hw hB hz1 hk1 hS hce hcv hcl => ?_)
  obtain rfl : E = _ := hB
  exact vx_out (fun x hx => (htb x hx).elim) hlocks hce hcv hcl (fun t ht ha => ⟨(), trivial, rfl, hS.F ht⟩) hS.2.2 (Nat.le_of_ble_eq_true rfl) (Nat.le_of_ble_eq_true rfl)
set_option maxHeartbeats 4000000 in
set_option maxRecDepth 100000 in
/-- x_walk -/
theorem c_x_walk (l : Launch) (hlt : l.stackTraces = false) (dC : Nat → ClassId) (dI : Nat → Nat → Nat) (h0 : Nat) (k : Int32) (h1 : Nat) (v0 : Value) (v1 : Value) (v2 : Value) (v3 : Value) (v4 : Value) (v5 : Value) (v7 : Value) (v8 : Value) (v9 : Value) (v10 : Value) (v11 : Value) (v12 : Value) (v13 : Value) (cZ : ClassId) (sa : Nat) (sz : Nat) : vx_Met l yX11_walk (.code yX11_walk cX11_walk 2 (some .int) :: wU) ({ frames := 7, cells := 1, slots := 6, locals := 104 } : Room) (va_Pc [.ref h0, .int k] (fun U => P5 dC dI [(h0, .inr (10, [v0, v1, v2, v3, v4, v5, .ref h1, v7, v8, v9, v10, v11, v12, v13])), (h1, .inl (cZ, 8, .inl (fun _ => 0)))] [(cZ, .boolean)] sz U ∧ Tn (va_A [(h0, .inr (10, [v0, v1, v2, v3, v4, v5, .ref h1, v7, v8, v9, v10, v11, v12, v13])), (h1, .inl (cZ, 8, .inl (fun _ => 0)))] sz) sa U)) (fun _ _ _ _ => False) (vx_X (fun _ : Unit => True) (fun E _ _ => E = "java/lang/IndexOutOfBoundsException") (va_A [(h0, .inr (10, [v0, v1, v2, v3, v4, v5, .ref h1, v7, v8, v9, v10, v11, v12, v13])), (h1, .inl (cZ, 8, .inl (fun _ => 0)))] sz)) 1 6 (va_A [(h0, .inr (10, [v0, v1, v2, v3, v4, v5, .ref h1, v7, v8, v9, v10, v11, v12, v13])), (h1, .inl (cZ, 8, .inl (fun _ => 0)))] sz) := by
  refine vx_ofW (cc := cX11_walk) (maxL := 2) (ret := (some .int)) (by decide) rfl ?_
  intro p e s m args below meth c s₁ B hml htb hv
  obtain ⟨rfl, ⟨hsz, hP, hK, hD0, hE⟩, hT⟩ := hv
  have hx := B.exec
  have hb := B.bytes
  have hr := B.returns
  have hts0 := atoms_spec (ws := (.code yX11_walk cX11_walk 2 (some .int) :: wU)) B.pre
  have hts : ∀ w ∈ wU, w.before _ s = true := fun w h => hts0 w (List.mem_cons_of_mem _ h)
  have hown : s.vm.findClass "SpineTables" = some m.cls := findClass_of_methodNamed B.named
  have hlocks := B.notSynchronized
  subst hsz
  have hD := hD0.self (sz := s.heap.size)
  generalize hAe : va_A [(h0, .inr (10, [v0, v1, v2, v3, v4, v5, .ref h1, v7, v8, v9, v10, v11, v12, v13])), (h1, .inl (cZ, 8, .inl (fun _ => 0)))] s.heap.size = A at hT hD ⊢
  have hA : ∀ q : Nat, s.heap.size ≤ q → A q := fun q h => by rw [← hAe]; exact Or.inr h
  have hP : va_P (dC, dI) classes [(h0, .inr (10, [v0, v1, v2, v3, v4, v5, .ref h1, v7, v8, v9, v10, v11, v12, v13])), (h1, .inl (cZ, 8, .inl (fun _ => 0)))] s.heap := hP
  have hl := lv_entry ([.ref h0, .int k]) (n := 2) (Nat.le_of_ble_eq_true rfl)
  rw [lg_entry_eq]
  generalize (lg_sl ([.ref h0, .int k]) ++ List.replicate (2 - (lg_sl ([.ref h0, .int k])).length) Slot.unset).toArray = ls at hl ⊢
  have hl : lv_has ls 2 [(0, .ref h0), (1, .int k)] := hl
  obtain ⟨H, hH⟩ : ∃ H, H = s.heap := ⟨_, rfl⟩
  rw [← hH] at hP
  have hS : va_S A s.heap H [] := by rw [hH]; exact va_S.rf
  refine w_heap hH ?_
  refine lv_aload_n hx hb dX11_walk_0 rfl (lv_at hl 0 rfl) ?_
  refine lv_iload_n hx hb dX11_walk_1 rfl (lv_at hl 1 rfl) ?_
  have hPc := hP.sub (ws' := [(h0, .inr (10, [v0, v1, v2, v3, v4, v5, .ref h1, v7, v8, v9, v10, v11, v12, v13])), (h1, .inl (cZ, 8, .inl (fun _ => 0)))]) [0, 1] rfl
  have hDc := hD.sub (ws' := [(h0, .inr (10, [v0, v1, v2, v3, v4, v5, .ref h1, v7, v8, v9, v10, v11, v12, v13])), (h1, .inl (cZ, 8, .inl (fun _ => 0)))]) [0, 1] (by decide) rfl
  have hKc := hK.sub (tys' := [(cZ, .boolean)]) [0] rfl
  have hFc := va_free (wc := [(h0, .inr (10, [v0, v1, v2, v3, v4, v5, .ref h1, v7, v8, v9, v10, v11, v12, v13])), (h1, .inl (cZ, 8, .inl (fun _ => 0)))]) hD hS hA [0, 1] rfl
  refine vy_callX (vx_runV (As := [.int k]) (rest := []) ⟨hx, hb, hml, hown, hts⟩ (c_tableAt l hlt dC dI h0 k h1 v0 v1 v2 v3 v4 v5 v7 v8 v9 v10 v11 v12 v13 cZ sa H.size) (cwV 1 hts (goV wd_196 wd_197 wd_195 wd_191 wd_194) rfl rfl rfl (by decide +kernel) ⟨Nat.le_of_ble_eq_true rfl, Nat.le_of_ble_eq_true rfl⟩) ⟨blind6, va_recv hKc hPc (ci := 10) (q0 := 0) rfl rfl, fun U hU hW => ⟨rfl, pre6 hU hW hPc hKc hDc hE (hT.call hS hFc)⟩⟩ rfl rfl hl.1 rfl (lv_room (Nat.le_of_ble_eq_true rfl)) dX11_walk_2 ⟨Nat.le_of_ble_eq_true rfl, Nat.le_of_ble_eq_true rfl⟩) hS hFc (fun q _ h => hFc q h) (fun E ce q9 u t H locs ht hvm hw hB hz1 hk1 hS hce hcv hcl => ?_)
  obtain rfl : E = _ := hB
  exact vx_out (fun x hx => (htb x hx).elim) hlocks hce hcv hcl (fun t ht ha => ⟨(), trivial, rfl, hS.F ht⟩) hS.2.2 (Nat.le_of_ble_eq_true rfl) (Nat.le_of_ble_eq_true rfl)
set_option maxHeartbeats 4000000 in
set_option maxRecDepth 100000 in
/-- x_misfit -/
theorem c_x_misfit (l : Launch) (hlt : l.stackTraces = false) (dC : Nat → ClassId) (dI : Nat → Nat → Nat) (h0 : Nat) (k : Int32) (h1 : Nat) (v0 : Value) (v1 : Value) (v2 : Value) (v3 : Value) (v4 : Value) (v5 : Value) (v7 : Value) (v8 : Value) (v9 : Value) (v10 : Value) (v11 : Value) (v12 : Value) (v13 : Value) (cZ : ClassId) (sa : Nat) (sz : Nat) : vx_Met l yX11_misfit (.code yX11_misfit cX11_misfit 2 (some .int) :: wU) ({ frames := 7, cells := 1, slots := 6, locals := 104 } : Room) (va_Pc [.ref h0, .int k] (fun U => P5 dC dI [(h0, .inr (10, [v0, v1, v2, v3, v4, v5, .ref h1, v7, v8, v9, v10, v11, v12, v13])), (h1, .inl (cZ, 8, .inl (fun _ => 0)))] [(cZ, .boolean)] sz U ∧ Tn (va_A [(h0, .inr (10, [v0, v1, v2, v3, v4, v5, .ref h1, v7, v8, v9, v10, v11, v12, v13])), (h1, .inl (cZ, 8, .inl (fun _ => 0)))] sz) sa U)) (fun _ _ _ _ => False) (vx_X (fun _ : Unit => True) (fun E _ _ => E = "java/lang/IndexOutOfBoundsException") (va_A [(h0, .inr (10, [v0, v1, v2, v3, v4, v5, .ref h1, v7, v8, v9, v10, v11, v12, v13])), (h1, .inl (cZ, 8, .inl (fun _ => 0)))] sz)) 1 6 (va_A [(h0, .inr (10, [v0, v1, v2, v3, v4, v5, .ref h1, v7, v8, v9, v10, v11, v12, v13])), (h1, .inl (cZ, 8, .inl (fun _ => 0)))] sz) := by
  refine vx_ofW (cc := cX11_misfit) (maxL := 2) (ret := (some .int)) (by decide) rfl ?_
  intro p e s m args below meth c s₁ B hml htb hv
  obtain ⟨rfl, ⟨hsz, hP, hK, hD0, hE⟩, hT⟩ := hv
  have hx := B.exec
  have hb := B.bytes
  have hr := B.returns
  have hts0 := atoms_spec (ws := (.code yX11_misfit cX11_misfit 2 (some .int) :: wU)) B.pre
  have hts : ∀ w ∈ wU, w.before _ s = true := fun w h => hts0 w (List.mem_cons_of_mem _ h)
  have hown : s.vm.findClass "SpineTables" = some m.cls := findClass_of_methodNamed B.named
  have hlocks := B.notSynchronized
  subst hsz
  have hD := hD0.self (sz := s.heap.size)
  generalize hAe : va_A [(h0, .inr (10, [v0, v1, v2, v3, v4, v5, .ref h1, v7, v8, v9, v10, v11, v12, v13])), (h1, .inl (cZ, 8, .inl (fun _ => 0)))] s.heap.size = A at hT hD ⊢
  have hA : ∀ q : Nat, s.heap.size ≤ q → A q := fun q h => by rw [← hAe]; exact Or.inr h
  have hP : va_P (dC, dI) classes [(h0, .inr (10, [v0, v1, v2, v3, v4, v5, .ref h1, v7, v8, v9, v10, v11, v12, v13])), (h1, .inl (cZ, 8, .inl (fun _ => 0)))] s.heap := hP
  have hl := lv_entry ([.ref h0, .int k]) (n := 2) (Nat.le_of_ble_eq_true rfl)
  rw [lg_entry_eq]
  generalize (lg_sl ([.ref h0, .int k]) ++ List.replicate (2 - (lg_sl ([.ref h0, .int k])).length) Slot.unset).toArray = ls at hl ⊢
  have hl : lv_has ls 2 [(0, .ref h0), (1, .int k)] := hl
  obtain ⟨H, hH⟩ : ∃ H, H = s.heap := ⟨_, rfl⟩
  rw [← hH] at hP
  have hS : va_S A s.heap H [] := by rw [hH]; exact va_S.rf
  refine w_heap hH ?_
  refine lv_aload_n hx hb dX11_misfit_0 rfl (lv_at hl 0 rfl) ?_
  refine lv_iload_n hx hb dX11_misfit_1 rfl (lv_at hl 1 rfl) ?_
  have hPc := hP.sub (ws' := [(h0, .inr (10, [v0, v1, v2, v3, v4, v5, .ref h1, v7, v8, v9, v10, v11, v12, v13])), (h1, .inl (cZ, 8, .inl (fun _ => 0)))]) [0, 1] rfl
  have hDc := hD.sub (ws' := [(h0, .inr (10, [v0, v1, v2, v3, v4, v5, .ref h1, v7, v8, v9, v10, v11, v12, v13])), (h1, .inl (cZ, 8, .inl (fun _ => 0)))]) [0, 1] (by decide) rfl
  have hKc := hK.sub (tys' := [(cZ, .boolean)]) [0] rfl
  have hFc := va_free (wc := [(h0, .inr (10, [v0, v1, v2, v3, v4, v5, .ref h1, v7, v8, v9, v10, v11, v12, v13])), (h1, .inl (cZ, 8, .inl (fun _ => 0)))]) hD hS hA [0, 1] rfl
  refine vy_callX (vx_runV (As := [.int k]) (rest := []) ⟨hx, hb, hml, hown, hts⟩ (c_tableAt l hlt dC dI h0 k h1 v0 v1 v2 v3 v4 v5 v7 v8 v9 v10 v11 v12 v13 cZ sa H.size) (cwV 1 hts (goV wd_196 wd_197 wd_195 wd_191 wd_194) rfl rfl rfl (by decide +kernel) ⟨Nat.le_of_ble_eq_true rfl, Nat.le_of_ble_eq_true rfl⟩) ⟨blind6, va_recv hKc hPc (ci := 10) (q0 := 0) rfl rfl, fun U hU hW => ⟨rfl, pre6 hU hW hPc hKc hDc hE (hT.call hS hFc)⟩⟩ rfl rfl hl.1 rfl (lv_room (Nat.le_of_ble_eq_true rfl)) dX11_misfit_2 ⟨Nat.le_of_ble_eq_true rfl, Nat.le_of_ble_eq_true rfl⟩) hS hFc (fun q _ h => hFc q h) (fun E ce q9 u t H locs ht hvm hw hB hz1 hk1 hS hce hcv hcl => ?_)
  obtain rfl : E = _ := hB
  exact vx_out (fun x hx => (htb x hx).elim) hlocks hce hcv hcl (fun t ht ha => ⟨(), trivial, rfl, hS.F ht⟩) hS.2.2 (Nat.le_of_ble_eq_true rfl) (Nat.le_of_ble_eq_true rfl)
set_option maxHeartbeats 4000000 in
set_option maxRecDepth 100000 in
/-- x_time -/
theorem c_x_time (l : Launch) (hlt : l.stackTraces = false) (dC : Nat → ClassId) (dI : Nat → Nat → Nat) (h0 : Nat) (k : Int32) (k1 : Int32) (k2 : Int32) (h1 : Nat) (v0 : Value) (v1 : Value) (v2 : Value) (v3 : Value) (v4 : Value) (v5 : Value) (v7 : Value) (v8 : Value) (v9 : Value) (v10 : Value) (v11 : Value) (v12 : Value) (v13 : Value) (cZ : ClassId) (sa : Nat) (sz : Nat) : vx_Met l yX11_time (.code yX11_time cX11_time 5 (some .int) :: wU) ({ frames := 7, cells := 1, slots := 6, locals := 104 } : Room) (va_Pc [.ref h0, .int k, .int k1, .int k2] (fun U => P5 dC dI [(h0, .inr (10, [v0, v1, v2, v3, v4, v5, .ref h1, v7, v8, v9, v10, v11, v12, v13])), (h1, .inl (cZ, 8, .inl (fun _ => 0)))] [(cZ, .boolean)] sz U ∧ Tn (va_A [(h0, .inr (10, [v0, v1, v2, v3, v4, v5, .ref h1, v7, v8, v9, v10, v11, v12, v13])), (h1, .inl (cZ, 8, .inl (fun _ => 0)))] sz) sa U)) (fun _ _ _ _ => False) (vx_X (fun _ : Unit => True) (fun E _ _ => E = "java/lang/IndexOutOfBoundsException") (va_A [(h0, .inr (10, [v0, v1, v2, v3, v4, v5, .ref h1, v7, v8, v9, v10, v11, v12, v13])), (h1, .inl (cZ, 8, .inl (fun _ => 0)))] sz)) 1 6 (va_A [(h0, .inr (10, [v0, v1, v2, v3, v4, v5, .ref h1, v7, v8, v9, v10, v11, v12, v13])), (h1, .inl (cZ, 8, .inl (fun _ => 0)))] sz) := by
  refine vx_ofW (cc := cX11_time) (maxL := 5) (ret := (some .int)) (by decide) rfl ?_
  intro p e s m args below meth c s₁ B hml htb hv
  obtain ⟨rfl, ⟨hsz, hP, hK, hD0, hE⟩, hT⟩ := hv
  have hx := B.exec
  have hb := B.bytes
  have hr := B.returns
  have hts0 := atoms_spec (ws := (.code yX11_time cX11_time 5 (some .int) :: wU)) B.pre
  have hts : ∀ w ∈ wU, w.before _ s = true := fun w h => hts0 w (List.mem_cons_of_mem _ h)
  have hown : s.vm.findClass "SpineTables" = some m.cls := findClass_of_methodNamed B.named
  have hlocks := B.notSynchronized
  subst hsz
  have hD := hD0.self (sz := s.heap.size)
  generalize hAe : va_A [(h0, .inr (10, [v0, v1, v2, v3, v4, v5, .ref h1, v7, v8, v9, v10, v11, v12, v13])), (h1, .inl (cZ, 8, .inl (fun _ => 0)))] s.heap.size = A at hT hD ⊢
  have hA : ∀ q : Nat, s.heap.size ≤ q → A q := fun q h => by rw [← hAe]; exact Or.inr h
  have hP : va_P (dC, dI) classes [(h0, .inr (10, [v0, v1, v2, v3, v4, v5, .ref h1, v7, v8, v9, v10, v11, v12, v13])), (h1, .inl (cZ, 8, .inl (fun _ => 0)))] s.heap := hP
  have hl := lv_entry ([.ref h0, .int k, .int k1, .int k2]) (n := 5) (Nat.le_of_ble_eq_true rfl)
  rw [lg_entry_eq]
  generalize (lg_sl ([.ref h0, .int k, .int k1, .int k2]) ++ List.replicate (5 - (lg_sl ([.ref h0, .int k, .int k1, .int k2])).length) Slot.unset).toArray = ls at hl ⊢
  have hl : lv_has ls 5 [(0, .ref h0), (1, .int k), (2, .int k1), (3, .int k2)] := hl
  obtain ⟨H, hH⟩ : ∃ H, H = s.heap := ⟨_, rfl⟩
  rw [← hH] at hP
  have hS : va_S A s.heap H [] := by rw [hH]; exact va_S.rf
  refine w_heap hH ?_
  refine lv_aload_n hx hb dX11_time_0 rfl (lv_at hl 0 rfl) ?_
  refine lv_iload_n hx hb dX11_time_1 rfl (lv_at hl 1 rfl) ?_
  have hPc := hP.sub (ws' := [(h0, .inr (10, [v0, v1, v2, v3, v4, v5, .ref h1, v7, v8, v9, v10, v11, v12, v13])), (h1, .inl (cZ, 8, .inl (fun _ => 0)))]) [0, 1] rfl
  have hDc := hD.sub (ws' := [(h0, .inr (10, [v0, v1, v2, v3, v4, v5, .ref h1, v7, v8, v9, v10, v11, v12, v13])), (h1, .inl (cZ, 8, .inl (fun _ => 0)))]) [0, 1] (by decide) rfl
  have hKc := hK.sub (tys' := [(cZ, .boolean)]) [0] rfl
  have hFc := va_free (wc := [(h0, .inr (10, [v0, v1, v2, v3, v4, v5, .ref h1, v7, v8, v9, v10, v11, v12, v13])), (h1, .inl (cZ, 8, .inl (fun _ => 0)))]) hD hS hA [0, 1] rfl
  refine vy_callX (vx_runV (As := [.int k]) (rest := []) ⟨hx, hb, hml, hown, hts⟩ (c_tableAt l hlt dC dI h0 k h1 v0 v1 v2 v3 v4 v5 v7 v8 v9 v10 v11 v12 v13 cZ sa H.size) (cwV 1 hts (goV wd_196 wd_197 wd_195 wd_191 wd_194) rfl rfl rfl (by decide +kernel) ⟨Nat.le_of_ble_eq_true rfl, Nat.le_of_ble_eq_true rfl⟩) ⟨blind6, va_recv hKc hPc (ci := 10) (q0 := 0) rfl rfl, fun U hU hW => ⟨rfl, pre6 hU hW hPc hKc hDc hE (hT.call hS hFc)⟩⟩ rfl rfl hl.1 rfl (lv_room (Nat.le_of_ble_eq_true rfl)) dX11_time_2 ⟨Nat.le_of_ble_eq_true rfl, Nat.le_of_ble_eq_true rfl⟩) hS hFc (fun q _ h => hFc q h) (fun E ce q9 u t H locs ht hvm hw hB hz1 hk1 hS hce hcv hcl => ?_)
  obtain rfl : E = _ := hB
  exact vx_out (fun x hx => (htb x hx).elim) hlocks hce hcv hcl (fun t ht ha => ⟨(), trivial, rfl, hS.F ht⟩) hS.2.2 (Nat.le_of_ble_eq_true rfl) (Nat.le_of_ble_eq_true rfl)
set_option maxHeartbeats 4000000 in
set_option maxRecDepth 100000 in
/-- x_length -/
theorem c_x_length (l : Launch) (hlt : l.stackTraces = false) (dC : Nat → ClassId) (dI : Nat → Nat → Nat) (h0 : Nat) (k : Int32) (k1 : Int32) (k2 : Int32) (k3 : Int32) (h1 : Nat) (v0 : Value) (v1 : Value) (v2 : Value) (v3 : Value) (v4 : Value) (v5 : Value) (v7 : Value) (v8 : Value) (v9 : Value) (v10 : Value) (v11 : Value) (v12 : Value) (v13 : Value) (cZ : ClassId) (sa : Nat) (sz : Nat) : vx_Met l yX11_length (.code yX11_length cX11_length 7 (some .int) :: wU) ({ frames := 7, cells := 1, slots := 6, locals := 104 } : Room) (va_Pc [.ref h0, .int k, .int k1, .int k2, .int k3] (fun U => P5 dC dI [(h0, .inr (10, [v0, v1, v2, v3, v4, v5, .ref h1, v7, v8, v9, v10, v11, v12, v13])), (h1, .inl (cZ, 8, .inl (fun _ => 0)))] [(cZ, .boolean)] sz U ∧ Tn (va_A [(h0, .inr (10, [v0, v1, v2, v3, v4, v5, .ref h1, v7, v8, v9, v10, v11, v12, v13])), (h1, .inl (cZ, 8, .inl (fun _ => 0)))] sz) sa U)) (fun _ _ _ _ => False) (vx_X (fun _ : Unit => True) (fun E _ _ => E = "java/lang/IndexOutOfBoundsException") (va_A [(h0, .inr (10, [v0, v1, v2, v3, v4, v5, .ref h1, v7, v8, v9, v10, v11, v12, v13])), (h1, .inl (cZ, 8, .inl (fun _ => 0)))] sz)) 1 6 (va_A [(h0, .inr (10, [v0, v1, v2, v3, v4, v5, .ref h1, v7, v8, v9, v10, v11, v12, v13])), (h1, .inl (cZ, 8, .inl (fun _ => 0)))] sz) := by
  refine vx_ofW (cc := cX11_length) (maxL := 7) (ret := (some .int)) (by decide) rfl ?_
  intro p e s m args below meth c s₁ B hml htb hv
  obtain ⟨rfl, ⟨hsz, hP, hK, hD0, hE⟩, hT⟩ := hv
  have hx := B.exec
  have hb := B.bytes
  have hr := B.returns
  have hts0 := atoms_spec (ws := (.code yX11_length cX11_length 7 (some .int) :: wU)) B.pre
  have hts : ∀ w ∈ wU, w.before _ s = true := fun w h => hts0 w (List.mem_cons_of_mem _ h)
  have hown : s.vm.findClass "SpineTables" = some m.cls := findClass_of_methodNamed B.named
  have hlocks := B.notSynchronized
  subst hsz
  have hD := hD0.self (sz := s.heap.size)
  generalize hAe : va_A [(h0, .inr (10, [v0, v1, v2, v3, v4, v5, .ref h1, v7, v8, v9, v10, v11, v12, v13])), (h1, .inl (cZ, 8, .inl (fun _ => 0)))] s.heap.size = A at hT hD ⊢
  have hA : ∀ q : Nat, s.heap.size ≤ q → A q := fun q h => by rw [← hAe]; exact Or.inr h
  have hP : va_P (dC, dI) classes [(h0, .inr (10, [v0, v1, v2, v3, v4, v5, .ref h1, v7, v8, v9, v10, v11, v12, v13])), (h1, .inl (cZ, 8, .inl (fun _ => 0)))] s.heap := hP
  have hl := lv_entry ([.ref h0, .int k, .int k1, .int k2, .int k3]) (n := 7) (Nat.le_of_ble_eq_true rfl)
  rw [lg_entry_eq]
  generalize (lg_sl ([.ref h0, .int k, .int k1, .int k2, .int k3]) ++ List.replicate (7 - (lg_sl ([.ref h0, .int k, .int k1, .int k2, .int k3])).length) Slot.unset).toArray = ls at hl ⊢
  have hl : lv_has ls 7 [(0, .ref h0), (1, .int k), (2, .int k1), (3, .int k2), (4, .int k3)] := hl
  obtain ⟨H, hH⟩ : ∃ H, H = s.heap := ⟨_, rfl⟩
  rw [← hH] at hP
  have hS : va_S A s.heap H [] := by rw [hH]; exact va_S.rf
  refine w_heap hH ?_
  refine lv_aload_n hx hb dX11_length_0 rfl (lv_at hl 0 rfl) ?_
  refine lv_iload_n hx hb dX11_length_1 rfl (lv_at hl 1 rfl) ?_
  have hPc := hP.sub (ws' := [(h0, .inr (10, [v0, v1, v2, v3, v4, v5, .ref h1, v7, v8, v9, v10, v11, v12, v13])), (h1, .inl (cZ, 8, .inl (fun _ => 0)))]) [0, 1] rfl
  have hDc := hD.sub (ws' := [(h0, .inr (10, [v0, v1, v2, v3, v4, v5, .ref h1, v7, v8, v9, v10, v11, v12, v13])), (h1, .inl (cZ, 8, .inl (fun _ => 0)))]) [0, 1] (by decide) rfl
  have hKc := hK.sub (tys' := [(cZ, .boolean)]) [0] rfl
  have hFc := va_free (wc := [(h0, .inr (10, [v0, v1, v2, v3, v4, v5, .ref h1, v7, v8, v9, v10, v11, v12, v13])), (h1, .inl (cZ, 8, .inl (fun _ => 0)))]) hD hS hA [0, 1] rfl
  refine vy_callX (vx_runV (As := [.int k]) (rest := []) ⟨hx, hb, hml, hown, hts⟩ (c_tableAt l hlt dC dI h0 k h1 v0 v1 v2 v3 v4 v5 v7 v8 v9 v10 v11 v12 v13 cZ sa H.size) (cwV 1 hts (goV wd_196 wd_197 wd_195 wd_191 wd_194) rfl rfl rfl (by decide +kernel) ⟨Nat.le_of_ble_eq_true rfl, Nat.le_of_ble_eq_true rfl⟩) ⟨blind6, va_recv hKc hPc (ci := 10) (q0 := 0) rfl rfl, fun U hU hW => ⟨rfl, pre6 hU hW hPc hKc hDc hE (hT.call hS hFc)⟩⟩ rfl rfl hl.1 rfl (lv_room (Nat.le_of_ble_eq_true rfl)) dX11_length_2 ⟨Nat.le_of_ble_eq_true rfl, Nat.le_of_ble_eq_true rfl⟩) hS hFc (fun q _ h => hFc q h) (fun E ce q9 u t H locs ht hvm hw hB hz1 hk1 hS hce hcv hcl => ?_)
  obtain rfl : E = _ := hB
  exact vx_out (fun x hx => (htb x hx).elim) hlocks hce hcv hcl (fun t ht ha => ⟨(), trivial, rfl, hS.F ht⟩) hS.2.2 (Nat.le_of_ble_eq_true rfl) (Nat.le_of_ble_eq_true rfl)
set_option maxHeartbeats 4000000 in
set_option maxRecDepth 100000 in
/-- x_bars -/
theorem c_x_bars (l : Launch) (hlt : l.stackTraces = false) (dC : Nat → ClassId) (dI : Nat → Nat → Nat) (h0 : Nat) (k : Int32) (h1 : Nat) (v0 : Value) (v1 : Value) (v2 : Value) (v3 : Value) (v4 : Value) (v5 : Value) (v7 : Value) (v8 : Value) (v9 : Value) (v10 : Value) (v11 : Value) (v12 : Value) (v13 : Value) (cZ : ClassId) (sa : Nat) (sz : Nat) : vx_Met l yX11_bars (.code yX11_bars cX11_bars 3 (some .int) :: wU) ({ frames := 7, cells := 1, slots := 6, locals := 104 } : Room) (va_Pc [.ref h0, .int k] (fun U => P5 dC dI [(h0, .inr (10, [v0, v1, v2, v3, v4, v5, .ref h1, v7, v8, v9, v10, v11, v12, v13])), (h1, .inl (cZ, 8, .inl (fun _ => 0)))] [(cZ, .boolean)] sz U ∧ Tn (va_A [(h0, .inr (10, [v0, v1, v2, v3, v4, v5, .ref h1, v7, v8, v9, v10, v11, v12, v13])), (h1, .inl (cZ, 8, .inl (fun _ => 0)))] sz) sa U)) (fun _ _ _ _ => False) (vx_X (fun _ : Unit => True) (fun E _ _ => E = "java/lang/IndexOutOfBoundsException") (va_A [(h0, .inr (10, [v0, v1, v2, v3, v4, v5, .ref h1, v7, v8, v9, v10, v11, v12, v13])), (h1, .inl (cZ, 8, .inl (fun _ => 0)))] sz)) 1 6 (va_A [(h0, .inr (10, [v0, v1, v2, v3, v4, v5, .ref h1, v7, v8, v9, v10, v11, v12, v13])), (h1, .inl (cZ, 8, .inl (fun _ => 0)))] sz) := by
  refine vx_ofW (cc := cX11_bars) (maxL := 3) (ret := (some .int)) (by decide) rfl ?_
  intro p e s m args below meth c s₁ B hml htb hv
  obtain ⟨rfl, ⟨hsz, hP, hK, hD0, hE⟩, hT⟩ := hv
  have hx := B.exec
  have hb := B.bytes
  have hr := B.returns
  have hts0 := atoms_spec (ws := (.code yX11_bars cX11_bars 3 (some .int) :: wU)) B.pre
  have hts : ∀ w ∈ wU, w.before _ s = true := fun w h => hts0 w (List.mem_cons_of_mem _ h)
  have hown : s.vm.findClass "SpineTables" = some m.cls := findClass_of_methodNamed B.named
  have hlocks := B.notSynchronized
  subst hsz
  have hD := hD0.self (sz := s.heap.size)
  generalize hAe : va_A [(h0, .inr (10, [v0, v1, v2, v3, v4, v5, .ref h1, v7, v8, v9, v10, v11, v12, v13])), (h1, .inl (cZ, 8, .inl (fun _ => 0)))] s.heap.size = A at hT hD ⊢
  have hA : ∀ q : Nat, s.heap.size ≤ q → A q := fun q h => by rw [← hAe]; exact Or.inr h
  have hP : va_P (dC, dI) classes [(h0, .inr (10, [v0, v1, v2, v3, v4, v5, .ref h1, v7, v8, v9, v10, v11, v12, v13])), (h1, .inl (cZ, 8, .inl (fun _ => 0)))] s.heap := hP
  have hl := lv_entry ([.ref h0, .int k]) (n := 3) (Nat.le_of_ble_eq_true rfl)
  rw [lg_entry_eq]
  generalize (lg_sl ([.ref h0, .int k]) ++ List.replicate (3 - (lg_sl ([.ref h0, .int k])).length) Slot.unset).toArray = ls at hl ⊢
  have hl : lv_has ls 3 [(0, .ref h0), (1, .int k)] := hl
  obtain ⟨H, hH⟩ : ∃ H, H = s.heap := ⟨_, rfl⟩
  rw [← hH] at hP
  have hS : va_S A s.heap H [] := by rw [hH]; exact va_S.rf
  refine w_heap hH ?_
  refine lv_aload_n hx hb dX11_bars_0 rfl (lv_at hl 0 rfl) ?_
  refine lv_iload_n hx hb dX11_bars_1 rfl (lv_at hl 1 rfl) ?_
  have hPc := hP.sub (ws' := [(h0, .inr (10, [v0, v1, v2, v3, v4, v5, .ref h1, v7, v8, v9, v10, v11, v12, v13])), (h1, .inl (cZ, 8, .inl (fun _ => 0)))]) [0, 1] rfl
  have hDc := hD.sub (ws' := [(h0, .inr (10, [v0, v1, v2, v3, v4, v5, .ref h1, v7, v8, v9, v10, v11, v12, v13])), (h1, .inl (cZ, 8, .inl (fun _ => 0)))]) [0, 1] (by decide) rfl
  have hKc := hK.sub (tys' := [(cZ, .boolean)]) [0] rfl
  have hFc := va_free (wc := [(h0, .inr (10, [v0, v1, v2, v3, v4, v5, .ref h1, v7, v8, v9, v10, v11, v12, v13])), (h1, .inl (cZ, 8, .inl (fun _ => 0)))]) hD hS hA [0, 1] rfl
  refine vy_callX (vx_runV (As := [.int k]) (rest := []) ⟨hx, hb, hml, hown, hts⟩ (c_tableAt l hlt dC dI h0 k h1 v0 v1 v2 v3 v4 v5 v7 v8 v9 v10 v11 v12 v13 cZ sa H.size) (cwV 1 hts (goV wd_196 wd_197 wd_195 wd_191 wd_194) rfl rfl rfl (by decide +kernel) ⟨Nat.le_of_ble_eq_true rfl, Nat.le_of_ble_eq_true rfl⟩) ⟨blind6, va_recv hKc hPc (ci := 10) (q0 := 0) rfl rfl, fun U hU hW => ⟨rfl, pre6 hU hW hPc hKc hDc hE (hT.call hS hFc)⟩⟩ rfl rfl hl.1 rfl (lv_room (Nat.le_of_ble_eq_true rfl)) dX11_bars_2 ⟨Nat.le_of_ble_eq_true rfl, Nat.le_of_ble_eq_true rfl⟩) hS hFc (fun q _ h => hFc q h) (fun E ce q9 u t H locs ht hvm hw hB hz1 hk1 hS hce hcv hcl => ?_)
  obtain rfl : E = _ := hB
  exact vx_out (fun x hx => (htb x hx).elim) hlocks hce hcv hcl (fun t ht ha => ⟨(), trivial, rfl, hS.F ht⟩) hS.2.2 (Nat.le_of_ble_eq_true rfl) (Nat.le_of_ble_eq_true rfl)
set_option maxHeartbeats 4000000 in
set_option maxRecDepth 100000 in
/-- x_extract -/
theorem c_x_extract (l : Launch) (hlt : l.stackTraces = false) (dC : Nat → ClassId) (dI : Nat → Nat → Nat) (h0 : Nat) (k : Int32) (h1 : Nat) (v0 : Value) (v1 : Value) (v2 : Value) (v3 : Value) (v4 : Value) (v5 : Value) (v7 : Value) (v8 : Value) (v9 : Value) (v10 : Value) (v11 : Value) (v12 : Value) (v13 : Value) (cZ : ClassId) (sa : Nat) (sz : Nat) : vx_Met l yX11_extract (.code yX11_extract cX11_extract 7 (some .int) :: wU) ({ frames := 7, cells := 1, slots := 6, locals := 104 } : Room) (va_Pc [.ref h0, .int k] (fun U => P5 dC dI [(h0, .inr (10, [v0, v1, v2, v3, v4, v5, .ref h1, v7, v8, v9, v10, v11, v12, v13])), (h1, .inl (cZ, 8, .inl (fun _ => 0)))] [(cZ, .boolean)] sz U ∧ Tn (va_A [(h0, .inr (10, [v0, v1, v2, v3, v4, v5, .ref h1, v7, v8, v9, v10, v11, v12, v13])), (h1, .inl (cZ, 8, .inl (fun _ => 0)))] sz) sa U)) (fun _ _ _ _ => False) (vx_X (fun _ : Unit => True) (fun E _ _ => E = "java/lang/IndexOutOfBoundsException") (va_A [(h0, .inr (10, [v0, v1, v2, v3, v4, v5, .ref h1, v7, v8, v9, v10, v11, v12, v13])), (h1, .inl (cZ, 8, .inl (fun _ => 0)))] sz)) 1 6 (va_A [(h0, .inr (10, [v0, v1, v2, v3, v4, v5, .ref h1, v7, v8, v9, v10, v11, v12, v13])), (h1, .inl (cZ, 8, .inl (fun _ => 0)))] sz) := by
  refine vx_ofW (cc := cX11_extract) (maxL := 7) (ret := (some .int)) (by decide) rfl ?_
  intro p e s m args below meth c s₁ B hml htb hv
  obtain ⟨rfl, ⟨hsz, hP, hK, hD0, hE⟩, hT⟩ := hv
  have hx := B.exec
  have hb := B.bytes
  have hr := B.returns
  have hts0 := atoms_spec (ws := (.code yX11_extract cX11_extract 7 (some .int) :: wU)) B.pre
  have hts : ∀ w ∈ wU, w.before _ s = true := fun w h => hts0 w (List.mem_cons_of_mem _ h)
  have hown : s.vm.findClass "SpineTables" = some m.cls := findClass_of_methodNamed B.named
  have hlocks := B.notSynchronized
  subst hsz
  have hD := hD0.self (sz := s.heap.size)
  generalize hAe : va_A [(h0, .inr (10, [v0, v1, v2, v3, v4, v5, .ref h1, v7, v8, v9, v10, v11, v12, v13])), (h1, .inl (cZ, 8, .inl (fun _ => 0)))] s.heap.size = A at hT hD ⊢
  have hA : ∀ q : Nat, s.heap.size ≤ q → A q := fun q h => by rw [← hAe]; exact Or.inr h
  have hP : va_P (dC, dI) classes [(h0, .inr (10, [v0, v1, v2, v3, v4, v5, .ref h1, v7, v8, v9, v10, v11, v12, v13])), (h1, .inl (cZ, 8, .inl (fun _ => 0)))] s.heap := hP
  have hl := lv_entry ([.ref h0, .int k]) (n := 7) (Nat.le_of_ble_eq_true rfl)
  rw [lg_entry_eq]
  generalize (lg_sl ([.ref h0, .int k]) ++ List.replicate (7 - (lg_sl ([.ref h0, .int k])).length) Slot.unset).toArray = ls at hl ⊢
  have hl : lv_has ls 7 [(0, .ref h0), (1, .int k)] := hl
  obtain ⟨H, hH⟩ : ∃ H, H = s.heap := ⟨_, rfl⟩
  rw [← hH] at hP
  have hS : va_S A s.heap H [] := by rw [hH]; exact va_S.rf
  refine w_heap hH ?_
  refine lv_aload_n hx hb dX11_extract_0 rfl (lv_at hl 0 rfl) ?_
  refine lv_iload_n hx hb dX11_extract_1 rfl (lv_at hl 1 rfl) ?_
  have hPc := hP.sub (ws' := [(h0, .inr (10, [v0, v1, v2, v3, v4, v5, .ref h1, v7, v8, v9, v10, v11, v12, v13])), (h1, .inl (cZ, 8, .inl (fun _ => 0)))]) [0, 1] rfl
  have hDc := hD.sub (ws' := [(h0, .inr (10, [v0, v1, v2, v3, v4, v5, .ref h1, v7, v8, v9, v10, v11, v12, v13])), (h1, .inl (cZ, 8, .inl (fun _ => 0)))]) [0, 1] (by decide) rfl
  have hKc := hK.sub (tys' := [(cZ, .boolean)]) [0] rfl
  have hFc := va_free (wc := [(h0, .inr (10, [v0, v1, v2, v3, v4, v5, .ref h1, v7, v8, v9, v10, v11, v12, v13])), (h1, .inl (cZ, 8, .inl (fun _ => 0)))]) hD hS hA [0, 1] rfl
  refine vy_callX (vx_runV (As := [.int k]) (rest := []) ⟨hx, hb, hml, hown, hts⟩ (c_tableAt l hlt dC dI h0 k h1 v0 v1 v2 v3 v4 v5 v7 v8 v9 v10 v11 v12 v13 cZ sa H.size) (cwV 1 hts (goV wd_196 wd_197 wd_195 wd_191 wd_194) rfl rfl rfl (by decide +kernel) ⟨Nat.le_of_ble_eq_true rfl, Nat.le_of_ble_eq_true rfl⟩) ⟨blind6, va_recv hKc hPc (ci := 10) (q0 := 0) rfl rfl, fun U hU hW => ⟨rfl, pre6 hU hW hPc hKc hDc hE (hT.call hS hFc)⟩⟩ rfl rfl hl.1 rfl (lv_room (Nat.le_of_ble_eq_true rfl)) dX11_extract_2 ⟨Nat.le_of_ble_eq_true rfl, Nat.le_of_ble_eq_true rfl⟩) hS hFc (fun q _ h => hFc q h) (fun E ce q9 u t H locs ht hvm hw hB hz1 hk1 hS hce hcv hcl => ?_)
  obtain rfl : E = _ := hB
  exact vx_out (fun x hx => (htb x hx).elim) hlocks hce hcv hcl (fun t ht ha => ⟨(), trivial, rfl, hS.F ht⟩) hS.2.2 (Nat.le_of_ble_eq_true rfl) (Nat.le_of_ble_eq_true rfl)
set_option maxHeartbeats 4000000 in
set_option maxRecDepth 100000 in
/-- x_assemble -/
theorem c_x_assemble (l : Launch) (hlt : l.stackTraces = false) (dC : Nat → ClassId) (dI : Nat → Nat → Nat) (h0 : Nat) (k : Int32) (k1 : Int32) (h1 : Nat) (v0 : Value) (v1 : Value) (v2 : Value) (v3 : Value) (v4 : Value) (v5 : Value) (v7 : Value) (v8 : Value) (v9 : Value) (v10 : Value) (v11 : Value) (v12 : Value) (v13 : Value) (cZ : ClassId) (sa : Nat) (sz : Nat) : vx_Met l yX11_assemble (.code yX11_assemble cX11_assemble 7 (some .int) :: wU) ({ frames := 7, cells := 1, slots := 6, locals := 104 } : Room) (va_Pc [.ref h0, .int k, .int k1] (fun U => P5 dC dI [(h0, .inr (10, [v0, v1, v2, v3, v4, v5, .ref h1, v7, v8, v9, v10, v11, v12, v13])), (h1, .inl (cZ, 8, .inl (fun _ => 0)))] [(cZ, .boolean)] sz U ∧ Tn (va_A [(h0, .inr (10, [v0, v1, v2, v3, v4, v5, .ref h1, v7, v8, v9, v10, v11, v12, v13])), (h1, .inl (cZ, 8, .inl (fun _ => 0)))] sz) sa U)) (fun _ _ _ _ => False) (vx_X (fun _ : Unit => True) (fun E _ _ => E = "java/lang/IndexOutOfBoundsException") (va_A [(h0, .inr (10, [v0, v1, v2, v3, v4, v5, .ref h1, v7, v8, v9, v10, v11, v12, v13])), (h1, .inl (cZ, 8, .inl (fun _ => 0)))] sz)) 1 6 (va_A [(h0, .inr (10, [v0, v1, v2, v3, v4, v5, .ref h1, v7, v8, v9, v10, v11, v12, v13])), (h1, .inl (cZ, 8, .inl (fun _ => 0)))] sz) := by
  refine vx_ofW (cc := cX11_assemble) (maxL := 7) (ret := (some .int)) (by decide) rfl ?_
  intro p e s m args below meth c s₁ B hml htb hv
  obtain ⟨rfl, ⟨hsz, hP, hK, hD0, hE⟩, hT⟩ := hv
  have hx := B.exec
  have hb := B.bytes
  have hr := B.returns
  have hts0 := atoms_spec (ws := (.code yX11_assemble cX11_assemble 7 (some .int) :: wU)) B.pre
  have hts : ∀ w ∈ wU, w.before _ s = true := fun w h => hts0 w (List.mem_cons_of_mem _ h)
  have hown : s.vm.findClass "SpineTables" = some m.cls := findClass_of_methodNamed B.named
  have hlocks := B.notSynchronized
  subst hsz
  have hD := hD0.self (sz := s.heap.size)
  generalize hAe : va_A [(h0, .inr (10, [v0, v1, v2, v3, v4, v5, .ref h1, v7, v8, v9, v10, v11, v12, v13])), (h1, .inl (cZ, 8, .inl (fun _ => 0)))] s.heap.size = A at hT hD ⊢
  have hA : ∀ q : Nat, s.heap.size ≤ q → A q := fun q h => by rw [← hAe]; exact Or.inr h
  have hP : va_P (dC, dI) classes [(h0, .inr (10, [v0, v1, v2, v3, v4, v5, .ref h1, v7, v8, v9, v10, v11, v12, v13])), (h1, .inl (cZ, 8, .inl (fun _ => 0)))] s.heap := hP
  have hl := lv_entry ([.ref h0, .int k, .int k1]) (n := 7) (Nat.le_of_ble_eq_true rfl)
  rw [lg_entry_eq]
  generalize (lg_sl ([.ref h0, .int k, .int k1]) ++ List.replicate (7 - (lg_sl ([.ref h0, .int k, .int k1])).length) Slot.unset).toArray = ls at hl ⊢
  have hl : lv_has ls 7 [(0, .ref h0), (1, .int k), (2, .int k1)] := hl
  obtain ⟨H, hH⟩ : ∃ H, H = s.heap := ⟨_, rfl⟩
  rw [← hH] at hP
  have hS : va_S A s.heap H [] := by rw [hH]; exact va_S.rf
  refine w_heap hH ?_
  refine lv_aload_n hx hb dX11_assemble_0 rfl (lv_at hl 0 rfl) ?_
  refine lv_iload_n hx hb dX11_assemble_1 rfl (lv_at hl 1 rfl) ?_
  have hPc := hP.sub (ws' := [(h0, .inr (10, [v0, v1, v2, v3, v4, v5, .ref h1, v7, v8, v9, v10, v11, v12, v13])), (h1, .inl (cZ, 8, .inl (fun _ => 0)))]) [0, 1] rfl
  have hDc := hD.sub (ws' := [(h0, .inr (10, [v0, v1, v2, v3, v4, v5, .ref h1, v7, v8, v9, v10, v11, v12, v13])), (h1, .inl (cZ, 8, .inl (fun _ => 0)))]) [0, 1] (by decide) rfl
  have hKc := hK.sub (tys' := [(cZ, .boolean)]) [0] rfl
  have hFc := va_free (wc := [(h0, .inr (10, [v0, v1, v2, v3, v4, v5, .ref h1, v7, v8, v9, v10, v11, v12, v13])), (h1, .inl (cZ, 8, .inl (fun _ => 0)))]) hD hS hA [0, 1] rfl
  refine vy_callX (vx_runV (As := [.int k]) (rest := []) ⟨hx, hb, hml, hown, hts⟩ (c_tableAt l hlt dC dI h0 k h1 v0 v1 v2 v3 v4 v5 v7 v8 v9 v10 v11 v12 v13 cZ sa H.size) (cwV 1 hts (goV wd_196 wd_197 wd_195 wd_191 wd_194) rfl rfl rfl (by decide +kernel) ⟨Nat.le_of_ble_eq_true rfl, Nat.le_of_ble_eq_true rfl⟩) ⟨blind6, va_recv hKc hPc (ci := 10) (q0 := 0) rfl rfl, fun U hU hW => ⟨rfl, pre6 hU hW hPc hKc hDc hE (hT.call hS hFc)⟩⟩ rfl rfl hl.1 rfl (lv_room (Nat.le_of_ble_eq_true rfl)) dX11_assemble_2 ⟨Nat.le_of_ble_eq_true rfl, Nat.le_of_ble_eq_true rfl⟩) hS hFc (fun q _ h => hFc q h) (fun E ce q9 u t H locs ht hvm hw hB hz1 hk1 hS hce hcv hcl => ?_)
  obtain rfl : E = _ := hB
  exact vx_out (fun x hx => (htb x hx).elim) hlocks hce hcv hcl (fun t ht ha => ⟨(), trivial, rfl, hS.F ht⟩) hS.2.2 (Nat.le_of_ble_eq_true rfl) (Nat.le_of_ble_eq_true rfl)
set_option maxHeartbeats 4000000 in
set_option maxRecDepth 100000 in
/-- x_same -/
theorem c_x_same (l : Launch) (hlt : l.stackTraces = false) (dC : Nat → ClassId) (dI : Nat → Nat → Nat) (h0 : Nat) (k : Int32) (k1 : Int32) (h1 : Nat) (v0 : Value) (v1 : Value) (v2 : Value) (v3 : Value) (v4 : Value) (v5 : Value) (v7 : Value) (v8 : Value) (v9 : Value) (v10 : Value) (v11 : Value) (v12 : Value) (v13 : Value) (cZ : ClassId) (sa : Nat) (sz : Nat) : vx_Met l yX11_same (.code yX11_same cX11_same 5 (some .boolean) :: wU) ({ frames := 7, cells := 1, slots := 6, locals := 104 } : Room) (va_Pc [.ref h0, .int k, .int k1] (fun U => P5 dC dI [(h0, .inr (10, [v0, v1, v2, v3, v4, v5, .ref h1, v7, v8, v9, v10, v11, v12, v13])), (h1, .inl (cZ, 8, .inl (fun _ => 0)))] [(cZ, .boolean)] sz U ∧ Tn (va_A [(h0, .inr (10, [v0, v1, v2, v3, v4, v5, .ref h1, v7, v8, v9, v10, v11, v12, v13])), (h1, .inl (cZ, 8, .inl (fun _ => 0)))] sz) sa U)) (fun _ _ _ _ => False) (vx_X (fun _ : Unit => True) (fun E _ _ => E = "java/lang/IndexOutOfBoundsException") (va_A [(h0, .inr (10, [v0, v1, v2, v3, v4, v5, .ref h1, v7, v8, v9, v10, v11, v12, v13])), (h1, .inl (cZ, 8, .inl (fun _ => 0)))] sz)) 1 6 (va_A [(h0, .inr (10, [v0, v1, v2, v3, v4, v5, .ref h1, v7, v8, v9, v10, v11, v12, v13])), (h1, .inl (cZ, 8, .inl (fun _ => 0)))] sz) := by
  refine vx_ofW (cc := cX11_same) (maxL := 5) (ret := (some .boolean)) (by decide) rfl ?_
  intro p e s m args below meth c s₁ B hml htb hv
  obtain ⟨rfl, ⟨hsz, hP, hK, hD0, hE⟩, hT⟩ := hv
  have hx := B.exec
  have hb := B.bytes
  have hr := B.returns
  have hts0 := atoms_spec (ws := (.code yX11_same cX11_same 5 (some .boolean) :: wU)) B.pre
  have hts : ∀ w ∈ wU, w.before _ s = true := fun w h => hts0 w (List.mem_cons_of_mem _ h)
  have hown : s.vm.findClass "SpineTables" = some m.cls := findClass_of_methodNamed B.named
  have hlocks := B.notSynchronized
  subst hsz
  have hD := hD0.self (sz := s.heap.size)
  generalize hAe : va_A [(h0, .inr (10, [v0, v1, v2, v3, v4, v5, .ref h1, v7, v8, v9, v10, v11, v12, v13])), (h1, .inl (cZ, 8, .inl (fun _ => 0)))] s.heap.size = A at hT hD ⊢
  have hA : ∀ q : Nat, s.heap.size ≤ q → A q := fun q h => by rw [← hAe]; exact Or.inr h
  have hP : va_P (dC, dI) classes [(h0, .inr (10, [v0, v1, v2, v3, v4, v5, .ref h1, v7, v8, v9, v10, v11, v12, v13])), (h1, .inl (cZ, 8, .inl (fun _ => 0)))] s.heap := hP
  have hl := lv_entry ([.ref h0, .int k, .int k1]) (n := 5) (Nat.le_of_ble_eq_true rfl)
  rw [lg_entry_eq]
  generalize (lg_sl ([.ref h0, .int k, .int k1]) ++ List.replicate (5 - (lg_sl ([.ref h0, .int k, .int k1])).length) Slot.unset).toArray = ls at hl ⊢
  have hl : lv_has ls 5 [(0, .ref h0), (1, .int k), (2, .int k1)] := hl
  obtain ⟨H, hH⟩ : ∃ H, H = s.heap := ⟨_, rfl⟩
  rw [← hH] at hP
  have hS : va_S A s.heap H [] := by rw [hH]; exact va_S.rf
  refine w_heap hH ?_
  refine lv_aload_n hx hb dX11_same_0 rfl (lv_at hl 0 rfl) ?_
  refine lv_iload_n hx hb dX11_same_1 rfl (lv_at hl 1 rfl) ?_
  have hPc := hP.sub (ws' := [(h0, .inr (10, [v0, v1, v2, v3, v4, v5, .ref h1, v7, v8, v9, v10, v11, v12, v13])), (h1, .inl (cZ, 8, .inl (fun _ => 0)))]) [0, 1] rfl
  have hDc := hD.sub (ws' := [(h0, .inr (10, [v0, v1, v2, v3, v4, v5, .ref h1, v7, v8, v9, v10, v11, v12, v13])), (h1, .inl (cZ, 8, .inl (fun _ => 0)))]) [0, 1] (by decide) rfl
  have hKc := hK.sub (tys' := [(cZ, .boolean)]) [0] rfl
  have hFc := va_free (wc := [(h0, .inr (10, [v0, v1, v2, v3, v4, v5, .ref h1, v7, v8, v9, v10, v11, v12, v13])), (h1, .inl (cZ, 8, .inl (fun _ => 0)))]) hD hS hA [0, 1] rfl
  refine vy_callX (vx_runV (As := [.int k]) (rest := []) ⟨hx, hb, hml, hown, hts⟩ (c_tableAt l hlt dC dI h0 k h1 v0 v1 v2 v3 v4 v5 v7 v8 v9 v10 v11 v12 v13 cZ sa H.size) (cwV 1 hts (goV wd_196 wd_197 wd_195 wd_191 wd_194) rfl rfl rfl (by decide +kernel) ⟨Nat.le_of_ble_eq_true rfl, Nat.le_of_ble_eq_true rfl⟩) ⟨blind6, va_recv hKc hPc (ci := 10) (q0 := 0) rfl rfl, fun U hU hW => ⟨rfl, pre6 hU hW hPc hKc hDc hE (hT.call hS hFc)⟩⟩ rfl rfl hl.1 rfl (lv_room (Nat.le_of_ble_eq_true rfl)) dX11_same_2 ⟨Nat.le_of_ble_eq_true rfl, Nat.le_of_ble_eq_true rfl⟩) hS hFc (fun q _ h => hFc q h) (fun E ce q9 u t H locs ht hvm hw hB hz1 hk1 hS hce hcv hcl => ?_)
  obtain rfl : E = _ := hB
  exact vx_out (fun x hx => (htb x hx).elim) hlocks hce hcv hcl (fun t ht ha => ⟨(), trivial, rfl, hS.F ht⟩) hS.2.2 (Nat.le_of_ble_eq_true rfl) (Nat.le_of_ble_eq_true rfl)
set_option maxHeartbeats 4000000 in
set_option maxRecDepth 100000 in
/-- x_write -/
theorem c_x_write (l : Launch) (hlt : l.stackTraces = false) (dC : Nat → ClassId) (dI : Nat → Nat → Nat) (h0 : Nat) (k : Int32) (h1 : Nat) (v0 : Value) (v1 : Value) (v2 : Value) (v3 : Value) (v4 : Value) (v5 : Value) (v7 : Value) (v8 : Value) (v9 : Value) (v10 : Value) (v11 : Value) (v12 : Value) (v13 : Value) (cZ : ClassId) (sa : Nat) (sz : Nat) : vx_Met l yX11_write (.code yX11_write cX11_write 3 (some .int) :: wU) ({ frames := 7, cells := 1, slots := 6, locals := 104 } : Room) (va_Pc [.ref h0, .int k] (fun U => P5 dC dI [(h0, .inr (10, [v0, v1, v2, v3, v4, v5, .ref h1, v7, v8, v9, v10, v11, v12, v13])), (h1, .inl (cZ, 8, .inl (fun _ => 0)))] [(cZ, .boolean)] sz U ∧ Tn (va_A [(h0, .inr (10, [v0, v1, v2, v3, v4, v5, .ref h1, v7, v8, v9, v10, v11, v12, v13])), (h1, .inl (cZ, 8, .inl (fun _ => 0)))] sz) sa U)) (fun _ _ _ _ => False) (vx_X (fun _ : Unit => True) (fun E _ _ => E = "java/lang/IndexOutOfBoundsException") (va_A [(h0, .inr (10, [v0, v1, v2, v3, v4, v5, .ref h1, v7, v8, v9, v10, v11, v12, v13])), (h1, .inl (cZ, 8, .inl (fun _ => 0)))] sz)) 1 6 (va_A [(h0, .inr (10, [v0, v1, v2, v3, v4, v5, .ref h1, v7, v8, v9, v10, v11, v12, v13])), (h1, .inl (cZ, 8, .inl (fun _ => 0)))] sz) := by
  refine vx_ofW (cc := cX11_write) (maxL := 3) (ret := (some .int)) (by decide) rfl ?_
  intro p e s m args below meth c s₁ B hml htb hv
  obtain ⟨rfl, ⟨hsz, hP, hK, hD0, hE⟩, hT⟩ := hv
  have hx := B.exec
  have hb := B.bytes
  have hr := B.returns
  have hts0 := atoms_spec (ws := (.code yX11_write cX11_write 3 (some .int) :: wU)) B.pre
  have hts : ∀ w ∈ wU, w.before _ s = true := fun w h => hts0 w (List.mem_cons_of_mem _ h)
  have hown : s.vm.findClass "SpineTables" = some m.cls := findClass_of_methodNamed B.named
  have hlocks := B.notSynchronized
  subst hsz
  have hD := hD0.self (sz := s.heap.size)
  generalize hAe : va_A [(h0, .inr (10, [v0, v1, v2, v3, v4, v5, .ref h1, v7, v8, v9, v10, v11, v12, v13])), (h1, .inl (cZ, 8, .inl (fun _ => 0)))] s.heap.size = A at hT hD ⊢
  have hA : ∀ q : Nat, s.heap.size ≤ q → A q := fun q h => by rw [← hAe]; exact Or.inr h
  have hP : va_P (dC, dI) classes [(h0, .inr (10, [v0, v1, v2, v3, v4, v5, .ref h1, v7, v8, v9, v10, v11, v12, v13])), (h1, .inl (cZ, 8, .inl (fun _ => 0)))] s.heap := hP
  have hl := lv_entry ([.ref h0, .int k]) (n := 3) (Nat.le_of_ble_eq_true rfl)
  rw [lg_entry_eq]
  generalize (lg_sl ([.ref h0, .int k]) ++ List.replicate (3 - (lg_sl ([.ref h0, .int k])).length) Slot.unset).toArray = ls at hl ⊢
  have hl : lv_has ls 3 [(0, .ref h0), (1, .int k)] := hl
  obtain ⟨H, hH⟩ : ∃ H, H = s.heap := ⟨_, rfl⟩
  rw [← hH] at hP
  have hS : va_S A s.heap H [] := by rw [hH]; exact va_S.rf
  refine w_heap hH ?_
  refine lv_aload_n hx hb dX11_write_0 rfl (lv_at hl 0 rfl) ?_
  refine lv_iload_n hx hb dX11_write_1 rfl (lv_at hl 1 rfl) ?_
  have hPc := hP.sub (ws' := [(h0, .inr (10, [v0, v1, v2, v3, v4, v5, .ref h1, v7, v8, v9, v10, v11, v12, v13])), (h1, .inl (cZ, 8, .inl (fun _ => 0)))]) [0, 1] rfl
  have hDc := hD.sub (ws' := [(h0, .inr (10, [v0, v1, v2, v3, v4, v5, .ref h1, v7, v8, v9, v10, v11, v12, v13])), (h1, .inl (cZ, 8, .inl (fun _ => 0)))]) [0, 1] (by decide) rfl
  have hKc := hK.sub (tys' := [(cZ, .boolean)]) [0] rfl
  have hFc := va_free (wc := [(h0, .inr (10, [v0, v1, v2, v3, v4, v5, .ref h1, v7, v8, v9, v10, v11, v12, v13])), (h1, .inl (cZ, 8, .inl (fun _ => 0)))]) hD hS hA [0, 1] rfl
  refine vy_callX (vx_runV (As := [.int k]) (rest := []) ⟨hx, hb, hml, hown, hts⟩ (c_tableAt l hlt dC dI h0 k h1 v0 v1 v2 v3 v4 v5 v7 v8 v9 v10 v11 v12 v13 cZ sa H.size) (cwV 1 hts (goV wd_196 wd_197 wd_195 wd_191 wd_194) rfl rfl rfl (by decide +kernel) ⟨Nat.le_of_ble_eq_true rfl, Nat.le_of_ble_eq_true rfl⟩) ⟨blind6, va_recv hKc hPc (ci := 10) (q0 := 0) rfl rfl, fun U hU hW => ⟨rfl, pre6 hU hW hPc hKc hDc hE (hT.call hS hFc)⟩⟩ rfl rfl hl.1 rfl (lv_room (Nat.le_of_ble_eq_true rfl)) dX11_write_2 ⟨Nat.le_of_ble_eq_true rfl, Nat.le_of_ble_eq_true rfl⟩) hS hFc (fun q _ h => hFc q h) (fun E ce q9 u t H locs ht hvm hw hB hz1 hk1 hS hce hcv hcl => ?_)
  obtain rfl : E = _ := hB
  exact vx_out (fun x hx => (htb x hx).elim) hlocks hce hcv hcl (fun t ht ha => ⟨(), trivial, rfl, hS.F ht⟩) hS.2.2 (Nat.le_of_ble_eq_true rfl) (Nat.le_of_ble_eq_true rfl)
end
section
set_option maxHeartbeats 4000000 in
set_option maxRecDepth 100000 in
/-- l_drop -/
theorem c_l_drop (l : Launch) (hlt : l.stackTraces = false) (dC : Nat → ClassId) (dI : Nat → Nat → Nat) (h0 : Nat) (k : Int32) (ho : Nat) (h1 : Nat) (v0 : Value) (v1 : Value) (v2 : Value) (v3 : Value) (v4 : Value) (v5 : Value) (v7 : Value) (v8 : Value) (v9 : Value) (v10 : Value) (v11 : Value) (v12 : Value) (v13 : Value) (cZ : ClassId) (sa : Nat) (sz : Nat) : vx_Met l yL_drop (.codeWith yL_drop cL_drop 4 (some .int) [(0, 9, 12, 13)] :: wU) ({ frames := 8, cells := 1, slots := 6, locals := 126 } : Room) (va_Pc [.ref h0, .int k, .ref ho] (fun U => P5 dC dI [(h0, .inr (10, [v0, v1, v2, v3, v4, v5, .ref h1, v7, v8, v9, v10, v11, v12, v13])), (h1, .inl (cZ, 8, .inl (fun _ => 0)))] [(cZ, .boolean)] sz U ∧ Tn (va_A [(h0, .inr (10, [v0, v1, v2, v3, v4, v5, .ref h1, v7, v8, v9, v10, v11, v12, v13])), (h1, .inl (cZ, 8, .inl (fun _ => 0)))] sz) sa U)) (va_Qi (fun (r : Int32) (_ : Unit) => r = 1) (fun _ t => P3 dC dI (va_A [(h0, .inr (10, [v0, v1, v2, v3, v4, v5, .ref h1, v7, v8, v9, v10, v11, v12, v13])), (h1, .inl (cZ, 8, .inl (fun _ => 0)))] sz) [] [] t) (va_A [(h0, .inr (10, [v0, v1, v2, v3, v4, v5, .ref h1, v7, v8, v9, v10, v11, v12, v13])), (h1, .inl (cZ, 8, .inl (fun _ => 0)))] sz)) (vx_X (fun _ : Unit => False) (fun _ _ _ => False) (va_A [(h0, .inr (10, [v0, v1, v2, v3, v4, v5, .ref h1, v7, v8, v9, v10, v11, v12, v13])), (h1, .inl (cZ, 8, .inl (fun _ => 0)))] sz)) 1 6 (va_A [(h0, .inr (10, [v0, v1, v2, v3, v4, v5, .ref h1, v7, v8, v9, v10, v11, v12, v13])), (h1, .inl (cZ, 8, .inl (fun _ => 0)))] sz) := by
  refine vx_ofWH (cc := cL_drop) (maxL := 4) (ret := (some .int)) (hh := [(0, 9, 12, 13)]) (by decide) rfl ?_
  intro p e s m args below meth c s₁ B hml hv
  obtain ⟨rfl, ⟨hsz, hP, hK, hD0, hE⟩, hT⟩ := hv
  have hx := B.exec
  have hb := B.bytes
  have hr := B.returns
  have hts0 := atoms_spec (ws := (.codeWith yL_drop cL_drop 4 (some .int) [(0, 9, 12, 13)] :: wU)) B.pre
  have hts : ∀ w ∈ wU, w.before _ s = true := fun w h => hts0 w (List.mem_cons_of_mem _ h)
  have hown : s.vm.findClass "SpineTablesLaw" = some m.cls := findClass_of_methodNamed B.named
  have hlocks := B.notSynchronized
  have htab := vx_table B (hts0 _ List.mem_cons_self)
  subst hsz
  have hD := hD0.self (sz := s.heap.size)
  generalize hAe : va_A [(h0, .inr (10, [v0, v1, v2, v3, v4, v5, .ref h1, v7, v8, v9, v10, v11, v12, v13])), (h1, .inl (cZ, 8, .inl (fun _ => 0)))] s.heap.size = A at hT hD ⊢
  have hA : ∀ q : Nat, s.heap.size ≤ q → A q := fun q h => by rw [← hAe]; exact Or.inr h
  have hP : va_P (dC, dI) classes [(h0, .inr (10, [v0, v1, v2, v3, v4, v5, .ref h1, v7, v8, v9, v10, v11, v12, v13])), (h1, .inl (cZ, 8, .inl (fun _ => 0)))] s.heap := hP
  have hl := lv_entry ([.ref h0, .int k, .ref ho]) (n := 4) (Nat.le_of_ble_eq_true rfl)
  rw [lg_entry_eq]
  generalize (lg_sl ([.ref h0, .int k, .ref ho]) ++ List.replicate (4 - (lg_sl ([.ref h0, .int k, .ref ho])).length) Slot.unset).toArray = ls at hl ⊢
  have hl : lv_has ls 4 [(0, .ref h0), (1, .int k), (2, .ref ho)] := hl
  obtain ⟨H, hH⟩ : ∃ H, H = s.heap := ⟨_, rfl⟩
  rw [← hH] at hP
  have hS : va_S A s.heap H [] := by rw [hH]; exact va_S.rf
  refine w_heap hH ?_
  refine lv_aload_n hx hb dL_drop_0 rfl (lv_at hl 2 rfl) ?_
  refine lv_iconst (v := 0) hx hb dL_drop_1 (by decide) ?_
  refine lv_aload_n hx hb dL_drop_2 rfl (lv_at hl 0 rfl) ?_
  refine lv_iload_n hx hb dL_drop_3 rfl (lv_at hl 1 rfl) ?_
  have hPc := hP.sub (ws' := [(h0, .inr (10, [v0, v1, v2, v3, v4, v5, .ref h1, v7, v8, v9, v10, v11, v12, v13])), (h1, .inl (cZ, 8, .inl (fun _ => 0)))]) [0, 1] rfl
  have hDc := hD.sub (ws' := [(h0, .inr (10, [v0, v1, v2, v3, v4, v5, .ref h1, v7, v8, v9, v10, v11, v12, v13])), (h1, .inl (cZ, 8, .inl (fun _ => 0)))]) [0, 1] (by decide) rfl
  have hKc := hK.sub (tys' := [(cZ, .boolean)]) [0] rfl
  have hFc := va_free (wc := [(h0, .inr (10, [v0, v1, v2, v3, v4, v5, .ref h1, v7, v8, v9, v10, v11, v12, v13])), (h1, .inl (cZ, 8, .inl (fun _ => 0)))]) hD hS hA [0, 1] rfl
  refine vy_callX (vx_runV (As := [.int k]) (rest := [.int 0, .ref ho]) ⟨hx, hb, hml, hown, hts⟩ (c_x_drop l hlt dC dI h0 k h1 v0 v1 v2 v3 v4 v5 v7 v8 v9 v10 v11 v12 v13 cZ sa H.size) (cwV 1 hts (goV wd_200 wd_201 wd_199 wd_191 wd_198) rfl rfl rfl (by decide +kernel) ⟨Nat.le_of_ble_eq_true rfl, Nat.le_of_ble_eq_true rfl⟩) ⟨blind6, va_recv hKc hPc (ci := 10) (q0 := 0) rfl rfl, fun U hU hW => ⟨rfl, pre6 hU hW hPc hKc hDc hE (hT.call hS hFc)⟩⟩ rfl rfl hl.1 rfl (lv_room (Nat.le_of_ble_eq_true rfl)) dL_drop_4 ⟨Nat.le_of_ble_eq_true rfl, Nat.le_of_ble_eq_true rfl⟩) hS hFc (fun q _ h => hFc q h) (fun E ce q9 u t H locs ht hvm hw hB hz1 hk1 hS hce hcv hcl => ?_)
  obtain rfl : E = _ := hB
  refine vy_catch (name := "java/lang/IndexOutOfBoundsException") hown ⟨0, 9, 12, 13⟩ _ (by rw [htab]; rfl) (by decide) (by decide) (hts _ wd_202) (va_Nw.use rfl (hE.1 _ (List.mem_of_getElem? (i := 11) rfl))) hce hcv hcl ?_
  refine W.eq (g2 := F0 m 12 ls [.ref q9]) rfl ?_
  have hP : va_P (dC, dI) classes [] H := fun k q h => by simp at h
  have hD : va_D A [] := ⟨fun i j p q h => by simp at h, fun k q h => by simp at h⟩
  have hK : va_K (dC, dI) classes [] s := hK.sub [] rfl
  refine W.widen (k := 1) (n := 6) (Nat.le_of_ble_eq_true rfl) (Nat.le_of_ble_eq_true rfl) ?_
  refine lv_astore_n (lv' := [(3, .ref q9), (0, .ref h0), (1, .int k), (2, .ref ho)]) hx hb dL_drop_12 rfl hl (by decide) rfl (fun ls hl => ?_)
  refine lv_iconst (v := 1) hx hb dL_drop_13 (by decide) ?_
  have hP9 := hP.sub (ws' := []) [] rfl
  have hD9 := hD.sub (ws' := []) [] (by decide) rfl
  have hK9 := hK.sub (tys' := []) [] rfl
  refine W.widen (k := 1) (n := 6) (Nat.le_of_ble_eq_true rfl) (Nat.le_of_ble_eq_true rfl) ?_
  exact vx_ret (W.iret (v := 1) hx hb hr (fun t ht hW => ⟨⟨1, (), rfl, rfl, by rw [ht]; exact hP9, va_K.moved hW.alike hK9, hD9⟩, hS.F ht⟩) hS.2.2 dL_drop_14)
set_option maxHeartbeats 4000000 in
set_option maxRecDepth 100000 in
/-- l_told -/
theorem c_l_told (l : Launch) (hlt : l.stackTraces = false) (dC : Nat → ClassId) (dI : Nat → Nat → Nat) (h0 : Nat) (k : Int32) (k1 : Int32) (ho : Nat) (h1 : Nat) (v0 : Value) (v1 : Value) (v2 : Value) (v3 : Value) (v4 : Value) (v5 : Value) (v7 : Value) (v8 : Value) (v9 : Value) (v10 : Value) (v11 : Value) (v12 : Value) (v13 : Value) (cZ : ClassId) (sa : Nat) (sz : Nat) : vx_Met l yL_told (.codeWith yL_told cL_told 5 (some .int) [(0, 10, 13, 13), (0, 10, 17, 19)] :: wU) ({ frames := 8, cells := 1, slots := 6, locals := 127 } : Room) (va_Pc [.ref h0, .int k, .int k1, .ref ho] (fun U => P5 dC dI [(h0, .inr (10, [v0, v1, v2, v3, v4, v5, .ref h1, v7, v8, v9, v10, v11, v12, v13])), (h1, .inl (cZ, 8, .inl (fun _ => 0)))] [(cZ, .boolean)] sz U ∧ Tn (va_A [(h0, .inr (10, [v0, v1, v2, v3, v4, v5, .ref h1, v7, v8, v9, v10, v11, v12, v13])), (h1, .inl (cZ, 8, .inl (fun _ => 0)))] sz) sa U)) (va_Qi (fun (r : Int32) (_ : Unit) => r = 1) (fun _ t => P3 dC dI (va_A [(h0, .inr (10, [v0, v1, v2, v3, v4, v5, .ref h1, v7, v8, v9, v10, v11, v12, v13])), (h1, .inl (cZ, 8, .inl (fun _ => 0)))] sz) [] [] t) (va_A [(h0, .inr (10, [v0, v1, v2, v3, v4, v5, .ref h1, v7, v8, v9, v10, v11, v12, v13])), (h1, .inl (cZ, 8, .inl (fun _ => 0)))] sz)) (vx_X (fun _ : Unit => False) (fun _ _ _ => False) (va_A [(h0, .inr (10, [v0, v1, v2, v3, v4, v5, .ref h1, v7, v8, v9, v10, v11, v12, v13])), (h1, .inl (cZ, 8, .inl (fun _ => 0)))] sz)) 1 6 (va_A [(h0, .inr (10, [v0, v1, v2, v3, v4, v5, .ref h1, v7, v8, v9, v10, v11, v12, v13])), (h1, .inl (cZ, 8, .inl (fun _ => 0)))] sz) := by
  refine vx_ofWH (cc := cL_told) (maxL := 5) (ret := (some .int)) (hh := [(0, 10, 13, 13), (0, 10, 17, 19)]) (by decide) rfl ?_
  intro p e s m args below meth c s₁ B hml hv
  obtain ⟨rfl, ⟨hsz, hP, hK, hD0, hE⟩, hT⟩ := hv
  have hx := B.exec
  have hb := B.bytes
  have hr := B.returns
  have hts0 := atoms_spec (ws := (.codeWith yL_told cL_told 5 (some .int) [(0, 10, 13, 13), (0, 10, 17, 19)] :: wU)) B.pre
  have hts : ∀ w ∈ wU, w.before _ s = true := fun w h => hts0 w (List.mem_cons_of_mem _ h)
  have hown : s.vm.findClass "SpineTablesLaw" = some m.cls := findClass_of_methodNamed B.named
  have hlocks := B.notSynchronized
  have htab := vx_table B (hts0 _ List.mem_cons_self)
  subst hsz
  have hD := hD0.self (sz := s.heap.size)
  generalize hAe : va_A [(h0, .inr (10, [v0, v1, v2, v3, v4, v5, .ref h1, v7, v8, v9, v10, v11, v12, v13])), (h1, .inl (cZ, 8, .inl (fun _ => 0)))] s.heap.size = A at hT hD ⊢
  have hA : ∀ q : Nat, s.heap.size ≤ q → A q := fun q h => by rw [← hAe]; exact Or.inr h
  have hP : va_P (dC, dI) classes [(h0, .inr (10, [v0, v1, v2, v3, v4, v5, .ref h1, v7, v8, v9, v10, v11, v12, v13])), (h1, .inl (cZ, 8, .inl (fun _ => 0)))] s.heap := hP
  have hl := lv_entry ([.ref h0, .int k, .int k1, .ref ho]) (n := 5) (Nat.le_of_ble_eq_true rfl)
  rw [lg_entry_eq]
  generalize (lg_sl ([.ref h0, .int k, .int k1, .ref ho]) ++ List.replicate (5 - (lg_sl ([.ref h0, .int k, .int k1, .ref ho])).length) Slot.unset).toArray = ls at hl ⊢
  have hl : lv_has ls 5 [(0, .ref h0), (1, .int k), (2, .int k1), (3, .ref ho)] := hl
  obtain ⟨H, hH⟩ : ∃ H, H = s.heap := ⟨_, rfl⟩
  rw [← hH] at hP
  have hS : va_S A s.heap H [] := by rw [hH]; exact va_S.rf
  refine w_heap hH ?_
  refine lv_aload_n hx hb dL_told_0 rfl (lv_at hl 3 rfl) ?_
  refine lv_iconst (v := 0) hx hb dL_told_1 (by decide) ?_
  refine lv_aload_n hx hb dL_told_2 rfl (lv_at hl 0 rfl) ?_
  refine lv_iload_n hx hb dL_told_3 rfl (lv_at hl 1 rfl) ?_
  refine lv_iload_n hx hb dL_told_4 rfl (lv_at hl 2 rfl) ?_
  have hPc := hP.sub (ws' := [(h0, .inr (10, [v0, v1, v2, v3, v4, v5, .ref h1, v7, v8, v9, v10, v11, v12, v13])), (h1, .inl (cZ, 8, .inl (fun _ => 0)))]) [0, 1] rfl
  have hDc := hD.sub (ws' := [(h0, .inr (10, [v0, v1, v2, v3, v4, v5, .ref h1, v7, v8, v9, v10, v11, v12, v13])), (h1, .inl (cZ, 8, .inl (fun _ => 0)))]) [0, 1] (by decide) rfl
  have hKc := hK.sub (tys' := [(cZ, .boolean)]) [0] rfl
  have hFc := va_free (wc := [(h0, .inr (10, [v0, v1, v2, v3, v4, v5, .ref h1, v7, v8, v9, v10, v11, v12, v13])), (h1, .inl (cZ, 8, .inl (fun _ => 0)))]) hD hS hA [0, 1] rfl
  refine vy_callX (vx_runV (As := [.int k, .int k1]) (rest := [.int 0, .ref ho]) ⟨hx, hb, hml, hown, hts⟩ (c_x_told l hlt dC dI h0 k k1 h1 v0 v1 v2 v3 v4 v5 v7 v8 v9 v10 v11 v12 v13 cZ sa H.size) (cwV 2 hts (goV wd_205 wd_206 wd_204 wd_191 wd_203) rfl rfl rfl (by decide +kernel) ⟨Nat.le_of_ble_eq_true rfl, Nat.le_of_ble_eq_true rfl⟩) ⟨blind6, va_recv hKc hPc (ci := 10) (q0 := 0) rfl rfl, fun U hU hW => ⟨rfl, pre6 hU hW hPc hKc hDc hE (hT.call hS hFc)⟩⟩ rfl rfl hl.1 rfl (lv_room (Nat.le_of_ble_eq_true rfl)) dL_told_5 ⟨Nat.le_of_ble_eq_true rfl, Nat.le_of_ble_eq_true rfl⟩) hS hFc (fun q _ h => hFc q h) (fun E ce q9 u t H locs ht hvm hw hB hz1 hk1 hS hce hcv hcl => ?_)
  obtain rfl : E = _ := hB
  refine vy_catch (name := "java/lang/IndexOutOfBoundsException") hown ⟨0, 10, 13, 13⟩ _ (by rw [htab]; rfl) (by decide) (by decide) (hts _ wd_202) (va_Nw.use rfl (hE.1 _ (List.mem_of_getElem? (i := 11) rfl))) hce hcv hcl ?_
  refine W.eq (g2 := F0 m 13 ls [.ref q9]) rfl ?_
  have hP : va_P (dC, dI) classes [] H := fun k q h => by simp at h
  have hD : va_D A [] := ⟨fun i j p q h => by simp at h, fun k q h => by simp at h⟩
  have hK : va_K (dC, dI) classes [] s := hK.sub [] rfl
  refine W.widen (k := 1) (n := 6) (Nat.le_of_ble_eq_true rfl) (Nat.le_of_ble_eq_true rfl) ?_
  refine lv_astore (lv' := [(4, .ref q9), (0, .ref h0), (1, .int k), (2, .int k1), (3, .ref ho)]) hx hb dL_told_13 hl (by decide) rfl (fun ls hl => ?_)
  refine lv_iconst (v := 1) hx hb dL_told_15 (by decide) ?_
  have hP9 := hP.sub (ws' := []) [] rfl
  have hD9 := hD.sub (ws' := []) [] (by decide) rfl
  have hK9 := hK.sub (tys' := []) [] rfl
  refine W.widen (k := 1) (n := 6) (Nat.le_of_ble_eq_true rfl) (Nat.le_of_ble_eq_true rfl) ?_
  exact vx_ret (W.iret (v := 1) hx hb hr (fun t ht hW => ⟨⟨1, (), rfl, rfl, by rw [ht]; exact hP9, va_K.moved hW.alike hK9, hD9⟩, hS.F ht⟩) hS.2.2 dL_told_16)
set_option maxHeartbeats 4000000 in
set_option maxRecDepth 100000 in
/-- l_row -/
theorem c_l_row (l : Launch) (hlt : l.stackTraces = false) (dC : Nat → ClassId) (dI : Nat → Nat → Nat) (h0 : Nat) (k : Int32) (k1 : Int32) (k2 : Int32) (ho : Nat) (h1 : Nat) (v0 : Value) (v1 : Value) (v2 : Value) (v3 : Value) (v4 : Value) (v5 : Value) (v7 : Value) (v8 : Value) (v9 : Value) (v10 : Value) (v11 : Value) (v12 : Value) (v13 : Value) (cZ : ClassId) (sa : Nat) (sz : Nat) : vx_Met l yL_row (.codeWith yL_row cL_row 6 (some .int) [(0, 12, 15, 13), (0, 12, 19, 19)] :: wU) ({ frames := 8, cells := 1, slots := 6, locals := 128 } : Room) (va_Pc [.ref h0, .int k, .int k1, .int k2, .ref ho] (fun U => P5 dC dI [(h0, .inr (10, [v0, v1, v2, v3, v4, v5, .ref h1, v7, v8, v9, v10, v11, v12, v13])), (h1, .inl (cZ, 8, .inl (fun _ => 0)))] [(cZ, .boolean)] sz U ∧ Tn (va_A [(h0, .inr (10, [v0, v1, v2, v3, v4, v5, .ref h1, v7, v8, v9, v10, v11, v12, v13])), (h1, .inl (cZ, 8, .inl (fun _ => 0)))] sz) sa U)) (va_Qi (fun (r : Int32) (_ : Unit) => r = 1) (fun _ t => P3 dC dI (va_A [(h0, .inr (10, [v0, v1, v2, v3, v4, v5, .ref h1, v7, v8, v9, v10, v11, v12, v13])), (h1, .inl (cZ, 8, .inl (fun _ => 0)))] sz) [] [] t) (va_A [(h0, .inr (10, [v0, v1, v2, v3, v4, v5, .ref h1, v7, v8, v9, v10, v11, v12, v13])), (h1, .inl (cZ, 8, .inl (fun _ => 0)))] sz)) (vx_X (fun _ : Unit => False) (fun _ _ _ => False) (va_A [(h0, .inr (10, [v0, v1, v2, v3, v4, v5, .ref h1, v7, v8, v9, v10, v11, v12, v13])), (h1, .inl (cZ, 8, .inl (fun _ => 0)))] sz)) 1 6 (va_A [(h0, .inr (10, [v0, v1, v2, v3, v4, v5, .ref h1, v7, v8, v9, v10, v11, v12, v13])), (h1, .inl (cZ, 8, .inl (fun _ => 0)))] sz) := by
  refine vx_ofWH (cc := cL_row) (maxL := 6) (ret := (some .int)) (hh := [(0, 12, 15, 13), (0, 12, 19, 19)]) (by decide) rfl ?_
  intro p e s m args below meth c s₁ B hml hv
  obtain ⟨rfl, ⟨hsz, hP, hK, hD0, hE⟩, hT⟩ := hv
  have hx := B.exec
  have hb := B.bytes
  have hr := B.returns
  have hts0 := atoms_spec (ws := (.codeWith yL_row cL_row 6 (some .int) [(0, 12, 15, 13), (0, 12, 19, 19)] :: wU)) B.pre
  have hts : ∀ w ∈ wU, w.before _ s = true := fun w h => hts0 w (List.mem_cons_of_mem _ h)
  have hown : s.vm.findClass "SpineTablesLaw" = some m.cls := findClass_of_methodNamed B.named
  have hlocks := B.notSynchronized
  have htab := vx_table B (hts0 _ List.mem_cons_self)
  subst hsz
  have hD := hD0.self (sz := s.heap.size)
  generalize hAe : va_A [(h0, .inr (10, [v0, v1, v2, v3, v4, v5, .ref h1, v7, v8, v9, v10, v11, v12, v13])), (h1, .inl (cZ, 8, .inl (fun _ => 0)))] s.heap.size = A at hT hD ⊢
  have hA : ∀ q : Nat, s.heap.size ≤ q → A q := fun q h => by rw [← hAe]; exact Or.inr h
  have hP : va_P (dC, dI) classes [(h0, .inr (10, [v0, v1, v2, v3, v4, v5, .ref h1, v7, v8, v9, v10, v11, v12, v13])), (h1, .inl (cZ, 8, .inl (fun _ => 0)))] s.heap := hP
  have hl := lv_entry ([.ref h0, .int k, .int k1, .int k2, .ref ho]) (n := 6) (Nat.le_of_ble_eq_true rfl)
  rw [lg_entry_eq]
  generalize (lg_sl ([.ref h0, .int k, .int k1, .int k2, .ref ho]) ++ List.replicate (6 - (lg_sl ([.ref h0, .int k, .int k1, .int k2, .ref ho])).length) Slot.unset).toArray = ls at hl ⊢
  have hl : lv_has ls 6 [(0, .ref h0), (1, .int k), (2, .int k1), (3, .int k2), (4, .ref ho)] := hl
  obtain ⟨H, hH⟩ : ∃ H, H = s.heap := ⟨_, rfl⟩
  rw [← hH] at hP
  have hS : va_S A s.heap H [] := by rw [hH]; exact va_S.rf
  refine w_heap hH ?_
  refine lv_aload hx hb dL_row_0 (lv_at hl 4 rfl) ?_
  refine lv_iconst (v := 0) hx hb dL_row_2 (by decide) ?_
  refine lv_aload_n hx hb dL_row_3 rfl (lv_at hl 0 rfl) ?_
  refine lv_iload_n hx hb dL_row_4 rfl (lv_at hl 1 rfl) ?_
  refine lv_iload_n hx hb dL_row_5 rfl (lv_at hl 2 rfl) ?_
  refine lv_iload_n hx hb dL_row_6 rfl (lv_at hl 3 rfl) ?_
  have hPc := hP.sub (ws' := [(h0, .inr (10, [v0, v1, v2, v3, v4, v5, .ref h1, v7, v8, v9, v10, v11, v12, v13])), (h1, .inl (cZ, 8, .inl (fun _ => 0)))]) [0, 1] rfl
  have hDc := hD.sub (ws' := [(h0, .inr (10, [v0, v1, v2, v3, v4, v5, .ref h1, v7, v8, v9, v10, v11, v12, v13])), (h1, .inl (cZ, 8, .inl (fun _ => 0)))]) [0, 1] (by decide) rfl
  have hKc := hK.sub (tys' := [(cZ, .boolean)]) [0] rfl
  have hFc := va_free (wc := [(h0, .inr (10, [v0, v1, v2, v3, v4, v5, .ref h1, v7, v8, v9, v10, v11, v12, v13])), (h1, .inl (cZ, 8, .inl (fun _ => 0)))]) hD hS hA [0, 1] rfl
  refine vy_callX (vx_runV (As := [.int k, .int k1, .int k2]) (rest := [.int 0, .ref ho]) ⟨hx, hb, hml, hown, hts⟩ (c_x_row l hlt dC dI h0 k k1 k2 h1 v0 v1 v2 v3 v4 v5 v7 v8 v9 v10 v11 v12 v13 cZ sa H.size) (cwV 3 hts (goV wd_209 wd_210 wd_208 wd_191 wd_207) rfl rfl rfl (by decide +kernel) ⟨Nat.le_of_ble_eq_true rfl, Nat.le_of_ble_eq_true rfl⟩) ⟨blind6, va_recv hKc hPc (ci := 10) (q0 := 0) rfl rfl, fun U hU hW => ⟨rfl, pre6 hU hW hPc hKc hDc hE (hT.call hS hFc)⟩⟩ rfl rfl hl.1 rfl (lv_room (Nat.le_of_ble_eq_true rfl)) dL_row_7 ⟨Nat.le_of_ble_eq_true rfl, Nat.le_of_ble_eq_true rfl⟩) hS hFc (fun q _ h => hFc q h) (fun E ce q9 u t H locs ht hvm hw hB hz1 hk1 hS hce hcv hcl => ?_)
  obtain rfl : E = _ := hB
  refine vy_catch (name := "java/lang/IndexOutOfBoundsException") hown ⟨0, 12, 15, 13⟩ _ (by rw [htab]; rfl) (by decide) (by decide) (hts _ wd_202) (va_Nw.use rfl (hE.1 _ (List.mem_of_getElem? (i := 11) rfl))) hce hcv hcl ?_
  refine W.eq (g2 := F0 m 15 ls [.ref q9]) rfl ?_
  have hP : va_P (dC, dI) classes [] H := fun k q h => by simp at h
  have hD : va_D A [] := ⟨fun i j p q h => by simp at h, fun k q h => by simp at h⟩
  have hK : va_K (dC, dI) classes [] s := hK.sub [] rfl
  refine W.widen (k := 1) (n := 6) (Nat.le_of_ble_eq_true rfl) (Nat.le_of_ble_eq_true rfl) ?_
  refine lv_astore (lv' := [(5, .ref q9), (0, .ref h0), (1, .int k), (2, .int k1), (3, .int k2), (4, .ref ho)]) hx hb dL_row_15 hl (by decide) rfl (fun ls hl => ?_)
  refine lv_iconst (v := 1) hx hb dL_row_17 (by decide) ?_
  have hP9 := hP.sub (ws' := []) [] rfl
  have hD9 := hD.sub (ws' := []) [] (by decide) rfl
  have hK9 := hK.sub (tys' := []) [] rfl
  refine W.widen (k := 1) (n := 6) (Nat.le_of_ble_eq_true rfl) (Nat.le_of_ble_eq_true rfl) ?_
  exact vx_ret (W.iret (v := 1) hx hb hr (fun t ht hW => ⟨⟨1, (), rfl, rfl, by rw [ht]; exact hP9, va_K.moved hW.alike hK9, hD9⟩, hS.F ht⟩) hS.2.2 dL_row_18)
set_option maxHeartbeats 4000000 in
set_option maxRecDepth 100000 in
/-- l_strand -/
theorem c_l_strand (l : Launch) (hlt : l.stackTraces = false) (dC : Nat → ClassId) (dI : Nat → Nat → Nat) (h0 : Nat) (k : Int32) (k1 : Int32) (k2 : Int32) (k3 : Int32) (ho : Nat) (h1 : Nat) (v0 : Value) (v1 : Value) (v2 : Value) (v3 : Value) (v4 : Value) (v5 : Value) (v7 : Value) (v8 : Value) (v9 : Value) (v10 : Value) (v11 : Value) (v12 : Value) (v13 : Value) (cZ : ClassId) (sa : Nat) (sz : Nat) : vx_Met l yL_strand (.codeWith yL_strand cL_strand 7 (some .int) [(0, 14, 17, 13), (0, 14, 21, 19)] :: wU) ({ frames := 8, cells := 1, slots := 6, locals := 130 } : Room) (va_Pc [.ref h0, .int k, .int k1, .int k2, .int k3, .ref ho] (fun U => P5 dC dI [(h0, .inr (10, [v0, v1, v2, v3, v4, v5, .ref h1, v7, v8, v9, v10, v11, v12, v13])), (h1, .inl (cZ, 8, .inl (fun _ => 0)))] [(cZ, .boolean)] sz U ∧ Tn (va_A [(h0, .inr (10, [v0, v1, v2, v3, v4, v5, .ref h1, v7, v8, v9, v10, v11, v12, v13])), (h1, .inl (cZ, 8, .inl (fun _ => 0)))] sz) sa U)) (va_Qi (fun (r : Int32) (_ : Unit) => r = 1) (fun _ t => P3 dC dI (va_A [(h0, .inr (10, [v0, v1, v2, v3, v4, v5, .ref h1, v7, v8, v9, v10, v11, v12, v13])), (h1, .inl (cZ, 8, .inl (fun _ => 0)))] sz) [] [] t) (va_A [(h0, .inr (10, [v0, v1, v2, v3, v4, v5, .ref h1, v7, v8, v9, v10, v11, v12, v13])), (h1, .inl (cZ, 8, .inl (fun _ => 0)))] sz)) (vx_X (fun _ : Unit => False) (fun _ _ _ => False) (va_A [(h0, .inr (10, [v0, v1, v2, v3, v4, v5, .ref h1, v7, v8, v9, v10, v11, v12, v13])), (h1, .inl (cZ, 8, .inl (fun _ => 0)))] sz)) 1 6 (va_A [(h0, .inr (10, [v0, v1, v2, v3, v4, v5, .ref h1, v7, v8, v9, v10, v11, v12, v13])), (h1, .inl (cZ, 8, .inl (fun _ => 0)))] sz) := by
  refine vx_ofWH (cc := cL_strand) (maxL := 7) (ret := (some .int)) (hh := [(0, 14, 17, 13), (0, 14, 21, 19)]) (by decide) rfl ?_
  intro p e s m args below meth c s₁ B hml hv
  obtain ⟨rfl, ⟨hsz, hP, hK, hD0, hE⟩, hT⟩ := hv
  have hx := B.exec
  have hb := B.bytes
  have hr := B.returns
  have hts0 := atoms_spec (ws := (.codeWith yL_strand cL_strand 7 (some .int) [(0, 14, 17, 13), (0, 14, 21, 19)] :: wU)) B.pre
  have hts : ∀ w ∈ wU, w.before _ s = true := fun w h => hts0 w (List.mem_cons_of_mem _ h)
  have hown : s.vm.findClass "SpineTablesLaw" = some m.cls := findClass_of_methodNamed B.named
  have hlocks := B.notSynchronized
  have htab := vx_table B (hts0 _ List.mem_cons_self)
  subst hsz
  have hD := hD0.self (sz := s.heap.size)
  generalize hAe : va_A [(h0, .inr (10, [v0, v1, v2, v3, v4, v5, .ref h1, v7, v8, v9, v10, v11, v12, v13])), (h1, .inl (cZ, 8, .inl (fun _ => 0)))] s.heap.size = A at hT hD ⊢
  have hA : ∀ q : Nat, s.heap.size ≤ q → A q := fun q h => by rw [← hAe]; exact Or.inr h
  have hP : va_P (dC, dI) classes [(h0, .inr (10, [v0, v1, v2, v3, v4, v5, .ref h1, v7, v8, v9, v10, v11, v12, v13])), (h1, .inl (cZ, 8, .inl (fun _ => 0)))] s.heap := hP
  have hl := lv_entry ([.ref h0, .int k, .int k1, .int k2, .int k3, .ref ho]) (n := 7) (Nat.le_of_ble_eq_true rfl)
  rw [lg_entry_eq]
  generalize (lg_sl ([.ref h0, .int k, .int k1, .int k2, .int k3, .ref ho]) ++ List.replicate (7 - (lg_sl ([.ref h0, .int k, .int k1, .int k2, .int k3, .ref ho])).length) Slot.unset).toArray = ls at hl ⊢
  have hl : lv_has ls 7 [(0, .ref h0), (1, .int k), (2, .int k1), (3, .int k2), (4, .int k3), (5, .ref ho)] := hl
  obtain ⟨H, hH⟩ : ∃ H, H = s.heap := ⟨_, rfl⟩
  rw [← hH] at hP
  have hS : va_S A s.heap H [] := by rw [hH]; exact va_S.rf
  refine w_heap hH ?_
  refine lv_aload hx hb dL_strand_0 (lv_at hl 5 rfl) ?_
  refine lv_iconst (v := 0) hx hb dL_strand_2 (by decide) ?_
  refine lv_aload_n hx hb dL_strand_3 rfl (lv_at hl 0 rfl) ?_
  refine lv_iload_n hx hb dL_strand_4 rfl (lv_at hl 1 rfl) ?_
  refine lv_iload_n hx hb dL_strand_5 rfl (lv_at hl 2 rfl) ?_
  refine lv_iload_n hx hb dL_strand_6 rfl (lv_at hl 3 rfl) ?_
  refine lv_iload hx hb dL_strand_7 (lv_at hl 4 rfl) ?_
  have hPc := hP.sub (ws' := [(h0, .inr (10, [v0, v1, v2, v3, v4, v5, .ref h1, v7, v8, v9, v10, v11, v12, v13])), (h1, .inl (cZ, 8, .inl (fun _ => 0)))]) [0, 1] rfl
  have hDc := hD.sub (ws' := [(h0, .inr (10, [v0, v1, v2, v3, v4, v5, .ref h1, v7, v8, v9, v10, v11, v12, v13])), (h1, .inl (cZ, 8, .inl (fun _ => 0)))]) [0, 1] (by decide) rfl
  have hKc := hK.sub (tys' := [(cZ, .boolean)]) [0] rfl
  have hFc := va_free (wc := [(h0, .inr (10, [v0, v1, v2, v3, v4, v5, .ref h1, v7, v8, v9, v10, v11, v12, v13])), (h1, .inl (cZ, 8, .inl (fun _ => 0)))]) hD hS hA [0, 1] rfl
  refine vy_callX (vx_runV (As := [.int k, .int k1, .int k2, .int k3]) (rest := [.int 0, .ref ho]) ⟨hx, hb, hml, hown, hts⟩ (c_x_strand l hlt dC dI h0 k k1 k2 k3 h1 v0 v1 v2 v3 v4 v5 v7 v8 v9 v10 v11 v12 v13 cZ sa H.size) (cwV 4 hts (goV wd_213 wd_214 wd_212 wd_191 wd_211) rfl rfl rfl (by decide +kernel) ⟨Nat.le_of_ble_eq_true rfl, Nat.le_of_ble_eq_true rfl⟩) ⟨blind6, va_recv hKc hPc (ci := 10) (q0 := 0) rfl rfl, fun U hU hW => ⟨rfl, pre6 hU hW hPc hKc hDc hE (hT.call hS hFc)⟩⟩ rfl rfl hl.1 rfl (lv_room (Nat.le_of_ble_eq_true rfl)) dL_strand_9 ⟨Nat.le_of_ble_eq_true rfl, Nat.le_of_ble_eq_true rfl⟩) hS hFc (fun q _ h => hFc q h) (fun E ce q9 u t H locs ht hvm hw hB hz1 hk1 hS hce hcv hcl => ?_)
  obtain rfl : E = _ := hB
  refine vy_catch (name := "java/lang/IndexOutOfBoundsException") hown ⟨0, 14, 17, 13⟩ _ (by rw [htab]; rfl) (by decide) (by decide) (hts _ wd_202) (va_Nw.use rfl (hE.1 _ (List.mem_of_getElem? (i := 11) rfl))) hce hcv hcl ?_
  refine W.eq (g2 := F0 m 17 ls [.ref q9]) rfl ?_
  have hP : va_P (dC, dI) classes [] H := fun k q h => by simp at h
  have hD : va_D A [] := ⟨fun i j p q h => by simp at h, fun k q h => by simp at h⟩
  have hK : va_K (dC, dI) classes [] s := hK.sub [] rfl
  refine W.widen (k := 1) (n := 6) (Nat.le_of_ble_eq_true rfl) (Nat.le_of_ble_eq_true rfl) ?_
  refine lv_astore (lv' := [(6, .ref q9), (0, .ref h0), (1, .int k), (2, .int k1), (3, .int k2), (4, .int k3), (5, .ref ho)]) hx hb dL_strand_17 hl (by decide) rfl (fun ls hl => ?_)
  refine lv_iconst (v := 1) hx hb dL_strand_19 (by decide) ?_
  have hP9 := hP.sub (ws' := []) [] rfl
  have hD9 := hD.sub (ws' := []) [] (by decide) rfl
  have hK9 := hK.sub (tys' := []) [] rfl
  refine W.widen (k := 1) (n := 6) (Nat.le_of_ble_eq_true rfl) (Nat.le_of_ble_eq_true rfl) ?_
  exact vx_ret (W.iret (v := 1) hx hb hr (fun t ht hW => ⟨⟨1, (), rfl, rfl, by rw [ht]; exact hP9, va_K.moved hW.alike hK9, hD9⟩, hS.F ht⟩) hS.2.2 dL_strand_20)
set_option maxHeartbeats 4000000 in
set_option maxRecDepth 100000 in
/-- l_kind -/
theorem c_l_kind (l : Launch) (hlt : l.stackTraces = false) (dC : Nat → ClassId) (dI : Nat → Nat → Nat) (h0 : Nat) (k : Int32) (k1 : Int32) (k2 : Int32) (ho : Nat) (h1 : Nat) (v0 : Value) (v1 : Value) (v2 : Value) (v3 : Value) (v4 : Value) (v5 : Value) (v7 : Value) (v8 : Value) (v9 : Value) (v10 : Value) (v11 : Value) (v12 : Value) (v13 : Value) (cZ : ClassId) (sa : Nat) (sz : Nat) : vx_Met l yL_kind (.codeWith yL_kind cL_kind 6 (some .int) [(0, 12, 15, 13)] :: wU) ({ frames := 8, cells := 1, slots := 6, locals := 128 } : Room) (va_Pc [.ref h0, .int k, .int k1, .int k2, .ref ho] (fun U => P5 dC dI [(h0, .inr (10, [v0, v1, v2, v3, v4, v5, .ref h1, v7, v8, v9, v10, v11, v12, v13])), (h1, .inl (cZ, 8, .inl (fun _ => 0)))] [(cZ, .boolean)] sz U ∧ Tn (va_A [(h0, .inr (10, [v0, v1, v2, v3, v4, v5, .ref h1, v7, v8, v9, v10, v11, v12, v13])), (h1, .inl (cZ, 8, .inl (fun _ => 0)))] sz) sa U)) (va_Qi (fun (r : Int32) (_ : Unit) => r = 1) (fun _ t => P3 dC dI (va_A [(h0, .inr (10, [v0, v1, v2, v3, v4, v5, .ref h1, v7, v8, v9, v10, v11, v12, v13])), (h1, .inl (cZ, 8, .inl (fun _ => 0)))] sz) [] [] t) (va_A [(h0, .inr (10, [v0, v1, v2, v3, v4, v5, .ref h1, v7, v8, v9, v10, v11, v12, v13])), (h1, .inl (cZ, 8, .inl (fun _ => 0)))] sz)) (vx_X (fun _ : Unit => False) (fun _ _ _ => False) (va_A [(h0, .inr (10, [v0, v1, v2, v3, v4, v5, .ref h1, v7, v8, v9, v10, v11, v12, v13])), (h1, .inl (cZ, 8, .inl (fun _ => 0)))] sz)) 1 6 (va_A [(h0, .inr (10, [v0, v1, v2, v3, v4, v5, .ref h1, v7, v8, v9, v10, v11, v12, v13])), (h1, .inl (cZ, 8, .inl (fun _ => 0)))] sz) := by
  refine vx_ofWH (cc := cL_kind) (maxL := 6) (ret := (some .int)) (hh := [(0, 12, 15, 13)]) (by decide) rfl ?_
  intro p e s m args below meth c s₁ B hml hv
  obtain ⟨rfl, ⟨hsz, hP, hK, hD0, hE⟩, hT⟩ := hv
  have hx := B.exec
  have hb := B.bytes
  have hr := B.returns
  have hts0 := atoms_spec (ws := (.codeWith yL_kind cL_kind 6 (some .int) [(0, 12, 15, 13)] :: wU)) B.pre
  have hts : ∀ w ∈ wU, w.before _ s = true := fun w h => hts0 w (List.mem_cons_of_mem _ h)
  have hown : s.vm.findClass "SpineTablesLaw" = some m.cls := findClass_of_methodNamed B.named
  have hlocks := B.notSynchronized
  have htab := vx_table B (hts0 _ List.mem_cons_self)
  subst hsz
  have hD := hD0.self (sz := s.heap.size)
  generalize hAe : va_A [(h0, .inr (10, [v0, v1, v2, v3, v4, v5, .ref h1, v7, v8, v9, v10, v11, v12, v13])), (h1, .inl (cZ, 8, .inl (fun _ => 0)))] s.heap.size = A at hT hD ⊢
  have hA : ∀ q : Nat, s.heap.size ≤ q → A q := fun q h => by rw [← hAe]; exact Or.inr h
  have hP : va_P (dC, dI) classes [(h0, .inr (10, [v0, v1, v2, v3, v4, v5, .ref h1, v7, v8, v9, v10, v11, v12, v13])), (h1, .inl (cZ, 8, .inl (fun _ => 0)))] s.heap := hP
  have hl := lv_entry ([.ref h0, .int k, .int k1, .int k2, .ref ho]) (n := 6) (Nat.le_of_ble_eq_true rfl)
  rw [lg_entry_eq]
  generalize (lg_sl ([.ref h0, .int k, .int k1, .int k2, .ref ho]) ++ List.replicate (6 - (lg_sl ([.ref h0, .int k, .int k1, .int k2, .ref ho])).length) Slot.unset).toArray = ls at hl ⊢
  have hl : lv_has ls 6 [(0, .ref h0), (1, .int k), (2, .int k1), (3, .int k2), (4, .ref ho)] := hl
  obtain ⟨H, hH⟩ : ∃ H, H = s.heap := ⟨_, rfl⟩
  rw [← hH] at hP
  have hS : va_S A s.heap H [] := by rw [hH]; exact va_S.rf
  refine w_heap hH ?_
  refine lv_aload hx hb dL_kind_0 (lv_at hl 4 rfl) ?_
  refine lv_iconst (v := 0) hx hb dL_kind_2 (by decide) ?_
  refine lv_aload_n hx hb dL_kind_3 rfl (lv_at hl 0 rfl) ?_
  refine lv_iload_n hx hb dL_kind_4 rfl (lv_at hl 1 rfl) ?_
  refine lv_iload_n hx hb dL_kind_5 rfl (lv_at hl 2 rfl) ?_
  refine lv_iload_n hx hb dL_kind_6 rfl (lv_at hl 3 rfl) ?_
  have hPc := hP.sub (ws' := [(h0, .inr (10, [v0, v1, v2, v3, v4, v5, .ref h1, v7, v8, v9, v10, v11, v12, v13])), (h1, .inl (cZ, 8, .inl (fun _ => 0)))]) [0, 1] rfl
  have hDc := hD.sub (ws' := [(h0, .inr (10, [v0, v1, v2, v3, v4, v5, .ref h1, v7, v8, v9, v10, v11, v12, v13])), (h1, .inl (cZ, 8, .inl (fun _ => 0)))]) [0, 1] (by decide) rfl
  have hKc := hK.sub (tys' := [(cZ, .boolean)]) [0] rfl
  have hFc := va_free (wc := [(h0, .inr (10, [v0, v1, v2, v3, v4, v5, .ref h1, v7, v8, v9, v10, v11, v12, v13])), (h1, .inl (cZ, 8, .inl (fun _ => 0)))]) hD hS hA [0, 1] rfl
  refine vy_callX (vx_runV (As := [.int k, .int k1, .int k2]) (rest := [.int 0, .ref ho]) ⟨hx, hb, hml, hown, hts⟩ (c_x_kind l hlt dC dI h0 k k1 k2 h1 v0 v1 v2 v3 v4 v5 v7 v8 v9 v10 v11 v12 v13 cZ sa H.size) (cwV 3 hts (goV wd_217 wd_218 wd_216 wd_191 wd_215) rfl rfl rfl (by decide +kernel) ⟨Nat.le_of_ble_eq_true rfl, Nat.le_of_ble_eq_true rfl⟩) ⟨blind6, va_recv hKc hPc (ci := 10) (q0 := 0) rfl rfl, fun U hU hW => ⟨rfl, pre6 hU hW hPc hKc hDc hE (hT.call hS hFc)⟩⟩ rfl rfl hl.1 rfl (lv_room (Nat.le_of_ble_eq_true rfl)) dL_kind_7 ⟨Nat.le_of_ble_eq_true rfl, Nat.le_of_ble_eq_true rfl⟩) hS hFc (fun q _ h => hFc q h) (fun E ce q9 u t H locs ht hvm hw hB hz1 hk1 hS hce hcv hcl => ?_)
  obtain rfl : E = _ := hB
  refine vy_catch (name := "java/lang/IndexOutOfBoundsException") hown ⟨0, 12, 15, 13⟩ _ (by rw [htab]; rfl) (by decide) (by decide) (hts _ wd_202) (va_Nw.use rfl (hE.1 _ (List.mem_of_getElem? (i := 11) rfl))) hce hcv hcl ?_
  refine W.eq (g2 := F0 m 15 ls [.ref q9]) rfl ?_
  have hP : va_P (dC, dI) classes [] H := fun k q h => by simp at h
  have hD : va_D A [] := ⟨fun i j p q h => by simp at h, fun k q h => by simp at h⟩
  have hK : va_K (dC, dI) classes [] s := hK.sub [] rfl
  refine W.widen (k := 1) (n := 6) (Nat.le_of_ble_eq_true rfl) (Nat.le_of_ble_eq_true rfl) ?_
  refine lv_astore (lv' := [(5, .ref q9), (0, .ref h0), (1, .int k), (2, .int k1), (3, .int k2), (4, .ref ho)]) hx hb dL_kind_15 hl (by decide) rfl (fun ls hl => ?_)
  refine lv_iconst (v := 1) hx hb dL_kind_17 (by decide) ?_
  have hP9 := hP.sub (ws' := []) [] rfl
  have hD9 := hD.sub (ws' := []) [] (by decide) rfl
  have hK9 := hK.sub (tys' := []) [] rfl
  refine W.widen (k := 1) (n := 6) (Nat.le_of_ble_eq_true rfl) (Nat.le_of_ble_eq_true rfl) ?_
  exact vx_ret (W.iret (v := 1) hx hb hr (fun t ht hW => ⟨⟨1, (), rfl, rfl, by rw [ht]; exact hP9, va_K.moved hW.alike hK9, hD9⟩, hS.F ht⟩) hS.2.2 dL_kind_18)
set_option maxHeartbeats 4000000 in
set_option maxRecDepth 100000 in
/-- l_token -/
theorem c_l_token (l : Launch) (hlt : l.stackTraces = false) (dC : Nat → ClassId) (dI : Nat → Nat → Nat) (h0 : Nat) (k : Int32) (k1 : Int32) (k2 : Int32) (k3 : Int32) (ho : Nat) (h1 : Nat) (v0 : Value) (v1 : Value) (v2 : Value) (v3 : Value) (v4 : Value) (v5 : Value) (v7 : Value) (v8 : Value) (v9 : Value) (v10 : Value) (v11 : Value) (v12 : Value) (v13 : Value) (cZ : ClassId) (sa : Nat) (sz : Nat) : vx_Met l yL_token (.codeWith yL_token cL_token 7 (some .int) [(0, 14, 17, 13)] :: wU) ({ frames := 8, cells := 1, slots := 6, locals := 130 } : Room) (va_Pc [.ref h0, .int k, .int k1, .int k2, .int k3, .ref ho] (fun U => P5 dC dI [(h0, .inr (10, [v0, v1, v2, v3, v4, v5, .ref h1, v7, v8, v9, v10, v11, v12, v13])), (h1, .inl (cZ, 8, .inl (fun _ => 0)))] [(cZ, .boolean)] sz U ∧ Tn (va_A [(h0, .inr (10, [v0, v1, v2, v3, v4, v5, .ref h1, v7, v8, v9, v10, v11, v12, v13])), (h1, .inl (cZ, 8, .inl (fun _ => 0)))] sz) sa U)) (va_Qi (fun (r : Int32) (_ : Unit) => r = 1) (fun _ t => P3 dC dI (va_A [(h0, .inr (10, [v0, v1, v2, v3, v4, v5, .ref h1, v7, v8, v9, v10, v11, v12, v13])), (h1, .inl (cZ, 8, .inl (fun _ => 0)))] sz) [] [] t) (va_A [(h0, .inr (10, [v0, v1, v2, v3, v4, v5, .ref h1, v7, v8, v9, v10, v11, v12, v13])), (h1, .inl (cZ, 8, .inl (fun _ => 0)))] sz)) (vx_X (fun _ : Unit => False) (fun _ _ _ => False) (va_A [(h0, .inr (10, [v0, v1, v2, v3, v4, v5, .ref h1, v7, v8, v9, v10, v11, v12, v13])), (h1, .inl (cZ, 8, .inl (fun _ => 0)))] sz)) 1 6 (va_A [(h0, .inr (10, [v0, v1, v2, v3, v4, v5, .ref h1, v7, v8, v9, v10, v11, v12, v13])), (h1, .inl (cZ, 8, .inl (fun _ => 0)))] sz) := by
  refine vx_ofWH (cc := cL_token) (maxL := 7) (ret := (some .int)) (hh := [(0, 14, 17, 13)]) (by decide) rfl ?_
  intro p e s m args below meth c s₁ B hml hv
  obtain ⟨rfl, ⟨hsz, hP, hK, hD0, hE⟩, hT⟩ := hv
  have hx := B.exec
  have hb := B.bytes
  have hr := B.returns
  have hts0 := atoms_spec (ws := (.codeWith yL_token cL_token 7 (some .int) [(0, 14, 17, 13)] :: wU)) B.pre
  have hts : ∀ w ∈ wU, w.before _ s = true := fun w h => hts0 w (List.mem_cons_of_mem _ h)
  have hown : s.vm.findClass "SpineTablesLaw" = some m.cls := findClass_of_methodNamed B.named
  have hlocks := B.notSynchronized
  have htab := vx_table B (hts0 _ List.mem_cons_self)
  subst hsz
  have hD := hD0.self (sz := s.heap.size)
  generalize hAe : va_A [(h0, .inr (10, [v0, v1, v2, v3, v4, v5, .ref h1, v7, v8, v9, v10, v11, v12, v13])), (h1, .inl (cZ, 8, .inl (fun _ => 0)))] s.heap.size = A at hT hD ⊢
  have hA : ∀ q : Nat, s.heap.size ≤ q → A q := fun q h => by rw [← hAe]; exact Or.inr h
  have hP : va_P (dC, dI) classes [(h0, .inr (10, [v0, v1, v2, v3, v4, v5, .ref h1, v7, v8, v9, v10, v11, v12, v13])), (h1, .inl (cZ, 8, .inl (fun _ => 0)))] s.heap := hP
  have hl := lv_entry ([.ref h0, .int k, .int k1, .int k2, .int k3, .ref ho]) (n := 7) (Nat.le_of_ble_eq_true rfl)
  rw [lg_entry_eq]
  generalize (lg_sl ([.ref h0, .int k, .int k1, .int k2, .int k3, .ref ho]) ++ List.replicate (7 - (lg_sl ([.ref h0, .int k, .int k1, .int k2, .int k3, .ref ho])).length) Slot.unset).toArray = ls at hl ⊢
  have hl : lv_has ls 7 [(0, .ref h0), (1, .int k), (2, .int k1), (3, .int k2), (4, .int k3), (5, .ref ho)] := hl
  obtain ⟨H, hH⟩ : ∃ H, H = s.heap := ⟨_, rfl⟩
  rw [← hH] at hP
  have hS : va_S A s.heap H [] := by rw [hH]; exact va_S.rf
  refine w_heap hH ?_
  refine lv_aload hx hb dL_token_0 (lv_at hl 5 rfl) ?_
  refine lv_iconst (v := 0) hx hb dL_token_2 (by decide) ?_
  refine lv_aload_n hx hb dL_token_3 rfl (lv_at hl 0 rfl) ?_
  refine lv_iload_n hx hb dL_token_4 rfl (lv_at hl 1 rfl) ?_
  refine lv_iload_n hx hb dL_token_5 rfl (lv_at hl 2 rfl) ?_
  refine lv_iload_n hx hb dL_token_6 rfl (lv_at hl 3 rfl) ?_
  refine lv_iload hx hb dL_token_7 (lv_at hl 4 rfl) ?_
  have hPc := hP.sub (ws' := [(h0, .inr (10, [v0, v1, v2, v3, v4, v5, .ref h1, v7, v8, v9, v10, v11, v12, v13])), (h1, .inl (cZ, 8, .inl (fun _ => 0)))]) [0, 1] rfl
  have hDc := hD.sub (ws' := [(h0, .inr (10, [v0, v1, v2, v3, v4, v5, .ref h1, v7, v8, v9, v10, v11, v12, v13])), (h1, .inl (cZ, 8, .inl (fun _ => 0)))]) [0, 1] (by decide) rfl
  have hKc := hK.sub (tys' := [(cZ, .boolean)]) [0] rfl
  have hFc := va_free (wc := [(h0, .inr (10, [v0, v1, v2, v3, v4, v5, .ref h1, v7, v8, v9, v10, v11, v12, v13])), (h1, .inl (cZ, 8, .inl (fun _ => 0)))]) hD hS hA [0, 1] rfl
  refine vy_callX (vx_runV (As := [.int k, .int k1, .int k2, .int k3]) (rest := [.int 0, .ref ho]) ⟨hx, hb, hml, hown, hts⟩ (c_x_token l hlt dC dI h0 k k1 k2 k3 h1 v0 v1 v2 v3 v4 v5 v7 v8 v9 v10 v11 v12 v13 cZ sa H.size) (cwV 4 hts (goV wd_221 wd_222 wd_220 wd_191 wd_219) rfl rfl rfl (by decide +kernel) ⟨Nat.le_of_ble_eq_true rfl, Nat.le_of_ble_eq_true rfl⟩) ⟨blind6, va_recv hKc hPc (ci := 10) (q0 := 0) rfl rfl, fun U hU hW => ⟨rfl, pre6 hU hW hPc hKc hDc hE (hT.call hS hFc)⟩⟩ rfl rfl hl.1 rfl (lv_room (Nat.le_of_ble_eq_true rfl)) dL_token_9 ⟨Nat.le_of_ble_eq_true rfl, Nat.le_of_ble_eq_true rfl⟩) hS hFc (fun q _ h => hFc q h) (fun E ce q9 u t H locs ht hvm hw hB hz1 hk1 hS hce hcv hcl => ?_)
  obtain rfl : E = _ := hB
  refine vy_catch (name := "java/lang/IndexOutOfBoundsException") hown ⟨0, 14, 17, 13⟩ _ (by rw [htab]; rfl) (by decide) (by decide) (hts _ wd_202) (va_Nw.use rfl (hE.1 _ (List.mem_of_getElem? (i := 11) rfl))) hce hcv hcl ?_
  refine W.eq (g2 := F0 m 17 ls [.ref q9]) rfl ?_
  have hP : va_P (dC, dI) classes [] H := fun k q h => by simp at h
  have hD : va_D A [] := ⟨fun i j p q h => by simp at h, fun k q h => by simp at h⟩
  have hK : va_K (dC, dI) classes [] s := hK.sub [] rfl
  refine W.widen (k := 1) (n := 6) (Nat.le_of_ble_eq_true rfl) (Nat.le_of_ble_eq_true rfl) ?_
  refine lv_astore (lv' := [(6, .ref q9), (0, .ref h0), (1, .int k), (2, .int k1), (3, .int k2), (4, .int k3), (5, .ref ho)]) hx hb dL_token_17 hl (by decide) rfl (fun ls hl => ?_)
  refine lv_iconst (v := 1) hx hb dL_token_19 (by decide) ?_
  have hP9 := hP.sub (ws' := []) [] rfl
  have hD9 := hD.sub (ws' := []) [] (by decide) rfl
  have hK9 := hK.sub (tys' := []) [] rfl
  refine W.widen (k := 1) (n := 6) (Nat.le_of_ble_eq_true rfl) (Nat.le_of_ble_eq_true rfl) ?_
  exact vx_ret (W.iret (v := 1) hx hb hr (fun t ht hW => ⟨⟨1, (), rfl, rfl, by rw [ht]; exact hP9, va_K.moved hW.alike hK9, hD9⟩, hS.F ht⟩) hS.2.2 dL_token_20)
set_option maxHeartbeats 4000000 in
set_option maxRecDepth 100000 in
/-- l_walk -/
theorem c_l_walk (l : Launch) (hlt : l.stackTraces = false) (dC : Nat → ClassId) (dI : Nat → Nat → Nat) (h0 : Nat) (k : Int32) (ho : Nat) (h1 : Nat) (v0 : Value) (v1 : Value) (v2 : Value) (v3 : Value) (v4 : Value) (v5 : Value) (v7 : Value) (v8 : Value) (v9 : Value) (v10 : Value) (v11 : Value) (v12 : Value) (v13 : Value) (cZ : ClassId) (sa : Nat) (sz : Nat) : vx_Met l yL_walk (.codeWith yL_walk cL_walk 4 (some .int) [(0, 9, 12, 13)] :: wU) ({ frames := 8, cells := 1, slots := 6, locals := 125 } : Room) (va_Pc [.ref h0, .int k, .ref ho] (fun U => P5 dC dI [(h0, .inr (10, [v0, v1, v2, v3, v4, v5, .ref h1, v7, v8, v9, v10, v11, v12, v13])), (h1, .inl (cZ, 8, .inl (fun _ => 0)))] [(cZ, .boolean)] sz U ∧ Tn (va_A [(h0, .inr (10, [v0, v1, v2, v3, v4, v5, .ref h1, v7, v8, v9, v10, v11, v12, v13])), (h1, .inl (cZ, 8, .inl (fun _ => 0)))] sz) sa U)) (va_Qi (fun (r : Int32) (_ : Unit) => r = 1) (fun _ t => P3 dC dI (va_A [(h0, .inr (10, [v0, v1, v2, v3, v4, v5, .ref h1, v7, v8, v9, v10, v11, v12, v13])), (h1, .inl (cZ, 8, .inl (fun _ => 0)))] sz) [] [] t) (va_A [(h0, .inr (10, [v0, v1, v2, v3, v4, v5, .ref h1, v7, v8, v9, v10, v11, v12, v13])), (h1, .inl (cZ, 8, .inl (fun _ => 0)))] sz)) (vx_X (fun _ : Unit => False) (fun _ _ _ => False) (va_A [(h0, .inr (10, [v0, v1, v2, v3, v4, v5, .ref h1, v7, v8, v9, v10, v11, v12, v13])), (h1, .inl (cZ, 8, .inl (fun _ => 0)))] sz)) 1 6 (va_A [(h0, .inr (10, [v0, v1, v2, v3, v4, v5, .ref h1, v7, v8, v9, v10, v11, v12, v13])), (h1, .inl (cZ, 8, .inl (fun _ => 0)))] sz) := by
  refine vx_ofWH (cc := cL_walk) (maxL := 4) (ret := (some .int)) (hh := [(0, 9, 12, 13)]) (by decide) rfl ?_
  intro p e s m args below meth c s₁ B hml hv
  obtain ⟨rfl, ⟨hsz, hP, hK, hD0, hE⟩, hT⟩ := hv
  have hx := B.exec
  have hb := B.bytes
  have hr := B.returns
  have hts0 := atoms_spec (ws := (.codeWith yL_walk cL_walk 4 (some .int) [(0, 9, 12, 13)] :: wU)) B.pre
  have hts : ∀ w ∈ wU, w.before _ s = true := fun w h => hts0 w (List.mem_cons_of_mem _ h)
  have hown : s.vm.findClass "SpineTablesLaw" = some m.cls := findClass_of_methodNamed B.named
  have hlocks := B.notSynchronized
  have htab := vx_table B (hts0 _ List.mem_cons_self)
  subst hsz
  have hD := hD0.self (sz := s.heap.size)
  generalize hAe : va_A [(h0, .inr (10, [v0, v1, v2, v3, v4, v5, .ref h1, v7, v8, v9, v10, v11, v12, v13])), (h1, .inl (cZ, 8, .inl (fun _ => 0)))] s.heap.size = A at hT hD ⊢
  have hA : ∀ q : Nat, s.heap.size ≤ q → A q := fun q h => by rw [← hAe]; exact Or.inr h
  have hP : va_P (dC, dI) classes [(h0, .inr (10, [v0, v1, v2, v3, v4, v5, .ref h1, v7, v8, v9, v10, v11, v12, v13])), (h1, .inl (cZ, 8, .inl (fun _ => 0)))] s.heap := hP
  have hl := lv_entry ([.ref h0, .int k, .ref ho]) (n := 4) (Nat.le_of_ble_eq_true rfl)
  rw [lg_entry_eq]
  generalize (lg_sl ([.ref h0, .int k, .ref ho]) ++ List.replicate (4 - (lg_sl ([.ref h0, .int k, .ref ho])).length) Slot.unset).toArray = ls at hl ⊢
  have hl : lv_has ls 4 [(0, .ref h0), (1, .int k), (2, .ref ho)] := hl
  obtain ⟨H, hH⟩ : ∃ H, H = s.heap := ⟨_, rfl⟩
  rw [← hH] at hP
  have hS : va_S A s.heap H [] := by rw [hH]; exact va_S.rf
  refine w_heap hH ?_
  refine lv_aload_n hx hb dL_walk_0 rfl (lv_at hl 2 rfl) ?_
  refine lv_iconst (v := 0) hx hb dL_walk_1 (by decide) ?_
  refine lv_aload_n hx hb dL_walk_2 rfl (lv_at hl 0 rfl) ?_
  refine lv_iload_n hx hb dL_walk_3 rfl (lv_at hl 1 rfl) ?_
  have hPc := hP.sub (ws' := [(h0, .inr (10, [v0, v1, v2, v3, v4, v5, .ref h1, v7, v8, v9, v10, v11, v12, v13])), (h1, .inl (cZ, 8, .inl (fun _ => 0)))]) [0, 1] rfl
  have hDc := hD.sub (ws' := [(h0, .inr (10, [v0, v1, v2, v3, v4, v5, .ref h1, v7, v8, v9, v10, v11, v12, v13])), (h1, .inl (cZ, 8, .inl (fun _ => 0)))]) [0, 1] (by decide) rfl
  have hKc := hK.sub (tys' := [(cZ, .boolean)]) [0] rfl
  have hFc := va_free (wc := [(h0, .inr (10, [v0, v1, v2, v3, v4, v5, .ref h1, v7, v8, v9, v10, v11, v12, v13])), (h1, .inl (cZ, 8, .inl (fun _ => 0)))]) hD hS hA [0, 1] rfl
  refine vy_callX (vx_runV (As := [.int k]) (rest := [.int 0, .ref ho]) ⟨hx, hb, hml, hown, hts⟩ (c_x_walk l hlt dC dI h0 k h1 v0 v1 v2 v3 v4 v5 v7 v8 v9 v10 v11 v12 v13 cZ sa H.size) (cwV 1 hts (goV wd_225 wd_226 wd_224 wd_191 wd_223) rfl rfl rfl (by decide +kernel) ⟨Nat.le_of_ble_eq_true rfl, Nat.le_of_ble_eq_true rfl⟩) ⟨blind6, va_recv hKc hPc (ci := 10) (q0 := 0) rfl rfl, fun U hU hW => ⟨rfl, pre6 hU hW hPc hKc hDc hE (hT.call hS hFc)⟩⟩ rfl rfl hl.1 rfl (lv_room (Nat.le_of_ble_eq_true rfl)) dL_walk_4 ⟨Nat.le_of_ble_eq_true rfl, Nat.le_of_ble_eq_true rfl⟩) hS hFc (fun q _ h => hFc q h) (fun E ce q9 u t H locs ht hvm hw hB hz1 hk1 hS hce hcv hcl => ?_)
  obtain rfl : E = _ := hB
  refine vy_catch (name := "java/lang/IndexOutOfBoundsException") hown ⟨0, 9, 12, 13⟩ _ (by rw [htab]; rfl) (by decide) (by decide) (hts _ wd_202) (va_Nw.use rfl (hE.1 _ (List.mem_of_getElem? (i := 11) rfl))) hce hcv hcl ?_
  refine W.eq (g2 := F0 m 12 ls [.ref q9]) rfl ?_
  have hP : va_P (dC, dI) classes [] H := fun k q h => by simp at h
  have hD : va_D A [] := ⟨fun i j p q h => by simp at h, fun k q h => by simp at h⟩
  have hK : va_K (dC, dI) classes [] s := hK.sub [] rfl
  refine W.widen (k := 1) (n := 6) (Nat.le_of_ble_eq_true rfl) (Nat.le_of_ble_eq_true rfl) ?_
  refine lv_astore_n (lv' := [(3, .ref q9), (0, .ref h0), (1, .int k), (2, .ref ho)]) hx hb dL_walk_12 rfl hl (by decide) rfl (fun ls hl => ?_)
  refine lv_iconst (v := 1) hx hb dL_walk_13 (by decide) ?_
  have hP9 := hP.sub (ws' := []) [] rfl
  have hD9 := hD.sub (ws' := []) [] (by decide) rfl
  have hK9 := hK.sub (tys' := []) [] rfl
  refine W.widen (k := 1) (n := 6) (Nat.le_of_ble_eq_true rfl) (Nat.le_of_ble_eq_true rfl) ?_
  exact vx_ret (W.iret (v := 1) hx hb hr (fun t ht hW => ⟨⟨1, (), rfl, rfl, by rw [ht]; exact hP9, va_K.moved hW.alike hK9, hD9⟩, hS.F ht⟩) hS.2.2 dL_walk_14)
set_option maxHeartbeats 4000000 in
set_option maxRecDepth 100000 in
/-- l_misfit -/
theorem c_l_misfit (l : Launch) (hlt : l.stackTraces = false) (dC : Nat → ClassId) (dI : Nat → Nat → Nat) (h0 : Nat) (k : Int32) (ho : Nat) (h1 : Nat) (v0 : Value) (v1 : Value) (v2 : Value) (v3 : Value) (v4 : Value) (v5 : Value) (v7 : Value) (v8 : Value) (v9 : Value) (v10 : Value) (v11 : Value) (v12 : Value) (v13 : Value) (cZ : ClassId) (sa : Nat) (sz : Nat) : vx_Met l yL_misfit (.codeWith yL_misfit cL_misfit 4 (some .int) [(0, 9, 12, 13)] :: wU) ({ frames := 8, cells := 1, slots := 6, locals := 125 } : Room) (va_Pc [.ref h0, .int k, .ref ho] (fun U => P5 dC dI [(h0, .inr (10, [v0, v1, v2, v3, v4, v5, .ref h1, v7, v8, v9, v10, v11, v12, v13])), (h1, .inl (cZ, 8, .inl (fun _ => 0)))] [(cZ, .boolean)] sz U ∧ Tn (va_A [(h0, .inr (10, [v0, v1, v2, v3, v4, v5, .ref h1, v7, v8, v9, v10, v11, v12, v13])), (h1, .inl (cZ, 8, .inl (fun _ => 0)))] sz) sa U)) (va_Qi (fun (r : Int32) (_ : Unit) => r = 1) (fun _ t => P3 dC dI (va_A [(h0, .inr (10, [v0, v1, v2, v3, v4, v5, .ref h1, v7, v8, v9, v10, v11, v12, v13])), (h1, .inl (cZ, 8, .inl (fun _ => 0)))] sz) [] [] t) (va_A [(h0, .inr (10, [v0, v1, v2, v3, v4, v5, .ref h1, v7, v8, v9, v10, v11, v12, v13])), (h1, .inl (cZ, 8, .inl (fun _ => 0)))] sz)) (vx_X (fun _ : Unit => False) (fun _ _ _ => False) (va_A [(h0, .inr (10, [v0, v1, v2, v3, v4, v5, .ref h1, v7, v8, v9, v10, v11, v12, v13])), (h1, .inl (cZ, 8, .inl (fun _ => 0)))] sz)) 1 6 (va_A [(h0, .inr (10, [v0, v1, v2, v3, v4, v5, .ref h1, v7, v8, v9, v10, v11, v12, v13])), (h1, .inl (cZ, 8, .inl (fun _ => 0)))] sz) := by
  refine vx_ofWH (cc := cL_misfit) (maxL := 4) (ret := (some .int)) (hh := [(0, 9, 12, 13)]) (by decide) rfl ?_
  intro p e s m args below meth c s₁ B hml hv
  obtain ⟨rfl, ⟨hsz, hP, hK, hD0, hE⟩, hT⟩ := hv
  have hx := B.exec
  have hb := B.bytes
  have hr := B.returns
  have hts0 := atoms_spec (ws := (.codeWith yL_misfit cL_misfit 4 (some .int) [(0, 9, 12, 13)] :: wU)) B.pre
  have hts : ∀ w ∈ wU, w.before _ s = true := fun w h => hts0 w (List.mem_cons_of_mem _ h)
  have hown : s.vm.findClass "SpineTablesLaw" = some m.cls := findClass_of_methodNamed B.named
  have hlocks := B.notSynchronized
  have htab := vx_table B (hts0 _ List.mem_cons_self)
  subst hsz
  have hD := hD0.self (sz := s.heap.size)
  generalize hAe : va_A [(h0, .inr (10, [v0, v1, v2, v3, v4, v5, .ref h1, v7, v8, v9, v10, v11, v12, v13])), (h1, .inl (cZ, 8, .inl (fun _ => 0)))] s.heap.size = A at hT hD ⊢
  have hA : ∀ q : Nat, s.heap.size ≤ q → A q := fun q h => by rw [← hAe]; exact Or.inr h
  have hP : va_P (dC, dI) classes [(h0, .inr (10, [v0, v1, v2, v3, v4, v5, .ref h1, v7, v8, v9, v10, v11, v12, v13])), (h1, .inl (cZ, 8, .inl (fun _ => 0)))] s.heap := hP
  have hl := lv_entry ([.ref h0, .int k, .ref ho]) (n := 4) (Nat.le_of_ble_eq_true rfl)
  rw [lg_entry_eq]
  generalize (lg_sl ([.ref h0, .int k, .ref ho]) ++ List.replicate (4 - (lg_sl ([.ref h0, .int k, .ref ho])).length) Slot.unset).toArray = ls at hl ⊢
  have hl : lv_has ls 4 [(0, .ref h0), (1, .int k), (2, .ref ho)] := hl
  obtain ⟨H, hH⟩ : ∃ H, H = s.heap := ⟨_, rfl⟩
  rw [← hH] at hP
  have hS : va_S A s.heap H [] := by rw [hH]; exact va_S.rf
  refine w_heap hH ?_
  refine lv_aload_n hx hb dL_misfit_0 rfl (lv_at hl 2 rfl) ?_
  refine lv_iconst (v := 0) hx hb dL_misfit_1 (by decide) ?_
  refine lv_aload_n hx hb dL_misfit_2 rfl (lv_at hl 0 rfl) ?_
  refine lv_iload_n hx hb dL_misfit_3 rfl (lv_at hl 1 rfl) ?_
  have hPc := hP.sub (ws' := [(h0, .inr (10, [v0, v1, v2, v3, v4, v5, .ref h1, v7, v8, v9, v10, v11, v12, v13])), (h1, .inl (cZ, 8, .inl (fun _ => 0)))]) [0, 1] rfl
  have hDc := hD.sub (ws' := [(h0, .inr (10, [v0, v1, v2, v3, v4, v5, .ref h1, v7, v8, v9, v10, v11, v12, v13])), (h1, .inl (cZ, 8, .inl (fun _ => 0)))]) [0, 1] (by decide) rfl
  have hKc := hK.sub (tys' := [(cZ, .boolean)]) [0] rfl
  have hFc := va_free (wc := [(h0, .inr (10, [v0, v1, v2, v3, v4, v5, .ref h1, v7, v8, v9, v10, v11, v12, v13])), (h1, .inl (cZ, 8, .inl (fun _ => 0)))]) hD hS hA [0, 1] rfl
  refine vy_callX (vx_runV (As := [.int k]) (rest := [.int 0, .ref ho]) ⟨hx, hb, hml, hown, hts⟩ (c_x_misfit l hlt dC dI h0 k h1 v0 v1 v2 v3 v4 v5 v7 v8 v9 v10 v11 v12 v13 cZ sa H.size) (cwV 1 hts (goV wd_229 wd_230 wd_228 wd_191 wd_227) rfl rfl rfl (by decide +kernel) ⟨Nat.le_of_ble_eq_true rfl, Nat.le_of_ble_eq_true rfl⟩) ⟨blind6, va_recv hKc hPc (ci := 10) (q0 := 0) rfl rfl, fun U hU hW => ⟨rfl, pre6 hU hW hPc hKc hDc hE (hT.call hS hFc)⟩⟩ rfl rfl hl.1 rfl (lv_room (Nat.le_of_ble_eq_true rfl)) dL_misfit_4 ⟨Nat.le_of_ble_eq_true rfl, Nat.le_of_ble_eq_true rfl⟩) hS hFc (fun q _ h => hFc q h) (fun E ce q9 u t H locs ht hvm hw hB hz1 hk1 hS hce hcv hcl => ?_)
  obtain rfl : E = _ := hB
  refine vy_catch (name := "java/lang/IndexOutOfBoundsException") hown ⟨0, 9, 12, 13⟩ _ (by rw [htab]; rfl) (by decide) (by decide) (hts _ wd_202) (va_Nw.use rfl (hE.1 _ (List.mem_of_getElem? (i := 11) rfl))) hce hcv hcl ?_
  refine W.eq (g2 := F0 m 12 ls [.ref q9]) rfl ?_
  have hP : va_P (dC, dI) classes [] H := fun k q h => by simp at h
  have hD : va_D A [] := ⟨fun i j p q h => by simp at h, fun k q h => by simp at h⟩
  have hK : va_K (dC, dI) classes [] s := hK.sub [] rfl
  refine W.widen (k := 1) (n := 6) (Nat.le_of_ble_eq_true rfl) (Nat.le_of_ble_eq_true rfl) ?_
  refine lv_astore_n (lv' := [(3, .ref q9), (0, .ref h0), (1, .int k), (2, .ref ho)]) hx hb dL_misfit_12 rfl hl (by decide) rfl (fun ls hl => ?_)
  refine lv_iconst (v := 1) hx hb dL_misfit_13 (by decide) ?_
  have hP9 := hP.sub (ws' := []) [] rfl
  have hD9 := hD.sub (ws' := []) [] (by decide) rfl
  have hK9 := hK.sub (tys' := []) [] rfl
  refine W.widen (k := 1) (n := 6) (Nat.le_of_ble_eq_true rfl) (Nat.le_of_ble_eq_true rfl) ?_
  exact vx_ret (W.iret (v := 1) hx hb hr (fun t ht hW => ⟨⟨1, (), rfl, rfl, by rw [ht]; exact hP9, va_K.moved hW.alike hK9, hD9⟩, hS.F ht⟩) hS.2.2 dL_misfit_14)
set_option maxHeartbeats 4000000 in
set_option maxRecDepth 100000 in
/-- l_time -/
theorem c_l_time (l : Launch) (hlt : l.stackTraces = false) (dC : Nat → ClassId) (dI : Nat → Nat → Nat) (h0 : Nat) (k : Int32) (k1 : Int32) (k2 : Int32) (ho : Nat) (h1 : Nat) (v0 : Value) (v1 : Value) (v2 : Value) (v3 : Value) (v4 : Value) (v5 : Value) (v7 : Value) (v8 : Value) (v9 : Value) (v10 : Value) (v11 : Value) (v12 : Value) (v13 : Value) (cZ : ClassId) (sa : Nat) (sz : Nat) : vx_Met l yL_time (.codeWith yL_time cL_time 6 (some .int) [(0, 12, 15, 13), (0, 12, 19, 19), (0, 12, 23, 44)] :: wU) ({ frames := 8, cells := 1, slots := 6, locals := 128 } : Room) (va_Pc [.ref h0, .int k, .int k1, .int k2, .ref ho] (fun U => P5 dC dI [(h0, .inr (10, [v0, v1, v2, v3, v4, v5, .ref h1, v7, v8, v9, v10, v11, v12, v13])), (h1, .inl (cZ, 8, .inl (fun _ => 0)))] [(cZ, .boolean)] sz U ∧ Tn (va_A [(h0, .inr (10, [v0, v1, v2, v3, v4, v5, .ref h1, v7, v8, v9, v10, v11, v12, v13])), (h1, .inl (cZ, 8, .inl (fun _ => 0)))] sz) sa U)) (va_Qi (fun (r : Int32) (_ : Unit) => r = 1) (fun _ t => P3 dC dI (va_A [(h0, .inr (10, [v0, v1, v2, v3, v4, v5, .ref h1, v7, v8, v9, v10, v11, v12, v13])), (h1, .inl (cZ, 8, .inl (fun _ => 0)))] sz) [] [] t) (va_A [(h0, .inr (10, [v0, v1, v2, v3, v4, v5, .ref h1, v7, v8, v9, v10, v11, v12, v13])), (h1, .inl (cZ, 8, .inl (fun _ => 0)))] sz)) (vx_X (fun _ : Unit => False) (fun _ _ _ => False) (va_A [(h0, .inr (10, [v0, v1, v2, v3, v4, v5, .ref h1, v7, v8, v9, v10, v11, v12, v13])), (h1, .inl (cZ, 8, .inl (fun _ => 0)))] sz)) 1 6 (va_A [(h0, .inr (10, [v0, v1, v2, v3, v4, v5, .ref h1, v7, v8, v9, v10, v11, v12, v13])), (h1, .inl (cZ, 8, .inl (fun _ => 0)))] sz) := by
  refine vx_ofWH (cc := cL_time) (maxL := 6) (ret := (some .int)) (hh := [(0, 12, 15, 13), (0, 12, 19, 19), (0, 12, 23, 44)]) (by decide) rfl ?_
  intro p e s m args below meth c s₁ B hml hv
  obtain ⟨rfl, ⟨hsz, hP, hK, hD0, hE⟩, hT⟩ := hv
  have hx := B.exec
  have hb := B.bytes
  have hr := B.returns
  have hts0 := atoms_spec (ws := (.codeWith yL_time cL_time 6 (some .int) [(0, 12, 15, 13), (0, 12, 19, 19), (0, 12, 23, 44)] :: wU)) B.pre
  have hts : ∀ w ∈ wU, w.before _ s = true := fun w h => hts0 w (List.mem_cons_of_mem _ h)
  have hown : s.vm.findClass "SpineTablesLaw" = some m.cls := findClass_of_methodNamed B.named
  have hlocks := B.notSynchronized
  have htab := vx_table B (hts0 _ List.mem_cons_self)
  subst hsz
  have hD := hD0.self (sz := s.heap.size)
  generalize hAe : va_A [(h0, .inr (10, [v0, v1, v2, v3, v4, v5, .ref h1, v7, v8, v9, v10, v11, v12, v13])), (h1, .inl (cZ, 8, .inl (fun _ => 0)))] s.heap.size = A at hT hD ⊢
  have hA : ∀ q : Nat, s.heap.size ≤ q → A q := fun q h => by rw [← hAe]; exact Or.inr h
  have hP : va_P (dC, dI) classes [(h0, .inr (10, [v0, v1, v2, v3, v4, v5, .ref h1, v7, v8, v9, v10, v11, v12, v13])), (h1, .inl (cZ, 8, .inl (fun _ => 0)))] s.heap := hP
  have hl := lv_entry ([.ref h0, .int k, .int k1, .int k2, .ref ho]) (n := 6) (Nat.le_of_ble_eq_true rfl)
  rw [lg_entry_eq]
  generalize (lg_sl ([.ref h0, .int k, .int k1, .int k2, .ref ho]) ++ List.replicate (6 - (lg_sl ([.ref h0, .int k, .int k1, .int k2, .ref ho])).length) Slot.unset).toArray = ls at hl ⊢
  have hl : lv_has ls 6 [(0, .ref h0), (1, .int k), (2, .int k1), (3, .int k2), (4, .ref ho)] := hl
  obtain ⟨H, hH⟩ : ∃ H, H = s.heap := ⟨_, rfl⟩
  rw [← hH] at hP
  have hS : va_S A s.heap H [] := by rw [hH]; exact va_S.rf
  refine w_heap hH ?_
  refine lv_aload hx hb dL_time_0 (lv_at hl 4 rfl) ?_
  refine lv_iconst (v := 0) hx hb dL_time_2 (by decide) ?_
  refine lv_aload_n hx hb dL_time_3 rfl (lv_at hl 0 rfl) ?_
  refine lv_iload_n hx hb dL_time_4 rfl (lv_at hl 1 rfl) ?_
  refine lv_iload_n hx hb dL_time_5 rfl (lv_at hl 2 rfl) ?_
  refine lv_iload_n hx hb dL_time_6 rfl (lv_at hl 3 rfl) ?_
  have hPc := hP.sub (ws' := [(h0, .inr (10, [v0, v1, v2, v3, v4, v5, .ref h1, v7, v8, v9, v10, v11, v12, v13])), (h1, .inl (cZ, 8, .inl (fun _ => 0)))]) [0, 1] rfl
  have hDc := hD.sub (ws' := [(h0, .inr (10, [v0, v1, v2, v3, v4, v5, .ref h1, v7, v8, v9, v10, v11, v12, v13])), (h1, .inl (cZ, 8, .inl (fun _ => 0)))]) [0, 1] (by decide) rfl
  have hKc := hK.sub (tys' := [(cZ, .boolean)]) [0] rfl
  have hFc := va_free (wc := [(h0, .inr (10, [v0, v1, v2, v3, v4, v5, .ref h1, v7, v8, v9, v10, v11, v12, v13])), (h1, .inl (cZ, 8, .inl (fun _ => 0)))]) hD hS hA [0, 1] rfl
  refine vy_callX (vx_runV (As := [.int k, .int k1, .int k2]) (rest := [.int 0, .ref ho]) ⟨hx, hb, hml, hown, hts⟩ (c_x_time l hlt dC dI h0 k k1 k2 h1 v0 v1 v2 v3 v4 v5 v7 v8 v9 v10 v11 v12 v13 cZ sa H.size) (cwV 3 hts (goV wd_233 wd_234 wd_232 wd_191 wd_231) rfl rfl rfl (by decide +kernel) ⟨Nat.le_of_ble_eq_true rfl, Nat.le_of_ble_eq_true rfl⟩) ⟨blind6, va_recv hKc hPc (ci := 10) (q0 := 0) rfl rfl, fun U hU hW => ⟨rfl, pre6 hU hW hPc hKc hDc hE (hT.call hS hFc)⟩⟩ rfl rfl hl.1 rfl (lv_room (Nat.le_of_ble_eq_true rfl)) dL_time_7 ⟨Nat.le_of_ble_eq_true rfl, Nat.le_of_ble_eq_true rfl⟩) hS hFc (fun q _ h => hFc q h) (fun E ce q9 u t H locs ht hvm hw hB hz1 hk1 hS hce hcv hcl => ?_)
  obtain rfl : E = _ := hB
  refine vy_catch (name := "java/lang/IndexOutOfBoundsException") hown ⟨0, 12, 15, 13⟩ _ (by rw [htab]; rfl) (by decide) (by decide) (hts _ wd_202) (va_Nw.use rfl (hE.1 _ (List.mem_of_getElem? (i := 11) rfl))) hce hcv hcl ?_
  refine W.eq (g2 := F0 m 15 ls [.ref q9]) rfl ?_
  have hP : va_P (dC, dI) classes [] H := fun k q h => by simp at h
  have hD : va_D A [] := ⟨fun i j p q h => by simp at h, fun k q h => by simp at h⟩
  have hK : va_K (dC, dI) classes [] s := hK.sub [] rfl
  refine W.widen (k := 1) (n := 6) (Nat.le_of_ble_eq_true rfl) (Nat.le_of_ble_eq_true rfl) ?_
  refine lv_astore (lv' := [(5, .ref q9), (0, .ref h0), (1, .int k), (2, .int k1), (3, .int k2), (4, .ref ho)]) hx hb dL_time_15 hl (by decide) rfl (fun ls hl => ?_)
  refine lv_iconst (v := 1) hx hb dL_time_17 (by decide) ?_
  have hP9 := hP.sub (ws' := []) [] rfl
  have hD9 := hD.sub (ws' := []) [] (by decide) rfl
  have hK9 := hK.sub (tys' := []) [] rfl
  refine W.widen (k := 1) (n := 6) (Nat.le_of_ble_eq_true rfl) (Nat.le_of_ble_eq_true rfl) ?_
  exact vx_ret (W.iret (v := 1) hx hb hr (fun t ht hW => ⟨⟨1, (), rfl, rfl, by rw [ht]; exact hP9, va_K.moved hW.alike hK9, hD9⟩, hS.F ht⟩) hS.2.2 dL_time_18)
set_option maxHeartbeats 4000000 in
set_option maxRecDepth 100000 in
/-- l_length -/
theorem c_l_length (l : Launch) (hlt : l.stackTraces = false) (dC : Nat → ClassId) (dI : Nat → Nat → Nat) (h0 : Nat) (k : Int32) (k1 : Int32) (k2 : Int32) (k3 : Int32) (ho : Nat) (h1 : Nat) (v0 : Value) (v1 : Value) (v2 : Value) (v3 : Value) (v4 : Value) (v5 : Value) (v7 : Value) (v8 : Value) (v9 : Value) (v10 : Value) (v11 : Value) (v12 : Value) (v13 : Value) (cZ : ClassId) (sa : Nat) (sz : Nat) : vx_Met l yL_length (.codeWith yL_length cL_length 7 (some .int) [(0, 14, 17, 13), (0, 14, 21, 19), (0, 14, 25, 44)] :: wU) ({ frames := 8, cells := 1, slots := 6, locals := 130 } : Room) (va_Pc [.ref h0, .int k, .int k1, .int k2, .int k3, .ref ho] (fun U => P5 dC dI [(h0, .inr (10, [v0, v1, v2, v3, v4, v5, .ref h1, v7, v8, v9, v10, v11, v12, v13])), (h1, .inl (cZ, 8, .inl (fun _ => 0)))] [(cZ, .boolean)] sz U ∧ Tn (va_A [(h0, .inr (10, [v0, v1, v2, v3, v4, v5, .ref h1, v7, v8, v9, v10, v11, v12, v13])), (h1, .inl (cZ, 8, .inl (fun _ => 0)))] sz) sa U)) (va_Qi (fun (r : Int32) (_ : Unit) => r = 1) (fun _ t => P3 dC dI (va_A [(h0, .inr (10, [v0, v1, v2, v3, v4, v5, .ref h1, v7, v8, v9, v10, v11, v12, v13])), (h1, .inl (cZ, 8, .inl (fun _ => 0)))] sz) [] [] t) (va_A [(h0, .inr (10, [v0, v1, v2, v3, v4, v5, .ref h1, v7, v8, v9, v10, v11, v12, v13])), (h1, .inl (cZ, 8, .inl (fun _ => 0)))] sz)) (vx_X (fun _ : Unit => False) (fun _ _ _ => False) (va_A [(h0, .inr (10, [v0, v1, v2, v3, v4, v5, .ref h1, v7, v8, v9, v10, v11, v12, v13])), (h1, .inl (cZ, 8, .inl (fun _ => 0)))] sz)) 1 6 (va_A [(h0, .inr (10, [v0, v1, v2, v3, v4, v5, .ref h1, v7, v8, v9, v10, v11, v12, v13])), (h1, .inl (cZ, 8, .inl (fun _ => 0)))] sz) := by
  refine vx_ofWH (cc := cL_length) (maxL := 7) (ret := (some .int)) (hh := [(0, 14, 17, 13), (0, 14, 21, 19), (0, 14, 25, 44)]) (by decide) rfl ?_
  intro p e s m args below meth c s₁ B hml hv
  obtain ⟨rfl, ⟨hsz, hP, hK, hD0, hE⟩, hT⟩ := hv
  have hx := B.exec
  have hb := B.bytes
  have hr := B.returns
  have hts0 := atoms_spec (ws := (.codeWith yL_length cL_length 7 (some .int) [(0, 14, 17, 13), (0, 14, 21, 19), (0, 14, 25, 44)] :: wU)) B.pre
  have hts : ∀ w ∈ wU, w.before _ s = true := fun w h => hts0 w (List.mem_cons_of_mem _ h)
  have hown : s.vm.findClass "SpineTablesLaw" = some m.cls := findClass_of_methodNamed B.named
  have hlocks := B.notSynchronized
  have htab := vx_table B (hts0 _ List.mem_cons_self)
  subst hsz
  have hD := hD0.self (sz := s.heap.size)
  generalize hAe : va_A [(h0, .inr (10, [v0, v1, v2, v3, v4, v5, .ref h1, v7, v8, v9, v10, v11, v12, v13])), (h1, .inl (cZ, 8, .inl (fun _ => 0)))] s.heap.size = A at hT hD ⊢
  have hA : ∀ q : Nat, s.heap.size ≤ q → A q := fun q h => by rw [← hAe]; exact Or.inr h
  have hP : va_P (dC, dI) classes [(h0, .inr (10, [v0, v1, v2, v3, v4, v5, .ref h1, v7, v8, v9, v10, v11, v12, v13])), (h1, .inl (cZ, 8, .inl (fun _ => 0)))] s.heap := hP
  have hl := lv_entry ([.ref h0, .int k, .int k1, .int k2, .int k3, .ref ho]) (n := 7) (Nat.le_of_ble_eq_true rfl)
  rw [lg_entry_eq]
  generalize (lg_sl ([.ref h0, .int k, .int k1, .int k2, .int k3, .ref ho]) ++ List.replicate (7 - (lg_sl ([.ref h0, .int k, .int k1, .int k2, .int k3, .ref ho])).length) Slot.unset).toArray = ls at hl ⊢
  have hl : lv_has ls 7 [(0, .ref h0), (1, .int k), (2, .int k1), (3, .int k2), (4, .int k3), (5, .ref ho)] := hl
  obtain ⟨H, hH⟩ : ∃ H, H = s.heap := ⟨_, rfl⟩
  rw [← hH] at hP
  have hS : va_S A s.heap H [] := by rw [hH]; exact va_S.rf
  refine w_heap hH ?_
  refine lv_aload hx hb dL_length_0 (lv_at hl 5 rfl) ?_
  refine lv_iconst (v := 0) hx hb dL_length_2 (by decide) ?_
  refine lv_aload_n hx hb dL_length_3 rfl (lv_at hl 0 rfl) ?_
  refine lv_iload_n hx hb dL_length_4 rfl (lv_at hl 1 rfl) ?_
  refine lv_iload_n hx hb dL_length_5 rfl (lv_at hl 2 rfl) ?_
  refine lv_iload_n hx hb dL_length_6 rfl (lv_at hl 3 rfl) ?_
  refine lv_iload hx hb dL_length_7 (lv_at hl 4 rfl) ?_
  have hPc := hP.sub (ws' := [(h0, .inr (10, [v0, v1, v2, v3, v4, v5, .ref h1, v7, v8, v9, v10, v11, v12, v13])), (h1, .inl (cZ, 8, .inl (fun _ => 0)))]) [0, 1] rfl
  have hDc := hD.sub (ws' := [(h0, .inr (10, [v0, v1, v2, v3, v4, v5, .ref h1, v7, v8, v9, v10, v11, v12, v13])), (h1, .inl (cZ, 8, .inl (fun _ => 0)))]) [0, 1] (by decide) rfl
  have hKc := hK.sub (tys' := [(cZ, .boolean)]) [0] rfl
  have hFc := va_free (wc := [(h0, .inr (10, [v0, v1, v2, v3, v4, v5, .ref h1, v7, v8, v9, v10, v11, v12, v13])), (h1, .inl (cZ, 8, .inl (fun _ => 0)))]) hD hS hA [0, 1] rfl
  refine vy_callX (vx_runV (As := [.int k, .int k1, .int k2, .int k3]) (rest := [.int 0, .ref ho]) ⟨hx, hb, hml, hown, hts⟩ (c_x_length l hlt dC dI h0 k k1 k2 k3 h1 v0 v1 v2 v3 v4 v5 v7 v8 v9 v10 v11 v12 v13 cZ sa H.size) (cwV 4 hts (goV wd_237 wd_238 wd_236 wd_191 wd_235) rfl rfl rfl (by decide +kernel) ⟨Nat.le_of_ble_eq_true rfl, Nat.le_of_ble_eq_true rfl⟩) ⟨blind6, va_recv hKc hPc (ci := 10) (q0 := 0) rfl rfl, fun U hU hW => ⟨rfl, pre6 hU hW hPc hKc hDc hE (hT.call hS hFc)⟩⟩ rfl rfl hl.1 rfl (lv_room (Nat.le_of_ble_eq_true rfl)) dL_length_9 ⟨Nat.le_of_ble_eq_true rfl, Nat.le_of_ble_eq_true rfl⟩) hS hFc (fun q _ h => hFc q h) (fun E ce q9 u t H locs ht hvm hw hB hz1 hk1 hS hce hcv hcl => ?_)
  obtain rfl : E = _ := hB
  refine vy_catch (name := "java/lang/IndexOutOfBoundsException") hown ⟨0, 14, 17, 13⟩ _ (by rw [htab]; rfl) (by decide) (by decide) (hts _ wd_202) (va_Nw.use rfl (hE.1 _ (List.mem_of_getElem? (i := 11) rfl))) hce hcv hcl ?_
  refine W.eq (g2 := F0 m 17 ls [.ref q9]) rfl ?_
  have hP : va_P (dC, dI) classes [] H := fun k q h => by simp at h
  have hD : va_D A [] := ⟨fun i j p q h => by simp at h, fun k q h => by simp at h⟩
  have hK : va_K (dC, dI) classes [] s := hK.sub [] rfl
  refine W.widen (k := 1) (n := 6) (Nat.le_of_ble_eq_true rfl) (Nat.le_of_ble_eq_true rfl) ?_
  refine lv_astore (lv' := [(6, .ref q9), (0, .ref h0), (1, .int k), (2, .int k1), (3, .int k2), (4, .int k3), (5, .ref ho)]) hx hb dL_length_17 hl (by decide) rfl (fun ls hl => ?_)
  refine lv_iconst (v := 1) hx hb dL_length_19 (by decide) ?_
  have hP9 := hP.sub (ws' := []) [] rfl
  have hD9 := hD.sub (ws' := []) [] (by decide) rfl
  have hK9 := hK.sub (tys' := []) [] rfl
  refine W.widen (k := 1) (n := 6) (Nat.le_of_ble_eq_true rfl) (Nat.le_of_ble_eq_true rfl) ?_
  exact vx_ret (W.iret (v := 1) hx hb hr (fun t ht hW => ⟨⟨1, (), rfl, rfl, by rw [ht]; exact hP9, va_K.moved hW.alike hK9, hD9⟩, hS.F ht⟩) hS.2.2 dL_length_20)
set_option maxHeartbeats 4000000 in
set_option maxRecDepth 100000 in
/-- l_bars -/
theorem c_l_bars (l : Launch) (hlt : l.stackTraces = false) (dC : Nat → ClassId) (dI : Nat → Nat → Nat) (h0 : Nat) (k : Int32) (ho : Nat) (h1 : Nat) (v0 : Value) (v1 : Value) (v2 : Value) (v3 : Value) (v4 : Value) (v5 : Value) (v7 : Value) (v8 : Value) (v9 : Value) (v10 : Value) (v11 : Value) (v12 : Value) (v13 : Value) (cZ : ClassId) (sa : Nat) (sz : Nat) : vx_Met l yL_bars (.codeWith yL_bars cL_bars 4 (some .int) [(0, 9, 12, 13), (0, 9, 15, 44)] :: wU) ({ frames := 8, cells := 1, slots := 6, locals := 126 } : Room) (va_Pc [.ref h0, .int k, .ref ho] (fun U => P5 dC dI [(h0, .inr (10, [v0, v1, v2, v3, v4, v5, .ref h1, v7, v8, v9, v10, v11, v12, v13])), (h1, .inl (cZ, 8, .inl (fun _ => 0)))] [(cZ, .boolean)] sz U ∧ Tn (va_A [(h0, .inr (10, [v0, v1, v2, v3, v4, v5, .ref h1, v7, v8, v9, v10, v11, v12, v13])), (h1, .inl (cZ, 8, .inl (fun _ => 0)))] sz) sa U)) (va_Qi (fun (r : Int32) (_ : Unit) => r = 1) (fun _ t => P3 dC dI (va_A [(h0, .inr (10, [v0, v1, v2, v3, v4, v5, .ref h1, v7, v8, v9, v10, v11, v12, v13])), (h1, .inl (cZ, 8, .inl (fun _ => 0)))] sz) [] [] t) (va_A [(h0, .inr (10, [v0, v1, v2, v3, v4, v5, .ref h1, v7, v8, v9, v10, v11, v12, v13])), (h1, .inl (cZ, 8, .inl (fun _ => 0)))] sz)) (vx_X (fun _ : Unit => False) (fun _ _ _ => False) (va_A [(h0, .inr (10, [v0, v1, v2, v3, v4, v5, .ref h1, v7, v8, v9, v10, v11, v12, v13])), (h1, .inl (cZ, 8, .inl (fun _ => 0)))] sz)) 1 6 (va_A [(h0, .inr (10, [v0, v1, v2, v3, v4, v5, .ref h1, v7, v8, v9, v10, v11, v12, v13])), (h1, .inl (cZ, 8, .inl (fun _ => 0)))] sz) := by
  refine vx_ofWH (cc := cL_bars) (maxL := 4) (ret := (some .int)) (hh := [(0, 9, 12, 13), (0, 9, 15, 44)]) (by decide) rfl ?_
  intro p e s m args below meth c s₁ B hml hv
  obtain ⟨rfl, ⟨hsz, hP, hK, hD0, hE⟩, hT⟩ := hv
  have hx := B.exec
  have hb := B.bytes
  have hr := B.returns
  have hts0 := atoms_spec (ws := (.codeWith yL_bars cL_bars 4 (some .int) [(0, 9, 12, 13), (0, 9, 15, 44)] :: wU)) B.pre
  have hts : ∀ w ∈ wU, w.before _ s = true := fun w h => hts0 w (List.mem_cons_of_mem _ h)
  have hown : s.vm.findClass "SpineTablesLaw" = some m.cls := findClass_of_methodNamed B.named
  have hlocks := B.notSynchronized
  have htab := vx_table B (hts0 _ List.mem_cons_self)
  subst hsz
  have hD := hD0.self (sz := s.heap.size)
  generalize hAe : va_A [(h0, .inr (10, [v0, v1, v2, v3, v4, v5, .ref h1, v7, v8, v9, v10, v11, v12, v13])), (h1, .inl (cZ, 8, .inl (fun _ => 0)))] s.heap.size = A at hT hD ⊢
  have hA : ∀ q : Nat, s.heap.size ≤ q → A q := fun q h => by rw [← hAe]; exact Or.inr h
  have hP : va_P (dC, dI) classes [(h0, .inr (10, [v0, v1, v2, v3, v4, v5, .ref h1, v7, v8, v9, v10, v11, v12, v13])), (h1, .inl (cZ, 8, .inl (fun _ => 0)))] s.heap := hP
  have hl := lv_entry ([.ref h0, .int k, .ref ho]) (n := 4) (Nat.le_of_ble_eq_true rfl)
  rw [lg_entry_eq]
  generalize (lg_sl ([.ref h0, .int k, .ref ho]) ++ List.replicate (4 - (lg_sl ([.ref h0, .int k, .ref ho])).length) Slot.unset).toArray = ls at hl ⊢
  have hl : lv_has ls 4 [(0, .ref h0), (1, .int k), (2, .ref ho)] := hl
  obtain ⟨H, hH⟩ : ∃ H, H = s.heap := ⟨_, rfl⟩
  rw [← hH] at hP
  have hS : va_S A s.heap H [] := by rw [hH]; exact va_S.rf
  refine w_heap hH ?_
  refine lv_aload_n hx hb dL_bars_0 rfl (lv_at hl 2 rfl) ?_
  refine lv_iconst (v := 0) hx hb dL_bars_1 (by decide) ?_
  refine lv_aload_n hx hb dL_bars_2 rfl (lv_at hl 0 rfl) ?_
  refine lv_iload_n hx hb dL_bars_3 rfl (lv_at hl 1 rfl) ?_
  have hPc := hP.sub (ws' := [(h0, .inr (10, [v0, v1, v2, v3, v4, v5, .ref h1, v7, v8, v9, v10, v11, v12, v13])), (h1, .inl (cZ, 8, .inl (fun _ => 0)))]) [0, 1] rfl
  have hDc := hD.sub (ws' := [(h0, .inr (10, [v0, v1, v2, v3, v4, v5, .ref h1, v7, v8, v9, v10, v11, v12, v13])), (h1, .inl (cZ, 8, .inl (fun _ => 0)))]) [0, 1] (by decide) rfl
  have hKc := hK.sub (tys' := [(cZ, .boolean)]) [0] rfl
  have hFc := va_free (wc := [(h0, .inr (10, [v0, v1, v2, v3, v4, v5, .ref h1, v7, v8, v9, v10, v11, v12, v13])), (h1, .inl (cZ, 8, .inl (fun _ => 0)))]) hD hS hA [0, 1] rfl
  refine vy_callX (vx_runV (As := [.int k]) (rest := [.int 0, .ref ho]) ⟨hx, hb, hml, hown, hts⟩ (c_x_bars l hlt dC dI h0 k h1 v0 v1 v2 v3 v4 v5 v7 v8 v9 v10 v11 v12 v13 cZ sa H.size) (cwV 1 hts (goV wd_241 wd_242 wd_240 wd_191 wd_239) rfl rfl rfl (by decide +kernel) ⟨Nat.le_of_ble_eq_true rfl, Nat.le_of_ble_eq_true rfl⟩) ⟨blind6, va_recv hKc hPc (ci := 10) (q0 := 0) rfl rfl, fun U hU hW => ⟨rfl, pre6 hU hW hPc hKc hDc hE (hT.call hS hFc)⟩⟩ rfl rfl hl.1 rfl (lv_room (Nat.le_of_ble_eq_true rfl)) dL_bars_4 ⟨Nat.le_of_ble_eq_true rfl, Nat.le_of_ble_eq_true rfl⟩) hS hFc (fun q _ h => hFc q h) (fun E ce q9 u t H locs ht hvm hw hB hz1 hk1 hS hce hcv hcl => ?_)
  obtain rfl : E = _ := hB
  refine vy_catch (name := "java/lang/IndexOutOfBoundsException") hown ⟨0, 9, 12, 13⟩ _ (by rw [htab]; rfl) (by decide) (by decide) (hts _ wd_202) (va_Nw.use rfl (hE.1 _ (List.mem_of_getElem? (i := 11) rfl))) hce hcv hcl ?_
  refine W.eq (g2 := F0 m 12 ls [.ref q9]) rfl ?_
  have hP : va_P (dC, dI) classes [] H := fun k q h => by simp at h
  have hD : va_D A [] := ⟨fun i j p q h => by simp at h, fun k q h => by simp at h⟩
  have hK : va_K (dC, dI) classes [] s := hK.sub [] rfl
  refine W.widen (k := 1) (n := 6) (Nat.le_of_ble_eq_true rfl) (Nat.le_of_ble_eq_true rfl) ?_
  refine lv_astore_n (lv' := [(3, .ref q9), (0, .ref h0), (1, .int k), (2, .ref ho)]) hx hb dL_bars_12 rfl hl (by decide) rfl (fun ls hl => ?_)
  refine lv_iconst (v := 1) hx hb dL_bars_13 (by decide) ?_
  have hP9 := hP.sub (ws' := []) [] rfl
  have hD9 := hD.sub (ws' := []) [] (by decide) rfl
  have hK9 := hK.sub (tys' := []) [] rfl
  refine W.widen (k := 1) (n := 6) (Nat.le_of_ble_eq_true rfl) (Nat.le_of_ble_eq_true rfl) ?_
  exact vx_ret (W.iret (v := 1) hx hb hr (fun t ht hW => ⟨⟨1, (), rfl, rfl, by rw [ht]; exact hP9, va_K.moved hW.alike hK9, hD9⟩, hS.F ht⟩) hS.2.2 dL_bars_14)
set_option maxHeartbeats 4000000 in
set_option maxRecDepth 100000 in
/-- l_extract -/
theorem c_l_extract (l : Launch) (hlt : l.stackTraces = false) (dC : Nat → ClassId) (dI : Nat → Nat → Nat) (h0 : Nat) (k : Int32) (ho : Nat) (h1 : Nat) (v0 : Value) (v1 : Value) (v2 : Value) (v3 : Value) (v4 : Value) (v5 : Value) (v7 : Value) (v8 : Value) (v9 : Value) (v10 : Value) (v11 : Value) (v12 : Value) (v13 : Value) (cZ : ClassId) (sa : Nat) (sz : Nat) : vx_Met l yL_extract (.codeWith yL_extract cL_extract 4 (some .int) [(0, 9, 12, 13)] :: wU) ({ frames := 8, cells := 1, slots := 6, locals := 130 } : Room) (va_Pc [.ref h0, .int k, .ref ho] (fun U => P5 dC dI [(h0, .inr (10, [v0, v1, v2, v3, v4, v5, .ref h1, v7, v8, v9, v10, v11, v12, v13])), (h1, .inl (cZ, 8, .inl (fun _ => 0)))] [(cZ, .boolean)] sz U ∧ Tn (va_A [(h0, .inr (10, [v0, v1, v2, v3, v4, v5, .ref h1, v7, v8, v9, v10, v11, v12, v13])), (h1, .inl (cZ, 8, .inl (fun _ => 0)))] sz) sa U)) (va_Qi (fun (r : Int32) (_ : Unit) => r = 1) (fun _ t => P3 dC dI (va_A [(h0, .inr (10, [v0, v1, v2, v3, v4, v5, .ref h1, v7, v8, v9, v10, v11, v12, v13])), (h1, .inl (cZ, 8, .inl (fun _ => 0)))] sz) [] [] t) (va_A [(h0, .inr (10, [v0, v1, v2, v3, v4, v5, .ref h1, v7, v8, v9, v10, v11, v12, v13])), (h1, .inl (cZ, 8, .inl (fun _ => 0)))] sz)) (vx_X (fun _ : Unit => False) (fun _ _ _ => False) (va_A [(h0, .inr (10, [v0, v1, v2, v3, v4, v5, .ref h1, v7, v8, v9, v10, v11, v12, v13])), (h1, .inl (cZ, 8, .inl (fun _ => 0)))] sz)) 1 6 (va_A [(h0, .inr (10, [v0, v1, v2, v3, v4, v5, .ref h1, v7, v8, v9, v10, v11, v12, v13])), (h1, .inl (cZ, 8, .inl (fun _ => 0)))] sz) := by
  refine vx_ofWH (cc := cL_extract) (maxL := 4) (ret := (some .int)) (hh := [(0, 9, 12, 13)]) (by decide) rfl ?_
  intro p e s m args below meth c s₁ B hml hv
  obtain ⟨rfl, ⟨hsz, hP, hK, hD0, hE⟩, hT⟩ := hv
  have hx := B.exec
  have hb := B.bytes
  have hr := B.returns
  have hts0 := atoms_spec (ws := (.codeWith yL_extract cL_extract 4 (some .int) [(0, 9, 12, 13)] :: wU)) B.pre
  have hts : ∀ w ∈ wU, w.before _ s = true := fun w h => hts0 w (List.mem_cons_of_mem _ h)
  have hown : s.vm.findClass "SpineTablesLaw" = some m.cls := findClass_of_methodNamed B.named
  have hlocks := B.notSynchronized
  have htab := vx_table B (hts0 _ List.mem_cons_self)
  subst hsz
  have hD := hD0.self (sz := s.heap.size)
  generalize hAe : va_A [(h0, .inr (10, [v0, v1, v2, v3, v4, v5, .ref h1, v7, v8, v9, v10, v11, v12, v13])), (h1, .inl (cZ, 8, .inl (fun _ => 0)))] s.heap.size = A at hT hD ⊢
  have hA : ∀ q : Nat, s.heap.size ≤ q → A q := fun q h => by rw [← hAe]; exact Or.inr h
  have hP : va_P (dC, dI) classes [(h0, .inr (10, [v0, v1, v2, v3, v4, v5, .ref h1, v7, v8, v9, v10, v11, v12, v13])), (h1, .inl (cZ, 8, .inl (fun _ => 0)))] s.heap := hP
  have hl := lv_entry ([.ref h0, .int k, .ref ho]) (n := 4) (Nat.le_of_ble_eq_true rfl)
  rw [lg_entry_eq]
  generalize (lg_sl ([.ref h0, .int k, .ref ho]) ++ List.replicate (4 - (lg_sl ([.ref h0, .int k, .ref ho])).length) Slot.unset).toArray = ls at hl ⊢
  have hl : lv_has ls 4 [(0, .ref h0), (1, .int k), (2, .ref ho)] := hl
  obtain ⟨H, hH⟩ : ∃ H, H = s.heap := ⟨_, rfl⟩
  rw [← hH] at hP
  have hS : va_S A s.heap H [] := by rw [hH]; exact va_S.rf
  refine w_heap hH ?_
  refine lv_aload_n hx hb dL_extract_0 rfl (lv_at hl 2 rfl) ?_
  refine lv_iconst (v := 0) hx hb dL_extract_1 (by decide) ?_
  refine lv_aload_n hx hb dL_extract_2 rfl (lv_at hl 0 rfl) ?_
  refine lv_iload_n hx hb dL_extract_3 rfl (lv_at hl 1 rfl) ?_
  have hPc := hP.sub (ws' := [(h0, .inr (10, [v0, v1, v2, v3, v4, v5, .ref h1, v7, v8, v9, v10, v11, v12, v13])), (h1, .inl (cZ, 8, .inl (fun _ => 0)))]) [0, 1] rfl
  have hDc := hD.sub (ws' := [(h0, .inr (10, [v0, v1, v2, v3, v4, v5, .ref h1, v7, v8, v9, v10, v11, v12, v13])), (h1, .inl (cZ, 8, .inl (fun _ => 0)))]) [0, 1] (by decide) rfl
  have hKc := hK.sub (tys' := [(cZ, .boolean)]) [0] rfl
  have hFc := va_free (wc := [(h0, .inr (10, [v0, v1, v2, v3, v4, v5, .ref h1, v7, v8, v9, v10, v11, v12, v13])), (h1, .inl (cZ, 8, .inl (fun _ => 0)))]) hD hS hA [0, 1] rfl
  refine vy_callX (vx_runV (As := [.int k]) (rest := [.int 0, .ref ho]) ⟨hx, hb, hml, hown, hts⟩ (c_x_extract l hlt dC dI h0 k h1 v0 v1 v2 v3 v4 v5 v7 v8 v9 v10 v11 v12 v13 cZ sa H.size) (cwV 1 hts (goV wd_245 wd_246 wd_244 wd_191 wd_243) rfl rfl rfl (by decide +kernel) ⟨Nat.le_of_ble_eq_true rfl, Nat.le_of_ble_eq_true rfl⟩) ⟨blind6, va_recv hKc hPc (ci := 10) (q0 := 0) rfl rfl, fun U hU hW => ⟨rfl, pre6 hU hW hPc hKc hDc hE (hT.call hS hFc)⟩⟩ rfl rfl hl.1 rfl (lv_room (Nat.le_of_ble_eq_true rfl)) dL_extract_4 ⟨Nat.le_of_ble_eq_true rfl, Nat.le_of_ble_eq_true rfl⟩) hS hFc (fun q _ h => hFc q h) (fun E ce q9 u t H locs ht hvm hw hB hz1 hk1 hS hce hcv hcl => ?_)
  obtain rfl : E = _ := hB
  refine vy_catch (name := "java/lang/IndexOutOfBoundsException") hown ⟨0, 9, 12, 13⟩ _ (by rw [htab]; rfl) (by decide) (by decide) (hts _ wd_202) (va_Nw.use rfl (hE.1 _ (List.mem_of_getElem? (i := 11) rfl))) hce hcv hcl ?_
  refine W.eq (g2 := F0 m 12 ls [.ref q9]) rfl ?_
  have hP : va_P (dC, dI) classes [] H := fun k q h => by simp at h
  have hD : va_D A [] := ⟨fun i j p q h => by simp at h, fun k q h => by simp at h⟩
  have hK : va_K (dC, dI) classes [] s := hK.sub [] rfl
  refine W.widen (k := 1) (n := 6) (Nat.le_of_ble_eq_true rfl) (Nat.le_of_ble_eq_true rfl) ?_
  refine lv_astore_n (lv' := [(3, .ref q9), (0, .ref h0), (1, .int k), (2, .ref ho)]) hx hb dL_extract_12 rfl hl (by decide) rfl (fun ls hl => ?_)
  refine lv_iconst (v := 1) hx hb dL_extract_13 (by decide) ?_
  have hP9 := hP.sub (ws' := []) [] rfl
  have hD9 := hD.sub (ws' := []) [] (by decide) rfl
  have hK9 := hK.sub (tys' := []) [] rfl
  refine W.widen (k := 1) (n := 6) (Nat.le_of_ble_eq_true rfl) (Nat.le_of_ble_eq_true rfl) ?_
  exact vx_ret (W.iret (v := 1) hx hb hr (fun t ht hW => ⟨⟨1, (), rfl, rfl, by rw [ht]; exact hP9, va_K.moved hW.alike hK9, hD9⟩, hS.F ht⟩) hS.2.2 dL_extract_14)
set_option maxHeartbeats 4000000 in
set_option maxRecDepth 100000 in
/-- l_assemble -/
theorem c_l_assemble (l : Launch) (hlt : l.stackTraces = false) (dC : Nat → ClassId) (dI : Nat → Nat → Nat) (h0 : Nat) (k : Int32) (k1 : Int32) (ho : Nat) (h1 : Nat) (v0 : Value) (v1 : Value) (v2 : Value) (v3 : Value) (v4 : Value) (v5 : Value) (v7 : Value) (v8 : Value) (v9 : Value) (v10 : Value) (v11 : Value) (v12 : Value) (v13 : Value) (cZ : ClassId) (sa : Nat) (sz : Nat) : vx_Met l yL_assemble (.codeWith yL_assemble cL_assemble 5 (some .int) [(0, 10, 13, 13)] :: wU) ({ frames := 8, cells := 1, slots := 6, locals := 130 } : Room) (va_Pc [.ref h0, .int k, .int k1, .ref ho] (fun U => P5 dC dI [(h0, .inr (10, [v0, v1, v2, v3, v4, v5, .ref h1, v7, v8, v9, v10, v11, v12, v13])), (h1, .inl (cZ, 8, .inl (fun _ => 0)))] [(cZ, .boolean)] sz U ∧ Tn (va_A [(h0, .inr (10, [v0, v1, v2, v3, v4, v5, .ref h1, v7, v8, v9, v10, v11, v12, v13])), (h1, .inl (cZ, 8, .inl (fun _ => 0)))] sz) sa U)) (va_Qi (fun (r : Int32) (_ : Unit) => r = 1) (fun _ t => P3 dC dI (va_A [(h0, .inr (10, [v0, v1, v2, v3, v4, v5, .ref h1, v7, v8, v9, v10, v11, v12, v13])), (h1, .inl (cZ, 8, .inl (fun _ => 0)))] sz) [] [] t) (va_A [(h0, .inr (10, [v0, v1, v2, v3, v4, v5, .ref h1, v7, v8, v9, v10, v11, v12, v13])), (h1, .inl (cZ, 8, .inl (fun _ => 0)))] sz)) (vx_X (fun _ : Unit => False) (fun _ _ _ => False) (va_A [(h0, .inr (10, [v0, v1, v2, v3, v4, v5, .ref h1, v7, v8, v9, v10, v11, v12, v13])), (h1, .inl (cZ, 8, .inl (fun _ => 0)))] sz)) 1 6 (va_A [(h0, .inr (10, [v0, v1, v2, v3, v4, v5, .ref h1, v7, v8, v9, v10, v11, v12, v13])), (h1, .inl (cZ, 8, .inl (fun _ => 0)))] sz) := by
  refine vx_ofWH (cc := cL_assemble) (maxL := 5) (ret := (some .int)) (hh := [(0, 10, 13, 13)]) (by decide) rfl ?_
  intro p e s m args below meth c s₁ B hml hv
  obtain ⟨rfl, ⟨hsz, hP, hK, hD0, hE⟩, hT⟩ := hv
  have hx := B.exec
  have hb := B.bytes
  have hr := B.returns
  have hts0 := atoms_spec (ws := (.codeWith yL_assemble cL_assemble 5 (some .int) [(0, 10, 13, 13)] :: wU)) B.pre
  have hts : ∀ w ∈ wU, w.before _ s = true := fun w h => hts0 w (List.mem_cons_of_mem _ h)
  have hown : s.vm.findClass "SpineTablesLaw" = some m.cls := findClass_of_methodNamed B.named
  have hlocks := B.notSynchronized
  have htab := vx_table B (hts0 _ List.mem_cons_self)
  subst hsz
  have hD := hD0.self (sz := s.heap.size)
  generalize hAe : va_A [(h0, .inr (10, [v0, v1, v2, v3, v4, v5, .ref h1, v7, v8, v9, v10, v11, v12, v13])), (h1, .inl (cZ, 8, .inl (fun _ => 0)))] s.heap.size = A at hT hD ⊢
  have hA : ∀ q : Nat, s.heap.size ≤ q → A q := fun q h => by rw [← hAe]; exact Or.inr h
  have hP : va_P (dC, dI) classes [(h0, .inr (10, [v0, v1, v2, v3, v4, v5, .ref h1, v7, v8, v9, v10, v11, v12, v13])), (h1, .inl (cZ, 8, .inl (fun _ => 0)))] s.heap := hP
  have hl := lv_entry ([.ref h0, .int k, .int k1, .ref ho]) (n := 5) (Nat.le_of_ble_eq_true rfl)
  rw [lg_entry_eq]
  generalize (lg_sl ([.ref h0, .int k, .int k1, .ref ho]) ++ List.replicate (5 - (lg_sl ([.ref h0, .int k, .int k1, .ref ho])).length) Slot.unset).toArray = ls at hl ⊢
  have hl : lv_has ls 5 [(0, .ref h0), (1, .int k), (2, .int k1), (3, .ref ho)] := hl
  obtain ⟨H, hH⟩ : ∃ H, H = s.heap := ⟨_, rfl⟩
  rw [← hH] at hP
  have hS : va_S A s.heap H [] := by rw [hH]; exact va_S.rf
  refine w_heap hH ?_
  refine lv_aload_n hx hb dL_assemble_0 rfl (lv_at hl 3 rfl) ?_
  refine lv_iconst (v := 0) hx hb dL_assemble_1 (by decide) ?_
  refine lv_aload_n hx hb dL_assemble_2 rfl (lv_at hl 0 rfl) ?_
  refine lv_iload_n hx hb dL_assemble_3 rfl (lv_at hl 1 rfl) ?_
  refine lv_iload_n hx hb dL_assemble_4 rfl (lv_at hl 2 rfl) ?_
  have hPc := hP.sub (ws' := [(h0, .inr (10, [v0, v1, v2, v3, v4, v5, .ref h1, v7, v8, v9, v10, v11, v12, v13])), (h1, .inl (cZ, 8, .inl (fun _ => 0)))]) [0, 1] rfl
  have hDc := hD.sub (ws' := [(h0, .inr (10, [v0, v1, v2, v3, v4, v5, .ref h1, v7, v8, v9, v10, v11, v12, v13])), (h1, .inl (cZ, 8, .inl (fun _ => 0)))]) [0, 1] (by decide) rfl
  have hKc := hK.sub (tys' := [(cZ, .boolean)]) [0] rfl
  have hFc := va_free (wc := [(h0, .inr (10, [v0, v1, v2, v3, v4, v5, .ref h1, v7, v8, v9, v10, v11, v12, v13])), (h1, .inl (cZ, 8, .inl (fun _ => 0)))]) hD hS hA [0, 1] rfl
  refine vy_callX (vx_runV (As := [.int k, .int k1]) (rest := [.int 0, .ref ho]) ⟨hx, hb, hml, hown, hts⟩ (c_x_assemble l hlt dC dI h0 k k1 h1 v0 v1 v2 v3 v4 v5 v7 v8 v9 v10 v11 v12 v13 cZ sa H.size) (cwV 2 hts (goV wd_249 wd_250 wd_248 wd_191 wd_247) rfl rfl rfl (by decide +kernel) ⟨Nat.le_of_ble_eq_true rfl, Nat.le_of_ble_eq_true rfl⟩) ⟨blind6, va_recv hKc hPc (ci := 10) (q0 := 0) rfl rfl, fun U hU hW => ⟨rfl, pre6 hU hW hPc hKc hDc hE (hT.call hS hFc)⟩⟩ rfl rfl hl.1 rfl (lv_room (Nat.le_of_ble_eq_true rfl)) dL_assemble_5 ⟨Nat.le_of_ble_eq_true rfl, Nat.le_of_ble_eq_true rfl⟩) hS hFc (fun q _ h => hFc q h) (fun E ce q9 u t H locs ht hvm hw hB hz1 hk1 hS hce hcv hcl => ?_)
  obtain rfl : E = _ := hB
  refine vy_catch (name := "java/lang/IndexOutOfBoundsException") hown ⟨0, 10, 13, 13⟩ _ (by rw [htab]; rfl) (by decide) (by decide) (hts _ wd_202) (va_Nw.use rfl (hE.1 _ (List.mem_of_getElem? (i := 11) rfl))) hce hcv hcl ?_
  refine W.eq (g2 := F0 m 13 ls [.ref q9]) rfl ?_
  have hP : va_P (dC, dI) classes [] H := fun k q h => by simp at h
  have hD : va_D A [] := ⟨fun i j p q h => by simp at h, fun k q h => by simp at h⟩
  have hK : va_K (dC, dI) classes [] s := hK.sub [] rfl
  refine W.widen (k := 1) (n := 6) (Nat.le_of_ble_eq_true rfl) (Nat.le_of_ble_eq_true rfl) ?_
  refine lv_astore (lv' := [(4, .ref q9), (0, .ref h0), (1, .int k), (2, .int k1), (3, .ref ho)]) hx hb dL_assemble_13 hl (by decide) rfl (fun ls hl => ?_)
  refine lv_iconst (v := 1) hx hb dL_assemble_15 (by decide) ?_
  have hP9 := hP.sub (ws' := []) [] rfl
  have hD9 := hD.sub (ws' := []) [] (by decide) rfl
  have hK9 := hK.sub (tys' := []) [] rfl
  refine W.widen (k := 1) (n := 6) (Nat.le_of_ble_eq_true rfl) (Nat.le_of_ble_eq_true rfl) ?_
  exact vx_ret (W.iret (v := 1) hx hb hr (fun t ht hW => ⟨⟨1, (), rfl, rfl, by rw [ht]; exact hP9, va_K.moved hW.alike hK9, hD9⟩, hS.F ht⟩) hS.2.2 dL_assemble_16)
set_option maxHeartbeats 4000000 in
set_option maxRecDepth 100000 in
/-- l_same -/
theorem c_l_same (l : Launch) (hlt : l.stackTraces = false) (dC : Nat → ClassId) (dI : Nat → Nat → Nat) (h0 : Nat) (k : Int32) (k1 : Int32) (ho : Nat) (h1 : Nat) (v0 : Value) (v1 : Value) (v2 : Value) (v3 : Value) (v4 : Value) (v5 : Value) (v7 : Value) (v8 : Value) (v9 : Value) (v10 : Value) (v11 : Value) (v12 : Value) (v13 : Value) (cZ : ClassId) (sa : Nat) (sz : Nat) : vx_Met l yL_same (.codeWith yL_same cL_same 5 (some .int) [(0, 17, 20, 13)] :: wU) ({ frames := 8, cells := 1, slots := 6, locals := 128 } : Room) (va_Pc [.ref h0, .int k, .int k1, .ref ho] (fun U => P5 dC dI [(h0, .inr (10, [v0, v1, v2, v3, v4, v5, .ref h1, v7, v8, v9, v10, v11, v12, v13])), (h1, .inl (cZ, 8, .inl (fun _ => 0)))] [(cZ, .boolean)] sz U ∧ Tn (va_A [(h0, .inr (10, [v0, v1, v2, v3, v4, v5, .ref h1, v7, v8, v9, v10, v11, v12, v13])), (h1, .inl (cZ, 8, .inl (fun _ => 0)))] sz) sa U)) (va_Qi (fun (r : Int32) (_ : Unit) => r = 1) (fun _ t => P3 dC dI (va_A [(h0, .inr (10, [v0, v1, v2, v3, v4, v5, .ref h1, v7, v8, v9, v10, v11, v12, v13])), (h1, .inl (cZ, 8, .inl (fun _ => 0)))] sz) [] [] t) (va_A [(h0, .inr (10, [v0, v1, v2, v3, v4, v5, .ref h1, v7, v8, v9, v10, v11, v12, v13])), (h1, .inl (cZ, 8, .inl (fun _ => 0)))] sz)) (vx_X (fun _ : Unit => False) (fun _ _ _ => False) (va_A [(h0, .inr (10, [v0, v1, v2, v3, v4, v5, .ref h1, v7, v8, v9, v10, v11, v12, v13])), (h1, .inl (cZ, 8, .inl (fun _ => 0)))] sz)) 1 6 (va_A [(h0, .inr (10, [v0, v1, v2, v3, v4, v5, .ref h1, v7, v8, v9, v10, v11, v12, v13])), (h1, .inl (cZ, 8, .inl (fun _ => 0)))] sz) := by
  refine vx_ofWH (cc := cL_same) (maxL := 5) (ret := (some .int)) (hh := [(0, 17, 20, 13)]) (by decide) rfl ?_
  intro p e s m args below meth c s₁ B hml hv
  obtain ⟨rfl, ⟨hsz, hP, hK, hD0, hE⟩, hT⟩ := hv
  have hx := B.exec
  have hb := B.bytes
  have hr := B.returns
  have hts0 := atoms_spec (ws := (.codeWith yL_same cL_same 5 (some .int) [(0, 17, 20, 13)] :: wU)) B.pre
  have hts : ∀ w ∈ wU, w.before _ s = true := fun w h => hts0 w (List.mem_cons_of_mem _ h)
  have hown : s.vm.findClass "SpineTablesLaw" = some m.cls := findClass_of_methodNamed B.named
  have hlocks := B.notSynchronized
  have htab := vx_table B (hts0 _ List.mem_cons_self)
  subst hsz
  have hD := hD0.self (sz := s.heap.size)
  generalize hAe : va_A [(h0, .inr (10, [v0, v1, v2, v3, v4, v5, .ref h1, v7, v8, v9, v10, v11, v12, v13])), (h1, .inl (cZ, 8, .inl (fun _ => 0)))] s.heap.size = A at hT hD ⊢
  have hA : ∀ q : Nat, s.heap.size ≤ q → A q := fun q h => by rw [← hAe]; exact Or.inr h
  have hP : va_P (dC, dI) classes [(h0, .inr (10, [v0, v1, v2, v3, v4, v5, .ref h1, v7, v8, v9, v10, v11, v12, v13])), (h1, .inl (cZ, 8, .inl (fun _ => 0)))] s.heap := hP
  have hl := lv_entry ([.ref h0, .int k, .int k1, .ref ho]) (n := 5) (Nat.le_of_ble_eq_true rfl)
  rw [lg_entry_eq]
  generalize (lg_sl ([.ref h0, .int k, .int k1, .ref ho]) ++ List.replicate (5 - (lg_sl ([.ref h0, .int k, .int k1, .ref ho])).length) Slot.unset).toArray = ls at hl ⊢
  have hl : lv_has ls 5 [(0, .ref h0), (1, .int k), (2, .int k1), (3, .ref ho)] := hl
  obtain ⟨H, hH⟩ : ∃ H, H = s.heap := ⟨_, rfl⟩
  rw [← hH] at hP
  have hS : va_S A s.heap H [] := by rw [hH]; exact va_S.rf
  refine w_heap hH ?_
  refine lv_aload_n hx hb dL_same_0 rfl (lv_at hl 3 rfl) ?_
  refine lv_iconst (v := 0) hx hb dL_same_1 (by decide) ?_
  refine lv_aload_n hx hb dL_same_2 rfl (lv_at hl 0 rfl) ?_
  refine lv_iload_n hx hb dL_same_3 rfl (lv_at hl 1 rfl) ?_
  refine lv_iload_n hx hb dL_same_4 rfl (lv_at hl 2 rfl) ?_
  have hPc := hP.sub (ws' := [(h0, .inr (10, [v0, v1, v2, v3, v4, v5, .ref h1, v7, v8, v9, v10, v11, v12, v13])), (h1, .inl (cZ, 8, .inl (fun _ => 0)))]) [0, 1] rfl
  have hDc := hD.sub (ws' := [(h0, .inr (10, [v0, v1, v2, v3, v4, v5, .ref h1, v7, v8, v9, v10, v11, v12, v13])), (h1, .inl (cZ, 8, .inl (fun _ => 0)))]) [0, 1] (by decide) rfl
  have hKc := hK.sub (tys' := [(cZ, .boolean)]) [0] rfl
  have hFc := va_free (wc := [(h0, .inr (10, [v0, v1, v2, v3, v4, v5, .ref h1, v7, v8, v9, v10, v11, v12, v13])), (h1, .inl (cZ, 8, .inl (fun _ => 0)))]) hD hS hA [0, 1] rfl
  refine vy_callX (vx_runV (As := [.int k, .int k1]) (rest := [.int 0, .ref ho]) ⟨hx, hb, hml, hown, hts⟩ (c_x_same l hlt dC dI h0 k k1 h1 v0 v1 v2 v3 v4 v5 v7 v8 v9 v10 v11 v12 v13 cZ sa H.size) (cwV 2 hts (goV wd_253 wd_254 wd_252 wd_191 wd_251) rfl rfl rfl (by decide +kernel) ⟨Nat.le_of_ble_eq_true rfl, Nat.le_of_ble_eq_true rfl⟩) ⟨blind6, va_recv hKc hPc (ci := 10) (q0 := 0) rfl rfl, fun U hU hW => ⟨rfl, pre6 hU hW hPc hKc hDc hE (hT.call hS hFc)⟩⟩ rfl rfl hl.1 rfl (lv_room (Nat.le_of_ble_eq_true rfl)) dL_same_5 ⟨Nat.le_of_ble_eq_true rfl, Nat.le_of_ble_eq_true rfl⟩) hS hFc (fun q _ h => hFc q h) (fun E ce q9 u t H locs ht hvm hw hB hz1 hk1 hS hce hcv hcl => ?_)
  obtain rfl : E = _ := hB
  refine vy_catch (name := "java/lang/IndexOutOfBoundsException") hown ⟨0, 17, 20, 13⟩ _ (by rw [htab]; rfl) (by decide) (by decide) (hts _ wd_202) (va_Nw.use rfl (hE.1 _ (List.mem_of_getElem? (i := 11) rfl))) hce hcv hcl ?_
  refine W.eq (g2 := F0 m 20 ls [.ref q9]) rfl ?_
  have hP : va_P (dC, dI) classes [] H := fun k q h => by simp at h
  have hD : va_D A [] := ⟨fun i j p q h => by simp at h, fun k q h => by simp at h⟩
  have hK : va_K (dC, dI) classes [] s := hK.sub [] rfl
  refine W.widen (k := 1) (n := 6) (Nat.le_of_ble_eq_true rfl) (Nat.le_of_ble_eq_true rfl) ?_
  refine lv_astore (lv' := [(4, .ref q9), (0, .ref h0), (1, .int k), (2, .int k1), (3, .ref ho)]) hx hb dL_same_20 hl (by decide) rfl (fun ls hl => ?_)
  refine lv_iconst (v := 1) hx hb dL_same_22 (by decide) ?_
  have hP9 := hP.sub (ws' := []) [] rfl
  have hD9 := hD.sub (ws' := []) [] (by decide) rfl
  have hK9 := hK.sub (tys' := []) [] rfl
  refine W.widen (k := 1) (n := 6) (Nat.le_of_ble_eq_true rfl) (Nat.le_of_ble_eq_true rfl) ?_
  exact vx_ret (W.iret (v := 1) hx hb hr (fun t ht hW => ⟨⟨1, (), rfl, rfl, by rw [ht]; exact hP9, va_K.moved hW.alike hK9, hD9⟩, hS.F ht⟩) hS.2.2 dL_same_23)
set_option maxHeartbeats 4000000 in
set_option maxRecDepth 100000 in
/-- l_write -/
theorem c_l_write (l : Launch) (hlt : l.stackTraces = false) (dC : Nat → ClassId) (dI : Nat → Nat → Nat) (h0 : Nat) (k : Int32) (ho : Nat) (h1 : Nat) (v0 : Value) (v1 : Value) (v2 : Value) (v3 : Value) (v4 : Value) (v5 : Value) (v7 : Value) (v8 : Value) (v9 : Value) (v10 : Value) (v11 : Value) (v12 : Value) (v13 : Value) (cZ : ClassId) (sa : Nat) (sz : Nat) : vx_Met l yL_write (.codeWith yL_write cL_write 4 (some .int) [(0, 9, 12, 13)] :: wU) ({ frames := 8, cells := 1, slots := 6, locals := 126 } : Room) (va_Pc [.ref h0, .int k, .ref ho] (fun U => P5 dC dI [(h0, .inr (10, [v0, v1, v2, v3, v4, v5, .ref h1, v7, v8, v9, v10, v11, v12, v13])), (h1, .inl (cZ, 8, .inl (fun _ => 0)))] [(cZ, .boolean)] sz U ∧ Tn (va_A [(h0, .inr (10, [v0, v1, v2, v3, v4, v5, .ref h1, v7, v8, v9, v10, v11, v12, v13])), (h1, .inl (cZ, 8, .inl (fun _ => 0)))] sz) sa U)) (va_Qi (fun (r : Int32) (_ : Unit) => r = 1) (fun _ t => P3 dC dI (va_A [(h0, .inr (10, [v0, v1, v2, v3, v4, v5, .ref h1, v7, v8, v9, v10, v11, v12, v13])), (h1, .inl (cZ, 8, .inl (fun _ => 0)))] sz) [] [] t) (va_A [(h0, .inr (10, [v0, v1, v2, v3, v4, v5, .ref h1, v7, v8, v9, v10, v11, v12, v13])), (h1, .inl (cZ, 8, .inl (fun _ => 0)))] sz)) (vx_X (fun _ : Unit => False) (fun _ _ _ => False) (va_A [(h0, .inr (10, [v0, v1, v2, v3, v4, v5, .ref h1, v7, v8, v9, v10, v11, v12, v13])), (h1, .inl (cZ, 8, .inl (fun _ => 0)))] sz)) 1 6 (va_A [(h0, .inr (10, [v0, v1, v2, v3, v4, v5, .ref h1, v7, v8, v9, v10, v11, v12, v13])), (h1, .inl (cZ, 8, .inl (fun _ => 0)))] sz) := by
  refine vx_ofWH (cc := cL_write) (maxL := 4) (ret := (some .int)) (hh := [(0, 9, 12, 13)]) (by decide) rfl ?_
  intro p e s m args below meth c s₁ B hml hv
  obtain ⟨rfl, ⟨hsz, hP, hK, hD0, hE⟩, hT⟩ := hv
  have hx := B.exec
  have hb := B.bytes
  have hr := B.returns
  have hts0 := atoms_spec (ws := (.codeWith yL_write cL_write 4 (some .int) [(0, 9, 12, 13)] :: wU)) B.pre
  have hts : ∀ w ∈ wU, w.before _ s = true := fun w h => hts0 w (List.mem_cons_of_mem _ h)
  have hown : s.vm.findClass "SpineTablesLaw" = some m.cls := findClass_of_methodNamed B.named
  have hlocks := B.notSynchronized
  have htab := vx_table B (hts0 _ List.mem_cons_self)
  subst hsz
  have hD := hD0.self (sz := s.heap.size)
  generalize hAe : va_A [(h0, .inr (10, [v0, v1, v2, v3, v4, v5, .ref h1, v7, v8, v9, v10, v11, v12, v13])), (h1, .inl (cZ, 8, .inl (fun _ => 0)))] s.heap.size = A at hT hD ⊢
  have hA : ∀ q : Nat, s.heap.size ≤ q → A q := fun q h => by rw [← hAe]; exact Or.inr h
  have hP : va_P (dC, dI) classes [(h0, .inr (10, [v0, v1, v2, v3, v4, v5, .ref h1, v7, v8, v9, v10, v11, v12, v13])), (h1, .inl (cZ, 8, .inl (fun _ => 0)))] s.heap := hP
  have hl := lv_entry ([.ref h0, .int k, .ref ho]) (n := 4) (Nat.le_of_ble_eq_true rfl)
  rw [lg_entry_eq]
  generalize (lg_sl ([.ref h0, .int k, .ref ho]) ++ List.replicate (4 - (lg_sl ([.ref h0, .int k, .ref ho])).length) Slot.unset).toArray = ls at hl ⊢
  have hl : lv_has ls 4 [(0, .ref h0), (1, .int k), (2, .ref ho)] := hl
  obtain ⟨H, hH⟩ : ∃ H, H = s.heap := ⟨_, rfl⟩
  rw [← hH] at hP
  have hS : va_S A s.heap H [] := by rw [hH]; exact va_S.rf
  refine w_heap hH ?_
  refine lv_aload_n hx hb dL_write_0 rfl (lv_at hl 2 rfl) ?_
  refine lv_iconst (v := 0) hx hb dL_write_1 (by decide) ?_
  refine lv_aload_n hx hb dL_write_2 rfl (lv_at hl 0 rfl) ?_
  refine lv_iload_n hx hb dL_write_3 rfl (lv_at hl 1 rfl) ?_
  have hPc := hP.sub (ws' := [(h0, .inr (10, [v0, v1, v2, v3, v4, v5, .ref h1, v7, v8, v9, v10, v11, v12, v13])), (h1, .inl (cZ, 8, .inl (fun _ => 0)))]) [0, 1] rfl
  have hDc := hD.sub (ws' := [(h0, .inr (10, [v0, v1, v2, v3, v4, v5, .ref h1, v7, v8, v9, v10, v11, v12, v13])), (h1, .inl (cZ, 8, .inl (fun _ => 0)))]) [0, 1] (by decide) rfl
  have hKc := hK.sub (tys' := [(cZ, .boolean)]) [0] rfl
  have hFc := va_free (wc := [(h0, .inr (10, [v0, v1, v2, v3, v4, v5, .ref h1, v7, v8, v9, v10, v11, v12, v13])), (h1, .inl (cZ, 8, .inl (fun _ => 0)))]) hD hS hA [0, 1] rfl
  refine vy_callX (vx_runV (As := [.int k]) (rest := [.int 0, .ref ho]) ⟨hx, hb, hml, hown, hts⟩ (c_x_write l hlt dC dI h0 k h1 v0 v1 v2 v3 v4 v5 v7 v8 v9 v10 v11 v12 v13 cZ sa H.size) (cwV 1 hts (goV wd_257 wd_258 wd_256 wd_191 wd_255) rfl rfl rfl (by decide +kernel) ⟨Nat.le_of_ble_eq_true rfl, Nat.le_of_ble_eq_true rfl⟩) ⟨blind6, va_recv hKc hPc (ci := 10) (q0 := 0) rfl rfl, fun U hU hW => ⟨rfl, pre6 hU hW hPc hKc hDc hE (hT.call hS hFc)⟩⟩ rfl rfl hl.1 rfl (lv_room (Nat.le_of_ble_eq_true rfl)) dL_write_4 ⟨Nat.le_of_ble_eq_true rfl, Nat.le_of_ble_eq_true rfl⟩) hS hFc (fun q _ h => hFc q h) (fun E ce q9 u t H locs ht hvm hw hB hz1 hk1 hS hce hcv hcl => ?_)
  obtain rfl : E = _ := hB
  refine vy_catch (name := "java/lang/IndexOutOfBoundsException") hown ⟨0, 9, 12, 13⟩ _ (by rw [htab]; rfl) (by decide) (by decide) (hts _ wd_202) (va_Nw.use rfl (hE.1 _ (List.mem_of_getElem? (i := 11) rfl))) hce hcv hcl ?_
  refine W.eq (g2 := F0 m 12 ls [.ref q9]) rfl ?_
  have hP : va_P (dC, dI) classes [] H := fun k q h => by simp at h
  have hD : va_D A [] := ⟨fun i j p q h => by simp at h, fun k q h => by simp at h⟩
  have hK : va_K (dC, dI) classes [] s := hK.sub [] rfl
  refine W.widen (k := 1) (n := 6) (Nat.le_of_ble_eq_true rfl) (Nat.le_of_ble_eq_true rfl) ?_
  refine lv_astore_n (lv' := [(3, .ref q9), (0, .ref h0), (1, .int k), (2, .ref ho)]) hx hb dL_write_12 rfl hl (by decide) rfl (fun ls hl => ?_)
  refine lv_iconst (v := 1) hx hb dL_write_13 (by decide) ?_
  have hP9 := hP.sub (ws' := []) [] rfl
  have hD9 := hD.sub (ws' := []) [] (by decide) rfl
  have hK9 := hK.sub (tys' := []) [] rfl
  refine W.widen (k := 1) (n := 6) (Nat.le_of_ble_eq_true rfl) (Nat.le_of_ble_eq_true rfl) ?_
  exact vx_ret (W.iret (v := 1) hx hb hr (fun t ht hW => ⟨⟨1, (), rfl, rfl, by rw [ht]; exact hP9, va_K.moved hW.alike hK9, hD9⟩, hS.F ht⟩) hS.2.2 dL_write_14)
end
