section
-- ===== PART A: goes FIRST, ahead of the names: the tables' words, and 'selects' of the private methods out of them =====
/-- a private method of a class that the tables say can be made, by its rows of tables_1 -/
def lw_okq (q : MethodName × Nat) : Prop := (q.1.cls ≠ "java/lang/invoke/MethodHandle" ∧ q.1.cls ≠ "java/lang/invoke/VarHandle") ∧ Cond.instantiable q.1.cls q.2 ∈ tables_1 ∧ Cond.privateMethod q.1 ∈ tables_1 ∧ Cond.instanceMethod q.1 ∈ tables_1
theorem lw_p0 : lw_okq (⟨"HoopCabinet", "appendFour", "(I)V"⟩, 15) := ⟨⟨by decide +kernel, by decide +kernel⟩, List.mem_of_getElem? (i := 21) (by decide +kernel), List.mem_of_getElem? (i := 353) (by decide +kernel), List.mem_of_getElem? (i := 354) (by decide +kernel)⟩
theorem lw_p1 : lw_okq (⟨"HoopCabinet$Reader", "nextToken", "()V"⟩, 8) := ⟨⟨by decide +kernel, by decide +kernel⟩, List.mem_of_getElem? (i := 124) (by decide +kernel), List.mem_of_getElem? (i := 381) (by decide +kernel), List.mem_of_getElem? (i := 382) (by decide +kernel)⟩
theorem lw_p2 : lw_okq (⟨"HoopCabinet$Reader", "byteAt", "(I)I"⟩, 8) := ⟨⟨by decide +kernel, by decide +kernel⟩, List.mem_of_getElem? (i := 124) (by decide +kernel), List.mem_of_getElem? (i := 385) (by decide +kernel), List.mem_of_getElem? (i := 386) (by decide +kernel)⟩
theorem lw_p3 : lw_okq (⟨"HoopCabinet$Reader", "readLine", "()V"⟩, 8) := ⟨⟨by decide +kernel, by decide +kernel⟩, List.mem_of_getElem? (i := 124) (by decide +kernel), List.mem_of_getElem? (i := 395) (by decide +kernel), List.mem_of_getElem? (i := 396) (by decide +kernel)⟩
theorem lw_p4 : lw_okq (⟨"HoopCabinet$Reader", "readBall", "()V"⟩, 8) := ⟨⟨by decide +kernel, by decide +kernel⟩, List.mem_of_getElem? (i := 124) (by decide +kernel), List.mem_of_getElem? (i := 399) (by decide +kernel), List.mem_of_getElem? (i := 400) (by decide +kernel)⟩
theorem lw_p5 : lw_okq (⟨"HoopCabinet$Reader", "takeWord", "(Ljava/lang/String;)V"⟩, 8) := ⟨⟨by decide +kernel, by decide +kernel⟩, List.mem_of_getElem? (i := 124) (by decide +kernel), List.mem_of_getElem? (i := 404) (by decide +kernel), List.mem_of_getElem? (i := 405) (by decide +kernel)⟩
theorem lw_p6 : lw_okq (⟨"HoopCabinet$Reader", "isWord", "(Ljava/lang/String;)Z"⟩, 8) := ⟨⟨by decide +kernel, by decide +kernel⟩, List.mem_of_getElem? (i := 124) (by decide +kernel), List.mem_of_getElem? (i := 408) (by decide +kernel), List.mem_of_getElem? (i := 409) (by decide +kernel)⟩
theorem lw_p7 : lw_okq (⟨"HoopCabinet$Reader", "fail", "(I)V"⟩, 8) := ⟨⟨by decide +kernel, by decide +kernel⟩, List.mem_of_getElem? (i := 124) (by decide +kernel), List.mem_of_getElem? (i := 460) (by decide +kernel), List.mem_of_getElem? (i := 461) (by decide +kernel)⟩
theorem lw_p8 : lw_okq (⟨"HoopCabinet$Reader", "takeNumber", "(II)I"⟩, 8) := ⟨⟨by decide +kernel, by decide +kernel⟩, List.mem_of_getElem? (i := 124) (by decide +kernel), List.mem_of_getElem? (i := 465) (by decide +kernel), List.mem_of_getElem? (i := 466) (by decide +kernel)⟩
theorem lw_p9 : lw_okq (⟨"HoopCabinet$Reader", "digits", "()I"⟩, 8) := ⟨⟨by decide +kernel, by decide +kernel⟩, List.mem_of_getElem? (i := 124) (by decide +kernel), List.mem_of_getElem? (i := 469) (by decide +kernel), List.mem_of_getElem? (i := 470) (by decide +kernel)⟩
theorem lw_p10 : lw_okq (⟨"HoopCabinet$Reader", "takeSign", "()V"⟩, 8) := ⟨⟨by decide +kernel, by decide +kernel⟩, List.mem_of_getElem? (i := 124) (by decide +kernel), List.mem_of_getElem? (i := 477) (by decide +kernel), List.mem_of_getElem? (i := 478) (by decide +kernel)⟩
theorem lw_p11 : lw_okq (⟨"HoopCabinet$Reader", "readDoor", "()V"⟩, 8) := ⟨⟨by decide +kernel, by decide +kernel⟩, List.mem_of_getElem? (i := 124) (by decide +kernel), List.mem_of_getElem? (i := 482) (by decide +kernel), List.mem_of_getElem? (i := 483) (by decide +kernel)⟩
theorem lw_p12 : lw_okq (⟨"HoopCabinet$Reader", "startRow", "(LHoopCabinet$Table;)V"⟩, 8) := ⟨⟨by decide +kernel, by decide +kernel⟩, List.mem_of_getElem? (i := 124) (by decide +kernel), List.mem_of_getElem? (i := 486) (by decide +kernel), List.mem_of_getElem? (i := 487) (by decide +kernel)⟩
theorem lw_p13 : lw_okq (⟨"HoopCabinet$Reader", "readLady", "()V"⟩, 8) := ⟨⟨by decide +kernel, by decide +kernel⟩, List.mem_of_getElem? (i := 124) (by decide +kernel), List.mem_of_getElem? (i := 510) (by decide +kernel), List.mem_of_getElem? (i := 511) (by decide +kernel)⟩
theorem lw_p14 : lw_okq (⟨"HoopCabinet$Reader", "readMinister", "()V"⟩, 8) := ⟨⟨by decide +kernel, by decide +kernel⟩, List.mem_of_getElem? (i := 124) (by decide +kernel), List.mem_of_getElem? (i := 516) (by decide +kernel), List.mem_of_getElem? (i := 517) (by decide +kernel)⟩
theorem lw_p15 : lw_okq (⟨"HoopCabinet$Reader", "readBid", "()V"⟩, 8) := ⟨⟨by decide +kernel, by decide +kernel⟩, List.mem_of_getElem? (i := 124) (by decide +kernel), List.mem_of_getElem? (i := 523) (by decide +kernel), List.mem_of_getElem? (i := 524) (by decide +kernel)⟩
def lw_privs_1 : List (MethodName × Nat) := [(⟨"HoopCabinet", "appendFour", "(I)V"⟩, 15), (⟨"HoopCabinet$Reader", "nextToken", "()V"⟩, 8), (⟨"HoopCabinet$Reader", "byteAt", "(I)I"⟩, 8), (⟨"HoopCabinet$Reader", "readLine", "()V"⟩, 8), (⟨"HoopCabinet$Reader", "readBall", "()V"⟩, 8), (⟨"HoopCabinet$Reader", "takeWord", "(Ljava/lang/String;)V"⟩, 8), (⟨"HoopCabinet$Reader", "isWord", "(Ljava/lang/String;)Z"⟩, 8), (⟨"HoopCabinet$Reader", "fail", "(I)V"⟩, 8), (⟨"HoopCabinet$Reader", "takeNumber", "(II)I"⟩, 8), (⟨"HoopCabinet$Reader", "digits", "()I"⟩, 8), (⟨"HoopCabinet$Reader", "takeSign", "()V"⟩, 8), (⟨"HoopCabinet$Reader", "readDoor", "()V"⟩, 8), (⟨"HoopCabinet$Reader", "startRow", "(LHoopCabinet$Table;)V"⟩, 8), (⟨"HoopCabinet$Reader", "readLady", "()V"⟩, 8), (⟨"HoopCabinet$Reader", "readMinister", "()V"⟩, 8), (⟨"HoopCabinet$Reader", "readBid", "()V"⟩, 8)]
theorem lw_r1 : ∀ q ∈ lw_privs_1, lw_okq q := List.forall_mem_cons.mpr ⟨lw_p0, List.forall_mem_cons.mpr ⟨lw_p1, List.forall_mem_cons.mpr ⟨lw_p2, List.forall_mem_cons.mpr ⟨lw_p3, List.forall_mem_cons.mpr ⟨lw_p4, List.forall_mem_cons.mpr ⟨lw_p5, List.forall_mem_cons.mpr ⟨lw_p6, List.forall_mem_cons.mpr ⟨lw_p7, List.forall_mem_cons.mpr ⟨lw_p8, List.forall_mem_cons.mpr ⟨lw_p9, List.forall_mem_cons.mpr ⟨lw_p10, List.forall_mem_cons.mpr ⟨lw_p11, List.forall_mem_cons.mpr ⟨lw_p12, List.forall_mem_cons.mpr ⟨lw_p13, List.forall_mem_cons.mpr ⟨lw_p14, List.forall_mem_cons.mpr ⟨lw_p15, fun _ h => absurd h List.not_mem_nil⟩⟩⟩⟩⟩⟩⟩⟩⟩⟩⟩⟩⟩⟩⟩⟩
theorem lw_p16 : lw_okq (⟨"HoopCabinet", "settle", "()V"⟩, 15) := ⟨⟨by decide +kernel, by decide +kernel⟩, List.mem_of_getElem? (i := 21) (by decide +kernel), List.mem_of_getElem? (i := 540) (by decide +kernel), List.mem_of_getElem? (i := 541) (by decide +kernel)⟩
theorem lw_p17 : lw_okq (⟨"HoopCabinet$Floor", "openDoor", "(LHoopCabinet$Ball;II)V"⟩, 8) := ⟨⟨by decide +kernel, by decide +kernel⟩, List.mem_of_getElem? (i := 180) (by decide +kernel), List.mem_of_getElem? (i := 556) (by decide +kernel), List.mem_of_getElem? (i := 557) (by decide +kernel)⟩
theorem lw_p18 : lw_okq (⟨"HoopCabinet$Floor", "hearBids", "(LHoopCabinet$Ball;)V"⟩, 8) := ⟨⟨by decide +kernel, by decide +kernel⟩, List.mem_of_getElem? (i := 180) (by decide +kernel), List.mem_of_getElem? (i := 564) (by decide +kernel), List.mem_of_getElem? (i := 565) (by decide +kernel)⟩
theorem lw_p19 : lw_okq (⟨"HoopCabinet$Floor", "hearBid", "(III)V"⟩, 8) := ⟨⟨by decide +kernel, by decide +kernel⟩, List.mem_of_getElem? (i := 180) (by decide +kernel), List.mem_of_getElem? (i := 571) (by decide +kernel), List.mem_of_getElem? (i := 572) (by decide +kernel)⟩
theorem lw_p20 : lw_okq (⟨"HoopCabinet$Floor", "goAsBidden", "(II)V"⟩, 8) := ⟨⟨by decide +kernel, by decide +kernel⟩, List.mem_of_getElem? (i := 180) (by decide +kernel), List.mem_of_getElem? (i := 575) (by decide +kernel), List.mem_of_getElem? (i := 576) (by decide +kernel)⟩
theorem lw_p21 : lw_okq (⟨"HoopCabinet$Floor", "isHere", "(II)Z"⟩, 8) := ⟨⟨by decide +kernel, by decide +kernel⟩, List.mem_of_getElem? (i := 180) (by decide +kernel), List.mem_of_getElem? (i := 583) (by decide +kernel), List.mem_of_getElem? (i := 584) (by decide +kernel)⟩
theorem lw_p22 : lw_okq (⟨"HoopCabinet$Floor", "nextRoom", "(III)I"⟩, 8) := ⟨⟨by decide +kernel, by decide +kernel⟩, List.mem_of_getElem? (i := 180) (by decide +kernel), List.mem_of_getElem? (i := 587) (by decide +kernel), List.mem_of_getElem? (i := 588) (by decide +kernel)⟩
theorem lw_p23 : lw_okq (⟨"HoopCabinet", "fullest", "(I)I"⟩, 15) := ⟨⟨by decide +kernel, by decide +kernel⟩, List.mem_of_getElem? (i := 21) (by decide +kernel), List.mem_of_getElem? (i := 726) (by decide +kernel), List.mem_of_getElem? (i := 727) (by decide +kernel)⟩
theorem lw_p24 : lw_okq (⟨"HoopCabinet", "passAsTold", "()V"⟩, 15) := ⟨⟨by decide +kernel, by decide +kernel⟩, List.mem_of_getElem? (i := 21) (by decide +kernel), List.mem_of_getElem? (i := 778) (by decide +kernel), List.mem_of_getElem? (i := 779) (by decide +kernel)⟩
theorem lw_p25 : lw_okq (⟨"HoopCabinet$Notes", "mayGive", "(LHoopCabinet$Ball;III)Z"⟩, 6) := ⟨⟨by decide +kernel, by decide +kernel⟩, List.mem_of_getElem? (i := 211) (by decide +kernel), List.mem_of_getElem? (i := 791) (by decide +kernel), List.mem_of_getElem? (i := 792) (by decide +kernel)⟩
theorem lw_p26 : lw_okq (⟨"HoopCabinet", "inTheEnd", "(LHoopCabinet$Floor;I)I"⟩, 15) := ⟨⟨by decide +kernel, by decide +kernel⟩, List.mem_of_getElem? (i := 21) (by decide +kernel), List.mem_of_getElem? (i := 796) (by decide +kernel), List.mem_of_getElem? (i := 797) (by decide +kernel)⟩
theorem lw_p27 : lw_okq (⟨"HoopCabinet$Carrier", "lookBack", "(LHoopCabinet$Floor;I)V"⟩, 8) := ⟨⟨by decide +kernel, by decide +kernel⟩, List.mem_of_getElem? (i := 238) (by decide +kernel), List.mem_of_getElem? (i := 886) (by decide +kernel), List.mem_of_getElem? (i := 887) (by decide +kernel)⟩
theorem lw_p28 : lw_okq (⟨"HoopCabinet$Carrier", "goodWithout", "(II)I"⟩, 8) := ⟨⟨by decide +kernel, by decide +kernel⟩, List.mem_of_getElem? (i := 238) (by decide +kernel), List.mem_of_getElem? (i := 891) (by decide +kernel), List.mem_of_getElem? (i := 892) (by decide +kernel)⟩
theorem lw_p29 : lw_okq (⟨"HoopCabinet", "seenFault", "(I)I"⟩, 15) := ⟨⟨by decide +kernel, by decide +kernel⟩, List.mem_of_getElem? (i := 21) (by decide +kernel), List.mem_of_getElem? (i := 924) (by decide +kernel), List.mem_of_getElem? (i := 925) (by decide +kernel)⟩
theorem lw_p30 : lw_okq (⟨"HoopCabinet", "isSighting", "(JJJ)Z"⟩, 15) := ⟨⟨by decide +kernel, by decide +kernel⟩, List.mem_of_getElem? (i := 21) (by decide +kernel), List.mem_of_getElem? (i := 940) (by decide +kernel), List.mem_of_getElem? (i := 941) (by decide +kernel)⟩
theorem lw_p31 : lw_okq (⟨"HoopCabinet", "possibleFirsts", "(LHoopCabinet$Slot;)I"⟩, 15) := ⟨⟨by decide +kernel, by decide +kernel⟩, List.mem_of_getElem? (i := 21) (by decide +kernel), List.mem_of_getElem? (i := 944) (by decide +kernel), List.mem_of_getElem? (i := 945) (by decide +kernel)⟩
def lw_privs_2 : List (MethodName × Nat) := [(⟨"HoopCabinet", "settle", "()V"⟩, 15), (⟨"HoopCabinet$Floor", "openDoor", "(LHoopCabinet$Ball;II)V"⟩, 8), (⟨"HoopCabinet$Floor", "hearBids", "(LHoopCabinet$Ball;)V"⟩, 8), (⟨"HoopCabinet$Floor", "hearBid", "(III)V"⟩, 8), (⟨"HoopCabinet$Floor", "goAsBidden", "(II)V"⟩, 8), (⟨"HoopCabinet$Floor", "isHere", "(II)Z"⟩, 8), (⟨"HoopCabinet$Floor", "nextRoom", "(III)I"⟩, 8), (⟨"HoopCabinet", "fullest", "(I)I"⟩, 15), (⟨"HoopCabinet", "passAsTold", "()V"⟩, 15), (⟨"HoopCabinet$Notes", "mayGive", "(LHoopCabinet$Ball;III)Z"⟩, 6), (⟨"HoopCabinet", "inTheEnd", "(LHoopCabinet$Floor;I)I"⟩, 15), (⟨"HoopCabinet$Carrier", "lookBack", "(LHoopCabinet$Floor;I)V"⟩, 8), (⟨"HoopCabinet$Carrier", "goodWithout", "(II)I"⟩, 8), (⟨"HoopCabinet", "seenFault", "(I)I"⟩, 15), (⟨"HoopCabinet", "isSighting", "(JJJ)Z"⟩, 15), (⟨"HoopCabinet", "possibleFirsts", "(LHoopCabinet$Slot;)I"⟩, 15)]
theorem lw_r2 : ∀ q ∈ lw_privs_2, lw_okq q := List.forall_mem_cons.mpr ⟨lw_p16, List.forall_mem_cons.mpr ⟨lw_p17, List.forall_mem_cons.mpr ⟨lw_p18, List.forall_mem_cons.mpr ⟨lw_p19, List.forall_mem_cons.mpr ⟨lw_p20, List.forall_mem_cons.mpr ⟨lw_p21, List.forall_mem_cons.mpr ⟨lw_p22, List.forall_mem_cons.mpr ⟨lw_p23, List.forall_mem_cons.mpr ⟨lw_p24, List.forall_mem_cons.mpr ⟨lw_p25, List.forall_mem_cons.mpr ⟨lw_p26, List.forall_mem_cons.mpr ⟨lw_p27, List.forall_mem_cons.mpr ⟨lw_p28, List.forall_mem_cons.mpr ⟨lw_p29, List.forall_mem_cons.mpr ⟨lw_p30, List.forall_mem_cons.mpr ⟨lw_p31, fun _ h => absurd h List.not_mem_nil⟩⟩⟩⟩⟩⟩⟩⟩⟩⟩⟩⟩⟩⟩⟩⟩
theorem lw_p32 : lw_okq (⟨"HoopCabinet", "agrees", "(LHoopCabinet$Slot;)Z"⟩, 15) := ⟨⟨by decide +kernel, by decide +kernel⟩, List.mem_of_getElem? (i := 21) (by decide +kernel), List.mem_of_getElem? (i := 948) (by decide +kernel), List.mem_of_getElem? (i := 949) (by decide +kernel)⟩
theorem lw_p33 : lw_okq (⟨"HoopCabinet", "bestAsked", "(I)I"⟩, 15) := ⟨⟨by decide +kernel, by decide +kernel⟩, List.mem_of_getElem? (i := 21) (by decide +kernel), List.mem_of_getElem? (i := 956) (by decide +kernel), List.mem_of_getElem? (i := 957) (by decide +kernel)⟩
theorem lw_p34 : lw_okq (⟨"HoopCabinet", "leftAtWorst", "(II)I"⟩, 15) := ⟨⟨by decide +kernel, by decide +kernel⟩, List.mem_of_getElem? (i := 21) (by decide +kernel), List.mem_of_getElem? (i := 960) (by decide +kernel), List.mem_of_getElem? (i := 961) (by decide +kernel)⟩
theorem lw_p35 : lw_okq (⟨"HoopCabinet", "makesOneHold", "(I)Z"⟩, 15) := ⟨⟨by decide +kernel, by decide +kernel⟩, List.mem_of_getElem? (i := 21) (by decide +kernel), List.mem_of_getElem? (i := 1057) (by decide +kernel), List.mem_of_getElem? (i := 1058) (by decide +kernel)⟩
theorem lw_p36 : lw_okq (⟨"HoopCabinet", "isContent", "(IIII)Z"⟩, 15) := ⟨⟨by decide +kernel, by decide +kernel⟩, List.mem_of_getElem? (i := 21) (by decide +kernel), List.mem_of_getElem? (i := 1066) (by decide +kernel), List.mem_of_getElem? (i := 1067) (by decide +kernel)⟩
theorem lw_p37 : lw_okq (⟨"HoopCabinet", "gainOf", "(IIII)I"⟩, 15) := ⟨⟨by decide +kernel, by decide +kernel⟩, List.mem_of_getElem? (i := 21) (by decide +kernel), List.mem_of_getElem? (i := 1070) (by decide +kernel), List.mem_of_getElem? (i := 1071) (by decide +kernel)⟩
theorem lw_p38 : lw_okq (⟨"HoopCabinet", "isChanceDance", "(I)Z"⟩, 15) := ⟨⟨by decide +kernel, by decide +kernel⟩, List.mem_of_getElem? (i := 21) (by decide +kernel), List.mem_of_getElem? (i := 1092) (by decide +kernel), List.mem_of_getElem? (i := 1093) (by decide +kernel)⟩
theorem lw_p39 : lw_okq (⟨"HoopCabinet$Music", "playOne", "(LHoopCabinet$Floor;LHoopCabinet$Notes;II)V"⟩, 3) := ⟨⟨by decide +kernel, by decide +kernel⟩, List.mem_of_getElem? (i := 286) (by decide +kernel), List.mem_of_getElem? (i := 1104) (by decide +kernel), List.mem_of_getElem? (i := 1105) (by decide +kernel)⟩
theorem lw_p40 : lw_okq (⟨"HoopCabinet", "loudDances", "(I)I"⟩, 15) := ⟨⟨by decide +kernel, by decide +kernel⟩, List.mem_of_getElem? (i := 21) (by decide +kernel), List.mem_of_getElem? (i := 1132) (by decide +kernel), List.mem_of_getElem? (i := 1133) (by decide +kernel)⟩
theorem lw_p41 : lw_okq (⟨"HoopCabinet", "drawnHolders", "(II)I"⟩, 15) := ⟨⟨by decide +kernel, by decide +kernel⟩, List.mem_of_getElem? (i := 21) (by decide +kernel), List.mem_of_getElem? (i := 1141) (by decide +kernel), List.mem_of_getElem? (i := 1142) (by decide +kernel)⟩
theorem lw_p42 : lw_okq (⟨"HoopCabinet", "slotsWithRow", "()I"⟩, 15) := ⟨⟨by decide +kernel, by decide +kernel⟩, List.mem_of_getElem? (i := 21) (by decide +kernel), List.mem_of_getElem? (i := 1193) (by decide +kernel), List.mem_of_getElem? (i := 1194) (by decide +kernel)⟩
theorem lw_p43 : lw_okq (⟨"HoopCabinet$Slot", "cut", "(J)J"⟩, 3) := ⟨⟨by decide +kernel, by decide +kernel⟩, List.mem_of_getElem? (i := 159) (by decide +kernel), List.mem_of_getElem? (i := 1223) (by decide +kernel), List.mem_of_getElem? (i := 1224) (by decide +kernel)⟩
theorem lw_p44 : lw_okq (⟨"HoopCabinetModel", "advance", "()V"⟩, 40) := ⟨⟨by decide +kernel, by decide +kernel⟩, List.mem_of_getElem? (i := 1236) (by decide +kernel), List.mem_of_getElem? (i := 1390) (by decide +kernel), List.mem_of_getElem? (i := 1391) (by decide +kernel)⟩
theorem lw_p45 : lw_okq (⟨"HoopCabinetModel", "see", "(I)I"⟩, 40) := ⟨⟨by decide +kernel, by decide +kernel⟩, List.mem_of_getElem? (i := 1236) (by decide +kernel), List.mem_of_getElem? (i := 1394) (by decide +kernel), List.mem_of_getElem? (i := 1395) (by decide +kernel)⟩
theorem lw_p46 : lw_okq (⟨"HoopCabinetModel", "good", "()Z"⟩, 40) := ⟨⟨by decide +kernel, by decide +kernel⟩, List.mem_of_getElem? (i := 1236) (by decide +kernel), List.mem_of_getElem? (i := 1404) (by decide +kernel), List.mem_of_getElem? (i := 1405) (by decide +kernel)⟩
theorem lw_p47 : lw_okq (⟨"HoopCabinetModel", "readLine", "()V"⟩, 40) := ⟨⟨by decide +kernel, by decide +kernel⟩, List.mem_of_getElem? (i := 1236) (by decide +kernel), List.mem_of_getElem? (i := 1408) (by decide +kernel), List.mem_of_getElem? (i := 1409) (by decide +kernel)⟩
def lw_privs_3 : List (MethodName × Nat) := [(⟨"HoopCabinet", "agrees", "(LHoopCabinet$Slot;)Z"⟩, 15), (⟨"HoopCabinet", "bestAsked", "(I)I"⟩, 15), (⟨"HoopCabinet", "leftAtWorst", "(II)I"⟩, 15), (⟨"HoopCabinet", "makesOneHold", "(I)Z"⟩, 15), (⟨"HoopCabinet", "isContent", "(IIII)Z"⟩, 15), (⟨"HoopCabinet", "gainOf", "(IIII)I"⟩, 15), (⟨"HoopCabinet", "isChanceDance", "(I)Z"⟩, 15), (⟨"HoopCabinet$Music", "playOne", "(LHoopCabinet$Floor;LHoopCabinet$Notes;II)V"⟩, 3), (⟨"HoopCabinet", "loudDances", "(I)I"⟩, 15), (⟨"HoopCabinet", "drawnHolders", "(II)I"⟩, 15), (⟨"HoopCabinet", "slotsWithRow", "()I"⟩, 15), (⟨"HoopCabinet$Slot", "cut", "(J)J"⟩, 3), (⟨"HoopCabinetModel", "advance", "()V"⟩, 40), (⟨"HoopCabinetModel", "see", "(I)I"⟩, 40), (⟨"HoopCabinetModel", "good", "()Z"⟩, 40), (⟨"HoopCabinetModel", "readLine", "()V"⟩, 40)]
theorem lw_r3 : ∀ q ∈ lw_privs_3, lw_okq q := List.forall_mem_cons.mpr ⟨lw_p32, List.forall_mem_cons.mpr ⟨lw_p33, List.forall_mem_cons.mpr ⟨lw_p34, List.forall_mem_cons.mpr ⟨lw_p35, List.forall_mem_cons.mpr ⟨lw_p36, List.forall_mem_cons.mpr ⟨lw_p37, List.forall_mem_cons.mpr ⟨lw_p38, List.forall_mem_cons.mpr ⟨lw_p39, List.forall_mem_cons.mpr ⟨lw_p40, List.forall_mem_cons.mpr ⟨lw_p41, List.forall_mem_cons.mpr ⟨lw_p42, List.forall_mem_cons.mpr ⟨lw_p43, List.forall_mem_cons.mpr ⟨lw_p44, List.forall_mem_cons.mpr ⟨lw_p45, List.forall_mem_cons.mpr ⟨lw_p46, List.forall_mem_cons.mpr ⟨lw_p47, fun _ h => absurd h List.not_mem_nil⟩⟩⟩⟩⟩⟩⟩⟩⟩⟩⟩⟩⟩⟩⟩⟩
theorem lw_p48 : lw_okq (⟨"HoopCabinetModel", "readFirst", "()V"⟩, 40) := ⟨⟨by decide +kernel, by decide +kernel⟩, List.mem_of_getElem? (i := 1236) (by decide +kernel), List.mem_of_getElem? (i := 1412) (by decide +kernel), List.mem_of_getElem? (i := 1413) (by decide +kernel)⟩
theorem lw_p49 : lw_okq (⟨"HoopCabinetModel", "needs", "(Ljava/lang/String;)V"⟩, 40) := ⟨⟨by decide +kernel, by decide +kernel⟩, List.mem_of_getElem? (i := 1236) (by decide +kernel), List.mem_of_getElem? (i := 1417) (by decide +kernel), List.mem_of_getElem? (i := 1418) (by decide +kernel)⟩
theorem lw_p50 : lw_okq (⟨"HoopCabinetModel", "takes", "(Ljava/lang/String;)Z"⟩, 40) := ⟨⟨by decide +kernel, by decide +kernel⟩, List.mem_of_getElem? (i := 1236) (by decide +kernel), List.mem_of_getElem? (i := 1421) (by decide +kernel), List.mem_of_getElem? (i := 1422) (by decide +kernel)⟩
theorem lw_p51 : lw_okq (⟨"HoopCabinetModel", "is", "(Ljava/lang/String;)Z"⟩, 40) := ⟨⟨by decide +kernel, by decide +kernel⟩, List.mem_of_getElem? (i := 1236) (by decide +kernel), List.mem_of_getElem? (i := 1425) (by decide +kernel), List.mem_of_getElem? (i := 1426) (by decide +kernel)⟩
theorem lw_p52 : lw_okq (⟨"HoopCabinetModel", "errs", "(I)V"⟩, 40) := ⟨⟨by decide +kernel, by decide +kernel⟩, List.mem_of_getElem? (i := 1236) (by decide +kernel), List.mem_of_getElem? (i := 1431) (by decide +kernel), List.mem_of_getElem? (i := 1432) (by decide +kernel)⟩
theorem lw_p53 : lw_okq (⟨"HoopCabinetModel", "told", "(Ljava/lang/String;II)I"⟩, 40) := ⟨⟨by decide +kernel, by decide +kernel⟩, List.mem_of_getElem? (i := 1236) (by decide +kernel), List.mem_of_getElem? (i := 1436) (by decide +kernel), List.mem_of_getElem? (i := 1437) (by decide +kernel)⟩
theorem lw_p54 : lw_okq (⟨"HoopCabinetModel", "number", "(II)I"⟩, 40) := ⟨⟨by decide +kernel, by decide +kernel⟩, List.mem_of_getElem? (i := 1236) (by decide +kernel), List.mem_of_getElem? (i := 1440) (by decide +kernel), List.mem_of_getElem? (i := 1441) (by decide +kernel)⟩
theorem lw_p55 : lw_okq (⟨"HoopCabinetModel", "readNext", "()V"⟩, 40) := ⟨⟨by decide +kernel, by decide +kernel⟩, List.mem_of_getElem? (i := 1236) (by decide +kernel), List.mem_of_getElem? (i := 1447) (by decide +kernel), List.mem_of_getElem? (i := 1448) (by decide +kernel)⟩
theorem lw_p56 : lw_okq (⟨"HoopCabinetModel", "isFull", "()Z"⟩, 40) := ⟨⟨by decide +kernel, by decide +kernel⟩, List.mem_of_getElem? (i := 1236) (by decide +kernel), List.mem_of_getElem? (i := 1455) (by decide +kernel), List.mem_of_getElem? (i := 1456) (by decide +kernel)⟩
theorem lw_p57 : lw_okq (⟨"HoopCabinetModel", "readDoor", "()V"⟩, 40) := ⟨⟨by decide +kernel, by decide +kernel⟩, List.mem_of_getElem? (i := 1236) (by decide +kernel), List.mem_of_getElem? (i := 1459) (by decide +kernel), List.mem_of_getElem? (i := 1460) (by decide +kernel)⟩
theorem lw_p58 : lw_okq (⟨"HoopCabinetModel", "freshRoom", "(Ljava/lang/String;)I"⟩, 40) := ⟨⟨by decide +kernel, by decide +kernel⟩, List.mem_of_getElem? (i := 1236) (by decide +kernel), List.mem_of_getElem? (i := 1466) (by decide +kernel), List.mem_of_getElem? (i := 1467) (by decide +kernel)⟩
theorem lw_p59 : lw_okq (⟨"HoopCabinetModel", "readBid", "()V"⟩, 40) := ⟨⟨by decide +kernel, by decide +kernel⟩, List.mem_of_getElem? (i := 1236) (by decide +kernel), List.mem_of_getElem? (i := 1472) (by decide +kernel), List.mem_of_getElem? (i := 1473) (by decide +kernel)⟩
theorem lw_p60 : lw_okq (⟨"HoopCabinetModel", "isDoor", "(I)Z"⟩, 40) := ⟨⟨by decide +kernel, by decide +kernel⟩, List.mem_of_getElem? (i := 1236) (by decide +kernel), List.mem_of_getElem? (i := 1481) (by decide +kernel), List.mem_of_getElem? (i := 1482) (by decide +kernel)⟩
theorem lw_p61 : lw_okq (⟨"HoopCabinetModel", "isLady", "(J)Z"⟩, 40) := ⟨⟨by decide +kernel, by decide +kernel⟩, List.mem_of_getElem? (i := 1236) (by decide +kernel), List.mem_of_getElem? (i := 1489) (by decide +kernel), List.mem_of_getElem? (i := 1490) (by decide +kernel)⟩
theorem lw_p62 : lw_okq (⟨"HoopCabinetModel", "asItIs", "()V"⟩, 40) := ⟨⟨by decide +kernel, by decide +kernel⟩, List.mem_of_getElem? (i := 1236) (by decide +kernel), List.mem_of_getElem? (i := 1497) (by decide +kernel), List.mem_of_getElem? (i := 1498) (by decide +kernel)⟩
theorem lw_p63 : lw_okq (⟨"HoopCabinetModel", "layMinisters", "()V"⟩, 40) := ⟨⟨by decide +kernel, by decide +kernel⟩, List.mem_of_getElem? (i := 1236) (by decide +kernel), List.mem_of_getElem? (i := 1501) (by decide +kernel), List.mem_of_getElem? (i := 1502) (by decide +kernel)⟩
def lw_privs_4 : List (MethodName × Nat) := [(⟨"HoopCabinetModel", "readFirst", "()V"⟩, 40), (⟨"HoopCabinetModel", "needs", "(Ljava/lang/String;)V"⟩, 40), (⟨"HoopCabinetModel", "takes", "(Ljava/lang/String;)Z"⟩, 40), (⟨"HoopCabinetModel", "is", "(Ljava/lang/String;)Z"⟩, 40), (⟨"HoopCabinetModel", "errs", "(I)V"⟩, 40), (⟨"HoopCabinetModel", "told", "(Ljava/lang/String;II)I"⟩, 40), (⟨"HoopCabinetModel", "number", "(II)I"⟩, 40), (⟨"HoopCabinetModel", "readNext", "()V"⟩, 40), (⟨"HoopCabinetModel", "isFull", "()Z"⟩, 40), (⟨"HoopCabinetModel", "readDoor", "()V"⟩, 40), (⟨"HoopCabinetModel", "freshRoom", "(Ljava/lang/String;)I"⟩, 40), (⟨"HoopCabinetModel", "readBid", "()V"⟩, 40), (⟨"HoopCabinetModel", "isDoor", "(I)Z"⟩, 40), (⟨"HoopCabinetModel", "isLady", "(J)Z"⟩, 40), (⟨"HoopCabinetModel", "asItIs", "()V"⟩, 40), (⟨"HoopCabinetModel", "layMinisters", "()V"⟩, 40)]
theorem lw_r4 : ∀ q ∈ lw_privs_4, lw_okq q := List.forall_mem_cons.mpr ⟨lw_p48, List.forall_mem_cons.mpr ⟨lw_p49, List.forall_mem_cons.mpr ⟨lw_p50, List.forall_mem_cons.mpr ⟨lw_p51, List.forall_mem_cons.mpr ⟨lw_p52, List.forall_mem_cons.mpr ⟨lw_p53, List.forall_mem_cons.mpr ⟨lw_p54, List.forall_mem_cons.mpr ⟨lw_p55, List.forall_mem_cons.mpr ⟨lw_p56, List.forall_mem_cons.mpr ⟨lw_p57, List.forall_mem_cons.mpr ⟨lw_p58, List.forall_mem_cons.mpr ⟨lw_p59, List.forall_mem_cons.mpr ⟨lw_p60, List.forall_mem_cons.mpr ⟨lw_p61, List.forall_mem_cons.mpr ⟨lw_p62, List.forall_mem_cons.mpr ⟨lw_p63, fun _ h => absurd h List.not_mem_nil⟩⟩⟩⟩⟩⟩⟩⟩⟩⟩⟩⟩⟩⟩⟩⟩
theorem lw_p64 : lw_okq (⟨"HoopCabinetModel", "layPlaces", "()V"⟩, 40) := ⟨⟨by decide +kernel, by decide +kernel⟩, List.mem_of_getElem? (i := 1236) (by decide +kernel), List.mem_of_getElem? (i := 1506) (by decide +kernel), List.mem_of_getElem? (i := 1507) (by decide +kernel)⟩
theorem lw_p65 : lw_okq (⟨"HoopCabinetModel", "layWays", "()V"⟩, 40) := ⟨⟨by decide +kernel, by decide +kernel⟩, List.mem_of_getElem? (i := 1236) (by decide +kernel), List.mem_of_getElem? (i := 1510) (by decide +kernel), List.mem_of_getElem? (i := 1511) (by decide +kernel)⟩
theorem lw_p66 : lw_okq (⟨"HoopCabinetModel", "wayOf", "(III)I"⟩, 40) := ⟨⟨by decide +kernel, by decide +kernel⟩, List.mem_of_getElem? (i := 1236) (by decide +kernel), List.mem_of_getElem? (i := 1515) (by decide +kernel), List.mem_of_getElem? (i := 1516) (by decide +kernel)⟩
theorem lw_p67 : lw_okq (⟨"HoopCabinetModel", "ladies", "()I"⟩, 40) := ⟨⟨by decide +kernel, by decide +kernel⟩, List.mem_of_getElem? (i := 1236) (by decide +kernel), List.mem_of_getElem? (i := 1519) (by decide +kernel), List.mem_of_getElem? (i := 1520) (by decide +kernel)⟩
theorem lw_p68 : lw_okq (⟨"HoopCabinetModel", "dances", "()I"⟩, 40) := ⟨⟨by decide +kernel, by decide +kernel⟩, List.mem_of_getElem? (i := 1236) (by decide +kernel), List.mem_of_getElem? (i := 1523) (by decide +kernel), List.mem_of_getElem? (i := 1524) (by decide +kernel)⟩
theorem lw_p69 : lw_okq (⟨"HoopCabinetModel", "atOf", "(II)I"⟩, 40) := ⟨⟨by decide +kernel, by decide +kernel⟩, List.mem_of_getElem? (i := 1236) (by decide +kernel), List.mem_of_getElem? (i := 1530) (by decide +kernel), List.mem_of_getElem? (i := 1531) (by decide +kernel)⟩
theorem lw_p70 : lw_okq (⟨"HoopCabinetModel", "biddenOf", "(II)I"⟩, 40) := ⟨⟨by decide +kernel, by decide +kernel⟩, List.mem_of_getElem? (i := 1236) (by decide +kernel), List.mem_of_getElem? (i := 1534) (by decide +kernel), List.mem_of_getElem? (i := 1535) (by decide +kernel)⟩
theorem lw_p71 : lw_okq (⟨"HoopCabinetModel", "nextRoom", "(III)I"⟩, 40) := ⟨⟨by decide +kernel, by decide +kernel⟩, List.mem_of_getElem? (i := 1236) (by decide +kernel), List.mem_of_getElem? (i := 1538) (by decide +kernel), List.mem_of_getElem? (i := 1539) (by decide +kernel)⟩
theorem lw_p72 : lw_okq (⟨"HoopCabinetModel", "wideOf", "(I)I"⟩, 40) := ⟨⟨by decide +kernel, by decide +kernel⟩, List.mem_of_getElem? (i := 1236) (by decide +kernel), List.mem_of_getElem? (i := 1542) (by decide +kernel), List.mem_of_getElem? (i := 1543) (by decide +kernel)⟩
theorem lw_p73 : lw_okq (⟨"HoopCabinetModel", "isMinister", "(I)Z"⟩, 40) := ⟨⟨by decide +kernel, by decide +kernel⟩, List.mem_of_getElem? (i := 1236) (by decide +kernel), List.mem_of_getElem? (i := 1546) (by decide +kernel), List.mem_of_getElem? (i := 1547) (by decide +kernel)⟩
theorem lw_p74 : lw_okq (⟨"HoopCabinetModel", "asksLady", "(I)Z"⟩, 40) := ⟨⟨by decide +kernel, by decide +kernel⟩, List.mem_of_getElem? (i := 1236) (by decide +kernel), List.mem_of_getElem? (i := 1554) (by decide +kernel), List.mem_of_getElem? (i := 1555) (by decide +kernel)⟩
theorem lw_p75 : lw_okq (⟨"HoopCabinetModel", "isRoom", "(I)Z"⟩, 40) := ⟨⟨by decide +kernel, by decide +kernel⟩, List.mem_of_getElem? (i := 1236) (by decide +kernel), List.mem_of_getElem? (i := 1558) (by decide +kernel), List.mem_of_getElem? (i := 1559) (by decide +kernel)⟩
theorem lw_p76 : lw_okq (⟨"HoopCabinetModel", "isDance", "(J)Z"⟩, 40) := ⟨⟨by decide +kernel, by decide +kernel⟩, List.mem_of_getElem? (i := 1236) (by decide +kernel), List.mem_of_getElem? (i := 1570) (by decide +kernel), List.mem_of_getElem? (i := 1571) (by decide +kernel)⟩
theorem lw_p77 : lw_okq (⟨"HoopCabinetModel", "isBall", "()Z"⟩, 40) := ⟨⟨by decide +kernel, by decide +kernel⟩, List.mem_of_getElem? (i := 1236) (by decide +kernel), List.mem_of_getElem? (i := 1574) (by decide +kernel), List.mem_of_getElem? (i := 1575) (by decide +kernel)⟩
theorem lw_p78 : lw_okq (⟨"HoopCabinetModel", "asksDance", "(I)Z"⟩, 40) := ⟨⟨by decide +kernel, by decide +kernel⟩, List.mem_of_getElem? (i := 1236) (by decide +kernel), List.mem_of_getElem? (i := 1582) (by decide +kernel), List.mem_of_getElem? (i := 1583) (by decide +kernel)⟩
theorem lw_p79 : lw_okq (⟨"HoopCabinetModel", "withinOf", "(II)I"⟩, 40) := ⟨⟨by decide +kernel, by decide +kernel⟩, List.mem_of_getElem? (i := 1236) (by decide +kernel), List.mem_of_getElem? (i := 1590) (by decide +kernel), List.mem_of_getElem? (i := 1591) (by decide +kernel)⟩
def lw_privs_5 : List (MethodName × Nat) := [(⟨"HoopCabinetModel", "layPlaces", "()V"⟩, 40), (⟨"HoopCabinetModel", "layWays", "()V"⟩, 40), (⟨"HoopCabinetModel", "wayOf", "(III)I"⟩, 40), (⟨"HoopCabinetModel", "ladies", "()I"⟩, 40), (⟨"HoopCabinetModel", "dances", "()I"⟩, 40), (⟨"HoopCabinetModel", "atOf", "(II)I"⟩, 40), (⟨"HoopCabinetModel", "biddenOf", "(II)I"⟩, 40), (⟨"HoopCabinetModel", "nextRoom", "(III)I"⟩, 40), (⟨"HoopCabinetModel", "wideOf", "(I)I"⟩, 40), (⟨"HoopCabinetModel", "isMinister", "(I)Z"⟩, 40), (⟨"HoopCabinetModel", "asksLady", "(I)Z"⟩, 40), (⟨"HoopCabinetModel", "isRoom", "(I)Z"⟩, 40), (⟨"HoopCabinetModel", "isDance", "(J)Z"⟩, 40), (⟨"HoopCabinetModel", "isBall", "()Z"⟩, 40), (⟨"HoopCabinetModel", "asksDance", "(I)Z"⟩, 40), (⟨"HoopCabinetModel", "withinOf", "(II)I"⟩, 40)]
theorem lw_r5 : ∀ q ∈ lw_privs_5, lw_okq q := List.forall_mem_cons.mpr ⟨lw_p64, List.forall_mem_cons.mpr ⟨lw_p65, List.forall_mem_cons.mpr ⟨lw_p66, List.forall_mem_cons.mpr ⟨lw_p67, List.forall_mem_cons.mpr ⟨lw_p68, List.forall_mem_cons.mpr ⟨lw_p69, List.forall_mem_cons.mpr ⟨lw_p70, List.forall_mem_cons.mpr ⟨lw_p71, List.forall_mem_cons.mpr ⟨lw_p72, List.forall_mem_cons.mpr ⟨lw_p73, List.forall_mem_cons.mpr ⟨lw_p74, List.forall_mem_cons.mpr ⟨lw_p75, List.forall_mem_cons.mpr ⟨lw_p76, List.forall_mem_cons.mpr ⟨lw_p77, List.forall_mem_cons.mpr ⟨lw_p78, List.forall_mem_cons.mpr ⟨lw_p79, fun _ h => absurd h List.not_mem_nil⟩⟩⟩⟩⟩⟩⟩⟩⟩⟩⟩⟩⟩⟩⟩⟩
theorem lw_p80 : lw_okq (⟨"HoopCabinetModel", "stepsOf", "(I)I"⟩, 40) := ⟨⟨by decide +kernel, by decide +kernel⟩, List.mem_of_getElem? (i := 1236) (by decide +kernel), List.mem_of_getElem? (i := 1598) (by decide +kernel), List.mem_of_getElem? (i := 1599) (by decide +kernel)⟩
theorem lw_p81 : lw_okq (⟨"HoopCabinetModel", "firstMeet", "(II)I"⟩, 40) := ⟨⟨by decide +kernel, by decide +kernel⟩, List.mem_of_getElem? (i := 1236) (by decide +kernel), List.mem_of_getElem? (i := 1610) (by decide +kernel), List.mem_of_getElem? (i := 1611) (by decide +kernel)⟩
theorem lw_p82 : lw_okq (⟨"HoopCabinetModel", "doMeet", "(III)Z"⟩, 40) := ⟨⟨by decide +kernel, by decide +kernel⟩, List.mem_of_getElem? (i := 1236) (by decide +kernel), List.mem_of_getElem? (i := 1614) (by decide +kernel), List.mem_of_getElem? (i := 1615) (by decide +kernel)⟩
theorem lw_p83 : lw_okq (⟨"HoopCabinetModel", "oftenMeet", "(II)I"⟩, 40) := ⟨⟨by decide +kernel, by decide +kernel⟩, List.mem_of_getElem? (i := 1236) (by decide +kernel), List.mem_of_getElem? (i := 1622) (by decide +kernel), List.mem_of_getElem? (i := 1623) (by decide +kernel)⟩
theorem lw_p84 : lw_okq (⟨"HoopCabinetModel", "friendsOf", "(I)I"⟩, 40) := ⟨⟨by decide +kernel, by decide +kernel⟩, List.mem_of_getElem? (i := 1236) (by decide +kernel), List.mem_of_getElem? (i := 1630) (by decide +kernel), List.mem_of_getElem? (i := 1631) (by decide +kernel)⟩
theorem lw_p85 : lw_okq (⟨"HoopCabinetModel", "asksBall", "()Z"⟩, 40) := ⟨⟨by decide +kernel, by decide +kernel⟩, List.mem_of_getElem? (i := 1236) (by decide +kernel), List.mem_of_getElem? (i := 1638) (by decide +kernel), List.mem_of_getElem? (i := 1639) (by decide +kernel)⟩
theorem lw_p86 : lw_okq (⟨"HoopCabinetModel", "crushOf", "()I"⟩, 40) := ⟨⟨by decide +kernel, by decide +kernel⟩, List.mem_of_getElem? (i := 1236) (by decide +kernel), List.mem_of_getElem? (i := 1642) (by decide +kernel), List.mem_of_getElem? (i := 1643) (by decide +kernel)⟩
theorem lw_p87 : lw_okq (⟨"HoopCabinetModel", "goNote", "(II)I"⟩, 40) := ⟨⟨by decide +kernel, by decide +kernel⟩, List.mem_of_getElem? (i := 1236) (by decide +kernel), List.mem_of_getElem? (i := 1685) (by decide +kernel), List.mem_of_getElem? (i := 1686) (by decide +kernel)⟩
theorem lw_p88 : lw_okq (⟨"HoopCabinetModel", "giverTo", "(III)I"⟩, 40) := ⟨⟨by decide +kernel, by decide +kernel⟩, List.mem_of_getElem? (i := 1236) (by decide +kernel), List.mem_of_getElem? (i := 1689) (by decide +kernel), List.mem_of_getElem? (i := 1690) (by decide +kernel)⟩
theorem lw_p89 : lw_okq (⟨"HoopCabinetModel", "doesGive", "(II)Z"⟩, 40) := ⟨⟨by decide +kernel, by decide +kernel⟩, List.mem_of_getElem? (i := 1236) (by decide +kernel), List.mem_of_getElem? (i := 1693) (by decide +kernel), List.mem_of_getElem? (i := 1694) (by decide +kernel)⟩
theorem lw_p90 : lw_okq (⟨"HoopCabinetModel", "asksNote", "(II)Z"⟩, 40) := ⟨⟨by decide +kernel, by decide +kernel⟩, List.mem_of_getElem? (i := 1236) (by decide +kernel), List.mem_of_getElem? (i := 1701) (by decide +kernel), List.mem_of_getElem? (i := 1702) (by decide +kernel)⟩
theorem lw_p91 : lw_okq (⟨"HoopCabinetModel", "goNote", "(I)I"⟩, 40) := ⟨⟨by decide +kernel, by decide +kernel⟩, List.mem_of_getElem? (i := 1236) (by decide +kernel), List.mem_of_getElem? (i := 1705) (by decide +kernel), List.mem_of_getElem? (i := 1706) (by decide +kernel)⟩
theorem lw_p92 : lw_okq (⟨"HoopCabinetModel", "asksCarry", "(III)Z"⟩, 40) := ⟨⟨by decide +kernel, by decide +kernel⟩, List.mem_of_getElem? (i := 1236) (by decide +kernel), List.mem_of_getElem? (i := 1747) (by decide +kernel), List.mem_of_getElem? (i := 1748) (by decide +kernel)⟩
theorem lw_p93 : lw_okq (⟨"HoopCabinetModel", "layWalk", "(III)I"⟩, 40) := ⟨⟨by decide +kernel, by decide +kernel⟩, List.mem_of_getElem? (i := 1236) (by decide +kernel), List.mem_of_getElem? (i := 1751) (by decide +kernel), List.mem_of_getElem? (i := 1752) (by decide +kernel)⟩
theorem lw_p94 : lw_okq (⟨"HoopCabinetModel", "layCarry", "(IIII)V"⟩, 40) := ⟨⟨by decide +kernel, by decide +kernel⟩, List.mem_of_getElem? (i := 1236) (by decide +kernel), List.mem_of_getElem? (i := 1755) (by decide +kernel), List.mem_of_getElem? (i := 1756) (by decide +kernel)⟩
theorem lw_p95 : lw_okq (⟨"HoopCabinetModel", "takesIn", "(IIII)Z"⟩, 40) := ⟨⟨by decide +kernel, by decide +kernel⟩, List.mem_of_getElem? (i := 1236) (by decide +kernel), List.mem_of_getElem? (i := 1759) (by decide +kernel), List.mem_of_getElem? (i := 1760) (by decide +kernel)⟩
def lw_privs_6 : List (MethodName × Nat) := [(⟨"HoopCabinetModel", "stepsOf", "(I)I"⟩, 40), (⟨"HoopCabinetModel", "firstMeet", "(II)I"⟩, 40), (⟨"HoopCabinetModel", "doMeet", "(III)Z"⟩, 40), (⟨"HoopCabinetModel", "oftenMeet", "(II)I"⟩, 40), (⟨"HoopCabinetModel", "friendsOf", "(I)I"⟩, 40), (⟨"HoopCabinetModel", "asksBall", "()Z"⟩, 40), (⟨"HoopCabinetModel", "crushOf", "()I"⟩, 40), (⟨"HoopCabinetModel", "goNote", "(II)I"⟩, 40), (⟨"HoopCabinetModel", "giverTo", "(III)I"⟩, 40), (⟨"HoopCabinetModel", "doesGive", "(II)Z"⟩, 40), (⟨"HoopCabinetModel", "asksNote", "(II)Z"⟩, 40), (⟨"HoopCabinetModel", "goNote", "(I)I"⟩, 40), (⟨"HoopCabinetModel", "asksCarry", "(III)Z"⟩, 40), (⟨"HoopCabinetModel", "layWalk", "(III)I"⟩, 40), (⟨"HoopCabinetModel", "layCarry", "(IIII)V"⟩, 40), (⟨"HoopCabinetModel", "takesIn", "(IIII)Z"⟩, 40)]
theorem lw_r6 : ∀ q ∈ lw_privs_6, lw_okq q := List.forall_mem_cons.mpr ⟨lw_p80, List.forall_mem_cons.mpr ⟨lw_p81, List.forall_mem_cons.mpr ⟨lw_p82, List.forall_mem_cons.mpr ⟨lw_p83, List.forall_mem_cons.mpr ⟨lw_p84, List.forall_mem_cons.mpr ⟨lw_p85, List.forall_mem_cons.mpr ⟨lw_p86, List.forall_mem_cons.mpr ⟨lw_p87, List.forall_mem_cons.mpr ⟨lw_p88, List.forall_mem_cons.mpr ⟨lw_p89, List.forall_mem_cons.mpr ⟨lw_p90, List.forall_mem_cons.mpr ⟨lw_p91, List.forall_mem_cons.mpr ⟨lw_p92, List.forall_mem_cons.mpr ⟨lw_p93, List.forall_mem_cons.mpr ⟨lw_p94, List.forall_mem_cons.mpr ⟨lw_p95, fun _ h => absurd h List.not_mem_nil⟩⟩⟩⟩⟩⟩⟩⟩⟩⟩⟩⟩⟩⟩⟩⟩
theorem lw_p96 : lw_okq (⟨"HoopCabinetModel", "isBeside", "(III)Z"⟩, 40) := ⟨⟨by decide +kernel, by decide +kernel⟩, List.mem_of_getElem? (i := 1236) (by decide +kernel), List.mem_of_getElem? (i := 1763) (by decide +kernel), List.mem_of_getElem? (i := 1764) (by decide +kernel)⟩
theorem lw_p97 : lw_okq (⟨"HoopCabinetModel", "haveWith", "(III)I"⟩, 40) := ⟨⟨by decide +kernel, by decide +kernel⟩, List.mem_of_getElem? (i := 1236) (by decide +kernel), List.mem_of_getElem? (i := 1778) (by decide +kernel), List.mem_of_getElem? (i := 1779) (by decide +kernel)⟩
theorem lw_p98 : lw_okq (⟨"HoopCabinetModel", "layFirsts", "(I)I"⟩, 40) := ⟨⟨by decide +kernel, by decide +kernel⟩, List.mem_of_getElem? (i := 1236) (by decide +kernel), List.mem_of_getElem? (i := 1794) (by decide +kernel), List.mem_of_getElem? (i := 1795) (by decide +kernel)⟩
theorem lw_p99 : lw_okq (⟨"HoopCabinetModel", "isThree", "(II)Z"⟩, 40) := ⟨⟨by decide +kernel, by decide +kernel⟩, List.mem_of_getElem? (i := 1236) (by decide +kernel), List.mem_of_getElem? (i := 1801) (by decide +kernel), List.mem_of_getElem? (i := 1802) (by decide +kernel)⟩
theorem lw_p100 : lw_okq (⟨"HoopCabinetModel", "numberAt", "(II)J"⟩, 40) := ⟨⟨by decide +kernel, by decide +kernel⟩, List.mem_of_getElem? (i := 1236) (by decide +kernel), List.mem_of_getElem? (i := 1805) (by decide +kernel), List.mem_of_getElem? (i := 1806) (by decide +kernel)⟩
theorem lw_p101 : lw_okq (⟨"HoopCabinetModel", "askOf", "(I)I"⟩, 40) := ⟨⟨by decide +kernel, by decide +kernel⟩, List.mem_of_getElem? (i := 1236) (by decide +kernel), List.mem_of_getElem? (i := 1813) (by decide +kernel), List.mem_of_getElem? (i := 1814) (by decide +kernel)⟩
theorem lw_p102 : lw_okq (⟨"HoopCabinetModel", "isSet", "(I)Z"⟩, 40) := ⟨⟨by decide +kernel, by decide +kernel⟩, List.mem_of_getElem? (i := 1236) (by decide +kernel), List.mem_of_getElem? (i := 1833) (by decide +kernel), List.mem_of_getElem? (i := 1834) (by decide +kernel)⟩
theorem lw_p103 : lw_okq (⟨"HoopCabinetModel", "doesHold", "(I)Z"⟩, 40) := ⟨⟨by decide +kernel, by decide +kernel⟩, List.mem_of_getElem? (i := 1236) (by decide +kernel), List.mem_of_getElem? (i := 1837) (by decide +kernel), List.mem_of_getElem? (i := 1838) (by decide +kernel)⟩
theorem lw_p104 : lw_okq (⟨"HoopCabinetModel", "seatsIn", "(I)I"⟩, 40) := ⟨⟨by decide +kernel, by decide +kernel⟩, List.mem_of_getElem? (i := 1236) (by decide +kernel), List.mem_of_getElem? (i := 1841) (by decide +kernel), List.mem_of_getElem? (i := 1842) (by decide +kernel)⟩
theorem lw_p105 : lw_okq (⟨"HoopCabinetModel", "allLadies", "()I"⟩, 40) := ⟨⟨by decide +kernel, by decide +kernel⟩, List.mem_of_getElem? (i := 1236) (by decide +kernel), List.mem_of_getElem? (i := 1845) (by decide +kernel), List.mem_of_getElem? (i := 1846) (by decide +kernel)⟩
theorem lw_p106 : lw_okq (⟨"HoopCabinetModel", "powerOf", "(I)I"⟩, 40) := ⟨⟨by decide +kernel, by decide +kernel⟩, List.mem_of_getElem? (i := 1236) (by decide +kernel), List.mem_of_getElem? (i := 1857) (by decide +kernel), List.mem_of_getElem? (i := 1858) (by decide +kernel)⟩
theorem lw_p107 : lw_okq (⟨"HoopCabinetModel", "isLeast", "(I)Z"⟩, 40) := ⟨⟨by decide +kernel, by decide +kernel⟩, List.mem_of_getElem? (i := 1236) (by decide +kernel), List.mem_of_getElem? (i := 1887) (by decide +kernel), List.mem_of_getElem? (i := 1888) (by decide +kernel)⟩
theorem lw_p108 : lw_okq (⟨"HoopCabinetModel", "areTwo", "(II)Z"⟩, 40) := ⟨⟨by decide +kernel, by decide +kernel⟩, List.mem_of_getElem? (i := 1236) (by decide +kernel), List.mem_of_getElem? (i := 1899) (by decide +kernel), List.mem_of_getElem? (i := 1900) (by decide +kernel)⟩
theorem lw_p109 : lw_okq (⟨"HoopCabinetModel", "gainsBy", "(IIIII)I"⟩, 40) := ⟨⟨by decide +kernel, by decide +kernel⟩, List.mem_of_getElem? (i := 1236) (by decide +kernel), List.mem_of_getElem? (i := 1903) (by decide +kernel), List.mem_of_getElem? (i := 1904) (by decide +kernel)⟩
theorem lw_p110 : lw_okq (⟨"HoopCabinetModel", "asksMusic", "(III)Z"⟩, 40) := ⟨⟨by decide +kernel, by decide +kernel⟩, List.mem_of_getElem? (i := 1236) (by decide +kernel), List.mem_of_getElem? (i := 1915) (by decide +kernel), List.mem_of_getElem? (i := 1916) (by decide +kernel)⟩
theorem lw_p111 : lw_okq (⟨"HoopCabinetModel", "layMusic", "(III)V"⟩, 40) := ⟨⟨by decide +kernel, by decide +kernel⟩, List.mem_of_getElem? (i := 1236) (by decide +kernel), List.mem_of_getElem? (i := 1921) (by decide +kernel), List.mem_of_getElem? (i := 1922) (by decide +kernel)⟩
def lw_privs_7 : List (MethodName × Nat) := [(⟨"HoopCabinetModel", "isBeside", "(III)Z"⟩, 40), (⟨"HoopCabinetModel", "haveWith", "(III)I"⟩, 40), (⟨"HoopCabinetModel", "layFirsts", "(I)I"⟩, 40), (⟨"HoopCabinetModel", "isThree", "(II)Z"⟩, 40), (⟨"HoopCabinetModel", "numberAt", "(II)J"⟩, 40), (⟨"HoopCabinetModel", "askOf", "(I)I"⟩, 40), (⟨"HoopCabinetModel", "isSet", "(I)Z"⟩, 40), (⟨"HoopCabinetModel", "doesHold", "(I)Z"⟩, 40), (⟨"HoopCabinetModel", "seatsIn", "(I)I"⟩, 40), (⟨"HoopCabinetModel", "allLadies", "()I"⟩, 40), (⟨"HoopCabinetModel", "powerOf", "(I)I"⟩, 40), (⟨"HoopCabinetModel", "isLeast", "(I)Z"⟩, 40), (⟨"HoopCabinetModel", "areTwo", "(II)Z"⟩, 40), (⟨"HoopCabinetModel", "gainsBy", "(IIIII)I"⟩, 40), (⟨"HoopCabinetModel", "asksMusic", "(III)Z"⟩, 40), (⟨"HoopCabinetModel", "layMusic", "(III)V"⟩, 40)]
theorem lw_r7 : ∀ q ∈ lw_privs_7, lw_okq q := List.forall_mem_cons.mpr ⟨lw_p96, List.forall_mem_cons.mpr ⟨lw_p97, List.forall_mem_cons.mpr ⟨lw_p98, List.forall_mem_cons.mpr ⟨lw_p99, List.forall_mem_cons.mpr ⟨lw_p100, List.forall_mem_cons.mpr ⟨lw_p101, List.forall_mem_cons.mpr ⟨lw_p102, List.forall_mem_cons.mpr ⟨lw_p103, List.forall_mem_cons.mpr ⟨lw_p104, List.forall_mem_cons.mpr ⟨lw_p105, List.forall_mem_cons.mpr ⟨lw_p106, List.forall_mem_cons.mpr ⟨lw_p107, List.forall_mem_cons.mpr ⟨lw_p108, List.forall_mem_cons.mpr ⟨lw_p109, List.forall_mem_cons.mpr ⟨lw_p110, List.forall_mem_cons.mpr ⟨lw_p111, fun _ h => absurd h List.not_mem_nil⟩⟩⟩⟩⟩⟩⟩⟩⟩⟩⟩⟩⟩⟩⟩⟩
theorem lw_p112 : lw_okq (⟨"HoopCabinetModel", "keepAct", "(I)I"⟩, 40) := ⟨⟨by decide +kernel, by decide +kernel⟩, List.mem_of_getElem? (i := 1236) (by decide +kernel), List.mem_of_getElem? (i := 1934) (by decide +kernel), List.mem_of_getElem? (i := 1935) (by decide +kernel)⟩
theorem lw_p113 : lw_okq (⟨"HoopCabinetModel", "goDrawn", "(JI)I"⟩, 40) := ⟨⟨by decide +kernel, by decide +kernel⟩, List.mem_of_getElem? (i := 1236) (by decide +kernel), List.mem_of_getElem? (i := 1958) (by decide +kernel), List.mem_of_getElem? (i := 1959) (by decide +kernel)⟩
def lw_privs_8 : List (MethodName × Nat) := [(⟨"HoopCabinetModel", "keepAct", "(I)I"⟩, 40), (⟨"HoopCabinetModel", "goDrawn", "(JI)I"⟩, 40)]
theorem lw_r8 : ∀ q ∈ lw_privs_8, lw_okq q := List.forall_mem_cons.mpr ⟨lw_p112, List.forall_mem_cons.mpr ⟨lw_p113, fun _ h => absurd h List.not_mem_nil⟩⟩
def lw_privs : List (MethodName × Nat) := lw_privs_1 ++ (lw_privs_2 ++ (lw_privs_3 ++ (lw_privs_4 ++ (lw_privs_5 ++ (lw_privs_6 ++ (lw_privs_7 ++ (lw_privs_8)))))))
def lw_tbl : List Cond := k2_sels lw_privs ++ tables_1
theorem lw_privs_ok : ∀ q ∈ lw_privs, lw_okq q := by
  show ∀ q ∈ lw_privs_1 ++ (lw_privs_2 ++ (lw_privs_3 ++ (lw_privs_4 ++ (lw_privs_5 ++ (lw_privs_6 ++ (lw_privs_7 ++ (lw_privs_8))))))), lw_okq q
  exact List.forall_mem_append.mpr ⟨lw_r1, List.forall_mem_append.mpr ⟨lw_r2, List.forall_mem_append.mpr ⟨lw_r3, List.forall_mem_append.mpr ⟨lw_r4, List.forall_mem_append.mpr ⟨lw_r5, List.forall_mem_append.mpr ⟨lw_r6, List.forall_mem_append.mpr ⟨lw_r7, lw_r8⟩⟩⟩⟩⟩⟩⟩
def RX0 : String := "HoopCabinet$Ball"
def TX0 : u_T := fun k => match k with
  | 0 => ("HoopCabinet$Ball", "lines", "I", false)
  | 1 => ("HoopCabinet$Ball", "rooms", "I", false)
  | 2 => ("HoopCabinet$Ball", "dances", "I", false)
  | 3 => ("HoopCabinet$Ball", "law", "I", false)
  | 4 => ("HoopCabinet$Ball", "odds", "I", false)
  | 5 => ("HoopCabinet$Ball", "doors", "LHoopCabinet$Table;", true)
  | 6 => ("HoopCabinet$Ball", "ladies", "LHoopCabinet$Table;", true)
  | 7 => ("HoopCabinet$Ball", "ministers", "LHoopCabinet$Table;", true)
  | 8 => ("HoopCabinet$Ball", "bids", "LHoopCabinet$Table;", true)
  | _ => ("HoopCabinet$Ball", "acts", "LHoopCabinet$Table;", true)
def tyX0 : Nat → FieldType := fun k => match k with
  | 0 => .int
  | 1 => .int
  | 2 => .int
  | 3 => .int
  | 4 => .int
  | 5 => .object "HoopCabinet$Table"
  | 6 => .object "HoopCabinet$Table"
  | 7 => .object "HoopCabinet$Table"
  | 8 => .object "HoopCabinet$Table"
  | _ => .object "HoopCabinet$Table"
abbrev wsX00 : List Cond := u_ws RX0 TX0 10
theorem nmX0 : ∀ a, a < 10 → ∀ b, b < 10 → a ≠ b → (TX0 a).2.1 ≠ (TX0 b).2.1 := by decide +kernel
theorem tyX0_ok : ∀ k, k < 10 → parseFieldDescriptor (TX0 k).2.2.1 = some (tyX0 k) := by decide +kernel
abbrev cX0_init : ByteArray := prog_2_method_1_code
def yX0_init : MethodName := ⟨RX0, "<init>", "()V"⟩
abbrev cX0_clear : ByteArray := prog_2_method_2_code
def yX0_clear : MethodName := ⟨RX0, "clear", "()V"⟩
abbrev cX0_copyFrom : ByteArray := prog_2_method_3_code
def yX0_copyFrom : MethodName := ⟨RX0, "copyFrom", "(LHoopCabinet$Ball;)V"⟩
abbrev cX0_isTold : ByteArray := prog_2_method_4_code
def yX0_isTold : MethodName := ⟨RX0, "isTold", "()Z"⟩
abbrev cX0_hasLady : ByteArray := prog_2_method_5_code
def yX0_hasLady : MethodName := ⟨RX0, "hasLady", "(I)Z"⟩
abbrev cX0_hasRoom : ByteArray := prog_2_method_6_code
def yX0_hasRoom : MethodName := ⟨RX0, "hasRoom", "(I)Z"⟩
abbrev cX0_hasDance : ByteArray := prog_2_method_7_code
def yX0_hasDance : MethodName := ⟨RX0, "hasDance", "(I)Z"⟩
abbrev cX0_hasSet : ByteArray := prog_2_method_8_code
def yX0_hasSet : MethodName := ⟨RX0, "hasSet", "(I)Z"⟩
abbrev cX0_everybody : ByteArray := prog_2_method_9_code
def yX0_everybody : MethodName := ⟨RX0, "everybody", "()I"⟩
abbrev cX0_ministersUnder : ByteArray := prog_2_method_10_code
def yX0_ministersUnder : MethodName := ⟨RX0, "ministersUnder", "(I)I"⟩
abbrev cX0_seatsUnder : ByteArray := prog_2_method_11_code
def yX0_seatsUnder : MethodName := ⟨RX0, "seatsUnder", "(I)I"⟩
abbrev cX0_actBid : ByteArray := prog_2_method_12_code
def yX0_actBid : MethodName := ⟨RX0, "actBid", "(III)V"⟩
abbrev cX0_actMove : ByteArray := prog_2_method_13_code
def yX0_actMove : MethodName := ⟨RX0, "actMove", "(II)V"⟩
abbrev cX0_takeBack : ByteArray := prog_2_method_14_code
def yX0_takeBack : MethodName := ⟨RX0, "takeBack", "()V"⟩
def RX1 : String := "HoopCabinet$Carrier"
def TX1 : u_T := fun k => match k with
  | 0 => ("HoopCabinet$Carrier", "taking", "[I", true)
  | 1 => ("HoopCabinet$Carrier", "holding", "[I", true)
  | 2 => ("HoopCabinet$Carrier", "bare", "[I", true)
  | 3 => ("HoopCabinet$Carrier", "lady", "I", false)
  | 4 => ("HoopCabinet$Carrier", "other", "I", false)
  | 5 => ("HoopCabinet$Carrier", "dances", "I", false)
  | 6 => ("HoopCabinet$Carrier", "startsWithIt", "Z", false)
  | _ => ("HoopCabinet$Carrier", "givesAtOnce", "Z", false)
def tyX1 : Nat → FieldType := fun k => match k with
  | 0 => .array .int
  | 1 => .array .int
  | 2 => .array .int
  | 3 => .int
  | 4 => .int
  | 5 => .int
  | 6 => .boolean
  | _ => .boolean
abbrev wsX10 : List Cond := u_ws RX1 TX1 8
theorem nmX1 : ∀ a, a < 8 → ∀ b, b < 8 → a ≠ b → (TX1 a).2.1 ≠ (TX1 b).2.1 := by decide +kernel
theorem tyX1_ok : ∀ k, k < 8 → parseFieldDescriptor (TX1 k).2.2.1 = some (tyX1 k) := by decide +kernel
abbrev cX1_init : ByteArray := prog_3_method_1_code
def yX1_init : MethodName := ⟨RX1, "<init>", "()V"⟩
abbrev cX1_prepare : ByteArray := prog_3_method_2_code
def yX1_prepare : MethodName := ⟨RX1, "prepare", "(LHoopCabinet$Floor;LHoopCabinet$Notes;II)V"⟩
abbrev cX1_roomsOf : ByteArray := prog_3_method_3_code
def yX1_roomsOf : MethodName := ⟨RX1, "roomsOf", "(LHoopCabinet$Floor;II)I"⟩
abbrev cX1_soonest : ByteArray := prog_3_method_4_code
def yX1_soonest : MethodName := ⟨RX1, "soonest", "(LHoopCabinet$Floor;)I"⟩
abbrev cX1_lookBack : ByteArray := prog_3_method_5_code
def yX1_lookBack : MethodName := ⟨RX1, "lookBack", "(LHoopCabinet$Floor;I)V"⟩
abbrev cX1_goodWithout : ByteArray := prog_3_method_6_code
def yX1_goodWithout : MethodName := ⟨RX1, "goodWithout", "(II)I"⟩
abbrev cX1_roomAt : ByteArray := prog_3_method_7_code
def yX1_roomAt : MethodName := ⟨RX1, "roomAt", "(LHoopCabinet$Floor;II)I"⟩
def RX2 : String := "HoopCabinet$Floor"
def TX2 : u_T := fun k => match k with
  | 0 => ("HoopCabinet$Floor", "near", "[I", true)
  | 1 => ("HoopCabinet$Floor", "goals", "[I", true)
  | 2 => ("HoopCabinet$Floor", "since", "[I", true)
  | 3 => ("HoopCabinet$Floor", "places", "[I", true)
  | 4 => ("HoopCabinet$Floor", "company", "[I", true)
  | 5 => ("HoopCabinet$Floor", "ladies", "I", false)
  | 6 => ("HoopCabinet$Floor", "rooms", "I", false)
  | _ => ("HoopCabinet$Floor", "dances", "I", false)
def tyX2 : Nat → FieldType := fun k => match k with
  | 0 => .array .int
  | 1 => .array .int
  | 2 => .array .int
  | 3 => .array .int
  | 4 => .array .int
  | 5 => .int
  | 6 => .int
  | _ => .int
abbrev wsX20 : List Cond := u_ws RX2 TX2 8
theorem nmX2 : ∀ a, a < 8 → ∀ b, b < 8 → a ≠ b → (TX2 a).2.1 ≠ (TX2 b).2.1 := by decide +kernel
theorem tyX2_ok : ∀ k, k < 8 → parseFieldDescriptor (TX2 k).2.2.1 = some (tyX2 k) := by decide +kernel
abbrev cX2_init : ByteArray := prog_4_method_1_code
def yX2_init : MethodName := ⟨RX2, "<init>", "()V"⟩
abbrev cX2_settle : ByteArray := prog_4_method_2_code
def yX2_settle : MethodName := ⟨RX2, "settle", "(LHoopCabinet$Ball;II)V"⟩
abbrev cX2_openDoors : ByteArray := prog_4_method_3_code
def yX2_openDoors : MethodName := ⟨RX2, "openDoors", "(LHoopCabinet$Ball;II)V"⟩
abbrev cX2_openDoor : ByteArray := prog_4_method_4_code
def yX2_openDoor : MethodName := ⟨RX2, "openDoor", "(LHoopCabinet$Ball;II)V"⟩
abbrev cX2_hearBids : ByteArray := prog_4_method_5_code
def yX2_hearBids : MethodName := ⟨RX2, "hearBids", "(LHoopCabinet$Ball;)V"⟩
abbrev cX2_hearBid : ByteArray := prog_4_method_6_code
def yX2_hearBid : MethodName := ⟨RX2, "hearBid", "(III)V"⟩
abbrev cX2_goAsBidden : ByteArray := prog_4_method_7_code
def yX2_goAsBidden : MethodName := ⟨RX2, "goAsBidden", "(II)V"⟩
abbrev cX2_nextRoom : ByteArray := prog_4_method_8_code
def yX2_nextRoom : MethodName := ⟨RX2, "nextRoom", "(III)I"⟩
abbrev cX2_gather : ByteArray := prog_4_method_9_code
def yX2_gather : MethodName := ⟨RX2, "gather", "()V"⟩
abbrev cX2_keepStill : ByteArray := prog_4_method_10_code
def yX2_keepStill : MethodName := ⟨RX2, "keepStill", "(I)V"⟩
abbrev cX2_copyFrom : ByteArray := prog_4_method_11_code
def yX2_copyFrom : MethodName := ⟨RX2, "copyFrom", "(LHoopCabinet$Floor;)V"⟩
abbrev cX2_stepsFrom : ByteArray := prog_4_method_12_code
def yX2_stepsFrom : MethodName := ⟨RX2, "stepsFrom", "(II)I"⟩
abbrev cX2_spread : ByteArray := prog_4_method_13_code
def yX2_spread : MethodName := ⟨RX2, "spread", "(II)I"⟩
abbrev cX2_distance : ByteArray := prog_4_method_14_code
def yX2_distance : MethodName := ⟨RX2, "distance", "(III)I"⟩
abbrev cX2_reachable : ByteArray := prog_4_method_15_code
def yX2_reachable : MethodName := ⟨RX2, "reachable", "(II)I"⟩
abbrev cX2_isHere : ByteArray := prog_4_method_16_code
def yX2_isHere : MethodName := ⟨RX2, "isHere", "(II)Z"⟩
abbrev cX2_goalOf : ByteArray := prog_4_method_17_code
def yX2_goalOf : MethodName := ⟨RX2, "goalOf", "(II)I"⟩
abbrev cX2_placeOf : ByteArray := prog_4_method_18_code
def yX2_placeOf : MethodName := ⟨RX2, "placeOf", "(II)I"⟩
abbrev cX2_companyOf : ByteArray := prog_4_method_19_code
def yX2_companyOf : MethodName := ⟨RX2, "companyOf", "(II)I"⟩
abbrev cX2_ladiesIn : ByteArray := prog_4_method_20_code
def yX2_ladiesIn : MethodName := ⟨RX2, "ladiesIn", "(II)I"⟩
abbrev cX2_dancesIn : ByteArray := prog_4_method_21_code
def yX2_dancesIn : MethodName := ⟨RX2, "dancesIn", "(II)I"⟩
abbrev cX2_stepsOf : ByteArray := prog_4_method_22_code
def yX2_stepsOf : MethodName := ⟨RX2, "stepsOf", "(I)I"⟩
abbrev cX2_meetingsOf : ByteArray := prog_4_method_23_code
def yX2_meetingsOf : MethodName := ⟨RX2, "meetingsOf", "(II)I"⟩
abbrev cX2_friendsOf : ByteArray := prog_4_method_24_code
def yX2_friendsOf : MethodName := ⟨RX2, "friendsOf", "(I)I"⟩
def RX3 : String := "HoopCabinet$House"
def TX3 : u_T := fun k => match k with
  | 0 => ("HoopCabinet$House", "seatsUnder", "[I", true)
  | 1 => ("HoopCabinet$House", "ladies", "I", false)
  | _ => ("HoopCabinet$House", "total", "I", false)
def tyX3 : Nat → FieldType := fun k => match k with
  | 0 => .array .int
  | 1 => .int
  | _ => .int
abbrev wsX30 : List Cond := u_ws RX3 TX3 3
theorem nmX3 : ∀ a, a < 3 → ∀ b, b < 3 → a ≠ b → (TX3 a).2.1 ≠ (TX3 b).2.1 := by decide +kernel
theorem tyX3_ok : ∀ k, k < 3 → parseFieldDescriptor (TX3 k).2.2.1 = some (tyX3 k) := by decide +kernel
abbrev cX3_init : ByteArray := prog_5_method_1_code
def yX3_init : MethodName := ⟨RX3, "<init>", "()V"⟩
abbrev cX3_tally : ByteArray := prog_5_method_2_code
def yX3_tally : MethodName := ⟨RX3, "tally", "(LHoopCabinet$Ball;)V"⟩
abbrev cX3_seatsOf : ByteArray := prog_5_method_3_code
def yX3_seatsOf : MethodName := ⟨RX3, "seatsOf", "(I)I"⟩
abbrev cX3_isMoreThanHalf : ByteArray := prog_5_method_4_code
def yX3_isMoreThanHalf : MethodName := ⟨RX3, "isMoreThanHalf", "(I)Z"⟩
abbrev cX3_isMajority : ByteArray := prog_5_method_5_code
def yX3_isMajority : MethodName := ⟨RX3, "isMajority", "(I)Z"⟩
abbrev cX3_isLeastMajority : ByteArray := prog_5_method_6_code
def yX3_isLeastMajority : MethodName := ⟨RX3, "isLeastMajority", "(I)Z"⟩
abbrev cX3_powerOf : ByteArray := prog_5_method_7_code
def yX3_powerOf : MethodName := ⟨RX3, "powerOf", "(I)I"⟩
def RX4 : String := "HoopCabinet$Music"
def TX4 : u_T := fun k => match k with
  | 0 => ("HoopCabinet$Music", "weights", "[J", false)
  | 1 => ("HoopCabinet$Music", "later", "[J", false)
  | _ => ("HoopCabinet$Music", "total", "J", false)
def tyX4 : Nat → FieldType := fun k => match k with
  | 0 => .array .long
  | 1 => .array .long
  | _ => .long
abbrev wsX40 : List Cond := u_ws RX4 TX4 3
theorem nmX4 : ∀ a, a < 3 → ∀ b, b < 3 → a ≠ b → (TX4 a).2.1 ≠ (TX4 b).2.1 := by decide +kernel
theorem tyX4_ok : ∀ k, k < 3 → parseFieldDescriptor (TX4 k).2.2.1 = some (tyX4 k) := by decide +kernel
abbrev cX4_init : ByteArray := prog_6_method_1_code
def yX4_init : MethodName := ⟨RX4, "<init>", "()V"⟩
abbrev cX4_play : ByteArray := prog_6_method_2_code
def yX4_play : MethodName := ⟨RX4, "play", "(LHoopCabinet$Floor;LHoopCabinet$Notes;III)V"⟩
abbrev cX4_playOne : ByteArray := prog_6_method_3_code
def yX4_playOne : MethodName := ⟨RX4, "playOne", "(LHoopCabinet$Floor;LHoopCabinet$Notes;II)V"⟩
abbrev cX4_weightWith : ByteArray := prog_6_method_4_code
def yX4_weightWith : MethodName := ⟨RX4, "weightWith", "(I)J"⟩
abbrev cX4_weightOfHolders : ByteArray := prog_6_method_5_code
def yX4_weightOfHolders : MethodName := ⟨RX4, "weightOfHolders", "()J"⟩
def RX5 : String := "HoopCabinet$Notes"
def TX5 : u_T := fun k => match k with
  | 0 => ("HoopCabinet$Notes", "allowed", "[I", true)
  | 1 => ("HoopCabinet$Notes", "seatsUnder", "[I", true)
  | 2 => ("HoopCabinet$Notes", "holders", "[I", true)
  | 3 => ("HoopCabinet$Notes", "ladies", "I", false)
  | 4 => ("HoopCabinet$Notes", "dances", "I", false)
  | _ => ("HoopCabinet$Notes", "first", "I", false)
def tyX5 : Nat → FieldType := fun k => match k with
  | 0 => .array .int
  | 1 => .array .int
  | 2 => .array .int
  | 3 => .int
  | 4 => .int
  | _ => .int
abbrev wsX50 : List Cond := u_ws RX5 TX5 6
theorem nmX5 : ∀ a, a < 6 → ∀ b, b < 6 → a ≠ b → (TX5 a).2.1 ≠ (TX5 b).2.1 := by decide +kernel
theorem tyX5_ok : ∀ k, k < 6 → parseFieldDescriptor (TX5 k).2.2.1 = some (tyX5 k) := by decide +kernel
abbrev cX5_init : ByteArray := prog_7_method_1_code
def yX5_init : MethodName := ⟨RX5, "<init>", "()V"⟩
abbrev cX5_prepare : ByteArray := prog_7_method_2_code
def yX5_prepare : MethodName := ⟨RX5, "prepare", "(LHoopCabinet$Ball;II)V"⟩
abbrev cX5_mayGive : ByteArray := prog_7_method_3_code
def yX5_mayGive : MethodName := ⟨RX5, "mayGive", "(LHoopCabinet$Ball;III)Z"⟩
abbrev cX5_passed : ByteArray := prog_7_method_4_code
def yX5_passed : MethodName := ⟨RX5, "passed", "(LHoopCabinet$Floor;II)I"⟩
abbrev cX5_follow : ByteArray := prog_7_method_5_code
def yX5_follow : MethodName := ⟨RX5, "follow", "(LHoopCabinet$Floor;II)V"⟩
abbrev cX5_behind : ByteArray := prog_7_method_6_code
def yX5_behind : MethodName := ⟨RX5, "behind", "(I)I"⟩
abbrev cX5_ahead : ByteArray := prog_7_method_7_code
def yX5_ahead : MethodName := ⟨RX5, "ahead", "(I)I"⟩
abbrev cX5_gotAt : ByteArray := prog_7_method_8_code
def yX5_gotAt : MethodName := ⟨RX5, "gotAt", "(I)I"⟩
abbrev cX5_giverOf : ByteArray := prog_7_method_9_code
def yX5_giverOf : MethodName := ⟨RX5, "giverOf", "(LHoopCabinet$Floor;I)I"⟩
def RX6 : String := "HoopCabinet$Reader"
def TX6 : u_T := fun k => match k with
  | 0 => ("HoopCabinet$Reader", "tape", "[B", true)
  | 1 => ("HoopCabinet$Reader", "ball", "LHoopCabinet$Ball;", true)
  | 2 => ("HoopCabinet$Reader", "length", "I", false)
  | 3 => ("HoopCabinet$Reader", "kind", "I", false)
  | 4 => ("HoopCabinet$Reader", "place", "I", false)
  | 5 => ("HoopCabinet$Reader", "stop", "I", false)
  | 6 => ("HoopCabinet$Reader", "fault", "I", false)
  | _ => ("HoopCabinet$Reader", "faultPlace", "I", false)
def tyX6 : Nat → FieldType := fun k => match k with
  | 0 => .array .byte
  | 1 => .object "HoopCabinet$Ball"
  | 2 => .int
  | 3 => .int
  | 4 => .int
  | 5 => .int
  | 6 => .int
  | _ => .int
abbrev wsX60 : List Cond := u_ws RX6 TX6 8
theorem nmX6 : ∀ a, a < 8 → ∀ b, b < 8 → a ≠ b → (TX6 a).2.1 ≠ (TX6 b).2.1 := by decide +kernel
theorem tyX6_ok : ∀ k, k < 8 → parseFieldDescriptor (TX6 k).2.2.1 = some (tyX6 k) := by decide +kernel
abbrev cX6_init : ByteArray := prog_8_method_1_code
def yX6_init : MethodName := ⟨RX6, "<init>", "([BLHoopCabinet$Ball;)V"⟩
abbrev cX6_read : ByteArray := prog_8_method_2_code
def yX6_read : MethodName := ⟨RX6, "read", "(I)V"⟩
abbrev cX6_readLine : ByteArray := prog_8_method_3_code
def yX6_readLine : MethodName := ⟨RX6, "readLine", "()V"⟩
abbrev cX6_readBall : ByteArray := prog_8_method_4_code
def yX6_readBall : MethodName := ⟨RX6, "readBall", "()V"⟩
abbrev cX6_readDoor : ByteArray := prog_8_method_5_code
def yX6_readDoor : MethodName := ⟨RX6, "readDoor", "()V"⟩
abbrev cX6_readLady : ByteArray := prog_8_method_6_code
def yX6_readLady : MethodName := ⟨RX6, "readLady", "()V"⟩
abbrev cX6_readMinister : ByteArray := prog_8_method_7_code
def yX6_readMinister : MethodName := ⟨RX6, "readMinister", "()V"⟩
abbrev cX6_readBid : ByteArray := prog_8_method_8_code
def yX6_readBid : MethodName := ⟨RX6, "readBid", "()V"⟩
abbrev cX6_startRow : ByteArray := prog_8_method_9_code
def yX6_startRow : MethodName := ⟨RX6, "startRow", "(LHoopCabinet$Table;)V"⟩
abbrev cX6_fail : ByteArray := prog_8_method_10_code
def yX6_fail : MethodName := ⟨RX6, "fail", "(I)V"⟩
abbrev cX6_takeWord : ByteArray := prog_8_method_11_code
def yX6_takeWord : MethodName := ⟨RX6, "takeWord", "(Ljava/lang/String;)V"⟩
abbrev cX6_takeSign : ByteArray := prog_8_method_12_code
def yX6_takeSign : MethodName := ⟨RX6, "takeSign", "()V"⟩
abbrev cX6_takeNumber : ByteArray := prog_8_method_13_code
def yX6_takeNumber : MethodName := ⟨RX6, "takeNumber", "(II)I"⟩
abbrev cX6_isWord : ByteArray := prog_8_method_14_code
def yX6_isWord : MethodName := ⟨RX6, "isWord", "(Ljava/lang/String;)Z"⟩
abbrev cX6_nextToken : ByteArray := prog_8_method_15_code
def yX6_nextToken : MethodName := ⟨RX6, "nextToken", "()V"⟩
abbrev cX6_digits : ByteArray := prog_8_method_16_code
def yX6_digits : MethodName := ⟨RX6, "digits", "()I"⟩
abbrev cX6_byteAt : ByteArray := prog_8_method_17_code
def yX6_byteAt : MethodName := ⟨RX6, "byteAt", "(I)I"⟩
abbrev cX6_isBlank : ByteArray := prog_8_method_18_code
def yX6_isBlank : MethodName := ⟨RX6, "isBlank", "(I)Z"⟩
abbrev cX6_kindOf : ByteArray := prog_8_method_19_code
def yX6_kindOf : MethodName := ⟨RX6, "kindOf", "(I)I"⟩
def RX7 : String := "HoopCabinet$Slot"
def TX7 : u_T := fun k => match k with
  | 0 => ("HoopCabinet$Slot", "cells", "[J", true)
  | 1 => ("HoopCabinet$Slot", "width", "I", false)
  | _ => ("HoopCabinet$Slot", "size", "I", false)
def tyX7 : Nat → FieldType := fun k => match k with
  | 0 => .array .long
  | 1 => .int
  | _ => .int
abbrev wsX70 : List Cond := u_ws RX7 TX7 3
theorem nmX7 : ∀ a, a < 3 → ∀ b, b < 3 → a ≠ b → (TX7 a).2.1 ≠ (TX7 b).2.1 := by decide +kernel
theorem tyX7_ok : ∀ k, k < 3 → parseFieldDescriptor (TX7 k).2.2.1 = some (tyX7 k) := by decide +kernel
abbrev cX7_init : ByteArray := prog_9_method_1_code
def yX7_init : MethodName := ⟨RX7, "<init>", "()V"⟩
abbrev cX7_isBare : ByteArray := prog_9_method_2_code
def yX7_isBare : MethodName := ⟨RX7, "isBare", "()Z"⟩
abbrev cX7_start : ByteArray := prog_9_method_3_code
def yX7_start : MethodName := ⟨RX7, "start", "(II)V"⟩
abbrev cX7_cell : ByteArray := prog_9_method_4_code
def yX7_cell : MethodName := ⟨RX7, "cell", "(I)J"⟩
abbrev cX7_put : ByteArray := prog_9_method_5_code
def yX7_put : MethodName := ⟨RX7, "put", "(IJ)V"⟩
abbrev cX7_cut : ByteArray := prog_9_method_6_code
def yX7_cut : MethodName := ⟨RX7, "cut", "(J)J"⟩
abbrev cX7_hasStretch : ByteArray := prog_9_method_7_code
def yX7_hasStretch : MethodName := ⟨RX7, "hasStretch", "(II)Z"⟩
def RX8 : String := "HoopCabinet$Table"
def TX8 : u_T := fun k => match k with
  | 0 => ("HoopCabinet$Table", "cells", "[I", true)
  | 1 => ("HoopCabinet$Table", "limit", "I", true)
  | 2 => ("HoopCabinet$Table", "width", "I", true)
  | _ => ("HoopCabinet$Table", "rows", "I", false)
def tyX8 : Nat → FieldType := fun k => match k with
  | 0 => .array .int
  | 1 => .int
  | 2 => .int
  | _ => .int
abbrev wsX80 : List Cond := u_ws RX8 TX8 4
theorem nmX8 : ∀ a, a < 4 → ∀ b, b < 4 → a ≠ b → (TX8 a).2.1 ≠ (TX8 b).2.1 := by decide +kernel
theorem tyX8_ok : ∀ k, k < 4 → parseFieldDescriptor (TX8 k).2.2.1 = some (tyX8 k) := by decide +kernel
abbrev cX8_init : ByteArray := prog_10_method_1_code
def yX8_init : MethodName := ⟨RX8, "<init>", "(II)V"⟩
abbrev cX8_has : ByteArray := prog_10_method_2_code
def yX8_has : MethodName := ⟨RX8, "has", "(I)Z"⟩
abbrev cX8_hasCell : ByteArray := prog_10_method_3_code
def yX8_hasCell : MethodName := ⟨RX8, "hasCell", "(II)Z"⟩
abbrev cX8_isFull : ByteArray := prog_10_method_4_code
def yX8_isFull : MethodName := ⟨RX8, "isFull", "()Z"⟩
abbrev cX8_cell : ByteArray := prog_10_method_5_code
def yX8_cell : MethodName := ⟨RX8, "cell", "(II)I"⟩
abbrev cX8_put : ByteArray := prog_10_method_6_code
def yX8_put : MethodName := ⟨RX8, "put", "(III)V"⟩
abbrev cX8_add : ByteArray := prog_10_method_7_code
def yX8_add : MethodName := ⟨RX8, "add", "(IIII)V"⟩
abbrev cX8_dropLast : ByteArray := prog_10_method_8_code
def yX8_dropLast : MethodName := ⟨RX8, "dropLast", "()V"⟩
abbrev cX8_clear : ByteArray := prog_10_method_9_code
def yX8_clear : MethodName := ⟨RX8, "clear", "()V"⟩
abbrev cX8_copyFrom : ByteArray := prog_10_method_10_code
def yX8_copyFrom : MethodName := ⟨RX8, "copyFrom", "(LHoopCabinet$Table;)V"⟩
def RX9 : String := "HoopCabinet"
def TX9 : u_T := fun k => match k with
  | 0 => ("HoopCabinet", "tape", "[B", true)
  | 1 => ("HoopCabinet", "tapeLength", "I", false)
  | 2 => ("HoopCabinet", "reader", "LHoopCabinet$Reader;", true)
  | 3 => ("HoopCabinet", "now", "LHoopCabinet$Ball;", true)
  | 4 => ("HoopCabinet", "draft", "LHoopCabinet$Ball;", true)
  | 5 => ("HoopCabinet", "images", "[LHoopCabinet$Ball;", true)
  | 6 => ("HoopCabinet", "kept", "[Z", true)
  | 7 => ("HoopCabinet", "slots", "[LHoopCabinet$Slot;", true)
  | 8 => ("HoopCabinet", "floor", "LHoopCabinet$Floor;", true)
  | 9 => ("HoopCabinet", "trial", "LHoopCabinet$Floor;", true)
  | 10 => ("HoopCabinet", "notes", "LHoopCabinet$Notes;", true)
  | 11 => ("HoopCabinet", "carrier", "LHoopCabinet$Carrier;", true)
  | 12 => ("HoopCabinet", "house", "LHoopCabinet$House;", true)
  | 13 => ("HoopCabinet", "music", "LHoopCabinet$Music;", true)
  | _ => ("HoopCabinet", "answers", "[I", true)
def tyX9 : Nat → FieldType := fun k => match k with
  | 0 => .array .byte
  | 1 => .int
  | 2 => .object "HoopCabinet$Reader"
  | 3 => .object "HoopCabinet$Ball"
  | 4 => .object "HoopCabinet$Ball"
  | 5 => .array (.object "HoopCabinet$Ball")
  | 6 => .array .boolean
  | 7 => .array (.object "HoopCabinet$Slot")
  | 8 => .object "HoopCabinet$Floor"
  | 9 => .object "HoopCabinet$Floor"
  | 10 => .object "HoopCabinet$Notes"
  | 11 => .object "HoopCabinet$Carrier"
  | 12 => .object "HoopCabinet$House"
  | 13 => .object "HoopCabinet$Music"
  | _ => .array .int
abbrev wsX90 : List Cond := u_ws RX9 TX9 15
theorem nmX9 : ∀ a, a < 15 → ∀ b, b < 15 → a ≠ b → (TX9 a).2.1 ≠ (TX9 b).2.1 := by decide +kernel
theorem tyX9_ok : ∀ k, k < 15 → parseFieldDescriptor (TX9 k).2.2.1 = some (tyX9 k) := by decide +kernel
abbrev cX9_init : ByteArray := prog_1_method_1_code
def yX9_init : MethodName := ⟨RX9, "<init>", "()V"⟩
abbrev cX9_feed : ByteArray := prog_1_method_2_code
def yX9_feed : MethodName := ⟨RX9, "feed", "(IIIII)I"⟩
abbrev cX9_appendFour : ByteArray := prog_1_method_3_code
def yX9_appendFour : MethodName := ⟨RX9, "appendFour", "(I)V"⟩
abbrev cX9_end : ByteArray := prog_1_method_4_code
def yX9_end : MethodName := ⟨RX9, "end", "(I)I"⟩
abbrev cX9_ball : ByteArray := prog_1_method_5_code
def yX9_ball : MethodName := ⟨RX9, "ball", "()I"⟩
abbrev cX9_fault : ByteArray := prog_1_method_6_code
def yX9_fault : MethodName := ⟨RX9, "fault", "(I)I"⟩
abbrev cX9_settle : ByteArray := prog_1_method_7_code
def yX9_settle : MethodName := ⟨RX9, "settle", "()V"⟩
abbrev cX9_door : ByteArray := prog_1_method_8_code
def yX9_door : MethodName := ⟨RX9, "door", "(II)I"⟩
abbrev cX9_lady : ByteArray := prog_1_method_9_code
def yX9_lady : MethodName := ⟨RX9, "lady", "(II)I"⟩
abbrev cX9_minister : ByteArray := prog_1_method_10_code
def yX9_minister : MethodName := ⟨RX9, "minister", "(II)I"⟩
abbrev cX9_way : ByteArray := prog_1_method_11_code
def yX9_way : MethodName := ⟨RX9, "way", "(III)I"⟩
abbrev cX9_reach : ByteArray := prog_1_method_12_code
def yX9_reach : MethodName := ⟨RX9, "reach", "(II)I"⟩
abbrev cX9_bidden : ByteArray := prog_1_method_13_code
def yX9_bidden : MethodName := ⟨RX9, "bidden", "(II)I"⟩
abbrev cX9_at : ByteArray := prog_1_method_14_code
def yX9_at : MethodName := ⟨RX9, "at", "(II)I"⟩
abbrev cX9_within : ByteArray := prog_1_method_15_code
def yX9_within : MethodName := ⟨RX9, "within", "(II)I"⟩
abbrev cX9_steps : ByteArray := prog_1_method_16_code
def yX9_steps : MethodName := ⟨RX9, "steps", "(I)I"⟩
abbrev cX9_sees : ByteArray := prog_1_method_17_code
def yX9_sees : MethodName := ⟨RX9, "sees", "(I)I"⟩
abbrev cX9_meets : ByteArray := prog_1_method_18_code
def yX9_meets : MethodName := ⟨RX9, "meets", "(II)I"⟩
abbrev cX9_often : ByteArray := prog_1_method_19_code
def yX9_often : MethodName := ⟨RX9, "often", "(II)I"⟩
abbrev cX9_friends : ByteArray := prog_1_method_20_code
def yX9_friends : MethodName := ⟨RX9, "friends", "(I)I"⟩
abbrev cX9_crush : ByteArray := prog_1_method_21_code
def yX9_crush : MethodName := ⟨RX9, "crush", "()I"⟩
abbrev cX9_crushed : ByteArray := prog_1_method_22_code
def yX9_crushed : MethodName := ⟨RX9, "crushed", "()I"⟩
abbrev cX9_fullest : ByteArray := prog_1_method_23_code
def yX9_fullest : MethodName := ⟨RX9, "fullest", "(I)I"⟩
abbrev cX9_likes : ByteArray := prog_1_method_24_code
def yX9_likes : MethodName := ⟨RX9, "likes", "(I)I"⟩
abbrev cX9_apart : ByteArray := prog_1_method_25_code
def yX9_apart : MethodName := ⟨RX9, "apart", "(III)I"⟩
abbrev cX9_alone : ByteArray := prog_1_method_26_code
def yX9_alone : MethodName := ⟨RX9, "alone", "(I)I"⟩
abbrev cX9_empty : ByteArray := prog_1_method_27_code
def yX9_empty : MethodName := ⟨RX9, "empty", "(I)I"⟩
abbrev cX9_late : ByteArray := prog_1_method_28_code
def yX9_late : MethodName := ⟨RX9, "late", "(I)I"⟩
abbrev cX9_waits : ByteArray := prog_1_method_29_code
def yX9_waits : MethodName := ⟨RX9, "waits", "(I)I"⟩
abbrev cX9_mate : ByteArray := prog_1_method_30_code
def yX9_mate : MethodName := ⟨RX9, "mate", "(I)I"⟩
abbrev cX9_passAsTold : ByteArray := prog_1_method_31_code
def yX9_passAsTold : MethodName := ⟨RX9, "passAsTold", "()V"⟩
abbrev cX9_inTheEnd : ByteArray := prog_1_method_32_code
def yX9_inTheEnd : MethodName := ⟨RX9, "inTheEnd", "(LHoopCabinet$Floor;I)I"⟩
abbrev cX9_hears : ByteArray := prog_1_method_33_code
def yX9_hears : MethodName := ⟨RX9, "hears", "(I)I"⟩
abbrev cX9_hands : ByteArray := prog_1_method_34_code
def yX9_hands : MethodName := ⟨RX9, "hands", "(II)I"⟩
abbrev cX9_have : ByteArray := prog_1_method_35_code
def yX9_have : MethodName := ⟨RX9, "have", "(II)I"⟩
abbrev cX9_gets : ByteArray := prog_1_method_36_code
def yX9_gets : MethodName := ⟨RX9, "gets", "(II)I"⟩
abbrev cX9_from : ByteArray := prog_1_method_37_code
def yX9_from : MethodName := ⟨RX9, "from", "(II)I"⟩
abbrev cX9_all : ByteArray := prog_1_method_38_code
def yX9_all : MethodName := ⟨RX9, "all", "(I)I"⟩
abbrev cX9_best : ByteArray := prog_1_method_39_code
def yX9_best : MethodName := ⟨RX9, "best", "()I"⟩
abbrev cX9_lasts : ByteArray := prog_1_method_40_code
def yX9_lasts : MethodName := ⟨RX9, "lasts", "(I)I"⟩
abbrev cX9_needed : ByteArray := prog_1_method_41_code
def yX9_needed : MethodName := ⟨RX9, "needed", "(I)I"⟩
abbrev cX9_by : ByteArray := prog_1_method_42_code
def yX9_by : MethodName := ⟨RX9, "by", "(II)I"⟩
abbrev cX9_carry : ByteArray := prog_1_method_43_code
def yX9_carry : MethodName := ⟨RX9, "carry", "(III)I"⟩
abbrev cX9_walk : ByteArray := prog_1_method_44_code
def yX9_walk : MethodName := ⟨RX9, "walk", "(IIII)I"⟩
abbrev cX9_widen : ByteArray := prog_1_method_45_code
def yX9_widen : MethodName := ⟨RX9, "widen", "(II)I"⟩
abbrev cX9_shut : ByteArray := prog_1_method_46_code
def yX9_shut : MethodName := ⟨RX9, "shut", "(II)I"⟩
abbrev cX9_bars : ByteArray := prog_1_method_47_code
def yX9_bars : MethodName := ⟨RX9, "bars", "(III)I"⟩
abbrev cX9_firsts : ByteArray := prog_1_method_48_code
def yX9_firsts : MethodName := ⟨RX9, "firsts", "(I)I"⟩
abbrev cX9_ask : ByteArray := prog_1_method_49_code
def yX9_ask : MethodName := ⟨RX9, "ask", "(I)I"⟩
abbrev cX9_leaves : ByteArray := prog_1_method_50_code
def yX9_leaves : MethodName := ⟨RX9, "leaves", "(I)I"⟩
abbrev cX9_seenFault : ByteArray := prog_1_method_51_code
def yX9_seenFault : MethodName := ⟨RX9, "seenFault", "(I)I"⟩
abbrev cX9_isSighting : ByteArray := prog_1_method_52_code
def yX9_isSighting : MethodName := ⟨RX9, "isSighting", "(JJJ)Z"⟩
abbrev cX9_possibleFirsts : ByteArray := prog_1_method_53_code
def yX9_possibleFirsts : MethodName := ⟨RX9, "possibleFirsts", "(LHoopCabinet$Slot;)I"⟩
abbrev cX9_agrees : ByteArray := prog_1_method_54_code
def yX9_agrees : MethodName := ⟨RX9, "agrees", "(LHoopCabinet$Slot;)Z"⟩
abbrev cX9_bestAsked : ByteArray := prog_1_method_55_code
def yX9_bestAsked : MethodName := ⟨RX9, "bestAsked", "(I)I"⟩
abbrev cX9_leftAtWorst : ByteArray := prog_1_method_56_code
def yX9_leftAtWorst : MethodName := ⟨RX9, "leftAtWorst", "(II)I"⟩
abbrev cX9_seats : ByteArray := prog_1_method_57_code
def yX9_seats : MethodName := ⟨RX9, "seats", "(I)I"⟩
abbrev cX9_under : ByteArray := prog_1_method_58_code
def yX9_under : MethodName := ⟨RX9, "under", "(I)I"⟩
abbrev cX9_holds : ByteArray := prog_1_method_59_code
def yX9_holds : MethodName := ⟨RX9, "holds", "(I)I"⟩
abbrev cX9_blocks : ByteArray := prog_1_method_60_code
def yX9_blocks : MethodName := ⟨RX9, "blocks", "(I)I"⟩
abbrev cX9_power : ByteArray := prog_1_method_61_code
def yX9_power : MethodName := ⟨RX9, "power", "(I)I"⟩
abbrev cX9_dummies : ByteArray := prog_1_method_62_code
def yX9_dummies : MethodName := ⟨RX9, "dummies", "()I"⟩
abbrev cX9_strongest : ByteArray := prog_1_method_63_code
def yX9_strongest : MethodName := ⟨RX9, "strongest", "()I"⟩
abbrev cX9_part : ByteArray := prog_1_method_64_code
def yX9_part : MethodName := ⟨RX9, "part", "(II)I"⟩
abbrev cX9_cabinet : ByteArray := prog_1_method_65_code
def yX9_cabinet : MethodName := ⟨RX9, "cabinet", "()I"⟩
abbrev cX9_cabinets : ByteArray := prog_1_method_66_code
def yX9_cabinets : MethodName := ⟨RX9, "cabinets", "()I"⟩
abbrev cX9_kingmaker : ByteArray := prog_1_method_67_code
def yX9_kingmaker : MethodName := ⟨RX9, "kingmaker", "()I"⟩
abbrev cX9_makesOneHold : ByteArray := prog_1_method_68_code
def yX9_makesOneHold : MethodName := ⟨RX9, "makesOneHold", "(I)Z"⟩
abbrev cX9_rests : ByteArray := prog_1_method_69_code
def yX9_rests : MethodName := ⟨RX9, "rests", "(II)I"⟩
abbrev cX9_gains : ByteArray := prog_1_method_70_code
def yX9_gains : MethodName := ⟨RX9, "gains", "(IIII)I"⟩
abbrev cX9_isContent : ByteArray := prog_1_method_71_code
def yX9_isContent : MethodName := ⟨RX9, "isContent", "(IIII)Z"⟩
abbrev cX9_gainOf : ByteArray := prog_1_method_72_code
def yX9_gainOf : MethodName := ⟨RX9, "gainOf", "(IIII)I"⟩
abbrev cX9_chance : ByteArray := prog_1_method_73_code
def yX9_chance : MethodName := ⟨RX9, "chance", "(IIII)J"⟩
abbrev cX9_mean : ByteArray := prog_1_method_74_code
def yX9_mean : MethodName := ⟨RX9, "mean", "(III)J"⟩
abbrev cX9_isChanceDance : ByteArray := prog_1_method_75_code
def yX9_isChanceDance : MethodName := ⟨RX9, "isChanceDance", "(I)Z"⟩
abbrev cX9_drawn : ByteArray := prog_1_method_76_code
def yX9_drawn : MethodName := ⟨RX9, "drawn", "(III)I"⟩
abbrev cX9_luck : ByteArray := prog_1_method_77_code
def yX9_luck : MethodName := ⟨RX9, "luck", "(IIII)I"⟩
abbrev cX9_drawnHolders : ByteArray := prog_1_method_78_code
def yX9_drawnHolders : MethodName := ⟨RX9, "drawnHolders", "(II)I"⟩
abbrev cX9_loudDances : ByteArray := prog_1_method_79_code
def yX9_loudDances : MethodName := ⟨RX9, "loudDances", "(I)I"⟩
abbrev cX9_bid : ByteArray := prog_1_method_80_code
def yX9_bid : MethodName := ⟨RX9, "bid", "(III)I"⟩
abbrev cX9_move : ByteArray := prog_1_method_81_code
def yX9_move : MethodName := ⟨RX9, "move", "(II)I"⟩
abbrev cX9_undo : ByteArray := prog_1_method_82_code
def yX9_undo : MethodName := ⟨RX9, "undo", "()I"⟩
abbrev cX9_anew : ByteArray := prog_1_method_83_code
def yX9_anew : MethodName := ⟨RX9, "anew", "()I"⟩
abbrev cX9_hang : ByteArray := prog_1_method_84_code
def yX9_hang : MethodName := ⟨RX9, "hang", "(II)I"⟩
abbrev cX9_count : ByteArray := prog_1_method_85_code
def yX9_count : MethodName := ⟨RX9, "count", "(I)I"⟩
abbrev cX9_slotsWithRow : ByteArray := prog_1_method_86_code
def yX9_slotsWithRow : MethodName := ⟨RX9, "slotsWithRow", "()I"⟩
abbrev cX9_image : ByteArray := prog_1_method_87_code
def yX9_image : MethodName := ⟨RX9, "image", "(I)I"⟩
abbrev cX9_back : ByteArray := prog_1_method_88_code
def yX9_back : MethodName := ⟨RX9, "back", "(I)I"⟩
abbrev cX9_row : ByteArray := prog_1_method_89_code
def yX9_row : MethodName := ⟨RX9, "row", "(III)I"⟩
abbrev cX9_write : ByteArray := prog_1_method_90_code
def yX9_write : MethodName := ⟨RX9, "write", "(IIJ)I"⟩
abbrev cX9_paste : ByteArray := prog_1_method_91_code
def yX9_paste : MethodName := ⟨RX9, "paste", "(IIIII)I"⟩
abbrev cX9_isSlot : ByteArray := prog_1_method_92_code
def yX9_isSlot : MethodName := ⟨RX9, "isSlot", "(I)Z"⟩
abbrev cX9_isSeed : ByteArray := prog_1_method_93_code
def yX9_isSeed : MethodName := ⟨RX9, "isSeed", "(I)Z"⟩
abbrev cX9_isPart : ByteArray := prog_1_method_94_code
def yX9_isPart : MethodName := ⟨RX9, "isPart", "(I)Z"⟩
abbrev cX9_hasBit : ByteArray := prog_1_method_95_code
def yX9_hasBit : MethodName := ⟨RX9, "hasBit", "(II)Z"⟩
abbrev cX9_lowest : ByteArray := prog_1_method_96_code
def yX9_lowest : MethodName := ⟨RX9, "lowest", "(I)I"⟩
abbrev cX9_lowestTerms : ByteArray := prog_1_method_97_code
def yX9_lowestTerms : MethodName := ⟨RX9, "lowestTerms", "(JJI)J"⟩
def RX10 : String := "HoopCabinetModel"
def TX10 : u_T := fun k => match k with
  | 0 => ("HoopCabinetModel", "thrown", "I", false)
  | 1 => ("HoopCabinetModel", "world", "[I", true)
  | 2 => ("HoopCabinetModel", "images", "[I", true)
  | 3 => ("HoopCabinetModel", "hasImage", "[Z", true)
  | 4 => ("HoopCabinetModel", "tape", "[B", true)
  | 5 => ("HoopCabinetModel", "taped", "I", false)
  | 6 => ("HoopCabinetModel", "five", "[I", true)
  | 7 => ("HoopCabinetModel", "size", "I", false)
  | 8 => ("HoopCabinetModel", "at", "I", false)
  | 9 => ("HoopCabinetModel", "from", "I", false)
  | 10 => ("HoopCabinetModel", "token", "I", false)
  | 11 => ("HoopCabinetModel", "value", "I", false)
  | 12 => ("HoopCabinetModel", "faultKind", "I", false)
  | 13 => ("HoopCabinetModel", "faultPlace", "I", false)
  | 14 => ("HoopCabinetModel", "fresh", "[I", true)
  | 15 => ("HoopCabinetModel", "ways", "[I", true)
  | 16 => ("HoopCabinetModel", "oddDoor", "I", false)
  | 17 => ("HoopCabinetModel", "oddWide", "I", false)
  | 18 => ("HoopCabinetModel", "atBy", "[I", true)
  | 19 => ("HoopCabinetModel", "underOf", "[I", true)
  | 20 => ("HoopCabinetModel", "seatsOf", "[I", true)
  | 21 => ("HoopCabinetModel", "gone", "I", false)
  | 22 => ("HoopCabinetModel", "stayers", "I", false)
  | 23 => ("HoopCabinetModel", "lawNow", "I", false)
  | 24 => ("HoopCabinetModel", "loudSet", "I", false)
  | 25 => ("HoopCabinetModel", "crushMost", "I", false)
  | 26 => ("HoopCabinetModel", "haveAt", "[I", true)
  | 27 => ("HoopCabinetModel", "getsAt", "[I", true)
  | 28 => ("HoopCabinetModel", "giverOf", "[I", true)
  | 29 => ("HoopCabinetModel", "canGive", "[Z", true)
  | 30 => ("HoopCabinetModel", "walkRow", "[I", true)
  | 31 => ("HoopCabinetModel", "getsBy", "[I", true)
  | 32 => ("HoopCabinetModel", "askWorst", "I", false)
  | 33 => ("HoopCabinetModel", "oftenAll", "J", false)
  | 34 => ("HoopCabinetModel", "oftenHas", "J", false)
  | 35 => ("HoopCabinetModel", "oftenMany", "J", false)
  | 36 => ("HoopCabinetModel", "many", "[I", true)
  | 37 => ("HoopCabinetModel", "width", "[I", true)
  | 38 => ("HoopCabinetModel", "numbers", "[J", true)
  | _ => ("HoopCabinetModel", "moving", "[J", true)
def tyX10 : Nat → FieldType := fun k => match k with
  | 0 => .int
  | 1 => .array .int
  | 2 => .array .int
  | 3 => .array .boolean
  | 4 => .array .byte
  | 5 => .int
  | 6 => .array .int
  | 7 => .int
  | 8 => .int
  | 9 => .int
  | 10 => .int
  | 11 => .int
  | 12 => .int
  | 13 => .int
  | 14 => .array .int
  | 15 => .array .int
  | 16 => .int
  | 17 => .int
  | 18 => .array .int
  | 19 => .array .int
  | 20 => .array .int
  | 21 => .int
  | 22 => .int
  | 23 => .int
  | 24 => .int
  | 25 => .int
  | 26 => .array .int
  | 27 => .array .int
  | 28 => .array .int
  | 29 => .array .boolean
  | 30 => .array .int
  | 31 => .array .int
  | 32 => .int
  | 33 => .long
  | 34 => .long
  | 35 => .long
  | 36 => .array .int
  | 37 => .array .int
  | 38 => .array .long
  | _ => .array .long
abbrev wsX100 : List Cond := u_ws RX10 TX10 40
theorem nmX10 : ∀ a, a < 40 → ∀ b, b < 40 → a ≠ b → (TX10 a).2.1 ≠ (TX10 b).2.1 := by decide +kernel
theorem tyX10_ok : ∀ k, k < 40 → parseFieldDescriptor (TX10 k).2.2.1 = some (tyX10 k) := by decide +kernel
abbrev cX10_init : ByteArray := prog_12_method_1_code
def yX10_init : MethodName := ⟨RX10, "<init>", "()V"⟩
abbrev cX10_in : ByteArray := prog_12_method_3_code
def yX10_in : MethodName := ⟨RX10, "in", "(JJJ)Z"⟩
abbrev cX10_bits : ByteArray := prog_12_method_4_code
def yX10_bits : MethodName := ⟨RX10, "bits", "(I)I"⟩
abbrev cX10_bit : ByteArray := prog_12_method_5_code
def yX10_bit : MethodName := ⟨RX10, "bit", "(II)I"⟩
abbrev cX10_image : ByteArray := prog_12_method_6_code
def yX10_image : MethodName := ⟨RX10, "image", "(I)I"⟩
abbrev cX10_back : ByteArray := prog_12_method_7_code
def yX10_back : MethodName := ⟨RX10, "back", "(I)I"⟩
abbrev cX10_isBall : ByteArray := prog_12_method_8_code
def yX10_isBall : MethodName := ⟨RX10, "isBall", "()Z"⟩
abbrev cX10_isRoom : ByteArray := prog_12_method_9_code
def yX10_isRoom : MethodName := ⟨RX10, "isRoom", "(I)Z"⟩
abbrev cX10_isDance : ByteArray := prog_12_method_10_code
def yX10_isDance : MethodName := ⟨RX10, "isDance", "(J)Z"⟩
abbrev cX10_isDoor : ByteArray := prog_12_method_11_code
def yX10_isDoor : MethodName := ⟨RX10, "isDoor", "(I)Z"⟩
abbrev cX10_isLady : ByteArray := prog_12_method_12_code
def yX10_isLady : MethodName := ⟨RX10, "isLady", "(J)Z"⟩
abbrev cX10_isMinister : ByteArray := prog_12_method_13_code
def yX10_isMinister : MethodName := ⟨RX10, "isMinister", "(I)Z"⟩
abbrev cX10_isSet : ByteArray := prog_12_method_14_code
def yX10_isSet : MethodName := ⟨RX10, "isSet", "(I)Z"⟩
abbrev cX10_dances : ByteArray := prog_12_method_15_code
def yX10_dances : MethodName := ⟨RX10, "dances", "()I"⟩
abbrev cX10_ladies : ByteArray := prog_12_method_16_code
def yX10_ladies : MethodName := ⟨RX10, "ladies", "()I"⟩
abbrev cX10_wideOf : ByteArray := prog_12_method_17_code
def yX10_wideOf : MethodName := ⟨RX10, "wideOf", "(I)I"⟩
abbrev cX10_feed : ByteArray := prog_12_method_18_code
def yX10_feed : MethodName := ⟨RX10, "feed", "(IIIII)I"⟩
abbrev cX10_end : ByteArray := prog_12_method_19_code
def yX10_end : MethodName := ⟨RX10, "end", "(I)I"⟩
abbrev cX10_see : ByteArray := prog_12_method_20_code
def yX10_see : MethodName := ⟨RX10, "see", "(I)I"⟩
abbrev cX10_advance : ByteArray := prog_12_method_21_code
def yX10_advance : MethodName := ⟨RX10, "advance", "()V"⟩
abbrev cX10_good : ByteArray := prog_12_method_22_code
def yX10_good : MethodName := ⟨RX10, "good", "()Z"⟩
abbrev cX10_errs : ByteArray := prog_12_method_23_code
def yX10_errs : MethodName := ⟨RX10, "errs", "(I)V"⟩
abbrev cX10_is : ByteArray := prog_12_method_24_code
def yX10_is : MethodName := ⟨RX10, "is", "(Ljava/lang/String;)Z"⟩
abbrev cX10_takes : ByteArray := prog_12_method_25_code
def yX10_takes : MethodName := ⟨RX10, "takes", "(Ljava/lang/String;)Z"⟩
abbrev cX10_needs : ByteArray := prog_12_method_26_code
def yX10_needs : MethodName := ⟨RX10, "needs", "(Ljava/lang/String;)V"⟩
abbrev cX10_number : ByteArray := prog_12_method_27_code
def yX10_number : MethodName := ⟨RX10, "number", "(II)I"⟩
abbrev cX10_told : ByteArray := prog_12_method_28_code
def yX10_told : MethodName := ⟨RX10, "told", "(Ljava/lang/String;II)I"⟩
abbrev cX10_fault : ByteArray := prog_12_method_29_code
def yX10_fault : MethodName := ⟨RX10, "fault", "(I)I"⟩
abbrev cX10_freshRoom : ByteArray := prog_12_method_30_code
def yX10_freshRoom : MethodName := ⟨RX10, "freshRoom", "(Ljava/lang/String;)I"⟩
abbrev cX10_readFirst : ByteArray := prog_12_method_31_code
def yX10_readFirst : MethodName := ⟨RX10, "readFirst", "()V"⟩
abbrev cX10_readDoor : ByteArray := prog_12_method_32_code
def yX10_readDoor : MethodName := ⟨RX10, "readDoor", "()V"⟩
abbrev cX10_readBid : ByteArray := prog_12_method_33_code
def yX10_readBid : MethodName := ⟨RX10, "readBid", "()V"⟩
abbrev cX10_isFull : ByteArray := prog_12_method_34_code
def yX10_isFull : MethodName := ⟨RX10, "isFull", "()Z"⟩
abbrev cX10_readNext : ByteArray := prog_12_method_35_code
def yX10_readNext : MethodName := ⟨RX10, "readNext", "()V"⟩
abbrev cX10_readLine : ByteArray := prog_12_method_36_code
def yX10_readLine : MethodName := ⟨RX10, "readLine", "()V"⟩
abbrev cX10_ball : ByteArray := prog_12_method_37_code
def yX10_ball : MethodName := ⟨RX10, "ball", "()I"⟩
abbrev cX10_door : ByteArray := prog_12_method_38_code
def yX10_door : MethodName := ⟨RX10, "door", "(II)I"⟩
abbrev cX10_lady : ByteArray := prog_12_method_39_code
def yX10_lady : MethodName := ⟨RX10, "lady", "(II)I"⟩
abbrev cX10_wayOf : ByteArray := prog_12_method_40_code
def yX10_wayOf : MethodName := ⟨RX10, "wayOf", "(III)I"⟩
abbrev cX10_layWays : ByteArray := prog_12_method_41_code
def yX10_layWays : MethodName := ⟨RX10, "layWays", "()V"⟩
abbrev cX10_atOf : ByteArray := prog_12_method_42_code
def yX10_atOf : MethodName := ⟨RX10, "atOf", "(II)I"⟩
abbrev cX10_biddenOf : ByteArray := prog_12_method_43_code
def yX10_biddenOf : MethodName := ⟨RX10, "biddenOf", "(II)I"⟩
abbrev cX10_nextRoom : ByteArray := prog_12_method_44_code
def yX10_nextRoom : MethodName := ⟨RX10, "nextRoom", "(III)I"⟩
abbrev cX10_layPlaces : ByteArray := prog_12_method_45_code
def yX10_layPlaces : MethodName := ⟨RX10, "layPlaces", "()V"⟩
abbrev cX10_layMinisters : ByteArray := prog_12_method_46_code
def yX10_layMinisters : MethodName := ⟨RX10, "layMinisters", "()V"⟩
abbrev cX10_asItIs : ByteArray := prog_12_method_47_code
def yX10_asItIs : MethodName := ⟨RX10, "asItIs", "()V"⟩
abbrev cX10_asksBall : ByteArray := prog_12_method_48_code
def yX10_asksBall : MethodName := ⟨RX10, "asksBall", "()Z"⟩
abbrev cX10_asksLady : ByteArray := prog_12_method_49_code
def yX10_asksLady : MethodName := ⟨RX10, "asksLady", "(I)Z"⟩
abbrev cX10_asksDance : ByteArray := prog_12_method_50_code
def yX10_asksDance : MethodName := ⟨RX10, "asksDance", "(I)Z"⟩
abbrev cX10_doMeet : ByteArray := prog_12_method_51_code
def yX10_doMeet : MethodName := ⟨RX10, "doMeet", "(III)Z"⟩
abbrev cX10_minister : ByteArray := prog_12_method_52_code
def yX10_minister : MethodName := ⟨RX10, "minister", "(II)I"⟩
abbrev cX10_way : ByteArray := prog_12_method_53_code
def yX10_way : MethodName := ⟨RX10, "way", "(III)I"⟩
abbrev cX10_reach : ByteArray := prog_12_method_54_code
def yX10_reach : MethodName := ⟨RX10, "reach", "(II)I"⟩
abbrev cX10_bidden : ByteArray := prog_12_method_55_code
def yX10_bidden : MethodName := ⟨RX10, "bidden", "(II)I"⟩
abbrev cX10_at : ByteArray := prog_12_method_56_code
def yX10_at : MethodName := ⟨RX10, "at", "(II)I"⟩
abbrev cX10_withinOf : ByteArray := prog_12_method_57_code
def yX10_withinOf : MethodName := ⟨RX10, "withinOf", "(II)I"⟩
abbrev cX10_within : ByteArray := prog_12_method_58_code
def yX10_within : MethodName := ⟨RX10, "within", "(II)I"⟩
abbrev cX10_stepsOf : ByteArray := prog_12_method_59_code
def yX10_stepsOf : MethodName := ⟨RX10, "stepsOf", "(I)I"⟩
abbrev cX10_steps : ByteArray := prog_12_method_60_code
def yX10_steps : MethodName := ⟨RX10, "steps", "(I)I"⟩
abbrev cX10_sees : ByteArray := prog_12_method_61_code
def yX10_sees : MethodName := ⟨RX10, "sees", "(I)I"⟩
abbrev cX10_firstMeet : ByteArray := prog_12_method_62_code
def yX10_firstMeet : MethodName := ⟨RX10, "firstMeet", "(II)I"⟩
abbrev cX10_meets : ByteArray := prog_12_method_63_code
def yX10_meets : MethodName := ⟨RX10, "meets", "(II)I"⟩
abbrev cX10_oftenMeet : ByteArray := prog_12_method_64_code
def yX10_oftenMeet : MethodName := ⟨RX10, "oftenMeet", "(II)I"⟩
abbrev cX10_often : ByteArray := prog_12_method_65_code
def yX10_often : MethodName := ⟨RX10, "often", "(II)I"⟩
abbrev cX10_friendsOf : ByteArray := prog_12_method_66_code
def yX10_friendsOf : MethodName := ⟨RX10, "friendsOf", "(I)I"⟩
abbrev cX10_friends : ByteArray := prog_12_method_67_code
def yX10_friends : MethodName := ⟨RX10, "friends", "(I)I"⟩
abbrev cX10_crushOf : ByteArray := prog_12_method_68_code
def yX10_crushOf : MethodName := ⟨RX10, "crushOf", "()I"⟩
abbrev cX10_crush : ByteArray := prog_12_method_69_code
def yX10_crush : MethodName := ⟨RX10, "crush", "()I"⟩
abbrev cX10_crushed : ByteArray := prog_12_method_70_code
def yX10_crushed : MethodName := ⟨RX10, "crushed", "()I"⟩
abbrev cX10_likes : ByteArray := prog_12_method_71_code
def yX10_likes : MethodName := ⟨RX10, "likes", "(I)I"⟩
abbrev cX10_apart : ByteArray := prog_12_method_72_code
def yX10_apart : MethodName := ⟨RX10, "apart", "(III)I"⟩
abbrev cX10_alone : ByteArray := prog_12_method_73_code
def yX10_alone : MethodName := ⟨RX10, "alone", "(I)I"⟩
abbrev cX10_empty : ByteArray := prog_12_method_74_code
def yX10_empty : MethodName := ⟨RX10, "empty", "(I)I"⟩
abbrev cX10_late : ByteArray := prog_12_method_75_code
def yX10_late : MethodName := ⟨RX10, "late", "(I)I"⟩
abbrev cX10_waits : ByteArray := prog_12_method_76_code
def yX10_waits : MethodName := ⟨RX10, "waits", "(I)I"⟩
abbrev cX10_mate : ByteArray := prog_12_method_77_code
def yX10_mate : MethodName := ⟨RX10, "mate", "(I)I"⟩
abbrev cX10_doesGive : ByteArray := prog_12_method_78_code
def yX10_doesGive : MethodName := ⟨RX10, "doesGive", "(II)Z"⟩
abbrev cX10_giverTo : ByteArray := prog_12_method_79_code
def yX10_giverTo : MethodName := ⟨RX10, "giverTo", "(III)I"⟩
abbrev cX10_goNote : ByteArray := prog_12_method_80_code
def yX10_goNote : MethodName := ⟨RX10, "goNote", "(II)I"⟩
abbrev cX10_goNote_ : ByteArray := prog_12_method_81_code
def yX10_goNote_ : MethodName := ⟨RX10, "goNote", "(I)I"⟩
abbrev cX10_have : ByteArray := prog_12_method_82_code
def yX10_have : MethodName := ⟨RX10, "have", "(II)I"⟩
abbrev cX10_asksNote : ByteArray := prog_12_method_83_code
def yX10_asksNote : MethodName := ⟨RX10, "asksNote", "(II)Z"⟩
abbrev cX10_gets : ByteArray := prog_12_method_84_code
def yX10_gets : MethodName := ⟨RX10, "gets", "(II)I"⟩
abbrev cX10_from : ByteArray := prog_12_method_85_code
def yX10_from : MethodName := ⟨RX10, "from", "(II)I"⟩
abbrev cX10_hands : ByteArray := prog_12_method_86_code
def yX10_hands : MethodName := ⟨RX10, "hands", "(II)I"⟩
abbrev cX10_all : ByteArray := prog_12_method_87_code
def yX10_all : MethodName := ⟨RX10, "all", "(I)I"⟩
abbrev cX10_best : ByteArray := prog_12_method_88_code
def yX10_best : MethodName := ⟨RX10, "best", "()I"⟩
abbrev cX10_lasts : ByteArray := prog_12_method_89_code
def yX10_lasts : MethodName := ⟨RX10, "lasts", "(I)I"⟩
abbrev cX10_needed : ByteArray := prog_12_method_90_code
def yX10_needed : MethodName := ⟨RX10, "needed", "(I)I"⟩
abbrev cX10_by : ByteArray := prog_12_method_91_code
def yX10_by : MethodName := ⟨RX10, "by", "(II)I"⟩
abbrev cX10_hears : ByteArray := prog_12_method_92_code
def yX10_hears : MethodName := ⟨RX10, "hears", "(I)I"⟩
abbrev cX10_carryState : ByteArray := prog_12_method_93_code
def yX10_carryState : MethodName := ⟨RX10, "carryState", "(III)I"⟩
abbrev cX10_takesIn : ByteArray := prog_12_method_94_code
def yX10_takesIn : MethodName := ⟨RX10, "takesIn", "(IIII)Z"⟩
abbrev cX10_isBeside : ByteArray := prog_12_method_95_code
def yX10_isBeside : MethodName := ⟨RX10, "isBeside", "(III)Z"⟩
abbrev cX10_layCarry : ByteArray := prog_12_method_96_code
def yX10_layCarry : MethodName := ⟨RX10, "layCarry", "(IIII)V"⟩
abbrev cX10_layWalk : ByteArray := prog_12_method_97_code
def yX10_layWalk : MethodName := ⟨RX10, "layWalk", "(III)I"⟩
abbrev cX10_asksCarry : ByteArray := prog_12_method_98_code
def yX10_asksCarry : MethodName := ⟨RX10, "asksCarry", "(III)Z"⟩
abbrev cX10_carry : ByteArray := prog_12_method_99_code
def yX10_carry : MethodName := ⟨RX10, "carry", "(III)I"⟩
abbrev cX10_walk : ByteArray := prog_12_method_100_code
def yX10_walk : MethodName := ⟨RX10, "walk", "(IIII)I"⟩
abbrev cX10_haveWith : ByteArray := prog_12_method_101_code
def yX10_haveWith : MethodName := ⟨RX10, "haveWith", "(III)I"⟩
abbrev cX10_widen : ByteArray := prog_12_method_102_code
def yX10_widen : MethodName := ⟨RX10, "widen", "(II)I"⟩
abbrev cX10_shut : ByteArray := prog_12_method_103_code
def yX10_shut : MethodName := ⟨RX10, "shut", "(II)I"⟩
abbrev cX10_bars : ByteArray := prog_12_method_104_code
def yX10_bars : MethodName := ⟨RX10, "bars", "(III)I"⟩
abbrev cX10_numberAt : ByteArray := prog_12_method_105_code
def yX10_numberAt : MethodName := ⟨RX10, "numberAt", "(II)J"⟩
abbrev cX10_isThree : ByteArray := prog_12_method_106_code
def yX10_isThree : MethodName := ⟨RX10, "isThree", "(II)Z"⟩
abbrev cX10_layFirsts : ByteArray := prog_12_method_107_code
def yX10_layFirsts : MethodName := ⟨RX10, "layFirsts", "(I)I"⟩
abbrev cX10_firsts : ByteArray := prog_12_method_108_code
def yX10_firsts : MethodName := ⟨RX10, "firsts", "(I)I"⟩
abbrev cX10_askOf : ByteArray := prog_12_method_109_code
def yX10_askOf : MethodName := ⟨RX10, "askOf", "(I)I"⟩
abbrev cX10_ask : ByteArray := prog_12_method_110_code
def yX10_ask : MethodName := ⟨RX10, "ask", "(I)I"⟩
abbrev cX10_leaves : ByteArray := prog_12_method_111_code
def yX10_leaves : MethodName := ⟨RX10, "leaves", "(I)I"⟩
abbrev cX10_seatsIn : ByteArray := prog_12_method_112_code
def yX10_seatsIn : MethodName := ⟨RX10, "seatsIn", "(I)I"⟩
abbrev cX10_allLadies : ByteArray := prog_12_method_113_code
def yX10_allLadies : MethodName := ⟨RX10, "allLadies", "()I"⟩
abbrev cX10_doesHold : ByteArray := prog_12_method_114_code
def yX10_doesHold : MethodName := ⟨RX10, "doesHold", "(I)Z"⟩
abbrev cX10_powerOf : ByteArray := prog_12_method_115_code
def yX10_powerOf : MethodName := ⟨RX10, "powerOf", "(I)I"⟩
abbrev cX10_seats : ByteArray := prog_12_method_116_code
def yX10_seats : MethodName := ⟨RX10, "seats", "(I)I"⟩
abbrev cX10_under : ByteArray := prog_12_method_117_code
def yX10_under : MethodName := ⟨RX10, "under", "(I)I"⟩
abbrev cX10_holds : ByteArray := prog_12_method_118_code
def yX10_holds : MethodName := ⟨RX10, "holds", "(I)I"⟩
abbrev cX10_blocks : ByteArray := prog_12_method_119_code
def yX10_blocks : MethodName := ⟨RX10, "blocks", "(I)I"⟩
abbrev cX10_power : ByteArray := prog_12_method_120_code
def yX10_power : MethodName := ⟨RX10, "power", "(I)I"⟩
abbrev cX10_divisor : ByteArray := prog_12_method_121_code
def yX10_divisor : MethodName := ⟨RX10, "divisor", "(JJ)J"⟩
abbrev cX10_lowest : ByteArray := prog_12_method_122_code
def yX10_lowest : MethodName := ⟨RX10, "lowest", "(JJI)J"⟩
abbrev cX10_part : ByteArray := prog_12_method_123_code
def yX10_part : MethodName := ⟨RX10, "part", "(II)I"⟩
abbrev cX10_dummies : ByteArray := prog_12_method_124_code
def yX10_dummies : MethodName := ⟨RX10, "dummies", "()I"⟩
abbrev cX10_strongest : ByteArray := prog_12_method_125_code
def yX10_strongest : MethodName := ⟨RX10, "strongest", "()I"⟩
abbrev cX10_cabinet : ByteArray := prog_12_method_126_code
def yX10_cabinet : MethodName := ⟨RX10, "cabinet", "()I"⟩
abbrev cX10_isLeast : ByteArray := prog_12_method_127_code
def yX10_isLeast : MethodName := ⟨RX10, "isLeast", "(I)Z"⟩
abbrev cX10_cabinets : ByteArray := prog_12_method_128_code
def yX10_cabinets : MethodName := ⟨RX10, "cabinets", "()I"⟩
abbrev cX10_kingmaker : ByteArray := prog_12_method_129_code
def yX10_kingmaker : MethodName := ⟨RX10, "kingmaker", "()I"⟩
abbrev cX10_gainsBy : ByteArray := prog_12_method_130_code
def yX10_gainsBy : MethodName := ⟨RX10, "gainsBy", "(IIIII)I"⟩
abbrev cX10_areTwo : ByteArray := prog_12_method_131_code
def yX10_areTwo : MethodName := ⟨RX10, "areTwo", "(II)Z"⟩
abbrev cX10_rests : ByteArray := prog_12_method_132_code
def yX10_rests : MethodName := ⟨RX10, "rests", "(II)I"⟩
abbrev cX10_gains : ByteArray := prog_12_method_133_code
def yX10_gains : MethodName := ⟨RX10, "gains", "(IIII)I"⟩
abbrev cX10_layMusic : ByteArray := prog_12_method_134_code
def yX10_layMusic : MethodName := ⟨RX10, "layMusic", "(III)V"⟩
abbrev cX10_asksMusic : ByteArray := prog_12_method_135_code
def yX10_asksMusic : MethodName := ⟨RX10, "asksMusic", "(III)Z"⟩
abbrev cX10_chance : ByteArray := prog_12_method_136_code
def yX10_chance : MethodName := ⟨RX10, "chance", "(IIII)J"⟩
abbrev cX10_mean : ByteArray := prog_12_method_137_code
def yX10_mean : MethodName := ⟨RX10, "mean", "(III)J"⟩
abbrev cX10_keepAct : ByteArray := prog_12_method_138_code
def yX10_keepAct : MethodName := ⟨RX10, "keepAct", "(I)I"⟩
abbrev cX10_bid : ByteArray := prog_12_method_139_code
def yX10_bid : MethodName := ⟨RX10, "bid", "(III)I"⟩
abbrev cX10_move : ByteArray := prog_12_method_140_code
def yX10_move : MethodName := ⟨RX10, "move", "(II)I"⟩
abbrev cX10_undo : ByteArray := prog_12_method_141_code
def yX10_undo : MethodName := ⟨RX10, "undo", "()I"⟩
abbrev cX10_anew : ByteArray := prog_12_method_142_code
def yX10_anew : MethodName := ⟨RX10, "anew", "()I"⟩
abbrev cX10_goDrawn : ByteArray := prog_12_method_143_code
def yX10_goDrawn : MethodName := ⟨RX10, "goDrawn", "(JI)I"⟩
abbrev cX10_isSeed : ByteArray := prog_12_method_144_code
def yX10_isSeed : MethodName := ⟨RX10, "isSeed", "(I)Z"⟩
abbrev cX10_drawn : ByteArray := prog_12_method_145_code
def yX10_drawn : MethodName := ⟨RX10, "drawn", "(III)I"⟩
abbrev cX10_luck : ByteArray := prog_12_method_146_code
def yX10_luck : MethodName := ⟨RX10, "luck", "(IIII)I"⟩
abbrev cX10_hang : ByteArray := prog_12_method_147_code
def yX10_hang : MethodName := ⟨RX10, "hang", "(II)I"⟩
abbrev cX10_count : ByteArray := prog_12_method_148_code
def yX10_count : MethodName := ⟨RX10, "count", "(I)I"⟩
abbrev cX10_isSlot : ByteArray := prog_12_method_149_code
def yX10_isSlot : MethodName := ⟨RX10, "isSlot", "(I)Z"⟩
abbrev cX10_cut : ByteArray := prog_12_method_150_code
def yX10_cut : MethodName := ⟨RX10, "cut", "(JI)J"⟩
abbrev cX10_row : ByteArray := prog_12_method_151_code
def yX10_row : MethodName := ⟨RX10, "row", "(III)I"⟩
abbrev cX10_write : ByteArray := prog_12_method_152_code
def yX10_write : MethodName := ⟨RX10, "write", "(IIJ)I"⟩
abbrev cX10_paste : ByteArray := prog_12_method_153_code
def yX10_paste : MethodName := ⟨RX10, "paste", "(IIIII)I"⟩
def RJx145de : String := "java/io/Serializable"
def TJx145de : u_T := fun k => match k with
  | _ => ("", "", "", false)
def tyJx145de : Nat → FieldType := fun k => match k with
  | _ => .int
abbrev wsJx145de0 : List Cond := u_ws RJx145de TJx145de 0
theorem nmJx145de : ∀ a, a < 0 → ∀ b, b < 0 → a ≠ b → (TJx145de a).2.1 ≠ (TJx145de b).2.1 := by decide +kernel
theorem tyJx145de_ok : ∀ k, k < 0 → parseFieldDescriptor (TJx145de k).2.2.1 = some (tyJx145de k) := by decide +kernel
def RJx9f9b0 : String := "java/lang/CharSequence"
def TJx9f9b0 : u_T := fun k => match k with
  | _ => ("", "", "", false)
def tyJx9f9b0 : Nat → FieldType := fun k => match k with
  | _ => .int
abbrev wsJx9f9b00 : List Cond := u_ws RJx9f9b0 TJx9f9b0 0
theorem nmJx9f9b0 : ∀ a, a < 0 → ∀ b, b < 0 → a ≠ b → (TJx9f9b0 a).2.1 ≠ (TJx9f9b0 b).2.1 := by decide +kernel
theorem tyJx9f9b0_ok : ∀ k, k < 0 → parseFieldDescriptor (TJx9f9b0 k).2.2.1 = some (tyJx9f9b0 k) := by decide +kernel
def RJxb160c : String := "java/lang/Comparable"
def TJxb160c : u_T := fun k => match k with
  | _ => ("", "", "", false)
def tyJxb160c : Nat → FieldType := fun k => match k with
  | _ => .int
abbrev wsJxb160c0 : List Cond := u_ws RJxb160c TJxb160c 0
theorem nmJxb160c : ∀ a, a < 0 → ∀ b, b < 0 → a ≠ b → (TJxb160c a).2.1 ≠ (TJxb160c b).2.1 := by decide +kernel
theorem tyJxb160c_ok : ∀ k, k < 0 → parseFieldDescriptor (TJxb160c k).2.2.1 = some (tyJxb160c k) := by decide +kernel
def RJ6 : String := "java/lang/Integer"
def TJ6 : u_T := fun k => match k with
  | _ => ("", "", "", false)
def tyJ6 : Nat → FieldType := fun k => match k with
  | _ => .int
abbrev wsJ60 : List Cond := u_ws RJ6 TJ6 0
theorem nmJ6 : ∀ a, a < 0 → ∀ b, b < 0 → a ≠ b → (TJ6 a).2.1 ≠ (TJ6 b).2.1 := by decide +kernel
theorem tyJ6_ok : ∀ k, k < 0 → parseFieldDescriptor (TJ6 k).2.2.1 = some (tyJ6 k) := by decide +kernel
abbrev cJ6_bitCount_0f7a4 : ByteArray := prog_13_method_49_code
def yJ6_bitCount_0f7a4 : MethodName := ⟨RJ6, "bitCount", "(I)I"⟩
def RJ9 : String := "java/lang/Math"
def TJ9 : u_T := fun k => match k with
  | _ => ("", "", "", false)
def tyJ9 : Nat → FieldType := fun k => match k with
  | _ => .int
abbrev wsJ90 : List Cond := u_ws RJ9 TJ9 0
theorem nmJ9 : ∀ a, a < 0 → ∀ b, b < 0 → a ≠ b → (TJ9 a).2.1 ≠ (TJ9 b).2.1 := by decide +kernel
theorem tyJ9_ok : ∀ k, k < 0 → parseFieldDescriptor (TJ9 k).2.2.1 = some (tyJ9 k) := by decide +kernel
abbrev cJ9_max_7cf53 : ByteArray := prog_14_method_65_code
def yJ9_max_7cf53 : MethodName := ⟨RJ9, "max", "(II)I"⟩
abbrev cJ9_min_7cf53 : ByteArray := prog_14_method_69_code
def yJ9_min_7cf53 : MethodName := ⟨RJ9, "min", "(II)I"⟩
def RJ0 : String := "java/lang/String"
def TJ0 : u_T := fun k => match k with
  | _ => ("", "", "", false)
def tyJ0 : Nat → FieldType := fun k => match k with
  | _ => .int
abbrev wsJ00 : List Cond := u_ws RJ0 TJ0 0
theorem nmJ0 : ∀ a, a < 0 → ∀ b, b < 0 → a ≠ b → (TJ0 a).2.1 ≠ (TJ0 b).2.1 := by decide +kernel
theorem tyJ0_ok : ∀ k, k < 0 → parseFieldDescriptor (TJ0 k).2.2.1 = some (tyJ0 k) := by decide +kernel
abbrev cJ0_length_8abf5 : ByteArray := prog_15_method_54_code
def yJ0_length_8abf5 : MethodName := ⟨RJ0, "length", "()I"⟩
abbrev cJ0_charAt_5068e : ByteArray := prog_15_method_56_code
def yJ0_charAt_5068e : MethodName := ⟨RJ0, "charAt", "(I)C"⟩
abbrev cJ0_coder_7d493 : ByteArray := prog_15_method_152_code
def yJ0_coder_7d493 : MethodName := ⟨RJ0, "coder", "()B"⟩
abbrev cJ0_isLatin1_aae02 : ByteArray := prog_15_method_154_code
def yJ0_isLatin1_aae02 : MethodName := ⟨RJ0, "isLatin1", "()Z"⟩
abbrev cJ0_checkIndex_df160 : ByteArray := prog_15_method_155_code
def yJ0_checkIndex_df160 : MethodName := ⟨RJ0, "checkIndex", "(II)V"⟩
def RJ1 : String := "java/lang/StringLatin1"
def TJ1 : u_T := fun k => match k with
  | _ => ("", "", "", false)
def tyJ1 : Nat → FieldType := fun k => match k with
  | _ => .int
abbrev wsJ10 : List Cond := u_ws RJ1 TJ1 0
theorem nmJ1 : ∀ a, a < 0 → ∀ b, b < 0 → a ≠ b → (TJ1 a).2.1 ≠ (TJ1 b).2.1 := by decide +kernel
theorem tyJ1_ok : ∀ k, k < 0 → parseFieldDescriptor (TJ1 k).2.2.1 = some (tyJ1 k) := by decide +kernel
abbrev cJ1_charAt_3b067 : ByteArray := prog_16_method_2_code
def yJ1_charAt_3b067 : MethodName := ⟨RJ1, "charAt", "([BI)C"⟩
def RJ2 : String := "java/lang/StringUTF16"
def TJ2 : u_T := fun k => match k with
  | _ => ("", "", "", false)
def tyJ2 : Nat → FieldType := fun k => match k with
  | _ => .int
abbrev wsJ20 : List Cond := u_ws RJ2 TJ2 0
theorem nmJ2 : ∀ a, a < 0 → ∀ b, b < 0 → a ≠ b → (TJ2 a).2.1 ≠ (TJ2 b).2.1 := by decide +kernel
theorem tyJ2_ok : ∀ k, k < 0 → parseFieldDescriptor (TJ2 k).2.2.1 = some (tyJ2 k) := by decide +kernel
abbrev cJ2_getChar_3b067 : ByteArray := prog_17_method_5_code
def yJ2_getChar_3b067 : MethodName := ⟨RJ2, "getChar", "([BI)C"⟩
abbrev cJ2_length_9d52b : ByteArray := prog_17_method_6_code
def yJ2_length_9d52b : MethodName := ⟨RJ2, "length", "([B)I"⟩
abbrev cJ2_charAt_3b067 : ByteArray := prog_17_method_83_code
def yJ2_charAt_3b067 : MethodName := ⟨RJ2, "charAt", "([BI)C"⟩
abbrev cJ2_checkIndex_2214a : ByteArray := prog_17_method_91_code
def yJ2_checkIndex_2214a : MethodName := ⟨RJ2, "checkIndex", "(I[B)V"⟩
def RJ10 : String := "java/lang/System"
def TJ10 : u_T := fun k => match k with
  | _ => ("", "", "", false)
def tyJ10 : Nat → FieldType := fun k => match k with
  | _ => .int
abbrev wsJ100 : List Cond := u_ws RJ10 TJ10 0
theorem nmJ10 : ∀ a, a < 0 → ∀ b, b < 0 → a ≠ b → (TJ10 a).2.1 ≠ (TJ10 b).2.1 := by decide +kernel
theorem tyJ10_ok : ∀ k, k < 0 → parseFieldDescriptor (TJ10 k).2.2.1 = some (tyJ10 k) := by decide +kernel
def RJxfd54e : String := "java/lang/constant/Constable"
def TJxfd54e : u_T := fun k => match k with
  | _ => ("", "", "", false)
def tyJxfd54e : Nat → FieldType := fun k => match k with
  | _ => .int
abbrev wsJxfd54e0 : List Cond := u_ws RJxfd54e TJxfd54e 0
theorem nmJxfd54e : ∀ a, a < 0 → ∀ b, b < 0 → a ≠ b → (TJxfd54e a).2.1 ≠ (TJxfd54e b).2.1 := by decide +kernel
theorem tyJxfd54e_ok : ∀ k, k < 0 → parseFieldDescriptor (TJxfd54e k).2.2.1 = some (tyJxfd54e k) := by decide +kernel
def RJx3cf43 : String := "java/lang/constant/ConstantDesc"
def TJx3cf43 : u_T := fun k => match k with
  | _ => ("", "", "", false)
def tyJx3cf43 : Nat → FieldType := fun k => match k with
  | _ => .int
abbrev wsJx3cf430 : List Cond := u_ws RJx3cf43 TJx3cf43 0
theorem nmJx3cf43 : ∀ a, a < 0 → ∀ b, b < 0 → a ≠ b → (TJx3cf43 a).2.1 ≠ (TJx3cf43 b).2.1 := by decide +kernel
theorem tyJx3cf43_ok : ∀ k, k < 0 → parseFieldDescriptor (TJx3cf43 k).2.2.1 = some (tyJx3cf43 k) := by decide +kernel
def RJ7 : String := "java/util/Arrays"
def TJ7 : u_T := fun k => match k with
  | _ => ("", "", "", false)
def tyJ7 : Nat → FieldType := fun k => match k with
  | _ => .int
abbrev wsJ70 : List Cond := u_ws RJ7 TJ7 0
theorem nmJ7 : ∀ a, a < 0 → ∀ b, b < 0 → a ≠ b → (TJ7 a).2.1 ≠ (TJ7 b).2.1 := by decide +kernel
theorem tyJ7_ok : ∀ k, k < 0 → parseFieldDescriptor (TJ7 k).2.2.1 = some (tyJ7 k) := by decide +kernel
abbrev cJ7_fill_d0a16 : ByteArray := prog_19_method_101_code
def yJ7_fill_d0a16 : MethodName := ⟨RJ7, "fill", "([JJ)V"⟩
abbrev cJ7_fill_53178 : ByteArray := prog_19_method_103_code
def yJ7_fill_53178 : MethodName := ⟨RJ7, "fill", "([II)V"⟩
def RJ3 : String := "jdk/internal/util/Preconditions"
def TJ3 : u_T := fun k => match k with
  | _ => ("", "", "", false)
def tyJ3 : Nat → FieldType := fun k => match k with
  | _ => .int
abbrev wsJ30 : List Cond := u_ws RJ3 TJ3 0
theorem nmJ3 : ∀ a, a < 0 → ∀ b, b < 0 → a ≠ b → (TJ3 a).2.1 ≠ (TJ3 b).2.1 := by decide +kernel
theorem tyJ3_ok : ∀ k, k < 0 → parseFieldDescriptor (TJ3 k).2.2.1 = some (tyJ3 k) := by decide +kernel
abbrev cJ3_checkIndex_8e157 : ByteArray := prog_20_method_11_code
def yJ3_checkIndex_8e157 : MethodName := ⟨RJ3, "checkIndex", "(IILjava/util/function/BiFunction;)I"⟩
def RL : String := "HoopCabinetLaw"
abbrev cL_law : ByteArray := code
def yL_law : MethodName := ⟨RL, "law", "([I)Z"⟩
abbrev vwCl : List vw_C := [(RX0, TX0, 10), (RX1, TX1, 8), (RX2, TX2, 8), (RX3, TX3, 3), (RX4, TX4, 3), (RX5, TX5, 6), (RX6, TX6, 8), (RX7, TX7, 3), (RX8, TX8, 4), (RX9, TX9, 15), (RX10, TX10, 40)]
end
section
def xSl : List (Nat × Nat) := [(9, 15), (102, 1000), (0, 10), (8, 4), (100, 36), (8, 4), (100, 12), (8, 4), (100, 16), (8, 4), (100, 30), (8, 4), (100, 120), (0, 10), (8, 4), (100, 36), (8, 4), (100, 12), (8, 4), (100, 16), (8, 4), (100, 30), (8, 4), (100, 120), (6, 8), (104, 3), (103, 3), (0, 10), (8, 4), (100, 36), (8, 4), (100, 12), (8, 4), (100, 16), (8, 4), (100, 30), (8, 4), (100, 120), (0, 10), (8, 4), (100, 36), (8, 4), (100, 12), (8, 4), (100, 16), (8, 4), (100, 30), (8, 4), (100, 120), (0, 10), (8, 4), (100, 36), (8, 4), (100, 12), (8, 4), (100, 16), (8, 4), (100, 30), (8, 4), (100, 120), (105, 4), (7, 3), (101, 60), (7, 3), (101, 60), (7, 3), (101, 60), (7, 3), (101, 60), (2, 8), (100, 48), (100, 90), (100, 90), (100, 90), (100, 90), (2, 8), (100, 48), (100, 90), (100, 90), (100, 90), (100, 90), (5, 6), (100, 6), (100, 6), (100, 15), (1, 8), (100, 15), (100, 15), (100, 15), (3, 3), (100, 6), (4, 3), (101, 64), (101, 64), (100, 16), (10, 40), (100, 134), (100, 402), (103, 3), (102, 1000), (100, 5), (100, 134), (100, 640), (100, 90), (100, 8), (100, 6), (100, 15), (100, 6), (100, 6), (103, 256), (100, 15), (100, 36), (100, 4), (100, 4), (101, 240), (101, 60)]
def xS (c : Nat) : Nat × Nat := xSl.getD c (999, 0)
def xT (ci : Nat) : Nat → FieldType := match ci with
  | 0 => tyX0
  | 1 => tyX1
  | 2 => tyX2
  | 3 => tyX3
  | 4 => tyX4
  | 5 => tyX5
  | 6 => tyX6
  | 7 => tyX7
  | 8 => tyX8
  | 9 => tyX9
  | _ => tyX10
/-- a class of the worlds: its number, name, fields, how many; its fields' words are among the tables' -/
def CI (ci : Nat) (C : String) (T : u_T) (N : Nat) : Prop := vwCl[ci]? = some (C, T, N) ∧ ci < 100 ∧ (∀ w ∈ u_ws C T N, w ∈ lw_tbl ∧ goodWord w = true) ∧ (∀ k, k < N → parseFieldDescriptor (T k).2.2.1 = some (xT ci k)) ∧ (∀ a, a < N → ∀ b, b < N → a ≠ b → (T a).2.1 ≠ (T b).2.1)
theorem CI0 : CI 0 RX0 TX0 10 := ⟨rfl, by decide, by decide +kernel, tyX0_ok, nmX0⟩
theorem CI1 : CI 1 RX1 TX1 8 := ⟨rfl, by decide, by decide +kernel, tyX1_ok, nmX1⟩
theorem CI2 : CI 2 RX2 TX2 8 := ⟨rfl, by decide, by decide +kernel, tyX2_ok, nmX2⟩
theorem CI3 : CI 3 RX3 TX3 3 := ⟨rfl, by decide, by decide +kernel, tyX3_ok, nmX3⟩
theorem CI4 : CI 4 RX4 TX4 3 := ⟨rfl, by decide, by decide +kernel, tyX4_ok, nmX4⟩
theorem CI5 : CI 5 RX5 TX5 6 := ⟨rfl, by decide, by decide +kernel, tyX5_ok, nmX5⟩
theorem CI6 : CI 6 RX6 TX6 8 := ⟨rfl, by decide, by decide +kernel, tyX6_ok, nmX6⟩
theorem CI7 : CI 7 RX7 TX7 3 := ⟨rfl, by decide, by decide +kernel, tyX7_ok, nmX7⟩
theorem CI8 : CI 8 RX8 TX8 4 := ⟨rfl, by decide, by decide +kernel, tyX8_ok, nmX8⟩
theorem CI9 : CI 9 RX9 TX9 15 := ⟨rfl, by decide, by decide +kernel, tyX9_ok, nmX9⟩
theorem CI10 : CI 10 RX10 TX10 40 := ⟨rfl, by decide, by decide +kernel, tyX10_ok, nmX10⟩
end
section
/-! ===== the calculus: worlds by number =====
A world w = (n, refs, ints, longs): n cells at the addresses b, b + 1, ..; cell c has the shape xS c; what it holds: refs (0 null, q + 1 the cell q), ints, longs. A value on the stack: AI an int, AL a long, AR a cell, AX an address outside. -/
abbrev XW : Type := Nat × (Nat → Nat → Nat) × (Nat → Nat → Int32) × (Nat → Nat → Int64)
abbrev AV : Type := Int32 ⊕ Int64 ⊕ Nat ⊕ Nat
abbrev AI (x : Int32) : AV := .inl x
abbrev AL (x : Int64) : AV := .inr (.inl x)
abbrev AR (c : Nat) : AV := .inr (.inr (.inl c))
abbrev AX (a : Nat) : AV := .inr (.inr (.inr a))
def cv (b : Nat) : AV → Value
  | .inl x => .int x
  | .inr (.inl x) => .long x
  | .inr (.inr (.inl c)) => .ref (b + c)
  | .inr (.inr (.inr a)) => .ref a
def rv (b : Nat) : Nat → Option Nat
  | 0 => none
  | q + 1 => some (b + q)
def isI : FieldType → Bool
  | .long => false
  | .object _ => false
  | .array _ => false
  | _ => true
def isRf : FieldType → Bool
  | .object _ => true
  | .array _ => true
  | _ => false
def xF (b : Nat) (w : XW) (c : Nat) (t : FieldType) (k : Nat) : Value := match t with
  | .long => .long (w.2.2.2 c k)
  | .object _ => va_rf (rv b (w.2.1 c k))
  | .array _ => va_rf (rv b (w.2.1 c k))
  | _ => .int (w.2.2.1 c k)
def xE (aC : Nat → ClassId) (b : Nat) (w : XW) (c : Nat) : va_E :=
  if (xS c).1 < 100 then .inr ((xS c).1, (List.range (xS c).2).map (fun k => xF b w c (xT (xS c).1 k) k))
  else .inl (aC (xS c).1, (xS c).2, if (xS c).1 = 101 then .inr (.inl (w.2.2.2 c)) else if (xS c).1 < 104 then .inl (w.2.2.1 c) else .inr (.inr (.inr (.inr (fun j => rv b (w.2.1 c j))))))
def xL (aC : Nat → ClassId) (b : Nat) (w : XW) : va_W := (List.range w.1).map (fun c => (b + c, xE aC b w c))
def xTys (aC : Nat → ClassId) : List (ClassId × FieldType) := [(aC 100, .int), (aC 101, .long), (aC 102, .byte), (aC 103, .boolean), (aC 104, .object "HoopCabinet$Ball"), (aC 105, .object "HoopCabinet$Slot")]
abbrev xA (b : Nat) : Nat → Prop := fun q => b ≤ q
theorem xL_at {aC : Nat → ClassId} {b : Nat} {w : XW} {c : Nat} (h : c < w.1) : (xL aC b w)[c]? = some (b + c, xE aC b w c) := by
  simp [xL, h]
theorem xL_lt {aC : Nat → ClassId} {b : Nat} {w : XW} {c : Nat} {q : Nat × va_E} (h : (xL aC b w)[c]? = some q) : c < w.1 ∧ q = (b + c, xE aC b w c) := by
  have hl : c < (xL aC b w).length := (List.getElem?_eq_some_iff.mp h).1
  have hl2 : c < w.1 := by simpa [xL] using hl
  rw [xL_at hl2] at h
  exact ⟨hl2, (Option.some.inj h).symm⟩
theorem xL_D {aC : Nat → ClassId} {b : Nat} {w : XW} : va_D (xA b) (xL aC b w) := by
  refine ⟨fun i j p q hi hj hpq => ?_, fun k q hk => ?_⟩
  · obtain ⟨-, rfl⟩ := xL_lt hi
    obtain ⟨-, rfl⟩ := xL_lt hj
    exact Nat.add_left_cancel hpq
  · obtain ⟨-, rfl⟩ := xL_lt hk
    exact Nat.le_add_right b k
theorem xL_set {aC : Nat → ClassId} {b : Nat} {w w' : XW} {c : Nat} {e : va_E} (hE : xE aC b w' c = e) (hn : w'.1 = w.1) (ho : ∀ j, j ≠ c → xE aC b w' j = xE aC b w j) : (xL aC b w).set c (b + c, e) = xL aC b w' := by
  apply List.ext_getElem?
  intro j
  by_cases hj : j < w.1
  · rw [xL_at (w := w') (by rw [hn]; exact hj)]
    by_cases hc : c = j
    · subst hc
      rw [List.getElem?_set_self (by simpa [xL] using hj), hE]
    · rw [List.getElem?_set_ne hc, xL_at hj, ho j (fun z => hc z.symm)]
  · rw [List.getElem?_eq_none (by simp [xL]; omega), List.getElem?_eq_none (by simp [xL, hn]; omega)]
def upI (w : XW) (c k : Nat) (x : Int32) : XW := (w.1, w.2.1, va_up w.2.2.1 c (upd (w.2.2.1 c) k x), w.2.2.2)
def upL (w : XW) (c k : Nat) (x : Int64) : XW := (w.1, w.2.1, w.2.2.1, va_up w.2.2.2 c (vp_updL (w.2.2.2 c) k x))
def upR (w : XW) (c k : Nat) (x : Nat) : XW := (w.1, va_up w.2.1 c (va_up (w.2.1 c) k x), w.2.2.1, w.2.2.2)
def stI (w : XW) (c : Nat) (f : Nat → Int32) : XW := (w.1, w.2.1, va_up w.2.2.1 c f, w.2.2.2)
def stL (w : XW) (c : Nat) (f : Nat → Int64) : XW := (w.1, w.2.1, w.2.2.1, va_up w.2.2.2 c f)
theorem xE_obj {aC : Nat → ClassId} {b : Nat} {w : XW} {c ci N : Nat} (h : xS c = (ci, N)) (hc : ci < 100) : xE aC b w c = .inr (ci, (List.range N).map (fun k => xF b w c (xT ci k) k)) := by
  unfold xE; rw [h]; exact if_pos hc
theorem xE_ai {aC : Nat → ClassId} {b : Nat} {w : XW} {c kd N : Nat} (h : xS c = (kd, N)) (hk : kd = 100 ∨ kd = 102 ∨ kd = 103) : xE aC b w c = .inl (aC kd, N, .inl (w.2.2.1 c)) := by
  unfold xE; rw [h]
  show (if kd < 100 then _ else _) = _
  rw [if_neg (by omega)]
  show Sum.inl (aC kd, N, if kd = 101 then _ else if kd < 104 then _ else _) = _
  rw [if_neg (by omega), if_pos (by omega)]
theorem xE_al {aC : Nat → ClassId} {b : Nat} {w : XW} {c N : Nat} (h : xS c = (101, N)) : xE aC b w c = .inl (aC 101, N, .inr (.inl (w.2.2.2 c))) := by
  unfold xE; rw [h]; rfl
theorem xE_ar {aC : Nat → ClassId} {b : Nat} {w : XW} {c kd N : Nat} (h : xS c = (kd, N)) (hk : kd = 104 ∨ kd = 105) : xE aC b w c = .inl (aC kd, N, .inr (.inr (.inr (.inr (fun j => rv b (w.2.1 c j)))))) := by
  unfold xE; rw [h]
  show (if kd < 100 then _ else _) = _
  rw [if_neg (by omega)]
  show Sum.inl (aC kd, N, if kd = 101 then _ else if kd < 104 then _ else _) = _
  rw [if_neg (by omega), if_neg (by omega)]
theorem xE_other {aC : Nat → ClassId} {b : Nat} {w w' : XW} {j : Nat} (hr : w'.2.1 j = w.2.1 j) (hi : w'.2.2.1 j = w.2.2.1 j) (hl : w'.2.2.2 j = w.2.2.2 j) : xE aC b w' j = xE aC b w j := by
  have hF : ∀ (t : FieldType) (k : Nat), xF b w' j t k = xF b w j t k := by
    intro t k
    unfold xF
    rw [hr, hi, hl]
  unfold xE
  simp only [hF, hr, hi, hl]
theorem xF_int {b : Nat} {w : XW} {c : Nat} {t : FieldType} {k : Nat} (h : isI t = true) : xF b w c t k = .int (w.2.2.1 c k) := by
  unfold xF
  split <;> first | rfl | (simp [isI] at h)
theorem xF_long {b : Nat} {w : XW} {c : Nat} {k : Nat} : xF b w c .long k = .long (w.2.2.2 c k) := rfl
theorem xF_ref {b : Nat} {w : XW} {c : Nat} {t : FieldType} {k : Nat} (h : isRf t = true) : xF b w c t k = va_rf (rv b (w.2.1 c k)) := by
  unfold xF
  split <;> first | rfl | (simp [isRf] at h)
/-- the world at a heap, at a state -/
def xH (D : va_G) (aC : Nat → ClassId) (b : Nat) (w : XW) (H : Heap) : Prop := va_P D vwCl (xL aC b w) H ∧ H.size = b + w.1
def isNest : Cond → Bool
  | .fieldLinkNest _ _ _ _ _ _ => true
  | .methodLinkNest _ _ _ _ => true
  | .arrayOver (.object _) => true
  | _ => false
def okW (w : Cond) : Bool := goodWord w || isNest w
/-- the tables' words, at a state -/
def Gl (U : State) : Prop := ∀ w ∈ lw_tbl, okW w = true → ∀ A : Array Value, w.before A U = true
theorem Gl.warm {s U : State} (hW : s.WarmedH U.vm) (h : Gl s) : Gl U := by
  intro w hw ho A
  unfold okW at ho
  cases hg : goodWord w with
  | true => exact word_at hW (good_of_word hg) (h w hw (by unfold okW; rw [hg]; rfl) #[])
  | false =>
    rw [hg] at ho
    have hn : isNest w = true := by simpa using ho
    have h0 := h w hw (by unfold okW; rw [hn]; simp) #[]
    match w, hn, h0 with
    | .fieldLinkNest _ _ _ _ _ _, _, h0 => exact va_Nw.use rfl (va_Nw.warmF hW (va_Nw.of rfl h0))
    | .methodLinkNest _ _ _ _, _, h0 => exact va_Nw.use rfl (va_Nw.warmM hW (va_Nw.of rfl h0))
    | .arrayOver (.object _), _, h0 => exact va_AO.use (va_AO.moved hW.alike (va_AO.of h0))
def xU (D : va_G) (aC : Nat → ClassId) (b : Nat) (w : XW) (U : State) : Prop := xH D aC b w U.heap ∧ va_K D vwCl (xTys aC) U ∧ Gl U
theorem xU.blind {D : va_G} {aC : Nat → ClassId} {b : Nat} {w : XW} {U : State} (g : JFrame) (mk : MethodId) (a : Array Value) (h : xU D aC b w U) : xU D aC b w (U.calling g mk a) :=
  ⟨h.1, va_K.moved (u := U) (U := U.calling g mk a) (Vm.Alike.refl U.vm) h.2.1, Gl.warm (s := U) (U := U.calling g mk a) (State.WarmedH.refl U) h.2.2⟩
/-- locals: by their places -/
def lvl (b : Nat) : Nat → List (Option AV) → List (Nat × Value)
  | _, [] => []
  | i, none :: r => lvl b (i + 1) r
  | i, some v :: r => (i, cv b v) :: lvl b (i + 1) r
theorem lvl_mem {b : Nat} {q : Nat × Value} : ∀ {L : List (Option AV)} {i : Nat}, q ∈ lvl b i L ↔ ∃ (j : Nat) (v : AV), L[j]? = some (some v) ∧ q = (i + j, cv b v)
  | [], i => by simp [lvl]
  | none :: r, i => by
    rw [lvl, lvl_mem (L := r) (i := i + 1)]
    constructor
    · rintro ⟨j, v, h1, h2⟩
      exact ⟨j + 1, v, by simpa using h1, by rw [h2]; congr 1; omega⟩
    · rintro ⟨j, v, h1, h2⟩
      cases j with
      | zero => simp at h1
      | succ j => exact ⟨j, v, by simpa using h1, by rw [h2]; congr 1; omega⟩
  | some u :: r, i => by
    rw [lvl, List.mem_cons, lvl_mem (L := r) (i := i + 1)]
    constructor
    · rintro (h | ⟨j, v, h1, h2⟩)
      · exact ⟨0, u, by simp, by rw [h]; rfl⟩
      · exact ⟨j + 1, v, by simpa using h1, by rw [h2]; congr 1; omega⟩
    · rintro ⟨j, v, h1, h2⟩
      cases j with
      | zero =>
        left
        simp at h1
        rw [h2, h1]; rfl
      | succ j => exact Or.inr ⟨j, v, by simpa using h1, by rw [h2]; congr 1; omega⟩
def xl (b : Nat) (ls : Array Slot) (nL : Nat) (L : List (Option AV)) : Prop := lv_has ls nL (lvl b 0 L)
theorem xl_at {b : Nat} {ls : Array Slot} {nL : Nat} {L : List (Option AV)} (h : xl b ls nL L) {i : Nat} {v : AV} (hi : L[i]? = some (some v)) : ls[i]? = some (.val (cv b v)) :=
  h.2.2 (i, cv b v) (lvl_mem.mpr ⟨i, v, hi, by rw [Nat.zero_add]⟩)
def isLg : Option (Option AV) → Bool
  | some (some (.inr (.inl _))) => true
  | _ => false
def st0 (L : List (Option AV)) (i : Nat) : List (Option AV) := match isLg L[i - 1]? with
  | true => L.set (i - 1) none
  | false => L
def st1 (L : List (Option AV)) (i : Nat) (v : AV) : List (Option AV) := (st0 L i).set i (some v)
def st2 (L : List (Option AV)) (i : Nat) (v : AV) : List (Option AV) := ((st0 L i).set i (some v)).set (i + 1) none
theorem st0_get {L : List (Option AV)} {i j : Nat} {u : AV} (h : (st0 L i)[j]? = some (some u)) : L[j]? = some (some u) ∧ ¬ (j + 1 = i ∧ ∃ x, u = AL x) := by
  unfold st0 at h
  cases hg : isLg L[i - 1]? with
  | true =>
    rw [hg] at h
    have h : (L.set (i - 1) none)[j]? = some (some u) := h
    by_cases hj : i - 1 = j
    · subst hj
      rw [List.getElem?_set] at h
      simp at h
    · rw [List.getElem?_set_ne hj] at h
      exact ⟨h, fun ⟨h1, _⟩ => hj (by omega)⟩
  | false =>
    rw [hg] at h
    have h : L[j]? = some (some u) := h
    refine ⟨h, fun ⟨h1, x, h2⟩ => ?_⟩
    subst h1
    rw [Nat.add_sub_cancel, h, h2] at hg
    simp [isLg] at hg
theorem cv_cat2 {b : Nat} {u : AV} (h : (cv b u).category = 2) : ∃ x, u = AL x := by
  match u, h with
  | .inl x, h => simp [cv, Value.category] at h
  | .inr (.inl x), _ => exact ⟨x, rfl⟩
  | .inr (.inr (.inl x)), h => simp [cv, Value.category] at h
  | .inr (.inr (.inr x)), h => simp [cv, Value.category] at h
theorem xl_st1 {b : Nat} {ls : Array Slot} {nL : Nat} {L : List (Option AV)} {i : Nat} {v : AV} (h : lv_has ls nL ((i, cv b v) :: (lvl b 0 L).filter (fun q => !(q.1 == i) && !(q.1 + 1 == i && q.2.category == 2)))) : xl b ls nL (st1 L i v) := by
  refine ⟨h.1, h.2.1, fun q hq => h.2.2 q ?_⟩
  obtain ⟨j, u, hj, rfl⟩ := lvl_mem.mp hq
  rw [Nat.zero_add]
  by_cases hji : i = j
  · subst hji
    unfold st1 at hj
    rw [List.getElem?_set] at hj
    simp at hj
    rw [hj.2]
    exact List.mem_cons_self
  · unfold st1 at hj
    rw [List.getElem?_set_ne hji] at hj
    obtain ⟨h1, h2⟩ := st0_get hj
    refine List.mem_cons_of_mem _ (List.mem_filter.mpr ⟨lvl_mem.mpr ⟨j, u, h1, by rw [Nat.zero_add]⟩, ?_⟩)
    by_cases h3 : j + 1 = i ∧ (cv b u).category = 2
    · exact absurd ⟨h3.1, cv_cat2 h3.2⟩ h2
    · by_cases h4 : j + 1 = i
      · have h5 : ¬ (cv b u).category = 2 := fun z => h3 ⟨h4, z⟩
        simp [h5, Ne.symm hji]
      · simp [h4, Ne.symm hji]
theorem xl_st2 {b : Nat} {ls : Array Slot} {nL : Nat} {L : List (Option AV)} {i : Nat} {v : AV} (h : lv_has ls nL ((i, cv b v) :: (lvl b 0 L).filter (fun q => !(q.1 == i) && (!(q.1 == i + 1) && !(q.1 + 1 == i && q.2.category == 2))))) : xl b ls nL (st2 L i v) := by
  refine ⟨h.1, h.2.1, fun q hq => h.2.2 q ?_⟩
  obtain ⟨j, u, hj, rfl⟩ := lvl_mem.mp hq
  rw [Nat.zero_add]
  unfold st2 at hj
  by_cases hj2 : i + 1 = j
  · subst hj2
    rw [List.getElem?_set] at hj
    simp at hj
  · rw [List.getElem?_set_ne hj2] at hj
    by_cases hji : i = j
    · subst hji
      rw [List.getElem?_set] at hj
      simp at hj
      rw [hj.2]
      exact List.mem_cons_self
    · rw [List.getElem?_set_ne hji] at hj
      obtain ⟨h1, h2⟩ := st0_get hj
      refine List.mem_cons_of_mem _ (List.mem_filter.mpr ⟨lvl_mem.mpr ⟨j, u, h1, by rw [Nat.zero_add]⟩, ?_⟩)
      by_cases h3 : j + 1 = i ∧ (cv b u).category = 2
      · exact absurd ⟨h3.1, cv_cat2 h3.2⟩ h2
      · by_cases h4 : j + 1 = i
        · have h5 : ¬ (cv b u).category = 2 := fun z => h3 ⟨h4, z⟩
          simp [h5, Ne.symm hji, Ne.symm hj2]
        · simp [h4, Ne.symm hji, Ne.symm hj2]
def entL : List AV → List (Option AV)
  | [] => []
  | .inr (.inl x) :: r => some (AL x) :: none :: entL r
  | v :: r => some v :: entL r
theorem lvl_none {b : Nat} : ∀ (n i : Nat), lvl b i (List.replicate n none) = []
  | 0, i => rfl
  | n + 1, i => by rw [List.replicate_succ, lvl]; exact lvl_none n (i + 1)
theorem lvl_ent {b n : Nat} : ∀ (A : List AV) (i : Nat), lvl b i (entL A ++ List.replicate n none) = lv_args i (A.map (cv b))
  | [], i => by simp [entL, lv_args, lvl_none]
  | .inl x :: r, i => by
    show (i, cv b (AI x)) :: lvl b (i + 1) (entL r ++ List.replicate n none) = _
    rw [lvl_ent r (i + 1)]; rfl
  | .inr (.inl x) :: r, i => by
    show (i, cv b (AL x)) :: lvl b (i + 1 + 1) (entL r ++ List.replicate n none) = _
    rw [lvl_ent r (i + 1 + 1)]; rfl
  | .inr (.inr (.inl x)) :: r, i => by
    show (i, cv b (AR x)) :: lvl b (i + 1) (entL r ++ List.replicate n none) = _
    rw [lvl_ent r (i + 1)]; rfl
  | .inr (.inr (.inr x)) :: r, i => by
    show (i, cv b (AX x)) :: lvl b (i + 1) (entL r ++ List.replicate n none) = _
    rw [lvl_ent r (i + 1)]; rfl
theorem lg_ent {b : Nat} : ∀ (A : List AV), (lg_sl (A.map (cv b))).length = (entL A).length
  | [] => rfl
  | .inl x :: r => by
    show (lg_sl (r.map (cv b))).length + 1 = _
    rw [lg_ent r]; rfl
  | .inr (.inl x) :: r => by
    show (lg_sl (r.map (cv b))).length + 1 + 1 = _
    rw [lg_ent r]; rfl
  | .inr (.inr (.inl x)) :: r => by
    show (lg_sl (r.map (cv b))).length + 1 = _
    rw [lg_ent r]; rfl
  | .inr (.inr (.inr x)) :: r => by
    show (lg_sl (r.map (cv b))).length + 1 = _
    rw [lg_ent r]; rfl
end
section
section XR
variable {p : Program} {l : Launch} {e : Env} {R : Room} {s : State} {m : MethodId} {args : Array Value} {below : List Frame} {meth : Method} {c : Code} {Q : State → Prop}
variable {D : va_G} {aC : Nat → ClassId} {b nL : Nat} {cc : ByteArray} {own : String} {ret : Option FieldType}
variable {pc : Nat} {L : List (Option AV)} {S : List AV} {w : XW} {cs sl : Nat}
/-- what stands fast in a method's body -/
def EE (p : Program) (s : State) (m : MethodId) (meth : Method) (c : Code) (D : va_G) (aC : Nat → ClassId) (b nL : Nat) (cc : ByteArray) (own : String) (ret : Option FieldType) : Prop :=
  p.tables.exec = Jvm.exec ∧ c.code = cc ∧ c.maxLocals = nL ∧ s.vm.findClass own = some m.cls ∧ Gl s ∧ va_K D vwCl (xTys aC) s ∧ meth.sig.returnType = ret ∧ meth.locks = false ∧ b ≤ s.heap.size
/-- the machine at pc, with these locals, this stack, this world, comes to Q -/
def Wv (p : Program) (l : Launch) (e : Env) (R : Room) (s : State) (m : MethodId) (args : Array Value) (below : List Frame) (meth : Method) (c : Code) (Q : State → Prop) (D : va_G) (aC : Nat → ClassId) (b nL : Nat) (pc : Nat) (L : List (Option AV)) (S : List AV) (w : XW) (cs sl : Nat) : Prop :=
  ∀ (H : Heap) (locs : List Loc) (ls : Array Slot), xH D aC b w H → va_S (xA b) s.heap H locs → xl b ls nL L → W p l e R s m args below meth c H locs cs sl Q (F0 m pc ls (S.map (cv b)))
theorem EE.gl (E : EE p s m meth c D aC b nL cc own ret) {w : Cond} (h : w ∈ lw_tbl) (ho : okW w = true) : w.before args s = true := E.2.2.2.2.1 w h ho args
theorem EE.ci (E : EE p s m meth c D aC b nL cc own ret) {ci N : Nat} {C : String} {T : u_T} (h : CI ci C T N) : ∀ w ∈ u_ws C T N, w.before args s = true := fun w hw => E.2.2.2.2.1 w (h.2.2.1 w hw).1 (by unfold okW; rw [(h.2.2.1 w hw).2]; rfl) args
theorem EE.xU (E : EE p s m meth c D aC b nL cc own ret) {H : Heap} (h : xH D aC b w H) {t : State} (ht : t.heap = H) (hW : s.WarmedH t.vm) : xU D aC b w t := ⟨by rw [ht]; exact h, va_K.moved hW.alike E.2.2.2.2.2.1, Gl.warm hW E.2.2.2.2.1⟩
theorem s_iconst {n : Int} {v : Int32} (E : EE p s m meth c D aC b nL cc own ret) (d : decode cc pc = .ok (.iconst n, 1)) (hv : Int32.ofInt n = v) (k : Wv p l e R s m args below meth c Q D aC b nL (pc + 1) L (AI v :: S) w cs sl) : Wv p l e R s m args below meth c Q D aC b nL pc L (S) w cs sl := fun H locs ls h1 h2 h3 => lv_iconst E.1 E.2.1 d hv (k H locs ls h1 h2 h3)
theorem s_bipush {n : Int} {v : Int32} (E : EE p s m meth c D aC b nL cc own ret) (d : decode cc pc = .ok (.bipush n, 2)) (hv : (Int8.ofInt n).toInt32 = v) (k : Wv p l e R s m args below meth c Q D aC b nL (pc + 2) L (AI v :: S) w cs sl) : Wv p l e R s m args below meth c Q D aC b nL pc L (S) w cs sl := fun H locs ls h1 h2 h3 => lv_bipush E.1 E.2.1 d hv (k H locs ls h1 h2 h3)
theorem s_sipush {n : Int} {v : Int32} (E : EE p s m meth c D aC b nL cc own ret) (d : decode cc pc = .ok (.sipush n, 3)) (hv : (Int16.ofInt n).toInt32 = v) (k : Wv p l e R s m args below meth c Q D aC b nL (pc + 3) L (AI v :: S) w cs sl) : Wv p l e R s m args below meth c Q D aC b nL pc L (S) w cs sl := fun H locs ls h1 h2 h3 => lv_sipush E.1 E.2.1 d hv (k H locs ls h1 h2 h3)
theorem s_lconst {n : Fin 2} {v : Int64} (E : EE p s m meth c D aC b nL cc own ret) (d : decode cc pc = .ok (.lconst n, 1)) (hv : Int64.ofNat (n : Nat) = v) (k : Wv p l e R s m args below meth c Q D aC b nL (pc + 1) L (AL v :: S) w cs sl) : Wv p l e R s m args below meth c Q D aC b nL pc L (S) w cs sl := fun H locs ls h1 h2 h3 => lv_lconst E.1 E.2.1 d hv (k H locs ls h1 h2 h3)
theorem s_ldc {index : Nat} {v : Int32} (E : EE p s m meth c D aC b nL cc own ret) (hm : Cond.constant own index v ∈ lw_tbl) (ho : okW (Cond.constant own index v) = true) (d : decode cc pc = .ok (.ldc index, 2)) (k : Wv p l e R s m args below meth c Q D aC b nL (pc + 2) L (AI v :: S) w cs sl) : Wv p l e R s m args below meth c Q D aC b nL pc L S w cs sl := fun H locs ls h1 h2 h3 => lv_ldc E.1 E.2.1 E.2.2.2.1 (E.gl hm ho) d (k H locs ls h1 h2 h3)
theorem s_ldcw {index : Nat} {v : Int32} (E : EE p s m meth c D aC b nL cc own ret) (hm : Cond.constant own index v ∈ lw_tbl) (ho : okW (Cond.constant own index v) = true) (d : decode cc pc = .ok (.ldc_w index, 3)) (k : Wv p l e R s m args below meth c Q D aC b nL (pc + 3) L (AI v :: S) w cs sl) : Wv p l e R s m args below meth c Q D aC b nL pc L S w cs sl := fun H locs ls h1 h2 h3 => lv_ldcw E.1 E.2.1 E.2.2.2.1 (E.gl hm ho) d (k H locs ls h1 h2 h3)
theorem s_ldc2 {index : Nat} {v : Int64} (E : EE p s m meth c D aC b nL cc own ret) (hm : Cond.constantLong own index v ∈ lw_tbl) (ho : okW (Cond.constantLong own index v) = true) (d : decode cc pc = .ok (.ldc2_w index, 3)) (k : Wv p l e R s m args below meth c Q D aC b nL (pc + 3) L (AL v :: S) w cs sl) : Wv p l e R s m args below meth c Q D aC b nL pc L S w cs sl := fun H locs ls h1 h2 h3 => lv_ldc2 E.1 E.2.1 E.2.2.2.1 (E.gl hm ho) d (k H locs ls h1 h2 h3)
theorem s_iload_n {k : Fin 4} {i : Nat} {x : Int32} (E : EE p s m meth c D aC b nL cc own ret) (d : decode cc pc = .ok (.iload_n k, 1)) (hi : (k : Nat) = i) (hl : L[i]? = some (some (AI x))) (kk : Wv p l e R s m args below meth c Q D aC b nL (pc + 1) L (AI x :: S) w cs sl) : Wv p l e R s m args below meth c Q D aC b nL pc L S w cs sl := fun H locs ls h1 h2 h3 => lv_iload_n E.1 E.2.1 d hi (xl_at h3 hl) (kk H locs ls h1 h2 h3)
theorem s_iload {i : Nat} {x : Int32} (E : EE p s m meth c D aC b nL cc own ret) (d : decode cc pc = .ok (.iload i, 2)) (hl : L[i]? = some (some (AI x))) (kk : Wv p l e R s m args below meth c Q D aC b nL (pc + 2) L (AI x :: S) w cs sl) : Wv p l e R s m args below meth c Q D aC b nL pc L S w cs sl := fun H locs ls h1 h2 h3 => lv_iload E.1 E.2.1 d (xl_at h3 hl) (kk H locs ls h1 h2 h3)
theorem s_lload_n {k : Fin 4} {i : Nat} {x : Int64} (E : EE p s m meth c D aC b nL cc own ret) (d : decode cc pc = .ok (.lload_n k, 1)) (hi : (k : Nat) = i) (hl : L[i]? = some (some (AL x))) (kk : Wv p l e R s m args below meth c Q D aC b nL (pc + 1) L (AL x :: S) w cs sl) : Wv p l e R s m args below meth c Q D aC b nL pc L S w cs sl := fun H locs ls h1 h2 h3 => lv_lload_n E.1 E.2.1 d hi (xl_at h3 hl) (kk H locs ls h1 h2 h3)
theorem s_lload {i : Nat} {x : Int64} (E : EE p s m meth c D aC b nL cc own ret) (d : decode cc pc = .ok (.lload i, 2)) (hl : L[i]? = some (some (AL x))) (kk : Wv p l e R s m args below meth c Q D aC b nL (pc + 2) L (AL x :: S) w cs sl) : Wv p l e R s m args below meth c Q D aC b nL pc L S w cs sl := fun H locs ls h1 h2 h3 => lv_lload E.1 E.2.1 d (xl_at h3 hl) (kk H locs ls h1 h2 h3)
theorem s_aload_n {k : Fin 4} {i : Nat} {x : Nat} (E : EE p s m meth c D aC b nL cc own ret) (d : decode cc pc = .ok (.aload_n k, 1)) (hi : (k : Nat) = i) (hl : L[i]? = some (some (AR x))) (kk : Wv p l e R s m args below meth c Q D aC b nL (pc + 1) L (AR x :: S) w cs sl) : Wv p l e R s m args below meth c Q D aC b nL pc L S w cs sl := fun H locs ls h1 h2 h3 => lv_aload_n E.1 E.2.1 d hi (xl_at h3 hl) (kk H locs ls h1 h2 h3)
theorem s_aload {i : Nat} {x : Nat} (E : EE p s m meth c D aC b nL cc own ret) (d : decode cc pc = .ok (.aload i, 2)) (hl : L[i]? = some (some (AR x))) (kk : Wv p l e R s m args below meth c Q D aC b nL (pc + 2) L (AR x :: S) w cs sl) : Wv p l e R s m args below meth c Q D aC b nL pc L S w cs sl := fun H locs ls h1 h2 h3 => lv_aload E.1 E.2.1 d (xl_at h3 hl) (kk H locs ls h1 h2 h3)
theorem s_xload_n {k : Fin 4} {i : Nat} {x : Nat} (E : EE p s m meth c D aC b nL cc own ret) (d : decode cc pc = .ok (.aload_n k, 1)) (hi : (k : Nat) = i) (hl : L[i]? = some (some (AX x))) (kk : Wv p l e R s m args below meth c Q D aC b nL (pc + 1) L (AX x :: S) w cs sl) : Wv p l e R s m args below meth c Q D aC b nL pc L S w cs sl := fun H locs ls h1 h2 h3 => lv_aload_n E.1 E.2.1 d hi (xl_at h3 hl) (kk H locs ls h1 h2 h3)
theorem s_istore_n {k : Fin 4} {i : Nat} {x : Int32} {L2 : List (Option AV)} (E : EE p s m meth c D aC b nL cc own ret) (d : decode cc pc = .ok (.istore_n k, 1)) (hi : (k : Nat) = i) (hn : i < nL) (hl : st1 L i (AI x) = L2) (kk : Wv p l e R s m args below meth c Q D aC b nL (pc + 1) L2 S w cs sl) : Wv p l e R s m args below meth c Q D aC b nL pc L (AI x :: S) w cs sl := fun H locs ls h1 h2 h3 => lv_istore_n (x := x) E.1 E.2.1 d hi h3 hn rfl (fun ls2 hl2 => kk H locs ls2 h1 h2 (hl ▸ xl_st1 (v := AI x) hl2))
theorem s_istore {i : Nat} {x : Int32} {L2 : List (Option AV)} (E : EE p s m meth c D aC b nL cc own ret) (d : decode cc pc = .ok (.istore i, 2)) (hn : i < nL) (hl : st1 L i (AI x) = L2) (kk : Wv p l e R s m args below meth c Q D aC b nL (pc + 2) L2 S w cs sl) : Wv p l e R s m args below meth c Q D aC b nL pc L (AI x :: S) w cs sl := fun H locs ls h1 h2 h3 => lv_istore (x := x) E.1 E.2.1 d h3 hn rfl (fun ls2 hl2 => kk H locs ls2 h1 h2 (hl ▸ xl_st1 (v := AI x) hl2))
theorem s_lstore_n {k : Fin 4} {i : Nat} {x : Int64} {L2 : List (Option AV)} (E : EE p s m meth c D aC b nL cc own ret) (d : decode cc pc = .ok (.lstore_n k, 1)) (hi : (k : Nat) = i) (hn : i + 1 < nL) (hl : st2 L i (AL x) = L2) (kk : Wv p l e R s m args below meth c Q D aC b nL (pc + 1) L2 S w cs sl) : Wv p l e R s m args below meth c Q D aC b nL pc L (AL x :: S) w cs sl := fun H locs ls h1 h2 h3 => lv_lstore_n (x := x) E.1 E.2.1 d hi h3 hn rfl (fun ls2 hl2 => kk H locs ls2 h1 h2 (hl ▸ xl_st2 (v := AL x) hl2))
theorem s_lstore {i : Nat} {x : Int64} {L2 : List (Option AV)} (E : EE p s m meth c D aC b nL cc own ret) (d : decode cc pc = .ok (.lstore i, 2)) (hn : i + 1 < nL) (hl : st2 L i (AL x) = L2) (kk : Wv p l e R s m args below meth c Q D aC b nL (pc + 2) L2 S w cs sl) : Wv p l e R s m args below meth c Q D aC b nL pc L (AL x :: S) w cs sl := fun H locs ls h1 h2 h3 => lv_lstore (x := x) E.1 E.2.1 d h3 hn rfl (fun ls2 hl2 => kk H locs ls2 h1 h2 (hl ▸ xl_st2 (v := AL x) hl2))
theorem s_astore_n {k : Fin 4} {i : Nat} {x : Nat} {L2 : List (Option AV)} (E : EE p s m meth c D aC b nL cc own ret) (d : decode cc pc = .ok (.astore_n k, 1)) (hi : (k : Nat) = i) (hn : i < nL) (hl : st1 L i (AR x) = L2) (kk : Wv p l e R s m args below meth c Q D aC b nL (pc + 1) L2 S w cs sl) : Wv p l e R s m args below meth c Q D aC b nL pc L (AR x :: S) w cs sl := fun H locs ls h1 h2 h3 => lv_astore_n (x := b + x) E.1 E.2.1 d hi h3 hn rfl (fun ls2 hl2 => kk H locs ls2 h1 h2 (hl ▸ xl_st1 (v := AR x) hl2))
theorem s_astore {i : Nat} {x : Nat} {L2 : List (Option AV)} (E : EE p s m meth c D aC b nL cc own ret) (d : decode cc pc = .ok (.astore i, 2)) (hn : i < nL) (hl : st1 L i (AR x) = L2) (kk : Wv p l e R s m args below meth c Q D aC b nL (pc + 2) L2 S w cs sl) : Wv p l e R s m args below meth c Q D aC b nL pc L (AR x :: S) w cs sl := fun H locs ls h1 h2 h3 => lv_astore (x := b + x) E.1 E.2.1 d h3 hn rfl (fun ls2 hl2 => kk H locs ls2 h1 h2 (hl ▸ xl_st1 (v := AR x) hl2))
theorem s_iinc {i : Nat} {n : Int} {x v : Int32} {L2 : List (Option AV)} (E : EE p s m meth c D aC b nL cc own ret) (d : decode cc pc = .ok (.iinc i n, 3)) (hx : L[i]? = some (some (AI x))) (hv : x + Int32.ofInt n = v) (hn : i < nL) (hl : st1 L i (AI v) = L2) (kk : Wv p l e R s m args below meth c Q D aC b nL (pc + 3) L2 S w cs sl) : Wv p l e R s m args below meth c Q D aC b nL pc L S w cs sl := fun H locs ls h1 h2 h3 => by
  obtain ⟨q, hq⟩ := List.getElem?_of_mem (lvl_mem (b := b) (i := 0).mpr ⟨i, AI x, hx, rfl⟩)
  rw [Nat.zero_add] at hq
  exact lv_iinc (x := x) (v := v) E.1 E.2.1 d h3 hq hv hn rfl (fun ls2 hl2 => kk H locs ls2 h1 h2 (hl ▸ xl_st1 (v := AI v) hl2))
theorem s_iadd {x y : Int32} (E : EE p s m meth c D aC b nL cc own ret) (d : decode cc pc = .ok (.iadd, 1)) (k : Wv p l e R s m args below meth c Q D aC b nL (pc + 1) L (AI (x + y) :: S) w cs sl) : Wv p l e R s m args below meth c Q D aC b nL pc L (AI y :: AI x :: S) w cs sl := fun H locs ls h1 h2 h3 => lv_iadd E.1 E.2.1 d (k H locs ls h1 h2 h3)
theorem s_isub {x y : Int32} (E : EE p s m meth c D aC b nL cc own ret) (d : decode cc pc = .ok (.isub, 1)) (k : Wv p l e R s m args below meth c Q D aC b nL (pc + 1) L (AI (x - y) :: S) w cs sl) : Wv p l e R s m args below meth c Q D aC b nL pc L (AI y :: AI x :: S) w cs sl := fun H locs ls h1 h2 h3 => lv_isub E.1 E.2.1 d (k H locs ls h1 h2 h3)
theorem s_imul {x y : Int32} (E : EE p s m meth c D aC b nL cc own ret) (d : decode cc pc = .ok (.imul, 1)) (k : Wv p l e R s m args below meth c Q D aC b nL (pc + 1) L (AI (x * y) :: S) w cs sl) : Wv p l e R s m args below meth c Q D aC b nL pc L (AI y :: AI x :: S) w cs sl := fun H locs ls h1 h2 h3 => lv_imul E.1 E.2.1 d (k H locs ls h1 h2 h3)
theorem s_iand {x y : Int32} (E : EE p s m meth c D aC b nL cc own ret) (d : decode cc pc = .ok (.iand, 1)) (k : Wv p l e R s m args below meth c Q D aC b nL (pc + 1) L (AI (x &&& y) :: S) w cs sl) : Wv p l e R s m args below meth c Q D aC b nL pc L (AI y :: AI x :: S) w cs sl := fun H locs ls h1 h2 h3 => lv_iand E.1 E.2.1 d (k H locs ls h1 h2 h3)
theorem s_ior {x y : Int32} (E : EE p s m meth c D aC b nL cc own ret) (d : decode cc pc = .ok (.ior, 1)) (k : Wv p l e R s m args below meth c Q D aC b nL (pc + 1) L (AI (x ||| y) :: S) w cs sl) : Wv p l e R s m args below meth c Q D aC b nL pc L (AI y :: AI x :: S) w cs sl := fun H locs ls h1 h2 h3 => lv_ior E.1 E.2.1 d (k H locs ls h1 h2 h3)
theorem s_ixor {x y : Int32} (E : EE p s m meth c D aC b nL cc own ret) (d : decode cc pc = .ok (.ixor, 1)) (k : Wv p l e R s m args below meth c Q D aC b nL (pc + 1) L (AI (x ^^^ y) :: S) w cs sl) : Wv p l e R s m args below meth c Q D aC b nL pc L (AI y :: AI x :: S) w cs sl := fun H locs ls h1 h2 h3 => lv_ixor E.1 E.2.1 d (k H locs ls h1 h2 h3)
theorem s_ishl {x y : Int32} (E : EE p s m meth c D aC b nL cc own ret) (d : decode cc pc = .ok (.ishl, 1)) (k : Wv p l e R s m args below meth c Q D aC b nL (pc + 1) L (AI (x <<< (y &&& 31)) :: S) w cs sl) : Wv p l e R s m args below meth c Q D aC b nL pc L (AI y :: AI x :: S) w cs sl := fun H locs ls h1 h2 h3 => lv_ishl E.1 E.2.1 d (k H locs ls h1 h2 h3)
theorem s_ishr {x y : Int32} (E : EE p s m meth c D aC b nL cc own ret) (d : decode cc pc = .ok (.ishr, 1)) (k : Wv p l e R s m args below meth c Q D aC b nL (pc + 1) L (AI (x >>> (y &&& 31)) :: S) w cs sl) : Wv p l e R s m args below meth c Q D aC b nL pc L (AI y :: AI x :: S) w cs sl := fun H locs ls h1 h2 h3 => lv_ishr E.1 E.2.1 d (k H locs ls h1 h2 h3)
theorem s_idiv {x y : Int32} (E : EE p s m meth c D aC b nL cc own ret) (d : decode cc pc = .ok (.idiv, 1)) (hne : ¬ y = 0) (k : Wv p l e R s m args below meth c Q D aC b nL (pc + 1) L (AI (x / y) :: S) w cs sl) : Wv p l e R s m args below meth c Q D aC b nL pc L (AI y :: AI x :: S) w cs sl := fun H locs ls h1 h2 h3 => lv_idiv E.1 E.2.1 d hne (k H locs ls h1 h2 h3)
theorem s_irem {x y : Int32} (E : EE p s m meth c D aC b nL cc own ret) (d : decode cc pc = .ok (.irem, 1)) (hne : ¬ y = 0) (k : Wv p l e R s m args below meth c Q D aC b nL (pc + 1) L (AI (x - x / y * y) :: S) w cs sl) : Wv p l e R s m args below meth c Q D aC b nL pc L (AI y :: AI x :: S) w cs sl := fun H locs ls h1 h2 h3 => lv_irem E.1 E.2.1 d hne (k H locs ls h1 h2 h3)
theorem s_ineg {x : Int32} (E : EE p s m meth c D aC b nL cc own ret) (d : decode cc pc = .ok (.ineg, 1)) (k : Wv p l e R s m args below meth c Q D aC b nL (pc + 1) L (AI (-x) :: S) w cs sl) : Wv p l e R s m args below meth c Q D aC b nL pc L (AI x :: S) w cs sl := fun H locs ls h1 h2 h3 => lv_ineg E.1 E.2.1 d (k H locs ls h1 h2 h3)
theorem s_ladd {x y : Int64} (E : EE p s m meth c D aC b nL cc own ret) (d : decode cc pc = .ok (.ladd, 1)) (k : Wv p l e R s m args below meth c Q D aC b nL (pc + 1) L (AL (x + y) :: S) w cs sl) : Wv p l e R s m args below meth c Q D aC b nL pc L (AL y :: AL x :: S) w cs sl := fun H locs ls h1 h2 h3 => lv_ladd E.1 E.2.1 d (k H locs ls h1 h2 h3)
theorem s_lsub {x y : Int64} (E : EE p s m meth c D aC b nL cc own ret) (d : decode cc pc = .ok (.lsub, 1)) (k : Wv p l e R s m args below meth c Q D aC b nL (pc + 1) L (AL (x - y) :: S) w cs sl) : Wv p l e R s m args below meth c Q D aC b nL pc L (AL y :: AL x :: S) w cs sl := fun H locs ls h1 h2 h3 => lv_lsub E.1 E.2.1 d (k H locs ls h1 h2 h3)
theorem s_lmul {x y : Int64} (E : EE p s m meth c D aC b nL cc own ret) (d : decode cc pc = .ok (.lmul, 1)) (k : Wv p l e R s m args below meth c Q D aC b nL (pc + 1) L (AL (x * y) :: S) w cs sl) : Wv p l e R s m args below meth c Q D aC b nL pc L (AL y :: AL x :: S) w cs sl := fun H locs ls h1 h2 h3 => lv_lmul E.1 E.2.1 d (k H locs ls h1 h2 h3)
theorem s_land {x y : Int64} (E : EE p s m meth c D aC b nL cc own ret) (d : decode cc pc = .ok (.land, 1)) (k : Wv p l e R s m args below meth c Q D aC b nL (pc + 1) L (AL (x &&& y) :: S) w cs sl) : Wv p l e R s m args below meth c Q D aC b nL pc L (AL y :: AL x :: S) w cs sl := fun H locs ls h1 h2 h3 => lv_land E.1 E.2.1 d (k H locs ls h1 h2 h3)
theorem s_lor {x y : Int64} (E : EE p s m meth c D aC b nL cc own ret) (d : decode cc pc = .ok (.lor, 1)) (k : Wv p l e R s m args below meth c Q D aC b nL (pc + 1) L (AL (x ||| y) :: S) w cs sl) : Wv p l e R s m args below meth c Q D aC b nL pc L (AL y :: AL x :: S) w cs sl := fun H locs ls h1 h2 h3 => lv_lor E.1 E.2.1 d (k H locs ls h1 h2 h3)
theorem s_ldiv {x y : Int64} (E : EE p s m meth c D aC b nL cc own ret) (d : decode cc pc = .ok (.ldiv, 1)) (hne : ¬ y = 0) (k : Wv p l e R s m args below meth c Q D aC b nL (pc + 1) L (AL (x / y) :: S) w cs sl) : Wv p l e R s m args below meth c Q D aC b nL pc L (AL y :: AL x :: S) w cs sl := fun H locs ls h1 h2 h3 => lv_ldiv E.1 E.2.1 d hne (k H locs ls h1 h2 h3)
theorem s_lrem {x y : Int64} (E : EE p s m meth c D aC b nL cc own ret) (d : decode cc pc = .ok (.lrem, 1)) (hne : ¬ y = 0) (k : Wv p l e R s m args below meth c Q D aC b nL (pc + 1) L (AL (x - x / y * y) :: S) w cs sl) : Wv p l e R s m args below meth c Q D aC b nL pc L (AL y :: AL x :: S) w cs sl := fun H locs ls h1 h2 h3 => lv_lrem E.1 E.2.1 d hne (k H locs ls h1 h2 h3)
theorem s_iushr {x y : Int32} (E : EE p s m meth c D aC b nL cc own ret) (d : decode cc pc = .ok (.iushr, 1)) (k : Wv p l e R s m args below meth c Q D aC b nL (pc + 1) L (AI ((x.toUInt32 >>> (y.toUInt32 &&& Int32.toUInt32 31)).toInt32) :: S) w cs sl) : Wv p l e R s m args below meth c Q D aC b nL pc L (AI y :: AI x :: S) w cs sl := fun H locs ls h1 h2 h3 => lv_iushr E.1 E.2.1 d rfl (k H locs ls h1 h2 h3)
theorem s_lshl {x : Int64} {y : Int32} (E : EE p s m meth c D aC b nL cc own ret) (d : decode cc pc = .ok (.lshl, 1)) (k : Wv p l e R s m args below meth c Q D aC b nL (pc + 1) L (AL (x <<< (y.toInt64 &&& 63)) :: S) w cs sl) : Wv p l e R s m args below meth c Q D aC b nL pc L (AI y :: AL x :: S) w cs sl := fun H locs ls h1 h2 h3 => lv_lshl E.1 E.2.1 d rfl (k H locs ls h1 h2 h3)
theorem s_lshr {x : Int64} {y : Int32} (E : EE p s m meth c D aC b nL cc own ret) (d : decode cc pc = .ok (.lshr, 1)) (k : Wv p l e R s m args below meth c Q D aC b nL (pc + 1) L (AL (x >>> (y.toInt64 &&& 63)) :: S) w cs sl) : Wv p l e R s m args below meth c Q D aC b nL pc L (AI y :: AL x :: S) w cs sl := fun H locs ls h1 h2 h3 => lv_lshr E.1 E.2.1 d rfl (k H locs ls h1 h2 h3)
theorem s_i2l {x : Int32} (E : EE p s m meth c D aC b nL cc own ret) (d : decode cc pc = .ok (.i2l, 1)) (k : Wv p l e R s m args below meth c Q D aC b nL (pc + 1) L (AL x.toInt64 :: S) w cs sl) : Wv p l e R s m args below meth c Q D aC b nL pc L (AI x :: S) w cs sl := fun H locs ls h1 h2 h3 => lv_i2l E.1 E.2.1 d rfl (k H locs ls h1 h2 h3)
theorem s_l2i {x : Int64} (E : EE p s m meth c D aC b nL cc own ret) (d : decode cc pc = .ok (.l2i, 1)) (k : Wv p l e R s m args below meth c Q D aC b nL (pc + 1) L (AI x.toInt32 :: S) w cs sl) : Wv p l e R s m args below meth c Q D aC b nL pc L (AL x :: S) w cs sl := fun H locs ls h1 h2 h3 => lv_l2i E.1 E.2.1 d rfl (k H locs ls h1 h2 h3)
theorem s_i2b {x : Int32} (E : EE p s m meth c D aC b nL cc own ret) (d : decode cc pc = .ok (.i2b, 1)) (k : Wv p l e R s m args below meth c Q D aC b nL (pc + 1) L (AI x.toInt8.toInt32 :: S) w cs sl) : Wv p l e R s m args below meth c Q D aC b nL pc L (AI x :: S) w cs sl := fun H locs ls h1 h2 h3 => lv_i2b E.1 E.2.1 d rfl (k H locs ls h1 h2 h3)
theorem s_i2s {x : Int32} (E : EE p s m meth c D aC b nL cc own ret) (d : decode cc pc = .ok (.i2s, 1)) (k : Wv p l e R s m args below meth c Q D aC b nL (pc + 1) L (AI x.toInt16.toInt32 :: S) w cs sl) : Wv p l e R s m args below meth c Q D aC b nL pc L (AI x :: S) w cs sl := fun H locs ls h1 h2 h3 => lv_i2s E.1 E.2.1 d rfl (k H locs ls h1 h2 h3)
theorem s_lcmp {x y : Int64} (E : EE p s m meth c D aC b nL cc own ret) (d : decode cc pc = .ok (.lcmp, 1)) (k : Wv p l e R s m args below meth c Q D aC b nL (pc + 1) L (AI (lg_cmp x y) :: S) w cs sl) : Wv p l e R s m args below meth c Q D aC b nL pc L (AL y :: AL x :: S) w cs sl := fun H locs ls h1 h2 h3 => W.lcmp E.1 E.2.1 d (k H locs ls h1 h2 h3)
theorem s_dupI {x : Int32} (E : EE p s m meth c D aC b nL cc own ret) (d : decode cc pc = .ok (.dup, 1)) (k : Wv p l e R s m args below meth c Q D aC b nL (pc + 1) L (AI x :: AI x :: S) w cs sl) : Wv p l e R s m args below meth c Q D aC b nL pc L (AI x :: S) w cs sl := fun H locs ls h1 h2 h3 => lv_dup E.1 E.2.1 d rfl (k H locs ls h1 h2 h3)
theorem s_dupR {x : Nat} (E : EE p s m meth c D aC b nL cc own ret) (d : decode cc pc = .ok (.dup, 1)) (k : Wv p l e R s m args below meth c Q D aC b nL (pc + 1) L (AR x :: AR x :: S) w cs sl) : Wv p l e R s m args below meth c Q D aC b nL pc L (AR x :: S) w cs sl := fun H locs ls h1 h2 h3 => lv_dup E.1 E.2.1 d rfl (k H locs ls h1 h2 h3)
theorem s_popI {x : Int32} (E : EE p s m meth c D aC b nL cc own ret) (d : decode cc pc = .ok (.pop, 1)) (k : Wv p l e R s m args below meth c Q D aC b nL (pc + 1) L (S) w cs sl) : Wv p l e R s m args below meth c Q D aC b nL pc L (AI x :: S) w cs sl := fun H locs ls h1 h2 h3 => lv_pop E.1 E.2.1 d rfl (k H locs ls h1 h2 h3)
theorem s_dup2 {x : Nat} {y : Int32} (E : EE p s m meth c D aC b nL cc own ret) (d : decode cc pc = .ok (.dup2, 1)) (k : Wv p l e R s m args below meth c Q D aC b nL (pc + 1) L (AI y :: AR x :: AI y :: AR x :: S) w cs sl) : Wv p l e R s m args below meth c Q D aC b nL pc L (AI y :: AR x :: S) w cs sl := fun H locs ls h1 h2 h3 => lv_dup2_11 E.1 E.2.1 d rfl rfl (k H locs ls h1 h2 h3)
theorem s_if_eq {x : Int32} {off : Int} {tgt : Nat} (E : EE p s m meth c D aC b nL cc own ret) (d : decode cc pc = .ok (.ifCond .eq off, 3)) (ht : (pc : Int) + off = (tgt : Int)) (kt : x = 0 → Wv p l e R s m args below meth c Q D aC b nL tgt L S w cs sl) (kf : ¬ x = 0 → Wv p l e R s m args below meth c Q D aC b nL (pc + 3) L S w cs sl) : Wv p l e R s m args below meth c Q D aC b nL pc L (AI x :: S) w cs sl := fun H locs ls h1 h2 h3 => lv_if_eq E.1 E.2.1 d ht (fun h => kt h H locs ls h1 h2 h3) (fun h => kf h H locs ls h1 h2 h3)
theorem s_if_ne {x : Int32} {off : Int} {tgt : Nat} (E : EE p s m meth c D aC b nL cc own ret) (d : decode cc pc = .ok (.ifCond .ne off, 3)) (ht : (pc : Int) + off = (tgt : Int)) (kt : ¬ x = 0 → Wv p l e R s m args below meth c Q D aC b nL tgt L S w cs sl) (kf : x = 0 → Wv p l e R s m args below meth c Q D aC b nL (pc + 3) L S w cs sl) : Wv p l e R s m args below meth c Q D aC b nL pc L (AI x :: S) w cs sl := fun H locs ls h1 h2 h3 => lv_if_ne E.1 E.2.1 d ht (fun h => kt h H locs ls h1 h2 h3) (fun h => kf h H locs ls h1 h2 h3)
theorem s_if_lt {x : Int32} {off : Int} {tgt : Nat} (E : EE p s m meth c D aC b nL cc own ret) (d : decode cc pc = .ok (.ifCond .lt off, 3)) (ht : (pc : Int) + off = (tgt : Int)) (kt : x < 0 → Wv p l e R s m args below meth c Q D aC b nL tgt L S w cs sl) (kf : ¬ x < 0 → Wv p l e R s m args below meth c Q D aC b nL (pc + 3) L S w cs sl) : Wv p l e R s m args below meth c Q D aC b nL pc L (AI x :: S) w cs sl := fun H locs ls h1 h2 h3 => lv_if_lt E.1 E.2.1 d ht (fun h => kt h H locs ls h1 h2 h3) (fun h => kf h H locs ls h1 h2 h3)
theorem s_if_ge {x : Int32} {off : Int} {tgt : Nat} (E : EE p s m meth c D aC b nL cc own ret) (d : decode cc pc = .ok (.ifCond .ge off, 3)) (ht : (pc : Int) + off = (tgt : Int)) (kt : 0 ≤ x → Wv p l e R s m args below meth c Q D aC b nL tgt L S w cs sl) (kf : ¬ 0 ≤ x → Wv p l e R s m args below meth c Q D aC b nL (pc + 3) L S w cs sl) : Wv p l e R s m args below meth c Q D aC b nL pc L (AI x :: S) w cs sl := fun H locs ls h1 h2 h3 => lv_if_ge E.1 E.2.1 d ht (fun h => kt h H locs ls h1 h2 h3) (fun h => kf h H locs ls h1 h2 h3)
theorem s_if_gt {x : Int32} {off : Int} {tgt : Nat} (E : EE p s m meth c D aC b nL cc own ret) (d : decode cc pc = .ok (.ifCond .gt off, 3)) (ht : (pc : Int) + off = (tgt : Int)) (kt : 0 < x → Wv p l e R s m args below meth c Q D aC b nL tgt L S w cs sl) (kf : ¬ 0 < x → Wv p l e R s m args below meth c Q D aC b nL (pc + 3) L S w cs sl) : Wv p l e R s m args below meth c Q D aC b nL pc L (AI x :: S) w cs sl := fun H locs ls h1 h2 h3 => lv_if_gt E.1 E.2.1 d ht (fun h => kt h H locs ls h1 h2 h3) (fun h => kf h H locs ls h1 h2 h3)
theorem s_if_le {x : Int32} {off : Int} {tgt : Nat} (E : EE p s m meth c D aC b nL cc own ret) (d : decode cc pc = .ok (.ifCond .le off, 3)) (ht : (pc : Int) + off = (tgt : Int)) (kt : x ≤ 0 → Wv p l e R s m args below meth c Q D aC b nL tgt L S w cs sl) (kf : ¬ x ≤ 0 → Wv p l e R s m args below meth c Q D aC b nL (pc + 3) L S w cs sl) : Wv p l e R s m args below meth c Q D aC b nL pc L (AI x :: S) w cs sl := fun H locs ls h1 h2 h3 => lv_if_le E.1 E.2.1 d ht (fun h => kt h H locs ls h1 h2 h3) (fun h => kf h H locs ls h1 h2 h3)
theorem s_icmp_eq {x y : Int32} {off : Int} {tgt : Nat} (E : EE p s m meth c D aC b nL cc own ret) (d : decode cc pc = .ok (.if_icmp .eq off, 3)) (ht : (pc : Int) + off = (tgt : Int)) (kt : x = y → Wv p l e R s m args below meth c Q D aC b nL tgt L S w cs sl) (kf : ¬ x = y → Wv p l e R s m args below meth c Q D aC b nL (pc + 3) L S w cs sl) : Wv p l e R s m args below meth c Q D aC b nL pc L (AI y :: AI x :: S) w cs sl := fun H locs ls h1 h2 h3 => lv_icmp_eq E.1 E.2.1 d ht (fun h => kt h H locs ls h1 h2 h3) (fun h => kf h H locs ls h1 h2 h3)
theorem s_icmp_ne {x y : Int32} {off : Int} {tgt : Nat} (E : EE p s m meth c D aC b nL cc own ret) (d : decode cc pc = .ok (.if_icmp .ne off, 3)) (ht : (pc : Int) + off = (tgt : Int)) (kt : ¬ x = y → Wv p l e R s m args below meth c Q D aC b nL tgt L S w cs sl) (kf : x = y → Wv p l e R s m args below meth c Q D aC b nL (pc + 3) L S w cs sl) : Wv p l e R s m args below meth c Q D aC b nL pc L (AI y :: AI x :: S) w cs sl := fun H locs ls h1 h2 h3 => lv_icmp_ne E.1 E.2.1 d ht (fun h => kt h H locs ls h1 h2 h3) (fun h => kf h H locs ls h1 h2 h3)
theorem s_icmp_lt {x y : Int32} {off : Int} {tgt : Nat} (E : EE p s m meth c D aC b nL cc own ret) (d : decode cc pc = .ok (.if_icmp .lt off, 3)) (ht : (pc : Int) + off = (tgt : Int)) (kt : x < y → Wv p l e R s m args below meth c Q D aC b nL tgt L S w cs sl) (kf : ¬ x < y → Wv p l e R s m args below meth c Q D aC b nL (pc + 3) L S w cs sl) : Wv p l e R s m args below meth c Q D aC b nL pc L (AI y :: AI x :: S) w cs sl := fun H locs ls h1 h2 h3 => lv_icmp_lt E.1 E.2.1 d ht (fun h => kt h H locs ls h1 h2 h3) (fun h => kf h H locs ls h1 h2 h3)
theorem s_icmp_ge {x y : Int32} {off : Int} {tgt : Nat} (E : EE p s m meth c D aC b nL cc own ret) (d : decode cc pc = .ok (.if_icmp .ge off, 3)) (ht : (pc : Int) + off = (tgt : Int)) (kt : y ≤ x → Wv p l e R s m args below meth c Q D aC b nL tgt L S w cs sl) (kf : ¬ y ≤ x → Wv p l e R s m args below meth c Q D aC b nL (pc + 3) L S w cs sl) : Wv p l e R s m args below meth c Q D aC b nL pc L (AI y :: AI x :: S) w cs sl := fun H locs ls h1 h2 h3 => lv_icmp_ge E.1 E.2.1 d ht (fun h => kt h H locs ls h1 h2 h3) (fun h => kf h H locs ls h1 h2 h3)
theorem s_icmp_gt {x y : Int32} {off : Int} {tgt : Nat} (E : EE p s m meth c D aC b nL cc own ret) (d : decode cc pc = .ok (.if_icmp .gt off, 3)) (ht : (pc : Int) + off = (tgt : Int)) (kt : y < x → Wv p l e R s m args below meth c Q D aC b nL tgt L S w cs sl) (kf : ¬ y < x → Wv p l e R s m args below meth c Q D aC b nL (pc + 3) L S w cs sl) : Wv p l e R s m args below meth c Q D aC b nL pc L (AI y :: AI x :: S) w cs sl := fun H locs ls h1 h2 h3 => lv_icmp_gt E.1 E.2.1 d ht (fun h => kt h H locs ls h1 h2 h3) (fun h => kf h H locs ls h1 h2 h3)
theorem s_icmp_le {x y : Int32} {off : Int} {tgt : Nat} (E : EE p s m meth c D aC b nL cc own ret) (d : decode cc pc = .ok (.if_icmp .le off, 3)) (ht : (pc : Int) + off = (tgt : Int)) (kt : x ≤ y → Wv p l e R s m args below meth c Q D aC b nL tgt L S w cs sl) (kf : ¬ x ≤ y → Wv p l e R s m args below meth c Q D aC b nL (pc + 3) L S w cs sl) : Wv p l e R s m args below meth c Q D aC b nL pc L (AI y :: AI x :: S) w cs sl := fun H locs ls h1 h2 h3 => lv_icmp_le E.1 E.2.1 d ht (fun h => kt h H locs ls h1 h2 h3) (fun h => kf h H locs ls h1 h2 h3)
theorem s_goto {off : Int} {tgt : Nat} (E : EE p s m meth c D aC b nL cc own ret) (d : decode cc pc = .ok (.goto off, 3)) (ht : (pc : Int) + off = (tgt : Int)) (k : Wv p l e R s m args below meth c Q D aC b nL tgt L S w cs sl) : Wv p l e R s m args below meth c Q D aC b nL pc L S w cs sl := fun H locs ls h1 h2 h3 => lv_goto E.1 E.2.1 d ht (k H locs ls h1 h2 h3)
theorem s_tableOut {dflt lo hi : Int} {offs : Array Int} {len : Nat} {x : Int32} {tgt : Nat} (E : EE p s m meth c D aC b nL cc own ret) (d : decode cc pc = .ok (.tableswitch dflt lo hi offs, len)) (h : x.toInt < lo ∨ hi < x.toInt) (ht : (pc : Int) + dflt = (tgt : Int)) (k : Wv p l e R s m args below meth c Q D aC b nL tgt L S w cs sl) : Wv p l e R s m args below meth c Q D aC b nL pc L (AI x :: S) w cs sl := fun H locs ls h1 h2 h3 => lv_tableOut E.1 E.2.1 d h ht (k H locs ls h1 h2 h3)
theorem s_tableIn {dflt lo hi : Int} {offs : Array Int} {len : Nat} {x : Int32} {off : Int} {tgt : Nat} (E : EE p s m meth c D aC b nL cc own ret) (d : decode cc pc = .ok (.tableswitch dflt lo hi offs, len)) (g1 : ¬ x.toInt < lo) (g2 : ¬ hi < x.toInt) (ho : offs[(x.toInt - lo).toNat]? = some off) (ht : (pc : Int) + off = (tgt : Int)) (k : Wv p l e R s m args below meth c Q D aC b nL tgt L S w cs sl) : Wv p l e R s m args below meth c Q D aC b nL pc L (AI x :: S) w cs sl := fun H locs ls h1 h2 h3 => lv_tableIn E.1 E.2.1 d g1 g2 ho ht (k H locs ls h1 h2 h3)
theorem Wv.widen {cs2 sl2 : Nat} (g1 : cs ≤ cs2) (g2 : sl ≤ sl2) (k : Wv p l e R s m args below meth c Q D aC b nL pc L S w cs2 sl2) : Wv p l e R s m args below meth c Q D aC b nL pc L S w cs sl := fun H locs ls h1 h2 h3 => W.widen g1 g2 (k H locs ls h1 h2 h3)
theorem r_int {post : Int32 → XW → Prop} {x : Int32} (E : EE p s m meth c D aC b nL cc own (some .int)) (d : decode cc pc = .ok (.ireturn, 1)) (hp : post x w) : Wv p l e R s m args below meth c (MQ below (va_Qi post (xU D aC b) (xA b)) args s cs sl (xA b)) D aC b nL pc L [AI x] w cs sl := fun H locs ls h1 h2 h3 =>
  W.iret (v := x) E.1 E.2.1 E.2.2.2.2.2.2.1 (fun t ht hW => ⟨⟨x, w, rfl, hp, E.xU h1 ht hW⟩, h2.F ht⟩) h2.2.2 d E.2.2.2.2.2.2.2.1
theorem r_bool {post : Int32 → XW → Prop} {x : Int32} (E : EE p s m meth c D aC b nL cc own (some .boolean)) (d : decode cc pc = .ok (.ireturn, 1)) (hx : x = 0 ∨ x = 1) (hp : post x w) : Wv p l e R s m args below meth c (MQ below (va_Qi post (xU D aC b) (xA b)) args s cs sl (xA b)) D aC b nL pc L [AI x] w cs sl := fun H locs ls h1 h2 h3 =>
  W.zret (v := x) E.1 E.2.1 E.2.2.2.2.2.2.1 (by rcases hx with rfl | rfl <;> decide) (fun t ht hW => ⟨⟨x, w, rfl, hp, E.xU h1 ht hW⟩, h2.F ht⟩) h2.2.2 d E.2.2.2.2.2.2.2.1
theorem r_long {post : Int64 → XW → Prop} {x : Int64} (E : EE p s m meth c D aC b nL cc own (some .long)) (d : decode cc pc = .ok (.lreturn, 1)) (hp : post x w) : Wv p l e R s m args below meth c (MQ below (va_Ql post (xU D aC b) (xA b)) args s cs sl (xA b)) D aC b nL pc L [AL x] w cs sl := fun H locs ls h1 h2 h3 =>
  W.lret (v := x) E.1 E.2.1 E.2.2.2.2.2.2.1 (fun t ht hW => ⟨⟨x, w, rfl, hp, E.xU h1 ht hW⟩, h2.F ht⟩) h2.2.2 d E.2.2.2.2.2.2.2.1
theorem r_void {post : XW → Prop} (E : EE p s m meth c D aC b nL cc own none) (d : decode cc pc = .ok (.return_, 1)) (hp : post w) : Wv p l e R s m args below meth c (MQ below (va_Qv post (xU D aC b) (xA b)) args s cs sl (xA b)) D aC b nL pc L [] w cs sl := fun H locs ls h1 h2 h3 =>
  W.vret E.1 E.2.1 E.2.2.2.2.2.2.1 (fun t ht hW => ⟨⟨w, rfl, hp, E.xU h1 ht hW⟩, h2.F ht⟩) h2.2.2 d E.2.2.2.2.2.2.2.1
end XR
end
section
section XH
variable {p : Program} {l : Launch} {e : Env} {R : Room} {s : State} {m : MethodId} {args : Array Value} {below : List Frame} {meth : Method} {c : Code} {Q : State → Prop}
variable {D : va_G} {aC : Nat → ClassId} {b nL : Nat} {cc : ByteArray} {own : String} {ret : Option FieldType}
variable {pc : Nat} {L : List (Option AV)} {S : List AV} {w : XW} {cs sl : Nat}
theorem rg_get {α : Type} {f : Nat → α} {N k : Nat} (h : k < N) : ((List.range N).map f)[k]? = some (f k) := by simp [h]
theorem rg_set {α : Type} {f g : Nat → α} {N k : Nat} {v : α} (hv : g k = v) (ho : ∀ j, j ≠ k → g j = f j) : ((List.range N).map f).set k v = (List.range N).map g := by
  apply List.ext_getElem?
  intro j
  by_cases hj : k = j
  · subst hj
    by_cases hl : k < N
    · rw [List.getElem?_set_self (by simpa using hl), rg_get hl, hv]
    · rw [List.getElem?_eq_none (by simp; omega), List.getElem?_eq_none (by simp; omega)]
  · rw [List.getElem?_set_ne hj]
    by_cases hl : j < N
    · rw [rg_get hl, rg_get hl, ho j (fun z => hj z.symm)]
    · rw [List.getElem?_eq_none (by simp; omega), List.getElem?_eq_none (by simp; omega)]
/-- the world behind a write into one cell -/
theorem xH_set {w2 : XW} {H H1 : Heap} {q : Nat} {en : va_E} (h : xH D aC b w H) (hz : H1.size = H.size) (hq : q < w.1) (hn : w2.1 = w.1) (hE : xE aC b w2 q = en) (ho : ∀ j, j ≠ q → xE aC b w2 j = xE aC b w j) (hP : va_P D vwCl ((xL aC b w).set q (b + q, en)) H1) : xH D aC b w2 H1 :=
  ⟨by rw [← xL_set hE hn ho]; exact hP, by rw [hz, h.2, hn]⟩
theorem upI_o {j q k : Nat} {x : Int32} (h : j ≠ q) : xE aC b (upI w q k x) j = xE aC b w j := xE_other rfl (va_up_ne _ _ h) rfl
theorem upL_o {j q k : Nat} {x : Int64} (h : j ≠ q) : xE aC b (upL w q k x) j = xE aC b w j := xE_other rfl rfl (va_up_ne _ _ h)
theorem upR_o {j q k : Nat} {x : Nat} (h : j ≠ q) : xE aC b (upR w q k x) j = xE aC b w j := xE_other (va_up_ne _ _ h) rfl rfl
theorem xF_upI {q k j : Nat} {x : Int32} {t : FieldType} (h : j ≠ k) : xF b (upI w q k x) q t j = xF b w q t j := by
  unfold xF upI
  simp [va_up, upd, h]
theorem xF_upL {q k j : Nat} {x : Int64} {t : FieldType} (h : j ≠ k) : xF b (upL w q k x) q t j = xF b w q t j := by
  unfold xF upL
  simp [va_up, vp_updL, h]
theorem xF_upR {q k j : Nat} {x : Nat} {t : FieldType} (h : j ≠ k) : xF b (upR w q k x) q t j = xF b w q t j := by
  unfold xF upR
  simp [va_up, h]
theorem s_getI {q ci N index : Nat} {C : String} {T : u_T} (E : EE p s m meth c D aC b nL cc own ret) (hC : CI ci C T N) (k : Nat) (hk : k < N) (ht : isI (xT ci k) = true) (hm : Cond.fieldLink own index (T k).1 (T k).2.1 (T k).2.2.1 ∈ lw_tbl) (ho : okW (Cond.fieldLink own index (T k).1 (T k).2.1 (T k).2.2.1) = true) (hs : xS q = (ci, N)) (hq : q < w.1) (d : decode cc pc = .ok (.getfield index, 3)) (kk : Wv p l e R s m args below meth c Q D aC b nL (pc + 3) L (AI (w.2.2.1 q k) :: S) w cs sl) : Wv p l e R s m args below meth c Q D aC b nL pc L (AR q :: S) w cs sl := fun H locs ls h1 h2 h3 =>
  va_get E.1 E.2.1 (E.ci hC) (fun _ h => h) E.2.2.2.1 E.2.2.2.2.2.1 h1.1 q (by rw [xL_at hq, xE_obj hs hC.2.1]) hC.1 k hk (E.gl hm ho) (fun _ h => h) (by rw [rg_get hk, xF_int ht]; rfl) d (kk H locs ls h1 h2 h3)
theorem s_getL {q ci N index : Nat} {C : String} {T : u_T} (E : EE p s m meth c D aC b nL cc own ret) (hC : CI ci C T N) (k : Nat) (hk : k < N) (ht : xT ci k = .long) (hm : Cond.fieldLink own index (T k).1 (T k).2.1 (T k).2.2.1 ∈ lw_tbl) (ho : okW (Cond.fieldLink own index (T k).1 (T k).2.1 (T k).2.2.1) = true) (hs : xS q = (ci, N)) (hq : q < w.1) (d : decode cc pc = .ok (.getfield index, 3)) (kk : Wv p l e R s m args below meth c Q D aC b nL (pc + 3) L (AL (w.2.2.2 q k) :: S) w cs sl) : Wv p l e R s m args below meth c Q D aC b nL pc L (AR q :: S) w cs sl := fun H locs ls h1 h2 h3 =>
  va_get E.1 E.2.1 (E.ci hC) (fun _ h => h) E.2.2.2.1 E.2.2.2.2.2.1 h1.1 q (by rw [xL_at hq, xE_obj hs hC.2.1]) hC.1 k hk (E.gl hm ho) (fun _ h => h) (by rw [rg_get hk, show xF b w q (xT ci k) k = .long (w.2.2.2 q k) from (by rw [ht]; exact xF_long)]; rfl) d (kk H locs ls h1 h2 h3)
theorem s_getR {q r ci N index : Nat} {C : String} {T : u_T} (E : EE p s m meth c D aC b nL cc own ret) (hC : CI ci C T N) (k : Nat) (hk : k < N) (ht : isRf (xT ci k) = true) (hm : Cond.fieldLink own index (T k).1 (T k).2.1 (T k).2.2.1 ∈ lw_tbl) (ho : okW (Cond.fieldLink own index (T k).1 (T k).2.1 (T k).2.2.1) = true) (hs : xS q = (ci, N)) (hq : q < w.1) (hr : w.2.1 q k = r + 1) (d : decode cc pc = .ok (.getfield index, 3)) (kk : Wv p l e R s m args below meth c Q D aC b nL (pc + 3) L (AR r :: S) w cs sl) : Wv p l e R s m args below meth c Q D aC b nL pc L (AR q :: S) w cs sl := fun H locs ls h1 h2 h3 =>
  va_get E.1 E.2.1 (E.ci hC) (fun _ h => h) E.2.2.2.1 E.2.2.2.2.2.1 h1.1 q (by rw [xL_at hq, xE_obj hs hC.2.1]) hC.1 k hk (E.gl hm ho) (fun _ h => h) (by rw [rg_get hk, xF_ref ht, hr]; rfl) d (kk H locs ls h1 h2 h3)
theorem s_getIN {q ci N index : Nat} {host : String} {C : String} {T : u_T} (E : EE p s m meth c D aC b nL cc own ret) (hC : CI ci C T N) (k : Nat) (hk : k < N) (ht : isI (xT ci k) = true) (hm : Cond.fieldLinkNest own index (T k).1 (T k).2.1 (T k).2.2.1 host ∈ lw_tbl) (ho : okW (Cond.fieldLinkNest own index (T k).1 (T k).2.1 (T k).2.2.1 host) = true) (hs : xS q = (ci, N)) (hq : q < w.1) (d : decode cc pc = .ok (.getfield index, 3)) (kk : Wv p l e R s m args below meth c Q D aC b nL (pc + 3) L (AI (w.2.2.1 q k) :: S) w cs sl) : Wv p l e R s m args below meth c Q D aC b nL pc L (AR q :: S) w cs sl := fun H locs ls h1 h2 h3 =>
  va_getN E.1 E.2.1 (E.ci hC) (fun _ h => h) E.2.2.2.1 E.2.2.2.2.2.1 h1.1 q (by rw [xL_at hq, xE_obj hs hC.2.1]) hC.1 k hk (E.gl hm ho) (fun _ h => h) (by rw [rg_get hk, xF_int ht]; rfl) d (kk H locs ls h1 h2 h3)
theorem s_getLN {q ci N index : Nat} {host : String} {C : String} {T : u_T} (E : EE p s m meth c D aC b nL cc own ret) (hC : CI ci C T N) (k : Nat) (hk : k < N) (ht : xT ci k = .long) (hm : Cond.fieldLinkNest own index (T k).1 (T k).2.1 (T k).2.2.1 host ∈ lw_tbl) (ho : okW (Cond.fieldLinkNest own index (T k).1 (T k).2.1 (T k).2.2.1 host) = true) (hs : xS q = (ci, N)) (hq : q < w.1) (d : decode cc pc = .ok (.getfield index, 3)) (kk : Wv p l e R s m args below meth c Q D aC b nL (pc + 3) L (AL (w.2.2.2 q k) :: S) w cs sl) : Wv p l e R s m args below meth c Q D aC b nL pc L (AR q :: S) w cs sl := fun H locs ls h1 h2 h3 =>
  va_getN E.1 E.2.1 (E.ci hC) (fun _ h => h) E.2.2.2.1 E.2.2.2.2.2.1 h1.1 q (by rw [xL_at hq, xE_obj hs hC.2.1]) hC.1 k hk (E.gl hm ho) (fun _ h => h) (by rw [rg_get hk, show xF b w q (xT ci k) k = .long (w.2.2.2 q k) from (by rw [ht]; exact xF_long)]; rfl) d (kk H locs ls h1 h2 h3)
theorem s_getRN {q r ci N index : Nat} {host : String} {C : String} {T : u_T} (E : EE p s m meth c D aC b nL cc own ret) (hC : CI ci C T N) (k : Nat) (hk : k < N) (ht : isRf (xT ci k) = true) (hm : Cond.fieldLinkNest own index (T k).1 (T k).2.1 (T k).2.2.1 host ∈ lw_tbl) (ho : okW (Cond.fieldLinkNest own index (T k).1 (T k).2.1 (T k).2.2.1 host) = true) (hs : xS q = (ci, N)) (hq : q < w.1) (hr : w.2.1 q k = r + 1) (d : decode cc pc = .ok (.getfield index, 3)) (kk : Wv p l e R s m args below meth c Q D aC b nL (pc + 3) L (AR r :: S) w cs sl) : Wv p l e R s m args below meth c Q D aC b nL pc L (AR q :: S) w cs sl := fun H locs ls h1 h2 h3 =>
  va_getN E.1 E.2.1 (E.ci hC) (fun _ h => h) E.2.2.2.1 E.2.2.2.2.2.1 h1.1 q (by rw [xL_at hq, xE_obj hs hC.2.1]) hC.1 k hk (E.gl hm ho) (fun _ h => h) (by rw [rg_get hk, xF_ref ht, hr]; rfl) d (kk H locs ls h1 h2 h3)
theorem xp_ (hexec : p.tables.exec = Jvm.exec) (hb : c.code = cc) {C : String} {T : u_T} {N ci index : Nat} (hts : ∀ w ∈ u_ws C T N, w.before args s = true) (ty0 : Nat → FieldType) (hty : ∀ k, k < N → parseFieldDescriptor (T k).2.2.1 = some (ty0 k)) (hnm : ∀ a, a < N → ∀ b, b < N → a ≠ b → (T a).2.1 ≠ (T b).2.1) (hown : s.vm.findClass own = some m.cls) {tys : List (ClassId × FieldType)} (hK : va_K D vwCl tys s) {ws : va_W} {H : Heap} {locs : List Loc} {H0 : Heap} {A : Nat → Prop} (hP : va_P D vwCl ws H) (hD : va_D A ws) (hS0 : va_S A H0 H locs) (q0 : Nat) {a : Nat} {fs : List Value} (he : ws[q0]? = some (a, .inr (ci, fs))) (hc : vwCl[ci]? = some (C, T, N)) (k : Nat) (hk : k < N) (hlink : (Cond.fieldLink own index (T k).1 (T k).2.1 (T k).2.2.1).before args s = true) (hfin : (T k).2.2.2 = false) {v : Value} (hn : narrow (ty0 k) v = v) (hfit : fits (ty0 k) v = true) (hl : k < fs.length) {ls : Array Slot} {rest : List Value} (hdg : decode cc pc = .ok (.putfield index, 3)) (kk : ∀ (H1 : Heap) (locs1 : List Loc), H1.size = H.size → va_P D vwCl (ws.set q0 (a, .inr (ci, fs.set k v))) H1 → va_S A H0 H1 locs1 → W p l e R s m args below meth c H1 locs1 cs sl Q (F0 m (pc + 3) ls rest)) : W p l e R s m args below meth c H locs cs sl Q (F0 m pc ls (v :: .ref a :: rest)) := by
  have hd := hty k hk
  have hap := va_apart (own := own) hts (fun _ h => h) ty0 hty hnm hK hc
  obtain ⟨r, h1, cell, q1, q2, q3, q4⟩ := hP q0 _ he
  have hr : r = (C, T, N) := Option.some.inj (h1.symm.trans hc)
  subst hr
  obtain ⟨hS, hfc, kC, hkC, hkind⟩ := hK.1 ci _ hc
  obtain ⟨cf, kf, fi, f, hi, hsl⟩ := hS k hk
  have hlay := hts _ (u_in_lay hk)
  unfold u_lay at hlay
  rw [if_neg (by rw [hfin]; decide)] at hlay
  have hst := (u_facts hfc hkC (u_lays hts (fun _ h => h) hk) hi).1
  have h6 := u_store hfc hkC hkind hlay hi hd hn hfit
  refine W.putK hexec hb (f := f) ⟨hown, hlink, ⟨_, _, _, hi⟩, hst⟩ (by rw [q2]; exact h6) q1 q3 (by rw [hsl]; exact k2_hasslot (q4 k hk)) rfl rfl hdg fun H' e1 e2 e3 => ?_
  rw [hsl] at e1 ⊢
  exact kk H' _ e2 (hP.set hD he ⟨_, hc, t_OB.to (V := updV (vp_V fs) k v) ⟨_, e1, q2, q3, t_set q4 hap hk v⟩ (fun j _ => vp_updV_set hl v j)⟩ e3) (hS0.put e2 e3 (hD.2 q0 _ he))
theorem xp_N {host : String} (hexec : p.tables.exec = Jvm.exec) (hb : c.code = cc) {C : String} {T : u_T} {N ci index : Nat} (hts : ∀ w ∈ u_ws C T N, w.before args s = true) (ty0 : Nat → FieldType) (hty : ∀ k, k < N → parseFieldDescriptor (T k).2.2.1 = some (ty0 k)) (hnm : ∀ a, a < N → ∀ b, b < N → a ≠ b → (T a).2.1 ≠ (T b).2.1) (hown : s.vm.findClass own = some m.cls) {tys : List (ClassId × FieldType)} (hK : va_K D vwCl tys s) {ws : va_W} {H : Heap} {locs : List Loc} {H0 : Heap} {A : Nat → Prop} (hP : va_P D vwCl ws H) (hD : va_D A ws) (hS0 : va_S A H0 H locs) (q0 : Nat) {a : Nat} {fs : List Value} (he : ws[q0]? = some (a, .inr (ci, fs))) (hc : vwCl[ci]? = some (C, T, N)) (k : Nat) (hk : k < N) (hlink : (Cond.fieldLinkNest own index (T k).1 (T k).2.1 (T k).2.2.1 host).before args s = true) (hfin : (T k).2.2.2 = false) {v : Value} (hn : narrow (ty0 k) v = v) (hfit : fits (ty0 k) v = true) (hl : k < fs.length) {ls : Array Slot} {rest : List Value} (hdg : decode cc pc = .ok (.putfield index, 3)) (kk : ∀ (H1 : Heap) (locs1 : List Loc), H1.size = H.size → va_P D vwCl (ws.set q0 (a, .inr (ci, fs.set k v))) H1 → va_S A H0 H1 locs1 → W p l e R s m args below meth c H1 locs1 cs sl Q (F0 m (pc + 3) ls rest)) : W p l e R s m args below meth c H locs cs sl Q (F0 m pc ls (v :: .ref a :: rest)) := by
  have hd := hty k hk
  have hap := va_apart (own := own) hts (fun _ h => h) ty0 hty hnm hK hc
  obtain ⟨r, h1, cell, q1, q2, q3, q4⟩ := hP q0 _ he
  have hr : r = (C, T, N) := Option.some.inj (h1.symm.trans hc)
  subst hr
  obtain ⟨hS, hfc, kC, hkC, hkind⟩ := hK.1 ci _ hc
  obtain ⟨cf, kf, fi, f, hi, hsl⟩ := hS k hk
  have hlay := hts _ (u_in_lay hk)
  unfold u_lay at hlay
  rw [if_neg (by rw [hfin]; decide)] at hlay
  have hst := (u_facts hfc hkC (u_lays hts (fun _ h => h) hk) hi).1
  have h6 := u_store hfc hkC hkind hlay hi hd hn hfit
  refine va_WputK hexec hb (f := f) hown hlink hi hst (by rw [q2]; exact h6) q1 q3 (by rw [hsl]; exact k2_hasslot (q4 k hk)) rfl rfl hdg fun H' e1 e2 e3 => ?_
  rw [hsl] at e1 ⊢
  exact kk H' _ e2 (hP.set hD he ⟨_, hc, t_OB.to (V := updV (vp_V fs) k v) ⟨_, e1, q2, q3, t_set q4 hap hk v⟩ (fun j _ => vp_updV_set hl v j)⟩ e3) (hS0.put e2 e3 (hD.2 q0 _ he))
theorem xp_F (hexec : p.tables.exec = Jvm.exec) (hb : c.code = cc) {C : String} {T : u_T} {N ci index : Nat} (hts : ∀ w ∈ u_ws C T N, w.before args s = true) (ty0 : Nat → FieldType) (hty : ∀ k, k < N → parseFieldDescriptor (T k).2.2.1 = some (ty0 k)) (hnm : ∀ a, a < N → ∀ b, b < N → a ≠ b → (T a).2.1 ≠ (T b).2.1) (hown : s.vm.findClass own = some m.cls) {tys : List (ClassId × FieldType)} (hK : va_K D vwCl tys s) {ws : va_W} {H : Heap} {locs : List Loc} {H0 : Heap} {A : Nat → Prop} (hP : va_P D vwCl ws H) (hD : va_D A ws) (hS0 : va_S A H0 H locs) (q0 : Nat) {a : Nat} {fs : List Value} (he : ws[q0]? = some (a, .inr (ci, fs))) (hc : vwCl[ci]? = some (C, T, N)) (k : Nat) (hk : k < N) (hlink : (Cond.fieldLink own index (T k).1 (T k).2.1 (T k).2.2.1).before args s = true) (hfin : (T k).2.2.2 = true) (hin2 : meth.name = "<init>") (hdecl : (T k).1 = own) {v : Value} (hn : narrow (ty0 k) v = v) (hfit : fits (ty0 k) v = true) (hl : k < fs.length) {ls : Array Slot} {rest : List Value} (hdg : decode cc pc = .ok (.putfield index, 3)) (kk : ∀ (H1 : Heap) (locs1 : List Loc), H1.size = H.size → va_P D vwCl (ws.set q0 (a, .inr (ci, fs.set k v))) H1 → va_S A H0 H1 locs1 → W p l e R s m args below meth c H1 locs1 cs sl Q (F0 m (pc + 3) ls rest)) : W p l e R s m args below meth c H locs cs sl Q (F0 m pc ls (v :: .ref a :: rest)) := by
  have hd := hty k hk
  have hap := va_apart (own := own) hts (fun _ h => h) ty0 hty hnm hK hc
  obtain ⟨r, h1, cell, q1, q2, q3, q4⟩ := hP q0 _ he
  have hr : r = (C, T, N) := Option.some.inj (h1.symm.trans hc)
  subst hr
  obtain ⟨hS, hfc, kC, hkC, hkind⟩ := hK.1 ci _ hc
  obtain ⟨cf, kf, fi, f, hi, hsl⟩ := hS k hk
  have hlay := hts _ (u_in_lay hk)
  unfold u_lay at hlay
  rw [if_pos hfin] at hlay
  have hst := (u_facts hfc hkC (u_lays hts (fun _ h => h) hk) hi).1
  have hcf : m.cls = cf := by
    obtain ⟨_, _, c1, _, _, _, -, -, hf1, -, -, -, hown2, -⟩ := Cond.laysFinal_spec hlay
    have e1 : c1 = cf := by have := hi.symm.trans hf1; simp at this; exact this.1.symm
    rw [hdecl] at hown2
    rw [← e1]; exact Option.some.inj (hown.symm.trans hown2)
  have h6 := u_fits hfc hkC hkind (Or.inr hlay) hi hd hn hfit
  refine W.putFinK hexec hb hown hlink hi hst hcf hin2 (by rw [q2]; exact h6) q1 q3 (by rw [hsl]; exact k2_hasslot (q4 k hk)) rfl rfl hdg fun H' e1 e2 e3 => ?_
  rw [hsl] at e1 ⊢
  exact kk H' _ e2 (hP.set hD he ⟨_, hc, t_OB.to (V := updV (vp_V fs) k v) ⟨_, e1, q2, q3, t_set q4 hap hk v⟩ (fun j _ => vp_updV_set hl v j)⟩ e3) (hS0.put e2 e3 (hD.2 q0 _ he))
theorem s_putI {q ci N index : Nat} {x : Int32} {C : String} {T : u_T} (E : EE p s m meth c D aC b nL cc own ret) (hC : CI ci C T N) (k : Nat) (hk : k < N) (ht : isI (xT ci k) = true) (hm : Cond.fieldLink own index (T k).1 (T k).2.1 (T k).2.2.1 ∈ lw_tbl) (ho : okW (Cond.fieldLink own index (T k).1 (T k).2.1 (T k).2.2.1) = true) (hs : xS q = (ci, N)) (hq : q < w.1) (hf : (T k).2.2.2 = false) (hn : narrow (xT ci k) (.int x) = .int x) (hfi : fits (xT ci k) (.int x) = true) (d : decode cc pc = .ok (.putfield index, 3)) (kk : Wv p l e R s m args below meth c Q D aC b nL (pc + 3) L S (upI w q k x) cs sl) : Wv p l e R s m args below meth c Q D aC b nL pc L (AI x :: AR q :: S) w cs sl := fun H locs ls h1 h2 h3 => by
  have he : xE aC b w q = _ := xE_obj hs hC.2.1
  refine xp_ (v := .int x) E.1 E.2.1 (E.ci hC) (xT ci) hC.2.2.2.1 hC.2.2.2.2 E.2.2.2.1 E.2.2.2.2.2.1 h1.1 xL_D h2 q (by rw [xL_at hq, he]) hC.1 k hk (E.gl hm ho) hf hn hfi (by simpa using hk) d (fun H1 locs1 hz hP1 hS1 => kk H1 locs1 ls ?_ hS1 h3)
  exact xH_set h1 hz hq rfl (by rw [xE_obj hs hC.2.1, rg_set (g := fun k2 => xF b (upI w q k x) q (xT ci k2) k2) (by show xF b _ q (xT ci k) k = _; rw [xF_int ht]; simp [upI, va_up, upd]) (fun j hj => xF_upI hj)]) (fun j hj => upI_o hj) hP1
theorem s_putIN {q ci N index : Nat} {x : Int32} {host : String} {C : String} {T : u_T} (E : EE p s m meth c D aC b nL cc own ret) (hC : CI ci C T N) (k : Nat) (hk : k < N) (ht : isI (xT ci k) = true) (hm : Cond.fieldLinkNest own index (T k).1 (T k).2.1 (T k).2.2.1 host ∈ lw_tbl) (ho : okW (Cond.fieldLinkNest own index (T k).1 (T k).2.1 (T k).2.2.1 host) = true) (hs : xS q = (ci, N)) (hq : q < w.1) (hf : (T k).2.2.2 = false) (hn : narrow (xT ci k) (.int x) = .int x) (hfi : fits (xT ci k) (.int x) = true) (d : decode cc pc = .ok (.putfield index, 3)) (kk : Wv p l e R s m args below meth c Q D aC b nL (pc + 3) L S (upI w q k x) cs sl) : Wv p l e R s m args below meth c Q D aC b nL pc L (AI x :: AR q :: S) w cs sl := fun H locs ls h1 h2 h3 => by
  have he : xE aC b w q = _ := xE_obj hs hC.2.1
  refine xp_N (v := .int x) E.1 E.2.1 (E.ci hC) (xT ci) hC.2.2.2.1 hC.2.2.2.2 E.2.2.2.1 E.2.2.2.2.2.1 h1.1 xL_D h2 q (by rw [xL_at hq, he]) hC.1 k hk (E.gl hm ho) hf hn hfi (by simpa using hk) d (fun H1 locs1 hz hP1 hS1 => kk H1 locs1 ls ?_ hS1 h3)
  exact xH_set h1 hz hq rfl (by rw [xE_obj hs hC.2.1, rg_set (g := fun k2 => xF b (upI w q k x) q (xT ci k2) k2) (by show xF b _ q (xT ci k) k = _; rw [xF_int ht]; simp [upI, va_up, upd]) (fun j hj => xF_upI hj)]) (fun j hj => upI_o hj) hP1
theorem s_putIF {q ci N index : Nat} {x : Int32} {C : String} {T : u_T} (E : EE p s m meth c D aC b nL cc own ret) (hC : CI ci C T N) (k : Nat) (hk : k < N) (ht : isI (xT ci k) = true) (hm : Cond.fieldLink own index (T k).1 (T k).2.1 (T k).2.2.1 ∈ lw_tbl) (ho : okW (Cond.fieldLink own index (T k).1 (T k).2.1 (T k).2.2.1) = true) (hs : xS q = (ci, N)) (hq : q < w.1) (hf : (T k).2.2.2 = true) (hin : meth.name = "<init>") (hde : (T k).1 = own) (hn : narrow (xT ci k) (.int x) = .int x) (hfi : fits (xT ci k) (.int x) = true) (d : decode cc pc = .ok (.putfield index, 3)) (kk : Wv p l e R s m args below meth c Q D aC b nL (pc + 3) L S (upI w q k x) cs sl) : Wv p l e R s m args below meth c Q D aC b nL pc L (AI x :: AR q :: S) w cs sl := fun H locs ls h1 h2 h3 => by
  have he : xE aC b w q = _ := xE_obj hs hC.2.1
  refine xp_F (v := .int x) E.1 E.2.1 (E.ci hC) (xT ci) hC.2.2.2.1 hC.2.2.2.2 E.2.2.2.1 E.2.2.2.2.2.1 h1.1 xL_D h2 q (by rw [xL_at hq, he]) hC.1 k hk (E.gl hm ho) hf hin hde hn hfi (by simpa using hk) d (fun H1 locs1 hz hP1 hS1 => kk H1 locs1 ls ?_ hS1 h3)
  exact xH_set h1 hz hq rfl (by rw [xE_obj hs hC.2.1, rg_set (g := fun k2 => xF b (upI w q k x) q (xT ci k2) k2) (by show xF b _ q (xT ci k) k = _; rw [xF_int ht]; simp [upI, va_up, upd]) (fun j hj => xF_upI hj)]) (fun j hj => upI_o hj) hP1
theorem s_putL {q ci N index : Nat} {x : Int64} {C : String} {T : u_T} (E : EE p s m meth c D aC b nL cc own ret) (hC : CI ci C T N) (k : Nat) (hk : k < N) (ht : xT ci k = .long) (hm : Cond.fieldLink own index (T k).1 (T k).2.1 (T k).2.2.1 ∈ lw_tbl) (ho : okW (Cond.fieldLink own index (T k).1 (T k).2.1 (T k).2.2.1) = true) (hs : xS q = (ci, N)) (hq : q < w.1) (hf : (T k).2.2.2 = false) (d : decode cc pc = .ok (.putfield index, 3)) (kk : Wv p l e R s m args below meth c Q D aC b nL (pc + 3) L S (upL w q k x) cs sl) : Wv p l e R s m args below meth c Q D aC b nL pc L (AL x :: AR q :: S) w cs sl := fun H locs ls h1 h2 h3 => by
  have he : xE aC b w q = _ := xE_obj hs hC.2.1
  refine xp_ (v := .long x) E.1 E.2.1 (E.ci hC) (xT ci) hC.2.2.2.1 hC.2.2.2.2 E.2.2.2.1 E.2.2.2.2.2.1 h1.1 xL_D h2 q (by rw [xL_at hq, he]) hC.1 k hk (E.gl hm ho) hf (by rw [ht]; rfl) (by rw [ht]; rfl) (by simpa using hk) d (fun H1 locs1 hz hP1 hS1 => kk H1 locs1 ls ?_ hS1 h3)
  exact xH_set h1 hz hq rfl (by rw [xE_obj hs hC.2.1, rg_set (g := fun k2 => xF b (upL w q k x) q (xT ci k2) k2) (by show xF b _ q (xT ci k) k = _; rw [ht, xF_long]; simp [upL, va_up, vp_updL]) (fun j hj => xF_upL hj)]) (fun j hj => upL_o hj) hP1
theorem s_putLN {q ci N index : Nat} {x : Int64} {host : String} {C : String} {T : u_T} (E : EE p s m meth c D aC b nL cc own ret) (hC : CI ci C T N) (k : Nat) (hk : k < N) (ht : xT ci k = .long) (hm : Cond.fieldLinkNest own index (T k).1 (T k).2.1 (T k).2.2.1 host ∈ lw_tbl) (ho : okW (Cond.fieldLinkNest own index (T k).1 (T k).2.1 (T k).2.2.1 host) = true) (hs : xS q = (ci, N)) (hq : q < w.1) (hf : (T k).2.2.2 = false) (d : decode cc pc = .ok (.putfield index, 3)) (kk : Wv p l e R s m args below meth c Q D aC b nL (pc + 3) L S (upL w q k x) cs sl) : Wv p l e R s m args below meth c Q D aC b nL pc L (AL x :: AR q :: S) w cs sl := fun H locs ls h1 h2 h3 => by
  have he : xE aC b w q = _ := xE_obj hs hC.2.1
  refine xp_N (v := .long x) E.1 E.2.1 (E.ci hC) (xT ci) hC.2.2.2.1 hC.2.2.2.2 E.2.2.2.1 E.2.2.2.2.2.1 h1.1 xL_D h2 q (by rw [xL_at hq, he]) hC.1 k hk (E.gl hm ho) hf (by rw [ht]; rfl) (by rw [ht]; rfl) (by simpa using hk) d (fun H1 locs1 hz hP1 hS1 => kk H1 locs1 ls ?_ hS1 h3)
  exact xH_set h1 hz hq rfl (by rw [xE_obj hs hC.2.1, rg_set (g := fun k2 => xF b (upL w q k x) q (xT ci k2) k2) (by show xF b _ q (xT ci k) k = _; rw [ht, xF_long]; simp [upL, va_up, vp_updL]) (fun j hj => xF_upL hj)]) (fun j hj => upL_o hj) hP1
theorem s_putLF {q ci N index : Nat} {x : Int64} {C : String} {T : u_T} (E : EE p s m meth c D aC b nL cc own ret) (hC : CI ci C T N) (k : Nat) (hk : k < N) (ht : xT ci k = .long) (hm : Cond.fieldLink own index (T k).1 (T k).2.1 (T k).2.2.1 ∈ lw_tbl) (ho : okW (Cond.fieldLink own index (T k).1 (T k).2.1 (T k).2.2.1) = true) (hs : xS q = (ci, N)) (hq : q < w.1) (hf : (T k).2.2.2 = true) (hin : meth.name = "<init>") (hde : (T k).1 = own) (d : decode cc pc = .ok (.putfield index, 3)) (kk : Wv p l e R s m args below meth c Q D aC b nL (pc + 3) L S (upL w q k x) cs sl) : Wv p l e R s m args below meth c Q D aC b nL pc L (AL x :: AR q :: S) w cs sl := fun H locs ls h1 h2 h3 => by
  have he : xE aC b w q = _ := xE_obj hs hC.2.1
  refine xp_F (v := .long x) E.1 E.2.1 (E.ci hC) (xT ci) hC.2.2.2.1 hC.2.2.2.2 E.2.2.2.1 E.2.2.2.2.2.1 h1.1 xL_D h2 q (by rw [xL_at hq, he]) hC.1 k hk (E.gl hm ho) hf hin hde (by rw [ht]; rfl) (by rw [ht]; rfl) (by simpa using hk) d (fun H1 locs1 hz hP1 hS1 => kk H1 locs1 ls ?_ hS1 h3)
  exact xH_set h1 hz hq rfl (by rw [xE_obj hs hC.2.1, rg_set (g := fun k2 => xF b (upL w q k x) q (xT ci k2) k2) (by show xF b _ q (xT ci k) k = _; rw [ht, xF_long]; simp [upL, va_up, vp_updL]) (fun j hj => xF_upL hj)]) (fun j hj => upL_o hj) hP1
theorem s_putR {q ci N index : Nat} {x : Nat} {C : String} {T : u_T} (E : EE p s m meth c D aC b nL cc own ret) (hC : CI ci C T N) (k : Nat) (hk : k < N) (ht : isRf (xT ci k) = true) (hm : Cond.fieldLink own index (T k).1 (T k).2.1 (T k).2.2.1 ∈ lw_tbl) (ho : okW (Cond.fieldLink own index (T k).1 (T k).2.1 (T k).2.2.1) = true) (hs : xS q = (ci, N)) (hq : q < w.1) (hf : (T k).2.2.2 = false) (d : decode cc pc = .ok (.putfield index, 3)) (kk : Wv p l e R s m args below meth c Q D aC b nL (pc + 3) L S (upR w q k (x + 1)) cs sl) : Wv p l e R s m args below meth c Q D aC b nL pc L (AR x :: AR q :: S) w cs sl := fun H locs ls h1 h2 h3 => by
  have he : xE aC b w q = _ := xE_obj hs hC.2.1
  refine xp_ (v := .ref (b + x)) E.1 E.2.1 (E.ci hC) (xT ci) hC.2.2.2.1 hC.2.2.2.2 E.2.2.2.1 E.2.2.2.2.2.1 h1.1 xL_D h2 q (by rw [xL_at hq, he]) hC.1 k hk (E.gl hm ho) hf (by cases hty : xT ci k <;> rw [hty] at ht <;> first | rfl | (simp [isRf] at ht)) (by cases hty : xT ci k <;> rw [hty] at ht <;> first | rfl | (simp [isRf] at ht)) (by simpa using hk) d (fun H1 locs1 hz hP1 hS1 => kk H1 locs1 ls ?_ hS1 h3)
  exact xH_set h1 hz hq rfl (by rw [xE_obj hs hC.2.1, rg_set (g := fun k2 => xF b (upR w q k (x + 1)) q (xT ci k2) k2) (by show xF b _ q (xT ci k) k = _; rw [xF_ref ht]; simp [upR, va_up, rv, va_rf]) (fun j hj => xF_upR hj)]) (fun j hj => upR_o hj) hP1
theorem s_putRN {q ci N index : Nat} {x : Nat} {host : String} {C : String} {T : u_T} (E : EE p s m meth c D aC b nL cc own ret) (hC : CI ci C T N) (k : Nat) (hk : k < N) (ht : isRf (xT ci k) = true) (hm : Cond.fieldLinkNest own index (T k).1 (T k).2.1 (T k).2.2.1 host ∈ lw_tbl) (ho : okW (Cond.fieldLinkNest own index (T k).1 (T k).2.1 (T k).2.2.1 host) = true) (hs : xS q = (ci, N)) (hq : q < w.1) (hf : (T k).2.2.2 = false) (d : decode cc pc = .ok (.putfield index, 3)) (kk : Wv p l e R s m args below meth c Q D aC b nL (pc + 3) L S (upR w q k (x + 1)) cs sl) : Wv p l e R s m args below meth c Q D aC b nL pc L (AR x :: AR q :: S) w cs sl := fun H locs ls h1 h2 h3 => by
  have he : xE aC b w q = _ := xE_obj hs hC.2.1
  refine xp_N (v := .ref (b + x)) E.1 E.2.1 (E.ci hC) (xT ci) hC.2.2.2.1 hC.2.2.2.2 E.2.2.2.1 E.2.2.2.2.2.1 h1.1 xL_D h2 q (by rw [xL_at hq, he]) hC.1 k hk (E.gl hm ho) hf (by cases hty : xT ci k <;> rw [hty] at ht <;> first | rfl | (simp [isRf] at ht)) (by cases hty : xT ci k <;> rw [hty] at ht <;> first | rfl | (simp [isRf] at ht)) (by simpa using hk) d (fun H1 locs1 hz hP1 hS1 => kk H1 locs1 ls ?_ hS1 h3)
  exact xH_set h1 hz hq rfl (by rw [xE_obj hs hC.2.1, rg_set (g := fun k2 => xF b (upR w q k (x + 1)) q (xT ci k2) k2) (by show xF b _ q (xT ci k) k = _; rw [xF_ref ht]; simp [upR, va_up, rv, va_rf]) (fun j hj => xF_upR hj)]) (fun j hj => upR_o hj) hP1
theorem s_putRF {q ci N index : Nat} {x : Nat} {C : String} {T : u_T} (E : EE p s m meth c D aC b nL cc own ret) (hC : CI ci C T N) (k : Nat) (hk : k < N) (ht : isRf (xT ci k) = true) (hm : Cond.fieldLink own index (T k).1 (T k).2.1 (T k).2.2.1 ∈ lw_tbl) (ho : okW (Cond.fieldLink own index (T k).1 (T k).2.1 (T k).2.2.1) = true) (hs : xS q = (ci, N)) (hq : q < w.1) (hf : (T k).2.2.2 = true) (hin : meth.name = "<init>") (hde : (T k).1 = own) (d : decode cc pc = .ok (.putfield index, 3)) (kk : Wv p l e R s m args below meth c Q D aC b nL (pc + 3) L S (upR w q k (x + 1)) cs sl) : Wv p l e R s m args below meth c Q D aC b nL pc L (AR x :: AR q :: S) w cs sl := fun H locs ls h1 h2 h3 => by
  have he : xE aC b w q = _ := xE_obj hs hC.2.1
  refine xp_F (v := .ref (b + x)) E.1 E.2.1 (E.ci hC) (xT ci) hC.2.2.2.1 hC.2.2.2.2 E.2.2.2.1 E.2.2.2.2.2.1 h1.1 xL_D h2 q (by rw [xL_at hq, he]) hC.1 k hk (E.gl hm ho) hf hin hde (by cases hty : xT ci k <;> rw [hty] at ht <;> first | rfl | (simp [isRf] at ht)) (by cases hty : xT ci k <;> rw [hty] at ht <;> first | rfl | (simp [isRf] at ht)) (by simpa using hk) d (fun H1 locs1 hz hP1 hS1 => kk H1 locs1 ls ?_ hS1 h3)
  exact xH_set h1 hz hq rfl (by rw [xE_obj hs hC.2.1, rg_set (g := fun k2 => xF b (upR w q k (x + 1)) q (xT ci k2) k2) (by show xF b _ q (xT ci k) k = _; rw [xF_ref ht]; simp [upR, va_up, rv, va_rf]) (fun j hj => xF_upR hj)]) (fun j hj => upR_o hj) hP1
end XH
end
section
section XC
variable {p : Program} {l : Launch} {e : Env} {R : Room} {s : State} {m : MethodId} {args : Array Value} {below : List Frame} {meth : Method} {c : Code} {Q : State → Prop}
variable {D : va_G} {aC : Nat → ClassId} {b nL : Nat} {cc : ByteArray} {own : String} {ret : Option FieldType}
variable {pc : Nat} {L : List (Option AV)} {S : List AV} {w : XW} {cs sl : Nat}
/-- a field that an instruction names: read; written; written once -/
def FG (own : String) (ix ci k N : Nat) : Prop := ∃ (C : String) (T : u_T), CI ci C T N ∧ k < N ∧ (Cond.fieldLink own ix (T k).1 (T k).2.1 (T k).2.2.1 ∈ lw_tbl ∨ ∃ host, Cond.fieldLinkNest own ix (T k).1 (T k).2.1 (T k).2.2.1 host ∈ lw_tbl)
def FP (own : String) (ix ci k N : Nat) : Prop := ∃ (C : String) (T : u_T), CI ci C T N ∧ k < N ∧ (T k).2.2.2 = false ∧ (Cond.fieldLink own ix (T k).1 (T k).2.1 (T k).2.2.1 ∈ lw_tbl ∨ ∃ host, Cond.fieldLinkNest own ix (T k).1 (T k).2.1 (T k).2.2.1 host ∈ lw_tbl)
def FF (own : String) (ix ci k N : Nat) : Prop := ∃ (C : String) (T : u_T), CI ci C T N ∧ k < N ∧ (T k).2.2.2 = true ∧ (T k).1 = own ∧ Cond.fieldLink own ix (T k).1 (T k).2.1 (T k).2.2.1 ∈ lw_tbl
theorem s_gI {q ci k N ix : Nat} (E : EE p s m meth c D aC b nL cc own ret) (hF : FG own ix ci k N) (ht : isI (xT ci k) = true) (hs : xS q = (ci, N)) (hq : q < w.1) (d : decode cc pc = .ok (.getfield ix, 3)) (kk : Wv p l e R s m args below meth c Q D aC b nL (pc + 3) L (AI (w.2.2.1 q k) :: S) w cs sl) : Wv p l e R s m args below meth c Q D aC b nL pc L (AR q :: S) w cs sl := by
  obtain ⟨C, T, hC, hk, hm | ⟨host, hm⟩⟩ := hF
  · exact s_getI E hC k hk ht hm rfl hs hq d kk
  · exact s_getIN E hC k hk ht hm rfl hs hq d kk
theorem s_gL {q ci k N ix : Nat} (E : EE p s m meth c D aC b nL cc own ret) (hF : FG own ix ci k N) (ht : xT ci k = .long) (hs : xS q = (ci, N)) (hq : q < w.1) (d : decode cc pc = .ok (.getfield ix, 3)) (kk : Wv p l e R s m args below meth c Q D aC b nL (pc + 3) L (AL (w.2.2.2 q k) :: S) w cs sl) : Wv p l e R s m args below meth c Q D aC b nL pc L (AR q :: S) w cs sl := by
  obtain ⟨C, T, hC, hk, hm | ⟨host, hm⟩⟩ := hF
  · exact s_getL E hC k hk ht hm rfl hs hq d kk
  · exact s_getLN E hC k hk ht hm rfl hs hq d kk
theorem s_gR {q r ci k N ix : Nat} (E : EE p s m meth c D aC b nL cc own ret) (hF : FG own ix ci k N) (ht : isRf (xT ci k) = true) (hs : xS q = (ci, N)) (hq : q < w.1) (hr : w.2.1 q k = r + 1) (d : decode cc pc = .ok (.getfield ix, 3)) (kk : Wv p l e R s m args below meth c Q D aC b nL (pc + 3) L (AR r :: S) w cs sl) : Wv p l e R s m args below meth c Q D aC b nL pc L (AR q :: S) w cs sl := by
  obtain ⟨C, T, hC, hk, hm | ⟨host, hm⟩⟩ := hF
  · exact s_getR E hC k hk ht hm rfl hs hq hr d kk
  · exact s_getRN E hC k hk ht hm rfl hs hq hr d kk
theorem s_pI {q ci k N ix : Nat} {x : Int32} (E : EE p s m meth c D aC b nL cc own ret) (hF : FP own ix ci k N) (ht : xT ci k = .int ∨ xT ci k = .boolean ∧ (x = 0 ∨ x = 1)) (hs : xS q = (ci, N)) (hq : q < w.1) (d : decode cc pc = .ok (.putfield ix, 3)) (kk : Wv p l e R s m args below meth c Q D aC b nL (pc + 3) L S (upI w q k x) cs sl) : Wv p l e R s m args below meth c Q D aC b nL pc L (AI x :: AR q :: S) w cs sl := by
  obtain ⟨C, T, hC, hk, hf, hm⟩ := hF
  have h1 : isI (xT ci k) = true := by rcases ht with h | ⟨h, _⟩ <;> rw [h] <;> rfl
  have h2 : narrow (xT ci k) (.int x) = .int x := by
    rcases ht with h | ⟨g, h | h⟩
    · rw [h]; rfl
    · rw [g, h]; rfl
    · rw [g, h]; rfl
  have h3 : fits (xT ci k) (.int x) = true := by
    rcases ht with h | ⟨g, h | h⟩
    · rw [h]; rfl
    · rw [g, h]; rfl
    · rw [g, h]; rfl
  rcases hm with hm | ⟨host, hm⟩
  · exact s_putI E hC k hk h1 hm rfl hs hq hf h2 h3 d kk
  · exact s_putIN E hC k hk h1 hm rfl hs hq hf h2 h3 d kk
theorem s_pIF {q ci k N ix : Nat} {x : Int32} (E : EE p s m meth c D aC b nL cc own ret) (hin : meth.name = "<init>") (hF : FF own ix ci k N) (ht : xT ci k = .int) (hs : xS q = (ci, N)) (hq : q < w.1) (d : decode cc pc = .ok (.putfield ix, 3)) (kk : Wv p l e R s m args below meth c Q D aC b nL (pc + 3) L S (upI w q k x) cs sl) : Wv p l e R s m args below meth c Q D aC b nL pc L (AI x :: AR q :: S) w cs sl := by
  obtain ⟨C, T, hC, hk, hf, hd, hm⟩ := hF
  exact s_putIF E hC k hk (by rw [ht]; rfl) hm rfl hs hq hf hin hd (by rw [ht]; rfl) (by rw [ht]; rfl) d kk
theorem s_pL {q ci k N ix : Nat} {x : Int64} (E : EE p s m meth c D aC b nL cc own ret) (hF : FP own ix ci k N) (ht : xT ci k = .long) (hs : xS q = (ci, N)) (hq : q < w.1) (d : decode cc pc = .ok (.putfield ix, 3)) (kk : Wv p l e R s m args below meth c Q D aC b nL (pc + 3) L S (upL w q k x) cs sl) : Wv p l e R s m args below meth c Q D aC b nL pc L (AL x :: AR q :: S) w cs sl := by
  obtain ⟨C, T, hC, hk, hf, hm | ⟨host, hm⟩⟩ := hF
  · exact s_putL E hC k hk ht hm rfl hs hq hf d kk
  · exact s_putLN E hC k hk ht hm rfl hs hq hf d kk
theorem s_pR {q x ci k N ix : Nat} (E : EE p s m meth c D aC b nL cc own ret) (hF : FP own ix ci k N) (ht : isRf (xT ci k) = true) (hs : xS q = (ci, N)) (hq : q < w.1) (d : decode cc pc = .ok (.putfield ix, 3)) (kk : Wv p l e R s m args below meth c Q D aC b nL (pc + 3) L S (upR w q k (x + 1)) cs sl) : Wv p l e R s m args below meth c Q D aC b nL pc L (AR x :: AR q :: S) w cs sl := by
  obtain ⟨C, T, hC, hk, hf, hm | ⟨host, hm⟩⟩ := hF
  · exact s_putR E hC k hk ht hm rfl hs hq hf d kk
  · exact s_putRN E hC k hk ht hm rfl hs hq hf d kk
theorem s_pRF {q x ci k N ix : Nat} (E : EE p s m meth c D aC b nL cc own ret) (hin : meth.name = "<init>") (hF : FF own ix ci k N) (ht : isRf (xT ci k) = true) (hs : xS q = (ci, N)) (hq : q < w.1) (d : decode cc pc = .ok (.putfield ix, 3)) (kk : Wv p l e R s m args below meth c Q D aC b nL (pc + 3) L S (upR w q k (x + 1)) cs sl) : Wv p l e R s m args below meth c Q D aC b nL pc L (AR x :: AR q :: S) w cs sl := by
  obtain ⟨C, T, hC, hk, hf, hd, hm⟩ := hF
  exact s_putRF E hC k hk ht hm rfl hs hq hf hin hd d kk
theorem s_top {x y : Int32} (h : x = y) (kk : Wv p l e R s m args below meth c Q D aC b nL pc L (AI y :: S) w cs sl) : Wv p l e R s m args below meth c Q D aC b nL pc L (AI x :: S) w cs sl := h ▸ kk
theorem s_topL {x y : Int64} (h : x = y) (kk : Wv p l e R s m args below meth c Q D aC b nL pc L (AL y :: S) w cs sl) : Wv p l e R s m args below meth c Q D aC b nL pc L (AL x :: S) w cs sl := h ▸ kk
theorem s_loc {L2 : List (Option AV)} (h : L = L2) (kk : Wv p l e R s m args below meth c Q D aC b nL pc L2 S w cs sl) : Wv p l e R s m args below meth c Q D aC b nL pc L S w cs sl := h ▸ kk
theorem s_world {w2 : XW} (h : w = w2) (kk : Wv p l e R s m args below meth c Q D aC b nL pc L S w2 cs sl) : Wv p l e R s m args below meth c Q D aC b nL pc L S w cs sl := h ▸ kk
theorem s_iald {q N : Nat} {i : Int32} (E : EE p s m meth c D aC b nL cc own ret) (hs : xS q = (100, N)) (hq : q < w.1) (hin : vp_in i N) (d : decode cc pc = .ok (.iaload, 1)) (kk : Wv p l e R s m args below meth c Q D aC b nL (pc + 1) L (AI (w.2.2.1 q i.toNatClampNeg) :: S) w cs sl) : Wv p l e R s m args below meth c Q D aC b nL pc L (AI i :: AR q :: S) w cs sl := fun H locs ls h1 h2 h3 =>
  va_iald E.1 E.2.1 E.2.2.2.2.2.1 h1.1 q 0 (by rw [xL_at hq, xE_ai hs (Or.inl rfl)]) rfl hin d (kk H locs ls h1 h2 h3)
theorem s_bald {q N : Nat} {i : Int32} (E : EE p s m meth c D aC b nL cc own ret) (hs : xS q = (102, N)) (hq : q < w.1) (hin : vp_in i N) (d : decode cc pc = .ok (.baload, 1)) (kk : Wv p l e R s m args below meth c Q D aC b nL (pc + 1) L (AI (w.2.2.1 q i.toNatClampNeg) :: S) w cs sl) : Wv p l e R s m args below meth c Q D aC b nL pc L (AI i :: AR q :: S) w cs sl := fun H locs ls h1 h2 h3 =>
  va_bald E.1 E.2.1 E.2.2.2.2.2.1 h1.1 q 2 (by rw [xL_at hq, xE_ai hs (Or.inr (Or.inl rfl))]) rfl hin d (kk H locs ls h1 h2 h3)
theorem s_zald {q N : Nat} {i : Int32} (E : EE p s m meth c D aC b nL cc own ret) (hs : xS q = (103, N)) (hq : q < w.1) (hin : vp_in i N) (d : decode cc pc = .ok (.baload, 1)) (kk : Wv p l e R s m args below meth c Q D aC b nL (pc + 1) L (AI (w.2.2.1 q i.toNatClampNeg) :: S) w cs sl) : Wv p l e R s m args below meth c Q D aC b nL pc L (AI i :: AR q :: S) w cs sl := fun H locs ls h1 h2 h3 =>
  va_zald E.1 E.2.1 E.2.2.2.2.2.1 h1.1 q 3 (by rw [xL_at hq, xE_ai hs (Or.inr (Or.inr rfl))]) rfl hin d (kk H locs ls h1 h2 h3)
theorem s_lald {q N : Nat} {i : Int32} (E : EE p s m meth c D aC b nL cc own ret) (hs : xS q = (101, N)) (hq : q < w.1) (hin : vp_in i N) (d : decode cc pc = .ok (.laload, 1)) (kk : Wv p l e R s m args below meth c Q D aC b nL (pc + 1) L (AL (w.2.2.2 q i.toNatClampNeg) :: S) w cs sl) : Wv p l e R s m args below meth c Q D aC b nL pc L (AI i :: AR q :: S) w cs sl := fun H locs ls h1 h2 h3 =>
  va_lald E.1 E.2.1 E.2.2.2.2.2.1 h1.1 q 1 (by rw [xL_at hq, xE_al hs]) rfl hin d (kk H locs ls h1 h2 h3)
theorem s_aald104 {q r N : Nat} {i : Int32} (E : EE p s m meth c D aC b nL cc own ret) (hs : xS q = (104, N)) (hq : q < w.1) (hin : vp_in i N) (hr : w.2.1 q i.toNatClampNeg = r + 1) (d : decode cc pc = .ok (.aaload, 1)) (kk : Wv p l e R s m args below meth c Q D aC b nL (pc + 1) L (AR r :: S) w cs sl) : Wv p l e R s m args below meth c Q D aC b nL pc L (AI i :: AR q :: S) w cs sl := fun H locs ls h1 h2 h3 => by
  refine va_aldq E.1 E.2.1 E.2.2.2.2.2.1 h1.1 q 4 (by rw [xL_at hq, xE_ar hs (by omega)]) rfl hin d ?_
  rw [hr]
  exact kk H locs ls h1 h2 h3
theorem s_aald105 {q r N : Nat} {i : Int32} (E : EE p s m meth c D aC b nL cc own ret) (hs : xS q = (105, N)) (hq : q < w.1) (hin : vp_in i N) (hr : w.2.1 q i.toNatClampNeg = r + 1) (d : decode cc pc = .ok (.aaload, 1)) (kk : Wv p l e R s m args below meth c Q D aC b nL (pc + 1) L (AR r :: S) w cs sl) : Wv p l e R s m args below meth c Q D aC b nL pc L (AI i :: AR q :: S) w cs sl := fun H locs ls h1 h2 h3 => by
  refine va_aldq E.1 E.2.1 E.2.2.2.2.2.1 h1.1 q 5 (by rw [xL_at hq, xE_ar hs (by omega)]) rfl hin d ?_
  rw [hr]
  exact kk H locs ls h1 h2 h3
theorem s_alen {q kd N : Nat} {v : Int32} (E : EE p s m meth c D aC b nL cc own ret) (hs : xS q = (kd, N)) (hk : kd = 100 ∨ kd = 101 ∨ kd = 102 ∨ kd = 103) (hq : q < w.1) (hv : Int32.ofNat N = v) (d : decode cc pc = .ok (.arraylength, 1)) (kk : Wv p l e R s m args below meth c Q D aC b nL (pc + 1) L (AI v :: S) w cs sl) : Wv p l e R s m args below meth c Q D aC b nL pc L (AR q :: S) w cs sl := fun H locs ls h1 h2 h3 => by
  rcases hk with rfl | rfl | rfl | rfl
  · exact va_alen (x := (N, .inl (w.2.2.1 q))) E.1 E.2.1 E.2.2.2.2.2.1 h1.1 q 0 (by rw [xL_at hq, xE_ai hs (by omega)]) rfl hv d (kk H locs ls h1 h2 h3)
  · exact va_alen (x := (N, .inr (.inl (w.2.2.2 q)))) E.1 E.2.1 E.2.2.2.2.2.1 h1.1 q 1 (by rw [xL_at hq, xE_al hs]) rfl hv d (kk H locs ls h1 h2 h3)
  · exact va_alen (x := (N, .inl (w.2.2.1 q))) E.1 E.2.1 E.2.2.2.2.2.1 h1.1 q 2 (by rw [xL_at hq, xE_ai hs (by omega)]) rfl hv d (kk H locs ls h1 h2 h3)
  · exact va_alen (x := (N, .inl (w.2.2.1 q))) E.1 E.2.1 E.2.2.2.2.2.1 h1.1 q 3 (by rw [xL_at hq, xE_ai hs (by omega)]) rfl hv d (kk H locs ls h1 h2 h3)
theorem s_iast {q N : Nat} {i : Int32} {x : Int32} (E : EE p s m meth c D aC b nL cc own ret) (hs : xS q = (100, N)) (hq : q < w.1) (hin : vp_in i N) (d : decode cc pc = .ok (.iastore, 1)) (kk : Wv p l e R s m args below meth c Q D aC b nL (pc + 1) L S (upI w q i.toNatClampNeg x) cs sl) : Wv p l e R s m args below meth c Q D aC b nL pc L (AI x :: AI i :: AR q :: S) w cs sl := fun H locs ls h1 h2 h3 => by
  have he : (xL aC b w)[q]? = some (b + q, .inl (aC 100, N, (.inl (w.2.2.1 q)))) := by rw [xL_at hq, xE_ai hs (by omega)]
  refine W.iast E.1 E.2.1 (h1.1 q _ he) ((E.2.2.2.2.2.1.2 0 _ rfl).1 N (fun j => .int (w.2.2.1 q j))) (fun z => by cases z) (by show ¬ (i < 0 ∨ (arrV _ _ _).slots.size ≤ _); rw [arrV_size]; exact hin) rfl rfl d fun H1 ev z oq => ?_
  refine kk H1 _ ls (xH_set h1 z hq rfl (en := .inl (aC 100, N, (.inl (upd (w.2.2.1 q) i.toNatClampNeg x)))) ?_ (fun j hj => upI_o hj) (h1.1.set xL_D he ?_ oq)) (h2.put z oq (Nat.le_add_right b q)) h3
  · rw [xE_ai hs (by omega)]
    simp [upI, va_up]
  · show H1[b + q]? = some (vp_cell _ _)
    rw [ev, vp_cell_i, vp_cell_i, arrV_store]
    congr 2
    funext j
    by_cases hj : j = i.toNatClampNeg
    · subst hj
      simp [updV, upd, vp_nar, narrow]
    · simp [updV, upd, hj]
theorem s_bast {q N : Nat} {i : Int32} {x : Int32} (E : EE p s m meth c D aC b nL cc own ret) (hs : xS q = (102, N)) (hq : q < w.1) (hin : vp_in i N) (d : decode cc pc = .ok (.bastore, 1)) (kk : Wv p l e R s m args below meth c Q D aC b nL (pc + 1) L S (upI w q i.toNatClampNeg (vp_nar .byte x)) cs sl) : Wv p l e R s m args below meth c Q D aC b nL pc L (AI x :: AI i :: AR q :: S) w cs sl := fun H locs ls h1 h2 h3 => by
  have he : (xL aC b w)[q]? = some (b + q, .inl (aC 102, N, (.inl (w.2.2.1 q)))) := by rw [xL_at hq, xE_ai hs (by omega)]
  refine W.bast E.1 E.2.1 (h1.1 q _ he) ((E.2.2.2.2.2.1.2 2 _ rfl).1 N (fun j => .int (w.2.2.1 q j))) (fun z => by cases z) (by show ¬ (i < 0 ∨ (arrV _ _ _).slots.size ≤ _); rw [arrV_size]; exact hin) rfl rfl d fun H1 ev z oq => ?_
  refine kk H1 _ ls (xH_set h1 z hq rfl (en := .inl (aC 102, N, (.inl (upd (w.2.2.1 q) i.toNatClampNeg (vp_nar .byte x))))) ?_ (fun j hj => upI_o hj) (h1.1.set xL_D he ?_ oq)) (h2.put z oq (Nat.le_add_right b q)) h3
  · rw [xE_ai hs (by omega)]
    simp [upI, va_up]
  · show H1[b + q]? = some (vp_cell _ _)
    rw [ev, vp_cell_i, vp_cell_i, arrV_store]
    congr 2
    funext j
    by_cases hj : j = i.toNatClampNeg
    · subst hj
      simp [updV, upd, vp_nar, narrow]
    · simp [updV, upd, hj]
theorem s_zast {q N : Nat} {i : Int32} {x : Int32} (E : EE p s m meth c D aC b nL cc own ret) (hs : xS q = (103, N)) (hq : q < w.1) (hin : vp_in i N) (d : decode cc pc = .ok (.bastore, 1)) (kk : Wv p l e R s m args below meth c Q D aC b nL (pc + 1) L S (upI w q i.toNatClampNeg (vp_nar .boolean x)) cs sl) : Wv p l e R s m args below meth c Q D aC b nL pc L (AI x :: AI i :: AR q :: S) w cs sl := fun H locs ls h1 h2 h3 => by
  have he : (xL aC b w)[q]? = some (b + q, .inl (aC 103, N, (.inl (w.2.2.1 q)))) := by rw [xL_at hq, xE_ai hs (by omega)]
  refine W.zast E.1 E.2.1 (h1.1 q _ he) ((E.2.2.2.2.2.1.2 3 _ rfl).1 N (fun j => .int (w.2.2.1 q j))) (fun z => by cases z) (by show ¬ (i < 0 ∨ (arrV _ _ _).slots.size ≤ _); rw [arrV_size]; exact hin) rfl rfl d fun H1 ev z oq => ?_
  refine kk H1 _ ls (xH_set h1 z hq rfl (en := .inl (aC 103, N, (.inl (upd (w.2.2.1 q) i.toNatClampNeg (vp_nar .boolean x))))) ?_ (fun j hj => upI_o hj) (h1.1.set xL_D he ?_ oq)) (h2.put z oq (Nat.le_add_right b q)) h3
  · rw [xE_ai hs (by omega)]
    simp [upI, va_up]
  · show H1[b + q]? = some (vp_cell _ _)
    rw [ev, vp_cell_i, vp_cell_i, arrV_store]
    congr 2
    funext j
    by_cases hj : j = i.toNatClampNeg
    · subst hj
      simp [updV, upd, vp_nar, narrow]
    · simp [updV, upd, hj]
theorem s_last {q N : Nat} {i : Int32} {x : Int64} (E : EE p s m meth c D aC b nL cc own ret) (hs : xS q = (101, N)) (hq : q < w.1) (hin : vp_in i N) (d : decode cc pc = .ok (.lastore, 1)) (kk : Wv p l e R s m args below meth c Q D aC b nL (pc + 1) L S (upL w q i.toNatClampNeg x) cs sl) : Wv p l e R s m args below meth c Q D aC b nL pc L (AL x :: AI i :: AR q :: S) w cs sl := fun H locs ls h1 h2 h3 => by
  have he : (xL aC b w)[q]? = some (b + q, .inl (aC 101, N, .inr (.inl (w.2.2.2 q)))) := by rw [xL_at hq, xE_al hs]
  refine W.last E.1 E.2.1 (h1.1 q _ he) ((E.2.2.2.2.2.1.2 1 _ rfl).1 N (fun j => .long (w.2.2.2 q j))) (fun z => by cases z) (by show ¬ (i < 0 ∨ (arrV _ _ _).slots.size ≤ _); rw [arrV_size]; exact hin) rfl rfl d fun H1 ev z oq => ?_
  refine kk H1 _ ls (xH_set h1 z hq rfl (en := .inl (aC 101, N, .inr (.inl (vp_updL (w.2.2.2 q) i.toNatClampNeg x)))) ?_ (fun j hj => upL_o hj) (h1.1.set xL_D he ?_ oq)) (h2.put z oq (Nat.le_add_right b q)) h3
  · rw [xE_al hs]
    simp [upL, va_up]
  · show H1[b + q]? = some (vp_cell _ _)
    rw [ev, vp_cell_l, vp_cell_l, arrV_store]
    congr 2
    funext j
    by_cases hj : j = i.toNatClampNeg
    · subst hj
      simp [updV, vp_updL, vp_nar, narrow]
    · simp [updV, vp_updL, hj]
theorem s_aast104 {q r N n2 : Nat} {i : Int32} (E : EE p s m meth c D aC b nL cc own ret) (hs : xS q = (104, N)) (hq : q < w.1) (hin : vp_in i N) (hsr : xS r = (0, n2)) (hr : r < w.1) (d : decode cc pc = .ok (.aastore, 1)) (kk : Wv p l e R s m args below meth c Q D aC b nL (pc + 1) L S (upR w q i.toNatClampNeg (r + 1)) cs sl) : Wv p l e R s m args below meth c Q D aC b nL pc L (AR r :: AI i :: AR q :: S) w cs sl := fun H locs ls h1 h2 h3 => by
  have he : (xL aC b w)[q]? = some (b + q, .inl (aC 104, N, .inr (.inr (.inr (.inr (fun j => rv b (w.2.1 q j))))))) := by rw [xL_at hq, xE_ar hs (by omega)]
  have hv : (xL aC b w)[r]? = some (b + r, .inr (0, (List.range n2).map (fun k => xF b w r (xT 0 k) k))) := by rw [xL_at hr, xE_obj hsr (by omega)]
  have hlt : i.toNatClampNeg < N := Nat.not_le.mp fun z => hin (Or.inr z)
  have h0 : ¬ i < 0 := fun z => hin (Or.inl z)
  have K := E.2.2.2.2.2.1
  obtain ⟨r', hr', cellV, g1, g2, g3, -⟩ := h1.1 r _ hv
  have hcls := (K.1 0 _ CI0.1).2
  obtain ⟨kA, comp, k1, k2, k3, -⟩ := (K.2 4 _ rfl).2
  have hcomp : comp = D.1 0 := Option.some.inj (k3.symm.trans hcls.1)
  subst hcomp
  obtain ⟨kC, hkC, -⟩ := hcls.2
  refine W.aast E.1 E.2.1 (h1.1 q _ he) (fun z h => by cases h) (fun h => by cases h) k1 k2 rfl hkC ⟨h0, by show _ < (arrV _ _ _).slots.size; rw [arrV_size]; exact hlt⟩ g1 (fun z h => by rw [g3] at h; cases h) (by rw [g2]; exact hkC) (by rw [g2]; exact va_assign hcls) rfl rfl d fun H1 ev z oq => ?_
  refine kk H1 _ ls (xH_set h1 z hq rfl (en := .inl (aC 104, N, .inr (.inr (.inr (.inr (va_up (fun j => rv b (w.2.1 q j)) i.toNatClampNeg (some (b + r)))))))) ?_ (fun j hj => upR_o hj) (h1.1.set xL_D he ?_ oq)) (h2.put z oq (Nat.le_add_right b q)) h3
  · rw [xE_ar hs (by omega)]
    congr 7
    funext j
    by_cases hj : j = i.toNatClampNeg
    · simp [upR, va_up, hj, rv]
    · simp [upR, va_up, hj]
  · show H1[b + q]? = some (vp_cell _ _)
    rw [ev, vp_cell_q, vp_cell_q, arrV_store]
    congr 2
    funext j
    by_cases hj : j = i.toNatClampNeg
    · subst hj
      simp [updV, va_up, va_rf]
    · simp [updV, va_up, hj]
theorem s_aast105 {q r N n2 : Nat} {i : Int32} (E : EE p s m meth c D aC b nL cc own ret) (hs : xS q = (105, N)) (hq : q < w.1) (hin : vp_in i N) (hsr : xS r = (7, n2)) (hr : r < w.1) (d : decode cc pc = .ok (.aastore, 1)) (kk : Wv p l e R s m args below meth c Q D aC b nL (pc + 1) L S (upR w q i.toNatClampNeg (r + 1)) cs sl) : Wv p l e R s m args below meth c Q D aC b nL pc L (AR r :: AI i :: AR q :: S) w cs sl := fun H locs ls h1 h2 h3 => by
  have he : (xL aC b w)[q]? = some (b + q, .inl (aC 105, N, .inr (.inr (.inr (.inr (fun j => rv b (w.2.1 q j))))))) := by rw [xL_at hq, xE_ar hs (by omega)]
  have hv : (xL aC b w)[r]? = some (b + r, .inr (7, (List.range n2).map (fun k => xF b w r (xT 7 k) k))) := by rw [xL_at hr, xE_obj hsr (by omega)]
  have hlt : i.toNatClampNeg < N := Nat.not_le.mp fun z => hin (Or.inr z)
  have h0 : ¬ i < 0 := fun z => hin (Or.inl z)
  have K := E.2.2.2.2.2.1
  obtain ⟨r', hr', cellV, g1, g2, g3, -⟩ := h1.1 r _ hv
  have hcls := (K.1 7 _ CI7.1).2
  obtain ⟨kA, comp, k1, k2, k3, -⟩ := (K.2 5 _ rfl).2
  have hcomp : comp = D.1 7 := Option.some.inj (k3.symm.trans hcls.1)
  subst hcomp
  obtain ⟨kC, hkC, -⟩ := hcls.2
  refine W.aast E.1 E.2.1 (h1.1 q _ he) (fun z h => by cases h) (fun h => by cases h) k1 k2 rfl hkC ⟨h0, by show _ < (arrV _ _ _).slots.size; rw [arrV_size]; exact hlt⟩ g1 (fun z h => by rw [g3] at h; cases h) (by rw [g2]; exact hkC) (by rw [g2]; exact va_assign hcls) rfl rfl d fun H1 ev z oq => ?_
  refine kk H1 _ ls (xH_set h1 z hq rfl (en := .inl (aC 105, N, .inr (.inr (.inr (.inr (va_up (fun j => rv b (w.2.1 q j)) i.toNatClampNeg (some (b + r)))))))) ?_ (fun j hj => upR_o hj) (h1.1.set xL_D he ?_ oq)) (h2.put z oq (Nat.le_add_right b q)) h3
  · rw [xE_ar hs (by omega)]
    congr 7
    funext j
    by_cases hj : j = i.toNatClampNeg
    · simp [upR, va_up, hj, rv]
    · simp [upR, va_up, hj]
  · show H1[b + q]? = some (vp_cell _ _)
    rw [ev, vp_cell_q, vp_cell_q, arrV_store]
    congr 2
    funext j
    by_cases hj : j = i.toNatClampNeg
    · subst hj
      simp [updV, va_up, va_rf]
    · simp [updV, va_up, hj]
/-- one cell more, all 0 -/
def nwW (w : XW) : XW := (w.1 + 1, va_up w.2.1 w.1 (fun _ => 0), va_up w.2.2.1 w.1 (fun _ => 0), va_up w.2.2.2 w.1 (fun _ => 0))
theorem xL_nw : xL aC b (nwW w) = xL aC b w ++ [(b + w.1, xE aC b (nwW w) w.1)] := by
  show (List.range (w.1 + 1)).map _ = _
  rw [List.range_succ, List.map_append]
  congr 1
  refine List.map_congr_left (fun j hj => ?_)
  have hl : j ≠ w.1 := Nat.ne_of_lt (List.mem_range.mp hj)
  rw [xE_other (w := w) (w' := nwW w) (va_up_ne _ _ hl) (va_up_ne _ _ hl) (va_up_ne _ _ hl)]
theorem xH_nw {H H1 : Heap} (h : xH D aC b w H) (hz : H1.size = b + w.1 + 1) (ho : ∀ q : Nat, q < b + w.1 → H1[q]? = H[q]?) (ha : va_at D vwCl (b + w.1, xE aC b (nwW w) w.1) H1) : xH D aC b (nwW w) H1 := by
  refine ⟨?_, by rw [hz]; rfl⟩
  rw [xL_nw]
  refine (h.1.kept (fun k q hk => ?_)).app (fun k q hk => ?_)
  · obtain ⟨hl, rfl⟩ := xL_lt hk
    exact ho _ (Nat.add_lt_add_left hl b)
  · have hz : k < 1 := (List.getElem?_eq_some_iff.mp hk).1
    rw [show k = 0 by omega] at hk
    cases hk
    exact ha
theorem nw_S {H H1 : Heap} {locs : List Loc} (hS : va_S (xA b) s.heap H locs) (hb : b ≤ s.heap.size) (hz : H1.size = H.size + 1) (ho : ∀ q : Nat, q < H.size → H1[q]? = H[q]?) : va_S (xA b) s.heap H1 locs :=
  ⟨Nat.le_trans hS.1 (by omega), fun x h1 h2 => (ho x (Nat.lt_of_lt_of_le h1 hS.1)).trans (hS.2.1 x h1 h2), hS.2.2⟩
def xD (t : FieldType) : Value := match t with
  | .long => .long 0
  | .object _ => .null
  | .array _ => .null
  | _ => .int 0
theorem xF_nw (k : Nat) (t : FieldType) : xF b (nwW w) w.1 t k = xD t := by
  unfold xF xD nwW
  cases t <;> simp [va_up, rv, va_rf]
theorem s_new {ci N ix : Nat} {C : String} {T : u_T} (E : EE p s m meth c D aC b nL cc own ret) (hC : CI ci C T N) (hd : ∀ j, j < N → defaultValue (xT ci j) = xD (xT ci j)) (hcl : Cond.classLink own ix C ∈ lw_tbl) (hins : Cond.instantiable C N ∈ lw_tbl) (hini : Cond.initialized C ∈ lw_tbl) (hs : xS w.1 = (ci, N)) (hc1 : cs + 1 ≤ R.cells) (hc2 : sl + N ≤ R.slots) (d : decode cc pc = .ok (.new ix, 3)) (kk : Wv p l e R s m args below meth c Q D aC b nL (pc + 3) L (AR w.1 :: S) (nwW w) (cs + 1) (sl + N)) : Wv p l e R s m args below meth c Q D aC b nL pc L S w cs sl := fun H locs ls h1 h2 h3 => by
  have hKn := E.2.2.2.2.2.1.1 ci _ hC.1
  refine W.newcK E.1 E.2.1 E.2.2.2.1 (E.gl hcl rfl) (E.gl hins rfl) (E.gl hini rfl) rfl d hc1 hc2 hKn.2.1 h1.2 fun H1 kC hkC e1 z1 o1 => ?_
  refine kk H1 locs ls (xH_nw h1 z1 o1 ?_) (nw_S h2 E.2.2.2.2.2.2.2.2 (by rw [z1, h1.2]) (fun q hq => o1 q (by rw [← h1.2]; exact hq))) h3
  rw [xE_obj hs hC.2.1]
  refine ⟨_, hC.1, (u_born (xT ci) (E.ci (args := args) hC) (fun _ h => h) hKn hkC e1 hC.2.2.2.1).to (fun j hj => ?_)⟩
  rw [hd j hj]
  show _ = List.getD _ _ _
  rw [List.getD_eq_getElem?_getD, rg_get hj, xF_nw]
  rfl
theorem s_newa100 {N : Nat} {n : Int32} (E : EE p s m meth c D aC b nL cc own ret) (hw : Cond.arrayClass .int ∈ lw_tbl) (hs : xS w.1 = (100, N)) (hn : ¬ n < 0) (hN : n.toNatClampNeg = N) (hby : N * componentBytes .int ≤ 536870912) (hc1 : cs + 1 ≤ R.cells) (hc2 : sl + N ≤ R.slots) (d : decode cc pc = .ok (.newarray .int, 2)) (kk : Wv p l e R s m args below meth c Q D aC b nL (pc + 2) L (AR w.1 :: S) (nwW w) (cs + 1) (sl + N)) : Wv p l e R s m args below meth c Q D aC b nL pc L (AI n :: S) w cs sl := fun H locs ls h1 h2 h3 => by
  refine va_newaK (atype := .int) E.1 E.2.1 (E.gl hw rfl) rfl d rfl hn hN hby hc1 hc2 h1.2 fun H1 cA e1 z1 o1 _ hNm => ?_
  have hcA : cA = aC 100 := by
    have h := (E.2.2.2.2.2.1.2 0 _ rfl).2
    exact Option.some.inj (hNm.symm.trans h)
  subst hcA
  refine kk H1 locs ls (xH_nw h1 z1 o1 ?_) (nw_S h2 E.2.2.2.2.2.2.2.2 (by rw [z1, h1.2]) (fun q hq => o1 q (by rw [← h1.2]; exact hq))) h3
  rw [xE_ai hs (by omega)]
  show H1[b + w.1]? = some (vp_cell _ _)
  rw [e1]
  simp [nwW, va_up, vp_cell, defaultValue, newarray.typeOf]
theorem s_newa101 {N : Nat} {n : Int32} (E : EE p s m meth c D aC b nL cc own ret) (hw : Cond.arrayClass .long ∈ lw_tbl) (hs : xS w.1 = (101, N)) (hn : ¬ n < 0) (hN : n.toNatClampNeg = N) (hby : N * componentBytes .long ≤ 536870912) (hc1 : cs + 1 ≤ R.cells) (hc2 : sl + N ≤ R.slots) (d : decode cc pc = .ok (.newarray .long, 2)) (kk : Wv p l e R s m args below meth c Q D aC b nL (pc + 2) L (AR w.1 :: S) (nwW w) (cs + 1) (sl + N)) : Wv p l e R s m args below meth c Q D aC b nL pc L (AI n :: S) w cs sl := fun H locs ls h1 h2 h3 => by
  refine va_newaK (atype := .long) E.1 E.2.1 (E.gl hw rfl) rfl d rfl hn hN hby hc1 hc2 h1.2 fun H1 cA e1 z1 o1 _ hNm => ?_
  have hcA : cA = aC 101 := by
    have h := (E.2.2.2.2.2.1.2 1 _ rfl).2
    exact Option.some.inj (hNm.symm.trans h)
  subst hcA
  refine kk H1 locs ls (xH_nw h1 z1 o1 ?_) (nw_S h2 E.2.2.2.2.2.2.2.2 (by rw [z1, h1.2]) (fun q hq => o1 q (by rw [← h1.2]; exact hq))) h3
  rw [xE_al hs]
  show H1[b + w.1]? = some (vp_cell _ _)
  rw [e1]
  simp [nwW, va_up, vp_cell, defaultValue, newarray.typeOf]
theorem s_newa102 {N : Nat} {n : Int32} (E : EE p s m meth c D aC b nL cc own ret) (hw : Cond.arrayClass .byte ∈ lw_tbl) (hs : xS w.1 = (102, N)) (hn : ¬ n < 0) (hN : n.toNatClampNeg = N) (hby : N * componentBytes .byte ≤ 536870912) (hc1 : cs + 1 ≤ R.cells) (hc2 : sl + N ≤ R.slots) (d : decode cc pc = .ok (.newarray .byte, 2)) (kk : Wv p l e R s m args below meth c Q D aC b nL (pc + 2) L (AR w.1 :: S) (nwW w) (cs + 1) (sl + N)) : Wv p l e R s m args below meth c Q D aC b nL pc L (AI n :: S) w cs sl := fun H locs ls h1 h2 h3 => by
  refine va_newaK (atype := .byte) E.1 E.2.1 (E.gl hw rfl) rfl d rfl hn hN hby hc1 hc2 h1.2 fun H1 cA e1 z1 o1 _ hNm => ?_
  have hcA : cA = aC 102 := by
    have h := (E.2.2.2.2.2.1.2 2 _ rfl).2
    exact Option.some.inj (hNm.symm.trans h)
  subst hcA
  refine kk H1 locs ls (xH_nw h1 z1 o1 ?_) (nw_S h2 E.2.2.2.2.2.2.2.2 (by rw [z1, h1.2]) (fun q hq => o1 q (by rw [← h1.2]; exact hq))) h3
  rw [xE_ai hs (by omega)]
  show H1[b + w.1]? = some (vp_cell _ _)
  rw [e1]
  simp [nwW, va_up, vp_cell, defaultValue, newarray.typeOf]
theorem s_newa103 {N : Nat} {n : Int32} (E : EE p s m meth c D aC b nL cc own ret) (hw : Cond.arrayClass .boolean ∈ lw_tbl) (hs : xS w.1 = (103, N)) (hn : ¬ n < 0) (hN : n.toNatClampNeg = N) (hby : N * componentBytes .boolean ≤ 536870912) (hc1 : cs + 1 ≤ R.cells) (hc2 : sl + N ≤ R.slots) (d : decode cc pc = .ok (.newarray .boolean, 2)) (kk : Wv p l e R s m args below meth c Q D aC b nL (pc + 2) L (AR w.1 :: S) (nwW w) (cs + 1) (sl + N)) : Wv p l e R s m args below meth c Q D aC b nL pc L (AI n :: S) w cs sl := fun H locs ls h1 h2 h3 => by
  refine va_newaK (atype := .boolean) E.1 E.2.1 (E.gl hw rfl) rfl d rfl hn hN hby hc1 hc2 h1.2 fun H1 cA e1 z1 o1 _ hNm => ?_
  have hcA : cA = aC 103 := by
    have h := (E.2.2.2.2.2.1.2 3 _ rfl).2
    exact Option.some.inj (hNm.symm.trans h)
  subst hcA
  refine kk H1 locs ls (xH_nw h1 z1 o1 ?_) (nw_S h2 E.2.2.2.2.2.2.2.2 (by rw [z1, h1.2]) (fun q hq => o1 q (by rw [← h1.2]; exact hq))) h3
  rw [xE_ai hs (by omega)]
  show H1[b + w.1]? = some (vp_cell _ _)
  rw [e1]
  simp [nwW, va_up, vp_cell, defaultValue, newarray.typeOf]
theorem s_newr104 {N ix : Nat} {n : Int32} (E : EE p s m meth c D aC b nL cc own ret) (hcl : Cond.classLink own ix "HoopCabinet$Ball" ∈ lw_tbl) (hov : Cond.arrayOver (.object "HoopCabinet$Ball") ∈ lw_tbl) (hs : xS w.1 = (104, N)) (hn : ¬ n < 0) (hN : n.toNatClampNeg = N) (hby : n.toNatClampNeg * 4 ≤ 536870912) (hc1 : cs + 1 ≤ R.cells) (hc2 : sl + N ≤ R.slots) (d : decode cc pc = .ok (.anewarray ix, 3)) (kk : Wv p l e R s m args below meth c Q D aC b nL (pc + 3) L (AR w.1 :: S) (nwW w) (cs + 1) (sl + N)) : Wv p l e R s m args below meth c Q D aC b nL pc L (AI n :: S) w cs sl := fun H locs ls h1 h2 h3 => by
  subst hN
  refine W.anew E.1 E.2.1 E.2.2.2.1 (E.gl hcl rfl) (E.gl hov rfl) rfl d rfl hn hby hc1 hc2 fun cA kA comp f1 f2 f3 f4 => ?_
  have hcA : cA = aC 104 := by
    obtain ⟨kA2, comp2, -, -, -, h⟩ := (E.2.2.2.2.2.1.2 4 _ rfl).2
    exact Option.some.inj (f1.symm.trans h)
  subst hcA
  have hz := h1.2
  refine W.eq (g2 := F0 m (pc + 3) ls ((AR w.1 :: S).map (cv b))) (by rw [hz]; rfl) (kk _ locs ls (xH_nw h1 (by rw [Array.size_push, hz]) (fun q hq => by rw [Array.getElem?_push, if_neg (by rw [hz]; exact Nat.ne_of_lt hq)]) ?_) (nw_S h2 E.2.2.2.2.2.2.2.2 (by rw [Array.size_push]) (fun q hq => by rw [Array.getElem?_push, if_neg (Nat.ne_of_lt hq)])) h3)
  rw [xE_ar hs (by omega)]
  show (H.push _)[b + w.1]? = some (vp_cell _ _)
  rw [← hz, Array.getElem?_push_size, arrV_new]
  simp [nwW, va_up, vp_cell, rv, va_rf]
theorem s_newr105 {N ix : Nat} {n : Int32} (E : EE p s m meth c D aC b nL cc own ret) (hcl : Cond.classLink own ix "HoopCabinet$Slot" ∈ lw_tbl) (hov : Cond.arrayOver (.object "HoopCabinet$Slot") ∈ lw_tbl) (hs : xS w.1 = (105, N)) (hn : ¬ n < 0) (hN : n.toNatClampNeg = N) (hby : n.toNatClampNeg * 4 ≤ 536870912) (hc1 : cs + 1 ≤ R.cells) (hc2 : sl + N ≤ R.slots) (d : decode cc pc = .ok (.anewarray ix, 3)) (kk : Wv p l e R s m args below meth c Q D aC b nL (pc + 3) L (AR w.1 :: S) (nwW w) (cs + 1) (sl + N)) : Wv p l e R s m args below meth c Q D aC b nL pc L (AI n :: S) w cs sl := fun H locs ls h1 h2 h3 => by
  subst hN
  refine W.anew E.1 E.2.1 E.2.2.2.1 (E.gl hcl rfl) (E.gl hov rfl) rfl d rfl hn hby hc1 hc2 fun cA kA comp f1 f2 f3 f4 => ?_
  have hcA : cA = aC 105 := by
    obtain ⟨kA2, comp2, -, -, -, h⟩ := (E.2.2.2.2.2.1.2 5 _ rfl).2
    exact Option.some.inj (f1.symm.trans h)
  subst hcA
  have hz := h1.2
  refine W.eq (g2 := F0 m (pc + 3) ls ((AR w.1 :: S).map (cv b))) (by rw [hz]; rfl) (kk _ locs ls (xH_nw h1 (by rw [Array.size_push, hz]) (fun q hq => by rw [Array.getElem?_push, if_neg (by rw [hz]; exact Nat.ne_of_lt hq)]) ?_) (nw_S h2 E.2.2.2.2.2.2.2.2 (by rw [Array.size_push]) (fun q hq => by rw [Array.getElem?_push, if_neg (Nat.ne_of_lt hq)])) h3)
  rw [xE_ar hs (by omega)]
  show (H.push _)[b + w.1]? = some (vp_cell _ _)
  rw [← hz, Array.getElem?_push_size, arrV_new]
  simp [nwW, va_up, vp_cell, rv, va_rf]
end XC
end
section
section XK
variable {p : Program} {l : Launch} {e : Env} {R : Room} {s : State} {m : MethodId} {args : Array Value} {below : List Frame} {meth : Method} {c : Code} {Q : State → Prop}
variable {D : va_G} {aC : Nat → ClassId} {b nL : Nat} {cc : ByteArray} {own : String} {ret : Option FieldType}
variable {pc : Nat} {L : List (Option AV)} {S : List AV} {w : XW} {cs sl : Nat}
/-- a method: name, code, locals, kind of answer -/
abbrev Mt : Type := MethodName × ByteArray × Nat × Option FieldType
abbrev Mc (M : Mt) : Cond := .code M.1 M.2.1 M.2.2.1 M.2.2.2
abbrev rmF (fr lo mc ms : Nat) : Room := { frames := fr, cells := mc, slots := ms, locals := lo }
/-- contracts: from the world w, with the arguments A, the method returns, with answer and world as post says -/
def CnI (l : Launch) (D : va_G) (aC : Nat → ClassId) (b : Nat) (M : Mt) (fr lo mc ms : Nat) (A : List AV) (w : XW) (post : Int32 → XW → Prop) : Prop :=
  Met l M.1 [Mc M] (rmF fr lo mc ms) (va_Pc (A.map (cv b)) (fun U => xU D aC b w U)) (va_Qi post (xU D aC b) (xA b)) mc ms (xA b)
def CnL (l : Launch) (D : va_G) (aC : Nat → ClassId) (b : Nat) (M : Mt) (fr lo mc ms : Nat) (A : List AV) (w : XW) (post : Int64 → XW → Prop) : Prop :=
  Met l M.1 [Mc M] (rmF fr lo mc ms) (va_Pc (A.map (cv b)) (fun U => xU D aC b w U)) (va_Ql post (xU D aC b) (xA b)) mc ms (xA b)
def CnV (l : Launch) (D : va_G) (aC : Nat → ClassId) (b : Nat) (M : Mt) (fr lo mc ms : Nat) (A : List AV) (w : XW) (post : XW → Prop) : Prop :=
  Met l M.1 [Mc M] (rmF fr lo mc ms) (va_Pc (A.map (cv b)) (fun U => xU D aC b w U)) (va_Qv post (xU D aC b) (xA b)) mc ms (xA b)
theorem cn_body {M : Mt} {fr lo mc ms : Nat} {A : List AV} {Qc : Array Value → State → Outcome → State → Prop} {L0 : List (Option AV)} (hy : plainName M.1.cls = true) (hA : (entL A).length ≤ M.2.2.1) (hL : entL A ++ List.replicate (M.2.2.1 - (entL A).length) none = L0)
    (body : ∀ (p : Program) (e : Env) (s : State) (m : MethodId) (args : Array Value) (below : List Frame) (meth : Method) (c : Code), EE p s m meth c D aC b M.2.2.1 M.2.1 M.1.cls M.2.2.2 → meth.name = M.1.name → Wv p l e (rmF fr lo mc ms) s m args below meth c (MQ below Qc args s mc ms (xA b)) D aC b M.2.2.1 0 L0 [] w 0 0) :
    Met l M.1 [Mc M] (rmF fr lo mc ms) (va_Pc (A.map (cv b)) (fun U => xU D aC b w U)) Qc mc ms (xA b) := by
  refine Met.ofW (cc := M.2.1) (maxL := M.2.2.1) (ret := M.2.2.2) hy rfl ?_
  intro p e s m args below meth c s₁ B hml hv
  obtain ⟨rfl, hU⟩ := hv
  have hown : s.vm.findClass M.1.cls = some m.cls := findClass_of_methodNamed B.named
  have hin : meth.name = M.1.name := (name_of_methodNamed B.named B.method).1
  have E : EE p s m meth c D aC b M.2.2.1 M.2.1 M.1.cls M.2.2.2 := ⟨B.exec, B.bytes, hml, hown, hU.2.2, hU.2.1, B.returns, B.notSynchronized, by rw [hU.1.2]; exact Nat.le_add_right _ _⟩
  have hl := lv_entry (A.map (cv b)) (n := M.2.2.1) (by rw [lg_ent]; exact hA)
  rw [lg_entry_eq]
  generalize (lg_sl (A.map (cv b)) ++ List.replicate (M.2.2.1 - (lg_sl (A.map (cv b))).length) Slot.unset).toArray = ls at hl ⊢
  exact body p e s m _ below meth c E hin s.heap [] ls hU.1 va_S.rf (by unfold xl; rw [← hL, lvl_ent]; exact hl)
/-- what the tables say of a call -/
def CB (own : String) (ix : Nat) (M : Mt) (n : Nat) : Prop := Mc M ∈ lw_tbl ∧ Cond.initialized M.1.cls ∈ lw_tbl ∧ (M.1.cls ≠ "java/lang/invoke/MethodHandle" ∧ M.1.cls ≠ "java/lang/invoke/VarHandle" ∧ (parseMethodDescriptor M.1.desc).map (fun d => d.parameters.length) = some n) ∧ (Cond.methodLink own ix M.1 ∈ lw_tbl ∨ ∃ host, Cond.methodLinkNest own ix M.1 host ∈ lw_tbl)
def CVw (own : String) (ix : Nat) (M : Mt) (n ci N : Nat) : Prop := CB own ix M n ∧ Cond.instanceMethod M.1 ∈ lw_tbl ∧ Cond.selects M.1.cls M.1 M.1 ∈ lw_tbl ∧ ci < 100 ∧ ∃ T, vwCl[ci]? = some (M.1.cls, T, N)
def CSw (own : String) (ix : Nat) (M : Mt) (n : Nat) : Prop := CB own ix M n ∧ Cond.static M.1 ∈ lw_tbl
def CIw (own : String) (ix : Nat) (M : Mt) (n : Nat) : Prop := CB own ix M n ∧ M.1.name = "<init>" ∧ Cond.instanceMethod M.1 ∈ lw_tbl
theorem cb_parts {M : Mt} {ix n fr lo mc ms : Nat} (E : EE p s m meth c D aC b nL cc own ret) (h : CB own ix M n) (hfr : fr + 1 ≤ R.frames) (hlo : 8 + (M.2.2.1 + 11) + lo ≤ R.locals) :
    (∀ w ∈ [Mc M], ∀ (a' : Array Value) (U : State), s.WarmedH U.vm → w.before a' U = true) ∧ (Mc M).before args s = true ∧ (Cond.initialized M.1.cls).before args s = true ∧ (∀ sig, parseMethodDescriptor M.1.desc = some sig → n = sig.parameters.length) := by
  refine ⟨fun w hw a' U hW => ?_, E.gl h.1 rfl, E.gl h.2.1 rfl, fun sig hs => ?_⟩
  · have : w = Mc M := by simpa using hw
    subst this
    exact Gl.warm hW E.2.2.2.2.1 _ h.1 rfl a'
  · have h2 := h.2.2.1.2.2
    rw [hs] at h2
    exact (Option.some.inj h2).symm
theorem xU_blind {A : List AV} : FrameBlind (va_Pc (A.map (cv b)) (fun U => xU D aC b w U)) := fun _ _ _ _ h => ⟨h.1, xU.blind _ _ _ h.2⟩
/-- a call that is a run -/
theorem run_V {M : Mt} {ix n ci N q fr lo mc ms : Nat} {As : List AV} {st : List AV} {Qc : Array Value → State → Outcome → State → Prop} {H : Heap} {locs : List Loc} {ls : Array Slot} (E : EE p s m meth c D aC b nL cc own ret) (hM : Met l M.1 [Mc M] (rmF fr lo mc ms) (va_Pc ((AR q :: As).map (cv b)) (fun U => xU D aC b w U)) Qc mc ms (xA b)) (hc : CVw own ix M n ci N) (hst : st = As.reverse ++ AR q :: S) (hn : As.length = n) (hs : xS q = (ci, N)) (hq : q < w.1) (hfr : fr + 1 ≤ R.frames) (hlo : 8 + (M.2.2.1 + 11) + lo ≤ R.locals) (hf : cs + mc ≤ R.cells ∧ sl + ms ≤ R.slots) (hr : ((S.map (cv b)).map fun v => v.category).sum ≤ 8) (d : decode cc pc = .ok (.invokevirtual ix, 3)) (h1 : xH D aC b w H) (h3 : xl b ls nL L) :
    va_Run p l e R s m args below meth c H locs cs sl mc ms (F0 m pc ls (st.map (cv b))) (S.map (cv b)) (Qc ((AR q :: As).map (cv b)).toArray) (xA b) := by
  obtain ⟨hB, hi, hse, hci, T, hT⟩ := hc
  obtain ⟨k1, k2, k3, k4⟩ := cb_parts (R := R) (args := args) (fr := fr) (lo := lo) (mc := mc) (ms := ms) E hB hfr hlo
  have hrecv : ∃ cell : Cell, H[b + q]? = some cell ∧ cell.vm.isStatics = false ∧ s.vm.findClass M.1.cls = some cell.cls := va_recv (q0 := q) E.2.2.2.2.2.1 h1.1 hT (by rw [xL_at hq, xE_obj hs hci])
  have hpre : PreV s H M.1.cls (b + q) (va_Pc ((AR q :: As).map (cv b)) (fun U => xU D aC b w U)) (As.map (cv b)) := ⟨xU_blind, hrecv, fun U hU hW => ⟨rfl, by rw [hU]; exact h1, va_K.moved hW.alike E.2.2.2.2.2.1, Gl.warm hW E.2.2.2.2.1⟩⟩
  have hsk : (F0 m pc ls (st.map (cv b))).stack = (As.map (cv b)).reverse ++ .ref (b + q) :: S.map (cv b) := by
    show st.map (cv b) = _
    rw [hst, List.map_append, List.map_reverse]
    rfl
  rcases hB.2.2.2 with hl | ⟨host, hl⟩
  · exact va_runV (Ts := []) ⟨E.1, E.2.1, E.2.2.1, E.2.2.2.1, fun _ h => absurd h List.not_mem_nil⟩ hM ⟨⟨rfl, rfl, hfr, hlo, k1, List.mem_cons_self, k2, k3, ⟨hB.2.2.1.1, hB.2.2.1.2.1⟩, k4, E.gl hl rfl⟩, E.gl hi rfl, E.gl hse rfl⟩ hpre rfl (by rw [List.length_map]; exact hn) h3.1 hsk (lv_room hr) d hf
  · exact va_runVN (Ts := []) ⟨E.1, E.2.1, E.2.2.1, E.2.2.2.1, fun _ h => absurd h List.not_mem_nil⟩ hM ⟨⟨⟨rfl, rfl, hfr, hlo, k1, List.mem_cons_self⟩, k2, k3, ⟨hB.2.2.1.1, hB.2.2.1.2.1⟩, k4, E.gl hl rfl⟩, E.gl hi rfl, E.gl hse rfl⟩ hpre rfl (by rw [List.length_map]; exact hn) h3.1 hsk (lv_room hr) d hf
theorem run_S {M : Mt} {ix n fr lo mc ms : Nat} {As : List AV} {st : List AV} {Qc : Array Value → State → Outcome → State → Prop} {H : Heap} {locs : List Loc} {ls : Array Slot} (E : EE p s m meth c D aC b nL cc own ret) (hM : Met l M.1 [Mc M] (rmF fr lo mc ms) (va_Pc (As.map (cv b)) (fun U => xU D aC b w U)) Qc mc ms (xA b)) (hc : CSw own ix M n) (hst : st = As.reverse ++ S) (hn : As.length = n) (hfr : fr + 1 ≤ R.frames) (hlo : 8 + (M.2.2.1 + 11) + lo ≤ R.locals) (hf : cs + mc ≤ R.cells ∧ sl + ms ≤ R.slots) (hr : ((S.map (cv b)).map fun v => v.category).sum ≤ 8) (d : decode cc pc = .ok (.invokestatic ix, 3)) (h1 : xH D aC b w H) (h3 : xl b ls nL L) :
    va_Run p l e R s m args below meth c H locs cs sl mc ms (F0 m pc ls (st.map (cv b))) (S.map (cv b)) (Qc (As.map (cv b)).toArray) (xA b) := by
  obtain ⟨hB, hsta⟩ := hc
  obtain ⟨k1, k2, k3, k4⟩ := cb_parts (R := R) (args := args) (fr := fr) (lo := lo) (mc := mc) (ms := ms) E hB hfr hlo
  have hpre : PreS s H (va_Pc (As.map (cv b)) (fun U => xU D aC b w U)) (As.map (cv b)) := ⟨xU_blind, fun U hU hW => ⟨rfl, by rw [hU]; exact h1, va_K.moved hW.alike E.2.2.2.2.2.1, Gl.warm hW E.2.2.2.2.1⟩⟩
  have hsk : (F0 m pc ls (st.map (cv b))).stack = (As.map (cv b)).reverse ++ S.map (cv b) := by
    show st.map (cv b) = _
    rw [hst, List.map_append, List.map_reverse]
  rcases hB.2.2.2 with hl | ⟨host, hl⟩
  · exact va_runS (Ts := []) ⟨E.1, E.2.1, E.2.2.1, E.2.2.2.1, fun _ h => absurd h List.not_mem_nil⟩ hM ⟨⟨rfl, rfl, hfr, hlo, k1, List.mem_cons_self, k2, k3, ⟨hB.2.2.1.1, hB.2.2.1.2.1⟩, k4, E.gl hl rfl⟩, E.gl hsta rfl⟩ hpre rfl (by rw [List.length_map]; exact hn) h3.1 hsk (lv_room hr) d hf
  · exact va_runSN (Ts := []) ⟨E.1, E.2.1, E.2.2.1, E.2.2.2.1, fun _ h => absurd h List.not_mem_nil⟩ hM ⟨⟨⟨rfl, rfl, hfr, hlo, k1, List.mem_cons_self⟩, k2, k3, ⟨hB.2.2.1.1, hB.2.2.1.2.1⟩, k4, E.gl hl rfl⟩, E.gl hsta rfl, trivial⟩ hpre rfl (by rw [List.length_map]; exact hn) h3.1 hsk (lv_room hr) d hf
theorem run_I {y : MethodName} {cod : ByteArray} {mL : Nat} {ix n q fr lo mc ms : Nat} {As : List AV} {st : List AV} {Qc : Array Value → State → Outcome → State → Prop} {H : Heap} {locs : List Loc} {ls : Array Slot} (E : EE p s m meth c D aC b nL cc own ret) (hM : Met l y [Mc (y, cod, mL, none)] (rmF fr lo mc ms) (va_Pc ((AR q :: As).map (cv b)) (fun U => xU D aC b w U)) Qc mc ms (xA b)) (hc : CIw own ix (y, cod, mL, none) n) (hst : st = As.reverse ++ AR q :: S) (hn : As.length = n) (hfr : fr + 1 ≤ R.frames) (hlo : 8 + (mL + 11) + lo ≤ R.locals) (hf : cs + mc ≤ R.cells ∧ sl + ms ≤ R.slots) (hr : ((S.map (cv b)).map fun v => v.category).sum ≤ 8) (d : decode cc pc = .ok (.invokespecial ix, 3)) (h1 : xH D aC b w H) (h3 : xl b ls nL L) :
    va_Run p l e R s m args below meth c H locs cs sl mc ms (F0 m pc ls (st.map (cv b))) (S.map (cv b)) (Qc ((AR q :: As).map (cv b)).toArray) (xA b) := by
  obtain ⟨hB, hin, hi⟩ := hc
  obtain ⟨k1, k2, k3, k4⟩ := cb_parts (R := R) (args := args) (fr := fr) (lo := lo) (mc := mc) (ms := ms) E hB hfr hlo
  have hpre : PreS s H (va_Pc ((AR q :: As).map (cv b)) (fun U => xU D aC b w U)) (.ref (b + q) :: As.map (cv b)) := ⟨xU_blind, fun U hU hW => ⟨rfl, by rw [hU]; exact h1, va_K.moved hW.alike E.2.2.2.2.2.1, Gl.warm hW E.2.2.2.2.1⟩⟩
  have hsk : (F0 m pc ls (st.map (cv b))).stack = (As.map (cv b)).reverse ++ .ref (b + q) :: S.map (cv b) := by
    show st.map (cv b) = _
    rw [hst, List.map_append, List.map_reverse]
    rfl
  rcases hB.2.2.2 with hl | ⟨host, hl⟩
  · exact va_runI (Ts := []) ⟨E.1, E.2.1, E.2.2.1, E.2.2.2.1, fun _ h => absurd h List.not_mem_nil⟩ hM ⟨⟨rfl, rfl, hfr, hlo, k1, List.mem_cons_self, k2, k3, ⟨hB.2.2.1.1, hB.2.2.1.2.1⟩, k4, E.gl hl rfl⟩, hin, E.gl hi rfl⟩ hpre rfl (by rw [List.length_map]; exact hn) h3.1 hsk (lv_room hr) d hf
  · exact va_runIN (Ts := []) ⟨E.1, E.2.1, E.2.2.1, E.2.2.2.1, fun _ h => absurd h List.not_mem_nil⟩ hM ⟨⟨⟨rfl, rfl, hfr, hlo, k1, List.mem_cons_self⟩, k2, k3, ⟨hB.2.2.1.1, hB.2.2.1.2.1⟩, k4, E.gl hl rfl⟩, hin, E.gl hi rfl⟩ hpre rfl (by rw [List.length_map]; exact hn) h3.1 hsk (lv_room hr) d hf
theorem s_vI {M : Mt} {ix n ci N q fr lo mc ms : Nat} {As st : List AV} {post : Int32 → XW → Prop} (E : EE p s m meth c D aC b nL cc own ret) (hM : CnI l D aC b M fr lo mc ms (AR q :: As) w post) (hc : CVw own ix M n ci N) (hst : st = As.reverse ++ AR q :: S) (hn : As.length = n) (hs : xS q = (ci, N)) (hq : q < w.1) (hfr : fr + 1 ≤ R.frames) (hlo : 8 + (M.2.2.1 + 11) + lo ≤ R.locals) (hf : cs + mc ≤ R.cells ∧ sl + ms ≤ R.slots) (hr : ((S.map (cv b)).map fun v => v.category).sum ≤ 8) (d : decode cc pc = .ok (.invokevirtual ix, 3))
    (kk : ∀ (r : Int32) (u : XW), post r u → Wv p l e R s m args below meth c Q D aC b nL (pc + 3) L (AI r :: S) u (cs + mc) (sl + ms)) : Wv p l e R s m args below meth c Q D aC b nL pc L st w cs sl := fun H locs ls h1 h2 h3 =>
  va_calli (run_V E hM hc hst hn hs hq hfr hlo hf hr d h1 h3) h2 (fun _ _ h => h) (fun _ h => h) (fun r u t H1 locs1 ht _ hp hB _ _ hS => kk r u hp H1 locs1 ls (ht ▸ hB.1) hS h3)
theorem s_sI {M : Mt} {ix n fr lo mc ms : Nat} {As st : List AV} {post : Int32 → XW → Prop} (E : EE p s m meth c D aC b nL cc own ret) (hM : CnI l D aC b M fr lo mc ms As w post) (hc : CSw own ix M n) (hst : st = As.reverse ++ S) (hn : As.length = n) (hfr : fr + 1 ≤ R.frames) (hlo : 8 + (M.2.2.1 + 11) + lo ≤ R.locals) (hf : cs + mc ≤ R.cells ∧ sl + ms ≤ R.slots) (hr : ((S.map (cv b)).map fun v => v.category).sum ≤ 8) (d : decode cc pc = .ok (.invokestatic ix, 3))
    (kk : ∀ (r : Int32) (u : XW), post r u → Wv p l e R s m args below meth c Q D aC b nL (pc + 3) L (AI r :: S) u (cs + mc) (sl + ms)) : Wv p l e R s m args below meth c Q D aC b nL pc L st w cs sl := fun H locs ls h1 h2 h3 =>
  va_calli (run_S E hM hc hst hn hfr hlo hf hr d h1 h3) h2 (fun _ _ h => h) (fun _ h => h) (fun r u t H1 locs1 ht _ hp hB _ _ hS => kk r u hp H1 locs1 ls (ht ▸ hB.1) hS h3)
theorem s_vL {M : Mt} {ix n ci N q fr lo mc ms : Nat} {As st : List AV} {post : Int64 → XW → Prop} (E : EE p s m meth c D aC b nL cc own ret) (hM : CnL l D aC b M fr lo mc ms (AR q :: As) w post) (hc : CVw own ix M n ci N) (hst : st = As.reverse ++ AR q :: S) (hn : As.length = n) (hs : xS q = (ci, N)) (hq : q < w.1) (hfr : fr + 1 ≤ R.frames) (hlo : 8 + (M.2.2.1 + 11) + lo ≤ R.locals) (hf : cs + mc ≤ R.cells ∧ sl + ms ≤ R.slots) (hr : ((S.map (cv b)).map fun v => v.category).sum ≤ 8) (d : decode cc pc = .ok (.invokevirtual ix, 3))
    (kk : ∀ (r : Int64) (u : XW), post r u → Wv p l e R s m args below meth c Q D aC b nL (pc + 3) L (AL r :: S) u (cs + mc) (sl + ms)) : Wv p l e R s m args below meth c Q D aC b nL pc L st w cs sl := fun H locs ls h1 h2 h3 =>
  va_calll (run_V E hM hc hst hn hs hq hfr hlo hf hr d h1 h3) h2 (fun _ _ h => h) (fun _ h => h) (fun r u t H1 locs1 ht _ hp hB _ _ hS => kk r u hp H1 locs1 ls (ht ▸ hB.1) hS h3)
theorem s_sL {M : Mt} {ix n fr lo mc ms : Nat} {As st : List AV} {post : Int64 → XW → Prop} (E : EE p s m meth c D aC b nL cc own ret) (hM : CnL l D aC b M fr lo mc ms As w post) (hc : CSw own ix M n) (hst : st = As.reverse ++ S) (hn : As.length = n) (hfr : fr + 1 ≤ R.frames) (hlo : 8 + (M.2.2.1 + 11) + lo ≤ R.locals) (hf : cs + mc ≤ R.cells ∧ sl + ms ≤ R.slots) (hr : ((S.map (cv b)).map fun v => v.category).sum ≤ 8) (d : decode cc pc = .ok (.invokestatic ix, 3))
    (kk : ∀ (r : Int64) (u : XW), post r u → Wv p l e R s m args below meth c Q D aC b nL (pc + 3) L (AL r :: S) u (cs + mc) (sl + ms)) : Wv p l e R s m args below meth c Q D aC b nL pc L st w cs sl := fun H locs ls h1 h2 h3 =>
  va_calll (run_S E hM hc hst hn hfr hlo hf hr d h1 h3) h2 (fun _ _ h => h) (fun _ h => h) (fun r u t H1 locs1 ht _ hp hB _ _ hS => kk r u hp H1 locs1 ls (ht ▸ hB.1) hS h3)
theorem s_vV {M : Mt} {ix n ci N q fr lo mc ms : Nat} {As st : List AV} {post : XW → Prop} (E : EE p s m meth c D aC b nL cc own ret) (hM : CnV l D aC b M fr lo mc ms (AR q :: As) w post) (hc : CVw own ix M n ci N) (hst : st = As.reverse ++ AR q :: S) (hn : As.length = n) (hs : xS q = (ci, N)) (hq : q < w.1) (hfr : fr + 1 ≤ R.frames) (hlo : 8 + (M.2.2.1 + 11) + lo ≤ R.locals) (hf : cs + mc ≤ R.cells ∧ sl + ms ≤ R.slots) (hr : ((S.map (cv b)).map fun v => v.category).sum ≤ 8) (d : decode cc pc = .ok (.invokevirtual ix, 3))
    (kk : ∀ (u : XW), post u → Wv p l e R s m args below meth c Q D aC b nL (pc + 3) L (S) u (cs + mc) (sl + ms)) : Wv p l e R s m args below meth c Q D aC b nL pc L st w cs sl := fun H locs ls h1 h2 h3 =>
  va_callv (run_V E hM hc hst hn hs hq hfr hlo hf hr d h1 h3) h2 (fun _ _ h => h) (fun _ h => h) (fun u t H1 locs1 ht _ hp hB _ _ hS => kk u hp H1 locs1 ls (ht ▸ hB.1) hS h3)
theorem s_sV {M : Mt} {ix n fr lo mc ms : Nat} {As st : List AV} {post : XW → Prop} (E : EE p s m meth c D aC b nL cc own ret) (hM : CnV l D aC b M fr lo mc ms As w post) (hc : CSw own ix M n) (hst : st = As.reverse ++ S) (hn : As.length = n) (hfr : fr + 1 ≤ R.frames) (hlo : 8 + (M.2.2.1 + 11) + lo ≤ R.locals) (hf : cs + mc ≤ R.cells ∧ sl + ms ≤ R.slots) (hr : ((S.map (cv b)).map fun v => v.category).sum ≤ 8) (d : decode cc pc = .ok (.invokestatic ix, 3))
    (kk : ∀ (u : XW), post u → Wv p l e R s m args below meth c Q D aC b nL (pc + 3) L (S) u (cs + mc) (sl + ms)) : Wv p l e R s m args below meth c Q D aC b nL pc L st w cs sl := fun H locs ls h1 h2 h3 =>
  va_callv (run_S E hM hc hst hn hfr hlo hf hr d h1 h3) h2 (fun _ _ h => h) (fun _ h => h) (fun u t H1 locs1 ht _ hp hB _ _ hS => kk u hp H1 locs1 ls (ht ▸ hB.1) hS h3)
theorem s_init {y : MethodName} {cod : ByteArray} {mL : Nat} {ix n q fr lo mc ms : Nat} {As st : List AV} {post : XW → Prop} (E : EE p s m meth c D aC b nL cc own ret) (hM : CnV l D aC b (y, cod, mL, none) fr lo mc ms (AR q :: As) w post) (hc : CIw own ix (y, cod, mL, none) n) (hst : st = As.reverse ++ AR q :: S) (hn : As.length = n) (hfr : fr + 1 ≤ R.frames) (hlo : 8 + (mL + 11) + lo ≤ R.locals) (hf : cs + mc ≤ R.cells ∧ sl + ms ≤ R.slots) (hr : ((S.map (cv b)).map fun v => v.category).sum ≤ 8) (d : decode cc pc = .ok (.invokespecial ix, 3))
    (kk : ∀ (u : XW), post u → Wv p l e R s m args below meth c Q D aC b nL (pc + 3) L S u (cs + mc) (sl + ms)) : Wv p l e R s m args below meth c Q D aC b nL pc L st w cs sl := fun H locs ls h1 h2 h3 =>
  va_callv (run_I E hM hc hst hn hfr hlo hf hr d h1 h3) h2 (fun _ _ h => h) (fun _ h => h) (fun u t H1 locs1 ht _ hp hB _ _ hS => kk u hp H1 locs1 ls (ht ▸ hB.1) hS h3)
theorem s_obj {q ix : Nat} (E : EE p s m meth c D aC b nL cc own ret) (hl : Cond.methodLink own ix Lib.objectInit ∈ lw_tbl) (hi : Cond.instanceMethod Lib.objectInit ∈ lw_tbl) (hc : Cond.code Lib.objectInit ⟨#[0xb1]⟩ 1 none ∈ lw_tbl) (hfr : 1 ≤ R.frames) (hlo : ((S.map (cv b)).map fun v => v.category).sum + 12 ≤ R.locals) (d : decode cc pc = .ok (.invokespecial ix, 3)) (kk : Wv p l e R s m args below meth c Q D aC b nL (pc + 3) L S w cs sl) : Wv p l e R s m args below meth c Q D aC b nL pc L (AR q :: S) w cs sl := fun H locs ls h1 h2 h3 =>
  W.objInit E.1 E.2.1 E.2.2.2.1 (E.gl hl rfl) (E.gl hi rfl) (E.gl hc rfl) rfl (by rw [E.2.2.1]; exact h3.1) rfl d hfr (by show 2 * 0 + _ + 12 ≤ _; omega) (kk H locs ls h1 h2 h3)
theorem s_max {ix : Nat} {x y v : Int32} (E : EE p s m meth c D aC b nL cc own ret) (hw : Cond.methodLink own ix Lib.Math.max.name ∈ lw_tbl ∧ Cond.static Lib.Math.max.name ∈ lw_tbl ∧ Cond.initialized "java/lang/Math" ∈ lw_tbl ∧ Cond.code Lib.Math.max.name Lib.Math.max.code 2 (some .int) ∈ lw_tbl) (hfr : 1 ≤ R.frames) (hlo : ((S.map (cv b)).map fun v => v.category).sum + 13 ≤ R.locals) (hc : cs ≤ R.cells) (hs : sl ≤ R.slots) (d : decode cc pc = .ok (.invokestatic ix, 3)) (hv : (if x < y then y else x) = v) (kk : Wv p l e R s m args below meth c Q D aC b nL (pc + 3) L (AI v :: S) w cs sl) : Wv p l e R s m args below meth c Q D aC b nL pc L (AI y :: AI x :: S) w cs sl := fun H locs ls h1 h2 h3 =>
  va_mmax E.1 E.2.1 (by rw [E.2.2.1]; exact h3.1.symm) E.2.2.2.1 (E.gl hw.1 rfl) (E.gl hw.2.1 rfl) (E.gl hw.2.2.1 rfl) (E.gl hw.2.2.2 rfl) hfr hlo hc hs d (by rw [hv]; exact kk H locs ls h1 h2 h3)
theorem s_min {ix : Nat} {x y v : Int32} (E : EE p s m meth c D aC b nL cc own ret) (hw : Cond.methodLink own ix Lib.Math.min.name ∈ lw_tbl ∧ Cond.static Lib.Math.min.name ∈ lw_tbl ∧ Cond.initialized "java/lang/Math" ∈ lw_tbl ∧ Cond.code Lib.Math.min.name Lib.Math.min.code 2 (some .int) ∈ lw_tbl) (hfr : 1 ≤ R.frames) (hlo : ((S.map (cv b)).map fun v => v.category).sum + 13 ≤ R.locals) (hc : cs ≤ R.cells) (hs : sl ≤ R.slots) (d : decode cc pc = .ok (.invokestatic ix, 3)) (hv : (if y < x then y else x) = v) (kk : Wv p l e R s m args below meth c Q D aC b nL (pc + 3) L (AI v :: S) w cs sl) : Wv p l e R s m args below meth c Q D aC b nL pc L (AI y :: AI x :: S) w cs sl := fun H locs ls h1 h2 h3 =>
  va_mmin E.1 E.2.1 (by rw [E.2.2.1]; exact h3.1.symm) E.2.2.2.1 (E.gl hw.1 rfl) (E.gl hw.2.1 rfl) (E.gl hw.2.2.1 rfl) (E.gl hw.2.2.2 rfl) hfr hlo hc hs d (by rw [hv]; exact kk H locs ls h1 h2 h3)
end XK
end
section
section XS
variable {p : Program} {l : Launch} {e : Env} {R : Room} {s : State} {m : MethodId} {args : Array Value} {below : List Frame} {meth : Method} {c : Code} {Q : State → Prop}
variable {D : va_G} {aC : Nat → ClassId} {b nL : Nat} {cc : ByteArray} {own : String} {ret : Option FieldType}
variable {pc : Nat} {L : List (Option AV)} {S : List AV} {w : XW} {cs sl : Nat}
theorem s_topR {x y : Nat} (h : x = y) (kk : Wv p l e R s m args below meth c Q D aC b nL pc L (AR y :: S) w cs sl) : Wv p l e R s m args below meth c Q D aC b nL pc L (AR x :: S) w cs sl := h ▸ kk
theorem vp_c {i : Int32} {n : Nat} (h : ¬ (i < 0 ∨ n ≤ i.toNatClampNeg)) : vp_in i n := h
theorem ltn {n q : Nat} (hn : w.1 = n) (h : q < n) : q < w.1 := by rw [hn]; exact h
theorem cn_I {y : MethodName} {cod : ByteArray} {mL fr lo mc ms : Nat} {nm : String} {A : List AV} {L0 : List (Option AV)} {post : Int32 → XW → Prop} (hy : plainName y.cls = true) (ho : y.cls = own) (hn : y.name = nm) (hA : (entL A).length ≤ mL) (hL : entL A ++ List.replicate (mL - (entL A).length) none = L0)
    (body : ∀ (p : Program) (e : Env) (s : State) (m : MethodId) (args : Array Value) (below : List Frame) (meth : Method) (c : Code), EE p s m meth c D aC b mL cod own ret → meth.name = nm → Wv p l e (rmF fr lo mc ms) s m args below meth c (MQ below (va_Qi post (xU D aC b) (xA b)) args s mc ms (xA b)) D aC b mL 0 L0 [] w 0 0) : CnI l D aC b (y, cod, mL, ret) fr lo mc ms A w post := by
  subst ho; subst hn
  exact cn_body (M := (y, cod, mL, ret)) hy hA hL body
theorem cn_L {y : MethodName} {cod : ByteArray} {mL fr lo mc ms : Nat} {nm : String} {A : List AV} {L0 : List (Option AV)} {post : Int64 → XW → Prop} (hy : plainName y.cls = true) (ho : y.cls = own) (hn : y.name = nm) (hA : (entL A).length ≤ mL) (hL : entL A ++ List.replicate (mL - (entL A).length) none = L0)
    (body : ∀ (p : Program) (e : Env) (s : State) (m : MethodId) (args : Array Value) (below : List Frame) (meth : Method) (c : Code), EE p s m meth c D aC b mL cod own ret → meth.name = nm → Wv p l e (rmF fr lo mc ms) s m args below meth c (MQ below (va_Ql post (xU D aC b) (xA b)) args s mc ms (xA b)) D aC b mL 0 L0 [] w 0 0) : CnL l D aC b (y, cod, mL, ret) fr lo mc ms A w post := by
  subst ho; subst hn
  exact cn_body (M := (y, cod, mL, ret)) hy hA hL body
theorem cn_V {y : MethodName} {cod : ByteArray} {mL fr lo mc ms : Nat} {nm : String} {A : List AV} {L0 : List (Option AV)} {post : XW → Prop} (hy : plainName y.cls = true) (ho : y.cls = own) (hn : y.name = nm) (hA : (entL A).length ≤ mL) (hL : entL A ++ List.replicate (mL - (entL A).length) none = L0)
    (body : ∀ (p : Program) (e : Env) (s : State) (m : MethodId) (args : Array Value) (below : List Frame) (meth : Method) (c : Code), EE p s m meth c D aC b mL cod own ret → meth.name = nm → Wv p l e (rmF fr lo mc ms) s m args below meth c (MQ below (va_Qv post (xU D aC b) (xA b)) args s mc ms (xA b)) D aC b mL 0 L0 [] w 0 0) : CnV l D aC b (y, cod, mL, ret) fr lo mc ms A w post := by
  subst ho; subst hn
  exact cn_body (M := (y, cod, mL, ret)) hy hA hL body
/-- what is known of a world: how many cells; references; ints; cells that are all 0 -/
def Fc (n : Nat) (rt : List (Nat × Nat × Nat)) (it : List (Nat × Nat × Int32)) (zt : List (Nat × Nat)) (w : XW) : Prop := w.1 = n ∧ (∀ q ∈ rt, w.2.1 q.1 q.2.1 = q.2.2) ∧ (∀ q ∈ it, w.2.2.1 q.1 q.2.1 = q.2.2) ∧ (∀ q ∈ zt, ∀ k, k < q.2 → w.2.2.1 q.1 k = 0)
variable {n : Nat} {rt : List (Nat × Nat × Nat)} {it : List (Nat × Nat × Int32)} {zt : List (Nat × Nat)}
theorem fc_r (h : Fc n rt it zt w) {c k v : Nat} (hm : (c, k, v) ∈ rt) : w.2.1 c k = v := h.2.1 _ hm
theorem fc_i (h : Fc n rt it zt w) {c k : Nat} {v : Int32} (hm : (c, k, v) ∈ it) : w.2.2.1 c k = v := h.2.2.1 _ hm
theorem fc_z (h : Fc n rt it zt w) {q : Nat × Nat} (hm : q ∈ zt) {k : Nat} (hk : k < q.2) : w.2.2.1 q.1 k = 0 := h.2.2.2 _ hm k hk
theorem fc_upI (h : Fc n rt it zt w) {c k : Nat} {x : Int32} (hk : (it.all (fun q => !(q.1 == c && q.2.1 == k)) && zt.all (fun q => q.1 != c)) = true) : Fc n rt it zt (upI w c k x) := by
  obtain ⟨h0, h1, h2, h3⟩ := h
  rw [Bool.and_eq_true, List.all_eq_true, List.all_eq_true] at hk
  refine ⟨h0, h1, fun q hq => ?_, fun q hq j hj => ?_⟩
  · have g := hk.1 q hq
    rw [← h2 q hq]
    show va_up w.2.2.1 c (upd (w.2.2.1 c) k x) q.1 q.2.1 = _
    by_cases e1 : q.1 = c
    · have e2 : ¬ q.2.1 = k := fun e2 => by simp [e1, e2] at g
      simp [va_up, upd, e1, e2]
    · simp [va_up, e1]
  · have g := hk.2 q hq
    have e1 : ¬ q.1 = c := by simpa using g
    rw [← h3 q hq j hj]
    show va_up w.2.2.1 c (upd (w.2.2.1 c) k x) q.1 j = _
    simp [va_up, e1]
theorem fc_stI (h : Fc n rt it zt w) {c : Nat} {f : Nat → Int32} (hk : (it.all (fun q => q.1 != c) && zt.all (fun q => q.1 != c)) = true) : Fc n rt it zt (stI w c f) := by
  obtain ⟨h0, h1, h2, h3⟩ := h
  rw [Bool.and_eq_true, List.all_eq_true, List.all_eq_true] at hk
  refine ⟨h0, h1, fun q hq => ?_, fun q hq j hj => ?_⟩
  · have e1 : ¬ q.1 = c := by simpa using hk.1 q hq
    rw [← h2 q hq]
    show va_up w.2.2.1 c f q.1 q.2.1 = _
    simp [va_up, e1]
  · have e1 : ¬ q.1 = c := by simpa using hk.2 q hq
    rw [← h3 q hq j hj]
    show va_up w.2.2.1 c f q.1 j = _
    simp [va_up, e1]
theorem fc_upC (h : Fc n rt it zt w) {c k : Nat} {x : Int32} (hk : (it.all (fun q => q.1 != c) && zt.all (fun q => q.1 != c)) = true) : Fc n rt it zt (upI w c k x) := fc_stI h hk
theorem fc_upZ (h : Fc n rt it zt w) {c k : Nat} (hk : it.all (fun q => q.1 != c) = true) : Fc n rt it zt (upI w c k 0) := by
  obtain ⟨h0, h1, h2, h3⟩ := h
  rw [List.all_eq_true] at hk
  refine ⟨h0, h1, fun q hq => ?_, fun q hq j hj => ?_⟩
  · have e1 : ¬ q.1 = c := by simpa using hk q hq
    rw [← h2 q hq]
    show va_up w.2.2.1 c _ q.1 q.2.1 = _
    simp [va_up, e1]
  · show va_up w.2.2.1 c (upd (w.2.2.1 c) k 0) q.1 j = 0
    by_cases e1 : q.1 = c
    · by_cases e2 : j = k
      · simp [va_up, upd, e1, e2]
      · have := h3 q hq j hj
        simp [va_up, upd, e1, e2]
        rw [← e1]; exact this
    · simp [va_up, e1]
      exact h3 q hq j hj
theorem fc_stL (h : Fc n rt it zt w) {c : Nat} {f : Nat → Int64} : Fc n rt it zt (stL w c f) := h
theorem fc_upL (h : Fc n rt it zt w) {c k : Nat} {x : Int64} : Fc n rt it zt (upL w c k x) := h
end XS
end
section
abbrev M_X0_init : Mt := (yX0_init, cX0_init, 1, none)
abbrev M_X8_init : Mt := (yX8_init, cX8_init, 3, none)
abbrev M_X6_init : Mt := (yX6_init, cX6_init, 3, none)
abbrev M_X7_init : Mt := (yX7_init, cX7_init, 1, none)
abbrev M_X2_init : Mt := (yX2_init, cX2_init, 1, none)
abbrev M_X5_init : Mt := (yX5_init, cX5_init, 1, none)
abbrev M_X1_init : Mt := (yX1_init, cX1_init, 1, none)
abbrev M_X3_init : Mt := (yX3_init, cX3_init, 1, none)
abbrev M_X4_init : Mt := (yX4_init, cX4_init, 1, none)
abbrev M_X9_init : Mt := (yX9_init, cX9_init, 2, none)
abbrev M_X10_init : Mt := (yX10_init, cX10_init, 1, none)
theorem k_25 : (Jvm.Cond.methodLink "HoopCabinet" (1 : Nat) ({ cls := "java/lang/Object", name := "<init>", desc := "()V" } : Jvm.MethodName)) ∈ lw_tbl := List.mem_append_right _ (List.mem_of_getElem? (i := 25) (by decide +kernel))
theorem k_26 : (Jvm.Cond.instanceMethod ({ cls := "java/lang/Object", name := "<init>", desc := "()V" } : Jvm.MethodName)) ∈ lw_tbl := List.mem_append_right _ (List.mem_of_getElem? (i := 26) (by decide +kernel))
theorem k_27 : (Jvm.Cond.code ({ cls := "java/lang/Object", name := "<init>", desc := "()V" } : Jvm.MethodName) object_method_1_code (1 : Nat) (Option.none : Option Jvm.ClassFile.FieldType)) ∈ lw_tbl := List.mem_append_right _ (List.mem_of_getElem? (i := 27) (by decide +kernel))
theorem k_62 : (Jvm.Cond.arrayClass Jvm.ClassFile.FieldType.byte) ∈ lw_tbl := List.mem_append_right _ (List.mem_of_getElem? (i := 62) (by decide +kernel))
theorem k_302 : (Jvm.Cond.fieldLink "HoopCabinet" (9 : Nat) "HoopCabinet" "tape" "[B") ∈ lw_tbl := List.mem_append_right _ (List.mem_of_getElem? (i := 302) (by decide +kernel))
theorem k_303 : (Jvm.Cond.fieldLink "HoopCabinet" (13 : Nat) "HoopCabinet" "tapeLength" "I") ∈ lw_tbl := List.mem_append_right _ (List.mem_of_getElem? (i := 303) (by decide +kernel))
theorem k_28 : (Jvm.Cond.classLink "HoopCabinet" (17 : Nat) "HoopCabinet$Ball") ∈ lw_tbl := List.mem_append_right _ (List.mem_of_getElem? (i := 28) (by decide +kernel))
theorem k_29 : (Jvm.Cond.instantiable "HoopCabinet$Ball" (10 : Nat)) ∈ lw_tbl := List.mem_append_right _ (List.mem_of_getElem? (i := 29) (by decide +kernel))
theorem k_2 : (Jvm.Cond.initialized "HoopCabinet$Ball") ∈ lw_tbl := List.mem_append_right _ (List.mem_of_getElem? (i := 2) (by decide +kernel))
theorem k_32 : (Jvm.Cond.code ({ cls := "HoopCabinet$Ball", name := "<init>", desc := "()V" } : Jvm.MethodName) prog_2_method_1_code (1 : Nat) (Option.none : Option Jvm.ClassFile.FieldType)) ∈ lw_tbl := List.mem_append_right _ (List.mem_of_getElem? (i := 32) (by decide +kernel))
theorem k_30 : (Jvm.Cond.methodLinkNest "HoopCabinet" (19 : Nat) ({ cls := "HoopCabinet$Ball", name := "<init>", desc := "()V" } : Jvm.MethodName) "HoopCabinet") ∈ lw_tbl := List.mem_append_right _ (List.mem_of_getElem? (i := 30) (by decide +kernel))
theorem k_31 : (Jvm.Cond.instanceMethod ({ cls := "HoopCabinet$Ball", name := "<init>", desc := "()V" } : Jvm.MethodName)) ∈ lw_tbl := List.mem_append_right _ (List.mem_of_getElem? (i := 31) (by decide +kernel))
theorem k_33 : (Jvm.Cond.methodLink "HoopCabinet$Ball" (3 : Nat) ({ cls := "java/lang/Object", name := "<init>", desc := "()V" } : Jvm.MethodName)) ∈ lw_tbl := List.mem_append_right _ (List.mem_of_getElem? (i := 33) (by decide +kernel))
theorem k_34 : (Jvm.Cond.classLink "HoopCabinet$Ball" (9 : Nat) "HoopCabinet$Table") ∈ lw_tbl := List.mem_append_right _ (List.mem_of_getElem? (i := 34) (by decide +kernel))
theorem k_35 : (Jvm.Cond.instantiable "HoopCabinet$Table" (4 : Nat)) ∈ lw_tbl := List.mem_append_right _ (List.mem_of_getElem? (i := 35) (by decide +kernel))
theorem k_3 : (Jvm.Cond.initialized "HoopCabinet$Table") ∈ lw_tbl := List.mem_append_right _ (List.mem_of_getElem? (i := 3) (by decide +kernel))
theorem k_38 : (Jvm.Cond.code ({ cls := "HoopCabinet$Table", name := "<init>", desc := "(II)V" } : Jvm.MethodName) prog_10_method_1_code (3 : Nat) (Option.none : Option Jvm.ClassFile.FieldType)) ∈ lw_tbl := List.mem_append_right _ (List.mem_of_getElem? (i := 38) (by decide +kernel))
theorem k_36 : (Jvm.Cond.methodLink "HoopCabinet$Ball" (11 : Nat) ({ cls := "HoopCabinet$Table", name := "<init>", desc := "(II)V" } : Jvm.MethodName)) ∈ lw_tbl := List.mem_append_right _ (List.mem_of_getElem? (i := 36) (by decide +kernel))
theorem k_37 : (Jvm.Cond.instanceMethod ({ cls := "HoopCabinet$Table", name := "<init>", desc := "(II)V" } : Jvm.MethodName)) ∈ lw_tbl := List.mem_append_right _ (List.mem_of_getElem? (i := 37) (by decide +kernel))
theorem k_39 : (Jvm.Cond.methodLink "HoopCabinet$Table" (3 : Nat) ({ cls := "java/lang/Object", name := "<init>", desc := "()V" } : Jvm.MethodName)) ∈ lw_tbl := List.mem_append_right _ (List.mem_of_getElem? (i := 39) (by decide +kernel))
theorem k_40 : (Jvm.Cond.methodLink "HoopCabinet$Table" (9 : Nat) ({ cls := "java/lang/Math", name := "max", desc := "(II)I" } : Jvm.MethodName)) ∈ lw_tbl := List.mem_append_right _ (List.mem_of_getElem? (i := 40) (by decide +kernel))
theorem k_41 : (Jvm.Cond.static ({ cls := "java/lang/Math", name := "max", desc := "(II)I" } : Jvm.MethodName)) ∈ lw_tbl := List.mem_append_right _ (List.mem_of_getElem? (i := 41) (by decide +kernel))
theorem k_4 : (Jvm.Cond.initialized "java/lang/Math") ∈ lw_tbl := List.mem_append_right _ (List.mem_of_getElem? (i := 4) (by decide +kernel))
theorem k_42 : (Jvm.Cond.code ({ cls := "java/lang/Math", name := "max", desc := "(II)I" } : Jvm.MethodName) prog_14_method_65_code (2 : Nat) (Option.some Jvm.ClassFile.FieldType.int)) ∈ lw_tbl := List.mem_append_right _ (List.mem_of_getElem? (i := 42) (by decide +kernel))
theorem k_44 : (Jvm.Cond.fieldLink "HoopCabinet$Table" (15 : Nat) "HoopCabinet$Table" "limit" "I") ∈ lw_tbl := List.mem_append_right _ (List.mem_of_getElem? (i := 44) (by decide +kernel))
theorem k_45 : (Jvm.Cond.fieldLink "HoopCabinet$Table" (21 : Nat) "HoopCabinet$Table" "width" "I") ∈ lw_tbl := List.mem_append_right _ (List.mem_of_getElem? (i := 45) (by decide +kernel))
theorem k_63 : (Jvm.Cond.arrayClass Jvm.ClassFile.FieldType.int) ∈ lw_tbl := List.mem_append_right _ (List.mem_of_getElem? (i := 63) (by decide +kernel))
theorem k_43 : (Jvm.Cond.fieldLink "HoopCabinet$Table" (24 : Nat) "HoopCabinet$Table" "cells" "[I") ∈ lw_tbl := List.mem_append_right _ (List.mem_of_getElem? (i := 43) (by decide +kernel))
theorem k_46 : (Jvm.Cond.fieldLink "HoopCabinet$Table" (28 : Nat) "HoopCabinet$Table" "rows" "I") ∈ lw_tbl := List.mem_append_right _ (List.mem_of_getElem? (i := 46) (by decide +kernel))
theorem k_82 : (Jvm.Cond.fieldLink "HoopCabinet$Ball" (14 : Nat) "HoopCabinet$Ball" "doors" "LHoopCabinet$Table;") ∈ lw_tbl := List.mem_append_right _ (List.mem_of_getElem? (i := 82) (by decide +kernel))
theorem k_86 : (Jvm.Cond.fieldLink "HoopCabinet$Ball" (20 : Nat) "HoopCabinet$Ball" "ladies" "LHoopCabinet$Table;") ∈ lw_tbl := List.mem_append_right _ (List.mem_of_getElem? (i := 86) (by decide +kernel))
theorem k_92 : (Jvm.Cond.fieldLink "HoopCabinet$Ball" (23 : Nat) "HoopCabinet$Ball" "ministers" "LHoopCabinet$Table;") ∈ lw_tbl := List.mem_append_right _ (List.mem_of_getElem? (i := 92) (by decide +kernel))
theorem k_95 : (Jvm.Cond.fieldLink "HoopCabinet$Ball" (26 : Nat) "HoopCabinet$Ball" "bids" "LHoopCabinet$Table;") ∈ lw_tbl := List.mem_append_right _ (List.mem_of_getElem? (i := 95) (by decide +kernel))
theorem k_99 : (Jvm.Cond.fieldLink "HoopCabinet$Ball" (29 : Nat) "HoopCabinet$Ball" "acts" "LHoopCabinet$Table;") ∈ lw_tbl := List.mem_append_right _ (List.mem_of_getElem? (i := 99) (by decide +kernel))
theorem k_305 : (Jvm.Cond.fieldLink "HoopCabinet" (20 : Nat) "HoopCabinet" "now" "LHoopCabinet$Ball;") ∈ lw_tbl := List.mem_append_right _ (List.mem_of_getElem? (i := 305) (by decide +kernel))
theorem k_306 : (Jvm.Cond.fieldLink "HoopCabinet" (24 : Nat) "HoopCabinet" "draft" "LHoopCabinet$Ball;") ∈ lw_tbl := List.mem_append_right _ (List.mem_of_getElem? (i := 306) (by decide +kernel))
theorem k_123 : (Jvm.Cond.classLink "HoopCabinet" (27 : Nat) "HoopCabinet$Reader") ∈ lw_tbl := List.mem_append_right _ (List.mem_of_getElem? (i := 123) (by decide +kernel))
theorem k_124 : (Jvm.Cond.instantiable "HoopCabinet$Reader" (8 : Nat)) ∈ lw_tbl := List.mem_append_right _ (List.mem_of_getElem? (i := 124) (by decide +kernel))
theorem k_5 : (Jvm.Cond.initialized "HoopCabinet$Reader") ∈ lw_tbl := List.mem_append_right _ (List.mem_of_getElem? (i := 5) (by decide +kernel))
theorem k_127 : (Jvm.Cond.code ({ cls := "HoopCabinet$Reader", name := "<init>", desc := "([BLHoopCabinet$Ball;)V" } : Jvm.MethodName) prog_8_method_1_code (3 : Nat) (Option.none : Option Jvm.ClassFile.FieldType)) ∈ lw_tbl := List.mem_append_right _ (List.mem_of_getElem? (i := 127) (by decide +kernel))
theorem k_125 : (Jvm.Cond.methodLink "HoopCabinet" (29 : Nat) ({ cls := "HoopCabinet$Reader", name := "<init>", desc := "([BLHoopCabinet$Ball;)V" } : Jvm.MethodName)) ∈ lw_tbl := List.mem_append_right _ (List.mem_of_getElem? (i := 125) (by decide +kernel))
theorem k_126 : (Jvm.Cond.instanceMethod ({ cls := "HoopCabinet$Reader", name := "<init>", desc := "([BLHoopCabinet$Ball;)V" } : Jvm.MethodName)) ∈ lw_tbl := List.mem_append_right _ (List.mem_of_getElem? (i := 126) (by decide +kernel))
theorem k_128 : (Jvm.Cond.methodLink "HoopCabinet$Reader" (3 : Nat) ({ cls := "java/lang/Object", name := "<init>", desc := "()V" } : Jvm.MethodName)) ∈ lw_tbl := List.mem_append_right _ (List.mem_of_getElem? (i := 128) (by decide +kernel))
theorem k_129 : (Jvm.Cond.fieldLink "HoopCabinet$Reader" (9 : Nat) "HoopCabinet$Reader" "tape" "[B") ∈ lw_tbl := List.mem_append_right _ (List.mem_of_getElem? (i := 129) (by decide +kernel))
theorem k_130 : (Jvm.Cond.fieldLink "HoopCabinet$Reader" (15 : Nat) "HoopCabinet$Reader" "ball" "LHoopCabinet$Ball;") ∈ lw_tbl := List.mem_append_right _ (List.mem_of_getElem? (i := 130) (by decide +kernel))
theorem k_137 : (Jvm.Cond.fieldLink "HoopCabinet$Reader" (19 : Nat) "HoopCabinet$Reader" "faultPlace" "I") ∈ lw_tbl := List.mem_append_right _ (List.mem_of_getElem? (i := 137) (by decide +kernel))
theorem k_304 : (Jvm.Cond.fieldLink "HoopCabinet" (32 : Nat) "HoopCabinet" "reader" "LHoopCabinet$Reader;") ∈ lw_tbl := List.mem_append_right _ (List.mem_of_getElem? (i := 304) (by decide +kernel))
theorem k_156 : (Jvm.Cond.arrayOver (Jvm.ClassFile.FieldType.object "HoopCabinet$Ball")) ∈ lw_tbl := List.mem_append_right _ (List.mem_of_getElem? (i := 156) (by decide +kernel))
theorem k_307 : (Jvm.Cond.fieldLink "HoopCabinet" (36 : Nat) "HoopCabinet" "images" "[LHoopCabinet$Ball;") ∈ lw_tbl := List.mem_append_right _ (List.mem_of_getElem? (i := 307) (by decide +kernel))
theorem k_177 : (Jvm.Cond.arrayClass Jvm.ClassFile.FieldType.boolean) ∈ lw_tbl := List.mem_append_right _ (List.mem_of_getElem? (i := 177) (by decide +kernel))
theorem k_308 : (Jvm.Cond.fieldLink "HoopCabinet" (40 : Nat) "HoopCabinet" "kept" "[Z") ∈ lw_tbl := List.mem_append_right _ (List.mem_of_getElem? (i := 308) (by decide +kernel))
theorem k_157 : (Jvm.Cond.classLink "HoopCabinet" (44 : Nat) "HoopCabinet$Slot") ∈ lw_tbl := List.mem_append_right _ (List.mem_of_getElem? (i := 157) (by decide +kernel))
theorem k_158 : (Jvm.Cond.arrayOver (Jvm.ClassFile.FieldType.object "HoopCabinet$Slot")) ∈ lw_tbl := List.mem_append_right _ (List.mem_of_getElem? (i := 158) (by decide +kernel))
theorem k_309 : (Jvm.Cond.fieldLink "HoopCabinet" (46 : Nat) "HoopCabinet" "slots" "[LHoopCabinet$Slot;") ∈ lw_tbl := List.mem_append_right _ (List.mem_of_getElem? (i := 309) (by decide +kernel))
theorem k_159 : (Jvm.Cond.instantiable "HoopCabinet$Slot" (3 : Nat)) ∈ lw_tbl := List.mem_append_right _ (List.mem_of_getElem? (i := 159) (by decide +kernel))
theorem k_6 : (Jvm.Cond.initialized "HoopCabinet$Slot") ∈ lw_tbl := List.mem_append_right _ (List.mem_of_getElem? (i := 6) (by decide +kernel))
theorem k_162 : (Jvm.Cond.code ({ cls := "HoopCabinet$Slot", name := "<init>", desc := "()V" } : Jvm.MethodName) prog_9_method_1_code (1 : Nat) (Option.none : Option Jvm.ClassFile.FieldType)) ∈ lw_tbl := List.mem_append_right _ (List.mem_of_getElem? (i := 162) (by decide +kernel))
theorem k_160 : (Jvm.Cond.methodLinkNest "HoopCabinet" (50 : Nat) ({ cls := "HoopCabinet$Slot", name := "<init>", desc := "()V" } : Jvm.MethodName) "HoopCabinet") ∈ lw_tbl := List.mem_append_right _ (List.mem_of_getElem? (i := 160) (by decide +kernel))
theorem k_161 : (Jvm.Cond.instanceMethod ({ cls := "HoopCabinet$Slot", name := "<init>", desc := "()V" } : Jvm.MethodName)) ∈ lw_tbl := List.mem_append_right _ (List.mem_of_getElem? (i := 161) (by decide +kernel))
theorem k_163 : (Jvm.Cond.methodLink "HoopCabinet$Slot" (3 : Nat) ({ cls := "java/lang/Object", name := "<init>", desc := "()V" } : Jvm.MethodName)) ∈ lw_tbl := List.mem_append_right _ (List.mem_of_getElem? (i := 163) (by decide +kernel))
theorem k_178 : (Jvm.Cond.arrayClass Jvm.ClassFile.FieldType.long) ∈ lw_tbl := List.mem_append_right _ (List.mem_of_getElem? (i := 178) (by decide +kernel))
theorem k_164 : (Jvm.Cond.fieldLink "HoopCabinet$Slot" (11 : Nat) "HoopCabinet$Slot" "cells" "[J") ∈ lw_tbl := List.mem_append_right _ (List.mem_of_getElem? (i := 164) (by decide +kernel))
theorem k_168 : (Jvm.Cond.fieldLink "HoopCabinet$Slot" (15 : Nat) "HoopCabinet$Slot" "size" "I") ∈ lw_tbl := List.mem_append_right _ (List.mem_of_getElem? (i := 168) (by decide +kernel))
theorem k_179 : (Jvm.Cond.classLink "HoopCabinet" (51 : Nat) "HoopCabinet$Floor") ∈ lw_tbl := List.mem_append_right _ (List.mem_of_getElem? (i := 179) (by decide +kernel))
theorem k_180 : (Jvm.Cond.instantiable "HoopCabinet$Floor" (8 : Nat)) ∈ lw_tbl := List.mem_append_right _ (List.mem_of_getElem? (i := 180) (by decide +kernel))
theorem k_7 : (Jvm.Cond.initialized "HoopCabinet$Floor") ∈ lw_tbl := List.mem_append_right _ (List.mem_of_getElem? (i := 7) (by decide +kernel))
theorem k_183 : (Jvm.Cond.code ({ cls := "HoopCabinet$Floor", name := "<init>", desc := "()V" } : Jvm.MethodName) prog_4_method_1_code (1 : Nat) (Option.none : Option Jvm.ClassFile.FieldType)) ∈ lw_tbl := List.mem_append_right _ (List.mem_of_getElem? (i := 183) (by decide +kernel))
theorem k_181 : (Jvm.Cond.methodLinkNest "HoopCabinet" (53 : Nat) ({ cls := "HoopCabinet$Floor", name := "<init>", desc := "()V" } : Jvm.MethodName) "HoopCabinet") ∈ lw_tbl := List.mem_append_right _ (List.mem_of_getElem? (i := 181) (by decide +kernel))
theorem k_182 : (Jvm.Cond.instanceMethod ({ cls := "HoopCabinet$Floor", name := "<init>", desc := "()V" } : Jvm.MethodName)) ∈ lw_tbl := List.mem_append_right _ (List.mem_of_getElem? (i := 182) (by decide +kernel))
theorem k_184 : (Jvm.Cond.methodLink "HoopCabinet$Floor" (3 : Nat) ({ cls := "java/lang/Object", name := "<init>", desc := "()V" } : Jvm.MethodName)) ∈ lw_tbl := List.mem_append_right _ (List.mem_of_getElem? (i := 184) (by decide +kernel))
theorem k_185 : (Jvm.Cond.fieldLink "HoopCabinet$Floor" (9 : Nat) "HoopCabinet$Floor" "near" "[I") ∈ lw_tbl := List.mem_append_right _ (List.mem_of_getElem? (i := 185) (by decide +kernel))
theorem k_186 : (Jvm.Cond.fieldLink "HoopCabinet$Floor" (15 : Nat) "HoopCabinet$Floor" "goals" "[I") ∈ lw_tbl := List.mem_append_right _ (List.mem_of_getElem? (i := 186) (by decide +kernel))
theorem k_187 : (Jvm.Cond.fieldLink "HoopCabinet$Floor" (18 : Nat) "HoopCabinet$Floor" "since" "[I") ∈ lw_tbl := List.mem_append_right _ (List.mem_of_getElem? (i := 187) (by decide +kernel))
theorem k_188 : (Jvm.Cond.fieldLink "HoopCabinet$Floor" (21 : Nat) "HoopCabinet$Floor" "places" "[I") ∈ lw_tbl := List.mem_append_right _ (List.mem_of_getElem? (i := 188) (by decide +kernel))
theorem k_189 : (Jvm.Cond.fieldLink "HoopCabinet$Floor" (24 : Nat) "HoopCabinet$Floor" "company" "[I") ∈ lw_tbl := List.mem_append_right _ (List.mem_of_getElem? (i := 189) (by decide +kernel))
theorem k_310 : (Jvm.Cond.fieldLink "HoopCabinet" (54 : Nat) "HoopCabinet" "floor" "LHoopCabinet$Floor;") ∈ lw_tbl := List.mem_append_right _ (List.mem_of_getElem? (i := 310) (by decide +kernel))
theorem k_311 : (Jvm.Cond.fieldLink "HoopCabinet" (58 : Nat) "HoopCabinet" "trial" "LHoopCabinet$Floor;") ∈ lw_tbl := List.mem_append_right _ (List.mem_of_getElem? (i := 311) (by decide +kernel))
theorem k_210 : (Jvm.Cond.classLink "HoopCabinet" (61 : Nat) "HoopCabinet$Notes") ∈ lw_tbl := List.mem_append_right _ (List.mem_of_getElem? (i := 210) (by decide +kernel))
theorem k_211 : (Jvm.Cond.instantiable "HoopCabinet$Notes" (6 : Nat)) ∈ lw_tbl := List.mem_append_right _ (List.mem_of_getElem? (i := 211) (by decide +kernel))
theorem k_8 : (Jvm.Cond.initialized "HoopCabinet$Notes") ∈ lw_tbl := List.mem_append_right _ (List.mem_of_getElem? (i := 8) (by decide +kernel))
theorem k_214 : (Jvm.Cond.code ({ cls := "HoopCabinet$Notes", name := "<init>", desc := "()V" } : Jvm.MethodName) prog_7_method_1_code (1 : Nat) (Option.none : Option Jvm.ClassFile.FieldType)) ∈ lw_tbl := List.mem_append_right _ (List.mem_of_getElem? (i := 214) (by decide +kernel))
theorem k_212 : (Jvm.Cond.methodLinkNest "HoopCabinet" (63 : Nat) ({ cls := "HoopCabinet$Notes", name := "<init>", desc := "()V" } : Jvm.MethodName) "HoopCabinet") ∈ lw_tbl := List.mem_append_right _ (List.mem_of_getElem? (i := 212) (by decide +kernel))
theorem k_213 : (Jvm.Cond.instanceMethod ({ cls := "HoopCabinet$Notes", name := "<init>", desc := "()V" } : Jvm.MethodName)) ∈ lw_tbl := List.mem_append_right _ (List.mem_of_getElem? (i := 213) (by decide +kernel))
theorem k_215 : (Jvm.Cond.methodLink "HoopCabinet$Notes" (3 : Nat) ({ cls := "java/lang/Object", name := "<init>", desc := "()V" } : Jvm.MethodName)) ∈ lw_tbl := List.mem_append_right _ (List.mem_of_getElem? (i := 215) (by decide +kernel))
theorem k_216 : (Jvm.Cond.fieldLink "HoopCabinet$Notes" (9 : Nat) "HoopCabinet$Notes" "allowed" "[I") ∈ lw_tbl := List.mem_append_right _ (List.mem_of_getElem? (i := 216) (by decide +kernel))
theorem k_217 : (Jvm.Cond.fieldLink "HoopCabinet$Notes" (15 : Nat) "HoopCabinet$Notes" "seatsUnder" "[I") ∈ lw_tbl := List.mem_append_right _ (List.mem_of_getElem? (i := 217) (by decide +kernel))
theorem k_218 : (Jvm.Cond.fieldLink "HoopCabinet$Notes" (18 : Nat) "HoopCabinet$Notes" "holders" "[I") ∈ lw_tbl := List.mem_append_right _ (List.mem_of_getElem? (i := 218) (by decide +kernel))
theorem k_312 : (Jvm.Cond.fieldLink "HoopCabinet" (64 : Nat) "HoopCabinet" "notes" "LHoopCabinet$Notes;") ∈ lw_tbl := List.mem_append_right _ (List.mem_of_getElem? (i := 312) (by decide +kernel))
theorem k_237 : (Jvm.Cond.classLink "HoopCabinet" (68 : Nat) "HoopCabinet$Carrier") ∈ lw_tbl := List.mem_append_right _ (List.mem_of_getElem? (i := 237) (by decide +kernel))
theorem k_238 : (Jvm.Cond.instantiable "HoopCabinet$Carrier" (8 : Nat)) ∈ lw_tbl := List.mem_append_right _ (List.mem_of_getElem? (i := 238) (by decide +kernel))
theorem k_9 : (Jvm.Cond.initialized "HoopCabinet$Carrier") ∈ lw_tbl := List.mem_append_right _ (List.mem_of_getElem? (i := 9) (by decide +kernel))
theorem k_241 : (Jvm.Cond.code ({ cls := "HoopCabinet$Carrier", name := "<init>", desc := "()V" } : Jvm.MethodName) prog_3_method_1_code (1 : Nat) (Option.none : Option Jvm.ClassFile.FieldType)) ∈ lw_tbl := List.mem_append_right _ (List.mem_of_getElem? (i := 241) (by decide +kernel))
theorem k_239 : (Jvm.Cond.methodLinkNest "HoopCabinet" (70 : Nat) ({ cls := "HoopCabinet$Carrier", name := "<init>", desc := "()V" } : Jvm.MethodName) "HoopCabinet") ∈ lw_tbl := List.mem_append_right _ (List.mem_of_getElem? (i := 239) (by decide +kernel))
theorem k_240 : (Jvm.Cond.instanceMethod ({ cls := "HoopCabinet$Carrier", name := "<init>", desc := "()V" } : Jvm.MethodName)) ∈ lw_tbl := List.mem_append_right _ (List.mem_of_getElem? (i := 240) (by decide +kernel))
theorem k_242 : (Jvm.Cond.methodLink "HoopCabinet$Carrier" (3 : Nat) ({ cls := "java/lang/Object", name := "<init>", desc := "()V" } : Jvm.MethodName)) ∈ lw_tbl := List.mem_append_right _ (List.mem_of_getElem? (i := 242) (by decide +kernel))
theorem k_243 : (Jvm.Cond.fieldLink "HoopCabinet$Carrier" (9 : Nat) "HoopCabinet$Carrier" "taking" "[I") ∈ lw_tbl := List.mem_append_right _ (List.mem_of_getElem? (i := 243) (by decide +kernel))
theorem k_244 : (Jvm.Cond.fieldLink "HoopCabinet$Carrier" (15 : Nat) "HoopCabinet$Carrier" "holding" "[I") ∈ lw_tbl := List.mem_append_right _ (List.mem_of_getElem? (i := 244) (by decide +kernel))
theorem k_245 : (Jvm.Cond.fieldLink "HoopCabinet$Carrier" (18 : Nat) "HoopCabinet$Carrier" "bare" "[I") ∈ lw_tbl := List.mem_append_right _ (List.mem_of_getElem? (i := 245) (by decide +kernel))
theorem k_313 : (Jvm.Cond.fieldLink "HoopCabinet" (71 : Nat) "HoopCabinet" "carrier" "LHoopCabinet$Carrier;") ∈ lw_tbl := List.mem_append_right _ (List.mem_of_getElem? (i := 313) (by decide +kernel))
theorem k_268 : (Jvm.Cond.classLink "HoopCabinet" (75 : Nat) "HoopCabinet$House") ∈ lw_tbl := List.mem_append_right _ (List.mem_of_getElem? (i := 268) (by decide +kernel))
theorem k_269 : (Jvm.Cond.instantiable "HoopCabinet$House" (3 : Nat)) ∈ lw_tbl := List.mem_append_right _ (List.mem_of_getElem? (i := 269) (by decide +kernel))
theorem k_10 : (Jvm.Cond.initialized "HoopCabinet$House") ∈ lw_tbl := List.mem_append_right _ (List.mem_of_getElem? (i := 10) (by decide +kernel))
theorem k_272 : (Jvm.Cond.code ({ cls := "HoopCabinet$House", name := "<init>", desc := "()V" } : Jvm.MethodName) prog_5_method_1_code (1 : Nat) (Option.none : Option Jvm.ClassFile.FieldType)) ∈ lw_tbl := List.mem_append_right _ (List.mem_of_getElem? (i := 272) (by decide +kernel))
theorem k_270 : (Jvm.Cond.methodLinkNest "HoopCabinet" (77 : Nat) ({ cls := "HoopCabinet$House", name := "<init>", desc := "()V" } : Jvm.MethodName) "HoopCabinet") ∈ lw_tbl := List.mem_append_right _ (List.mem_of_getElem? (i := 270) (by decide +kernel))
theorem k_271 : (Jvm.Cond.instanceMethod ({ cls := "HoopCabinet$House", name := "<init>", desc := "()V" } : Jvm.MethodName)) ∈ lw_tbl := List.mem_append_right _ (List.mem_of_getElem? (i := 271) (by decide +kernel))
theorem k_273 : (Jvm.Cond.methodLink "HoopCabinet$House" (3 : Nat) ({ cls := "java/lang/Object", name := "<init>", desc := "()V" } : Jvm.MethodName)) ∈ lw_tbl := List.mem_append_right _ (List.mem_of_getElem? (i := 273) (by decide +kernel))
theorem k_274 : (Jvm.Cond.fieldLink "HoopCabinet$House" (9 : Nat) "HoopCabinet$House" "seatsUnder" "[I") ∈ lw_tbl := List.mem_append_right _ (List.mem_of_getElem? (i := 274) (by decide +kernel))
theorem k_314 : (Jvm.Cond.fieldLink "HoopCabinet" (78 : Nat) "HoopCabinet" "house" "LHoopCabinet$House;") ∈ lw_tbl := List.mem_append_right _ (List.mem_of_getElem? (i := 314) (by decide +kernel))
theorem k_285 : (Jvm.Cond.classLink "HoopCabinet" (82 : Nat) "HoopCabinet$Music") ∈ lw_tbl := List.mem_append_right _ (List.mem_of_getElem? (i := 285) (by decide +kernel))
theorem k_286 : (Jvm.Cond.instantiable "HoopCabinet$Music" (3 : Nat)) ∈ lw_tbl := List.mem_append_right _ (List.mem_of_getElem? (i := 286) (by decide +kernel))
theorem k_11 : (Jvm.Cond.initialized "HoopCabinet$Music") ∈ lw_tbl := List.mem_append_right _ (List.mem_of_getElem? (i := 11) (by decide +kernel))
theorem k_289 : (Jvm.Cond.code ({ cls := "HoopCabinet$Music", name := "<init>", desc := "()V" } : Jvm.MethodName) prog_6_method_1_code (1 : Nat) (Option.none : Option Jvm.ClassFile.FieldType)) ∈ lw_tbl := List.mem_append_right _ (List.mem_of_getElem? (i := 289) (by decide +kernel))
theorem k_287 : (Jvm.Cond.methodLinkNest "HoopCabinet" (84 : Nat) ({ cls := "HoopCabinet$Music", name := "<init>", desc := "()V" } : Jvm.MethodName) "HoopCabinet") ∈ lw_tbl := List.mem_append_right _ (List.mem_of_getElem? (i := 287) (by decide +kernel))
theorem k_288 : (Jvm.Cond.instanceMethod ({ cls := "HoopCabinet$Music", name := "<init>", desc := "()V" } : Jvm.MethodName)) ∈ lw_tbl := List.mem_append_right _ (List.mem_of_getElem? (i := 288) (by decide +kernel))
theorem k_290 : (Jvm.Cond.methodLink "HoopCabinet$Music" (3 : Nat) ({ cls := "java/lang/Object", name := "<init>", desc := "()V" } : Jvm.MethodName)) ∈ lw_tbl := List.mem_append_right _ (List.mem_of_getElem? (i := 290) (by decide +kernel))
theorem k_291 : (Jvm.Cond.fieldLink "HoopCabinet$Music" (9 : Nat) "HoopCabinet$Music" "weights" "[J") ∈ lw_tbl := List.mem_append_right _ (List.mem_of_getElem? (i := 291) (by decide +kernel))
theorem k_292 : (Jvm.Cond.fieldLink "HoopCabinet$Music" (15 : Nat) "HoopCabinet$Music" "later" "[J") ∈ lw_tbl := List.mem_append_right _ (List.mem_of_getElem? (i := 292) (by decide +kernel))
theorem k_315 : (Jvm.Cond.fieldLink "HoopCabinet" (85 : Nat) "HoopCabinet" "music" "LHoopCabinet$Music;") ∈ lw_tbl := List.mem_append_right _ (List.mem_of_getElem? (i := 315) (by decide +kernel))
theorem k_316 : (Jvm.Cond.fieldLink "HoopCabinet" (89 : Nat) "HoopCabinet" "answers" "[I") ∈ lw_tbl := List.mem_append_right _ (List.mem_of_getElem? (i := 316) (by decide +kernel))
theorem k_1240 : (Jvm.Cond.methodLink "HoopCabinetModel" (3 : Nat) ({ cls := "java/lang/Object", name := "<init>", desc := "()V" } : Jvm.MethodName)) ∈ lw_tbl := List.mem_append_right _ (List.mem_of_getElem? (i := 1240) (by decide +kernel))
theorem k_1241 : (Jvm.Cond.fieldLink "HoopCabinetModel" (9 : Nat) "HoopCabinetModel" "world" "[I") ∈ lw_tbl := List.mem_append_right _ (List.mem_of_getElem? (i := 1241) (by decide +kernel))
theorem k_1242 : (Jvm.Cond.fieldLink "HoopCabinetModel" (13 : Nat) "HoopCabinetModel" "images" "[I") ∈ lw_tbl := List.mem_append_right _ (List.mem_of_getElem? (i := 1242) (by decide +kernel))
theorem k_1243 : (Jvm.Cond.fieldLink "HoopCabinetModel" (16 : Nat) "HoopCabinetModel" "hasImage" "[Z") ∈ lw_tbl := List.mem_append_right _ (List.mem_of_getElem? (i := 1243) (by decide +kernel))
theorem k_1244 : (Jvm.Cond.fieldLink "HoopCabinetModel" (20 : Nat) "HoopCabinetModel" "tape" "[B") ∈ lw_tbl := List.mem_append_right _ (List.mem_of_getElem? (i := 1244) (by decide +kernel))
theorem k_1246 : (Jvm.Cond.fieldLink "HoopCabinetModel" (24 : Nat) "HoopCabinetModel" "five" "[I") ∈ lw_tbl := List.mem_append_right _ (List.mem_of_getElem? (i := 1246) (by decide +kernel))
theorem k_1253 : (Jvm.Cond.fieldLink "HoopCabinetModel" (27 : Nat) "HoopCabinetModel" "faultPlace" "I") ∈ lw_tbl := List.mem_append_right _ (List.mem_of_getElem? (i := 1253) (by decide +kernel))
theorem k_1254 : (Jvm.Cond.fieldLink "HoopCabinetModel" (31 : Nat) "HoopCabinetModel" "fresh" "[I") ∈ lw_tbl := List.mem_append_right _ (List.mem_of_getElem? (i := 1254) (by decide +kernel))
theorem k_1255 : (Jvm.Cond.fieldLink "HoopCabinetModel" (34 : Nat) "HoopCabinetModel" "ways" "[I") ∈ lw_tbl := List.mem_append_right _ (List.mem_of_getElem? (i := 1255) (by decide +kernel))
theorem k_1258 : (Jvm.Cond.fieldLink "HoopCabinetModel" (37 : Nat) "HoopCabinetModel" "atBy" "[I") ∈ lw_tbl := List.mem_append_right _ (List.mem_of_getElem? (i := 1258) (by decide +kernel))
theorem k_1259 : (Jvm.Cond.fieldLink "HoopCabinetModel" (40 : Nat) "HoopCabinetModel" "underOf" "[I") ∈ lw_tbl := List.mem_append_right _ (List.mem_of_getElem? (i := 1259) (by decide +kernel))
theorem k_1260 : (Jvm.Cond.fieldLink "HoopCabinetModel" (43 : Nat) "HoopCabinetModel" "seatsOf" "[I") ∈ lw_tbl := List.mem_append_right _ (List.mem_of_getElem? (i := 1260) (by decide +kernel))
theorem k_1266 : (Jvm.Cond.fieldLink "HoopCabinetModel" (46 : Nat) "HoopCabinetModel" "haveAt" "[I") ∈ lw_tbl := List.mem_append_right _ (List.mem_of_getElem? (i := 1266) (by decide +kernel))
theorem k_1267 : (Jvm.Cond.fieldLink "HoopCabinetModel" (49 : Nat) "HoopCabinetModel" "getsAt" "[I") ∈ lw_tbl := List.mem_append_right _ (List.mem_of_getElem? (i := 1267) (by decide +kernel))
theorem k_1268 : (Jvm.Cond.fieldLink "HoopCabinetModel" (52 : Nat) "HoopCabinetModel" "giverOf" "[I") ∈ lw_tbl := List.mem_append_right _ (List.mem_of_getElem? (i := 1268) (by decide +kernel))
theorem k_1269 : (Jvm.Cond.fieldLink "HoopCabinetModel" (55 : Nat) "HoopCabinetModel" "canGive" "[Z") ∈ lw_tbl := List.mem_append_right _ (List.mem_of_getElem? (i := 1269) (by decide +kernel))
theorem k_1270 : (Jvm.Cond.fieldLink "HoopCabinetModel" (58 : Nat) "HoopCabinetModel" "walkRow" "[I") ∈ lw_tbl := List.mem_append_right _ (List.mem_of_getElem? (i := 1270) (by decide +kernel))
theorem k_1271 : (Jvm.Cond.fieldLink "HoopCabinetModel" (61 : Nat) "HoopCabinetModel" "getsBy" "[I") ∈ lw_tbl := List.mem_append_right _ (List.mem_of_getElem? (i := 1271) (by decide +kernel))
theorem k_1276 : (Jvm.Cond.fieldLink "HoopCabinetModel" (64 : Nat) "HoopCabinetModel" "many" "[I") ∈ lw_tbl := List.mem_append_right _ (List.mem_of_getElem? (i := 1276) (by decide +kernel))
theorem k_1277 : (Jvm.Cond.fieldLink "HoopCabinetModel" (67 : Nat) "HoopCabinetModel" "width" "[I") ∈ lw_tbl := List.mem_append_right _ (List.mem_of_getElem? (i := 1277) (by decide +kernel))
theorem k_1278 : (Jvm.Cond.fieldLink "HoopCabinetModel" (70 : Nat) "HoopCabinetModel" "numbers" "[J") ∈ lw_tbl := List.mem_append_right _ (List.mem_of_getElem? (i := 1278) (by decide +kernel))
theorem k_1279 : (Jvm.Cond.fieldLink "HoopCabinetModel" (74 : Nat) "HoopCabinetModel" "moving" "[J") ∈ lw_tbl := List.mem_append_right _ (List.mem_of_getElem? (i := 1279) (by decide +kernel))
theorem ff_X9_9 : FF RX9 9 9 0 15 := ⟨RX9, TX9, CI9, by decide, rfl, rfl, k_302⟩
theorem fp_X9_13 : FP RX9 13 9 1 15 := ⟨RX9, TX9, CI9, by decide, rfl, Or.inl k_303⟩
theorem ci_X9_19 : CIw RX9 19 M_X0_init 0 := ⟨⟨k_32, k_2, by decide +kernel, Or.inr ⟨_, k_30⟩⟩, rfl, k_31⟩
theorem ci_X0_11 : CIw RX0 11 M_X8_init 2 := ⟨⟨k_38, k_3, by decide +kernel, Or.inl k_36⟩, rfl, k_37⟩
theorem ff_X8_15 : FF RX8 15 8 1 4 := ⟨RX8, TX8, CI8, by decide, rfl, rfl, k_44⟩
theorem ff_X8_21 : FF RX8 21 8 2 4 := ⟨RX8, TX8, CI8, by decide, rfl, rfl, k_45⟩
theorem fg_X8_15 : FG RX8 15 8 1 4 := ⟨RX8, TX8, CI8, by decide, Or.inl k_44⟩
theorem fg_X8_21 : FG RX8 21 8 2 4 := ⟨RX8, TX8, CI8, by decide, Or.inl k_45⟩
theorem ff_X8_24 : FF RX8 24 8 0 4 := ⟨RX8, TX8, CI8, by decide, rfl, rfl, k_43⟩
theorem fp_X8_28 : FP RX8 28 8 3 4 := ⟨RX8, TX8, CI8, by decide, rfl, Or.inl k_46⟩
theorem ff_X0_14 : FF RX0 14 0 5 10 := ⟨RX0, TX0, CI0, by decide, rfl, rfl, k_82⟩
theorem ff_X0_20 : FF RX0 20 0 6 10 := ⟨RX0, TX0, CI0, by decide, rfl, rfl, k_86⟩
theorem ff_X0_23 : FF RX0 23 0 7 10 := ⟨RX0, TX0, CI0, by decide, rfl, rfl, k_92⟩
theorem ff_X0_26 : FF RX0 26 0 8 10 := ⟨RX0, TX0, CI0, by decide, rfl, rfl, k_95⟩
theorem ff_X0_29 : FF RX0 29 0 9 10 := ⟨RX0, TX0, CI0, by decide, rfl, rfl, k_99⟩
theorem ff_X9_20 : FF RX9 20 9 3 15 := ⟨RX9, TX9, CI9, by decide, rfl, rfl, k_305⟩
theorem ff_X9_24 : FF RX9 24 9 4 15 := ⟨RX9, TX9, CI9, by decide, rfl, rfl, k_306⟩
theorem fg_X9_9 : FG RX9 9 9 0 15 := ⟨RX9, TX9, CI9, by decide, Or.inl k_302⟩
theorem fg_X9_24 : FG RX9 24 9 4 15 := ⟨RX9, TX9, CI9, by decide, Or.inl k_306⟩
theorem ci_X9_29 : CIw RX9 29 M_X6_init 2 := ⟨⟨k_127, k_5, by decide +kernel, Or.inl k_125⟩, rfl, k_126⟩
theorem ff_X6_9 : FF RX6 9 6 0 8 := ⟨RX6, TX6, CI6, by decide, rfl, rfl, k_129⟩
theorem ff_X6_15 : FF RX6 15 6 1 8 := ⟨RX6, TX6, CI6, by decide, rfl, rfl, k_130⟩
theorem fp_X6_19 : FP RX6 19 6 7 8 := ⟨RX6, TX6, CI6, by decide, rfl, Or.inl k_137⟩
theorem ff_X9_32 : FF RX9 32 9 2 15 := ⟨RX9, TX9, CI9, by decide, rfl, rfl, k_304⟩
theorem ff_X9_36 : FF RX9 36 9 5 15 := ⟨RX9, TX9, CI9, by decide, rfl, rfl, k_307⟩
theorem ff_X9_40 : FF RX9 40 9 6 15 := ⟨RX9, TX9, CI9, by decide, rfl, rfl, k_308⟩
theorem fg_X9_36 : FG RX9 36 9 5 15 := ⟨RX9, TX9, CI9, by decide, Or.inl k_307⟩
theorem ff_X9_46 : FF RX9 46 9 7 15 := ⟨RX9, TX9, CI9, by decide, rfl, rfl, k_309⟩
theorem fg_X9_46 : FG RX9 46 9 7 15 := ⟨RX9, TX9, CI9, by decide, Or.inl k_309⟩
theorem ci_X9_50 : CIw RX9 50 M_X7_init 0 := ⟨⟨k_162, k_6, by decide +kernel, Or.inr ⟨_, k_160⟩⟩, rfl, k_161⟩
theorem ff_X7_11 : FF RX7 11 7 0 3 := ⟨RX7, TX7, CI7, by decide, rfl, rfl, k_164⟩
theorem fp_X7_15 : FP RX7 15 7 2 3 := ⟨RX7, TX7, CI7, by decide, rfl, Or.inl k_168⟩
theorem ci_X9_53 : CIw RX9 53 M_X2_init 0 := ⟨⟨k_183, k_7, by decide +kernel, Or.inr ⟨_, k_181⟩⟩, rfl, k_182⟩
theorem ff_X2_9 : FF RX2 9 2 0 8 := ⟨RX2, TX2, CI2, by decide, rfl, rfl, k_185⟩
theorem ff_X2_15 : FF RX2 15 2 1 8 := ⟨RX2, TX2, CI2, by decide, rfl, rfl, k_186⟩
theorem ff_X2_18 : FF RX2 18 2 2 8 := ⟨RX2, TX2, CI2, by decide, rfl, rfl, k_187⟩
theorem ff_X2_21 : FF RX2 21 2 3 8 := ⟨RX2, TX2, CI2, by decide, rfl, rfl, k_188⟩
theorem ff_X2_24 : FF RX2 24 2 4 8 := ⟨RX2, TX2, CI2, by decide, rfl, rfl, k_189⟩
theorem ff_X9_54 : FF RX9 54 9 8 15 := ⟨RX9, TX9, CI9, by decide, rfl, rfl, k_310⟩
theorem ff_X9_58 : FF RX9 58 9 9 15 := ⟨RX9, TX9, CI9, by decide, rfl, rfl, k_311⟩
theorem ci_X9_63 : CIw RX9 63 M_X5_init 0 := ⟨⟨k_214, k_8, by decide +kernel, Or.inr ⟨_, k_212⟩⟩, rfl, k_213⟩
theorem ff_X5_9 : FF RX5 9 5 0 6 := ⟨RX5, TX5, CI5, by decide, rfl, rfl, k_216⟩
theorem ff_X5_15 : FF RX5 15 5 1 6 := ⟨RX5, TX5, CI5, by decide, rfl, rfl, k_217⟩
theorem ff_X5_18 : FF RX5 18 5 2 6 := ⟨RX5, TX5, CI5, by decide, rfl, rfl, k_218⟩
theorem ff_X9_64 : FF RX9 64 9 10 15 := ⟨RX9, TX9, CI9, by decide, rfl, rfl, k_312⟩
theorem ci_X9_70 : CIw RX9 70 M_X1_init 0 := ⟨⟨k_241, k_9, by decide +kernel, Or.inr ⟨_, k_239⟩⟩, rfl, k_240⟩
theorem ff_X1_9 : FF RX1 9 1 0 8 := ⟨RX1, TX1, CI1, by decide, rfl, rfl, k_243⟩
theorem ff_X1_15 : FF RX1 15 1 1 8 := ⟨RX1, TX1, CI1, by decide, rfl, rfl, k_244⟩
theorem ff_X1_18 : FF RX1 18 1 2 8 := ⟨RX1, TX1, CI1, by decide, rfl, rfl, k_245⟩
theorem ff_X9_71 : FF RX9 71 9 11 15 := ⟨RX9, TX9, CI9, by decide, rfl, rfl, k_313⟩
theorem ci_X9_77 : CIw RX9 77 M_X3_init 0 := ⟨⟨k_272, k_10, by decide +kernel, Or.inr ⟨_, k_270⟩⟩, rfl, k_271⟩
theorem ff_X3_9 : FF RX3 9 3 0 3 := ⟨RX3, TX3, CI3, by decide, rfl, rfl, k_274⟩
theorem ff_X9_78 : FF RX9 78 9 12 15 := ⟨RX9, TX9, CI9, by decide, rfl, rfl, k_314⟩
theorem ci_X9_84 : CIw RX9 84 M_X4_init 0 := ⟨⟨k_289, k_11, by decide +kernel, Or.inr ⟨_, k_287⟩⟩, rfl, k_288⟩
theorem fp_X4_9 : FP RX4 9 4 0 3 := ⟨RX4, TX4, CI4, by decide, rfl, Or.inl k_291⟩
theorem fp_X4_15 : FP RX4 15 4 1 3 := ⟨RX4, TX4, CI4, by decide, rfl, Or.inl k_292⟩
theorem ff_X9_85 : FF RX9 85 9 13 15 := ⟨RX9, TX9, CI9, by decide, rfl, rfl, k_315⟩
theorem ff_X9_89 : FF RX9 89 9 14 15 := ⟨RX9, TX9, CI9, by decide, rfl, rfl, k_316⟩
theorem ff_X10_9 : FF RX10 9 10 1 40 := ⟨RX10, TX10, CI10, by decide, rfl, rfl, k_1241⟩
theorem ff_X10_13 : FF RX10 13 10 2 40 := ⟨RX10, TX10, CI10, by decide, rfl, rfl, k_1242⟩
theorem ff_X10_16 : FF RX10 16 10 3 40 := ⟨RX10, TX10, CI10, by decide, rfl, rfl, k_1243⟩
theorem ff_X10_20 : FF RX10 20 10 4 40 := ⟨RX10, TX10, CI10, by decide, rfl, rfl, k_1244⟩
theorem ff_X10_24 : FF RX10 24 10 6 40 := ⟨RX10, TX10, CI10, by decide, rfl, rfl, k_1246⟩
theorem fp_X10_27 : FP RX10 27 10 13 40 := ⟨RX10, TX10, CI10, by decide, rfl, Or.inl k_1253⟩
theorem ff_X10_31 : FF RX10 31 10 14 40 := ⟨RX10, TX10, CI10, by decide, rfl, rfl, k_1254⟩
theorem ff_X10_34 : FF RX10 34 10 15 40 := ⟨RX10, TX10, CI10, by decide, rfl, rfl, k_1255⟩
theorem ff_X10_37 : FF RX10 37 10 18 40 := ⟨RX10, TX10, CI10, by decide, rfl, rfl, k_1258⟩
theorem ff_X10_40 : FF RX10 40 10 19 40 := ⟨RX10, TX10, CI10, by decide, rfl, rfl, k_1259⟩
theorem ff_X10_43 : FF RX10 43 10 20 40 := ⟨RX10, TX10, CI10, by decide, rfl, rfl, k_1260⟩
theorem ff_X10_46 : FF RX10 46 10 26 40 := ⟨RX10, TX10, CI10, by decide, rfl, rfl, k_1266⟩
theorem ff_X10_49 : FF RX10 49 10 27 40 := ⟨RX10, TX10, CI10, by decide, rfl, rfl, k_1267⟩
theorem ff_X10_52 : FF RX10 52 10 28 40 := ⟨RX10, TX10, CI10, by decide, rfl, rfl, k_1268⟩
theorem ff_X10_55 : FF RX10 55 10 29 40 := ⟨RX10, TX10, CI10, by decide, rfl, rfl, k_1269⟩
theorem ff_X10_58 : FF RX10 58 10 30 40 := ⟨RX10, TX10, CI10, by decide, rfl, rfl, k_1270⟩
theorem ff_X10_61 : FF RX10 61 10 31 40 := ⟨RX10, TX10, CI10, by decide, rfl, rfl, k_1271⟩
theorem ff_X10_64 : FF RX10 64 10 36 40 := ⟨RX10, TX10, CI10, by decide, rfl, rfl, k_1276⟩
theorem ff_X10_67 : FF RX10 67 10 37 40 := ⟨RX10, TX10, CI10, by decide, rfl, rfl, k_1277⟩
theorem ff_X10_70 : FF RX10 70 10 38 40 := ⟨RX10, TX10, CI10, by decide, rfl, rfl, k_1278⟩
theorem ff_X10_74 : FF RX10 74 10 39 40 := ⟨RX10, TX10, CI10, by decide, rfl, rfl, k_1279⟩
end
section
theorem dX9_init_0 : decode cX9_init 0 = .ok (.aload_n 0, 1) := by decide +kernel
theorem dX9_init_1 : decode cX9_init 1 = .ok (.invokespecial 1, 3) := by decide +kernel
theorem dX9_init_4 : decode cX9_init 4 = .ok (.aload_n 0, 1) := by decide +kernel
theorem dX9_init_5 : decode cX9_init 5 = .ok (.sipush 1000, 3) := by decide +kernel
theorem dX9_init_8 : decode cX9_init 8 = .ok (.newarray .byte, 2) := by decide +kernel
theorem dX9_init_10 : decode cX9_init 10 = .ok (.putfield 9, 3) := by decide +kernel
theorem dX9_init_13 : decode cX9_init 13 = .ok (.aload_n 0, 1) := by decide +kernel
theorem dX9_init_14 : decode cX9_init 14 = .ok (.iconst 0, 1) := by decide +kernel
theorem dX9_init_15 : decode cX9_init 15 = .ok (.putfield 13, 3) := by decide +kernel
theorem dX9_init_18 : decode cX9_init 18 = .ok (.aload_n 0, 1) := by decide +kernel
theorem dX9_init_19 : decode cX9_init 19 = .ok (.new 17, 3) := by decide +kernel
theorem dX9_init_22 : decode cX9_init 22 = .ok (.dup, 1) := by decide +kernel
theorem dX9_init_23 : decode cX9_init 23 = .ok (.invokespecial 19, 3) := by decide +kernel
theorem dX0_init_0 : decode cX0_init 0 = .ok (.aload_n 0, 1) := by decide +kernel
theorem dX0_init_1 : decode cX0_init 1 = .ok (.invokespecial 3, 3) := by decide +kernel
theorem dX0_init_4 : decode cX0_init 4 = .ok (.aload_n 0, 1) := by decide +kernel
theorem dX0_init_5 : decode cX0_init 5 = .ok (.new 9, 3) := by decide +kernel
theorem dX0_init_8 : decode cX0_init 8 = .ok (.dup, 1) := by decide +kernel
theorem dX0_init_9 : decode cX0_init 9 = .ok (.bipush 12, 2) := by decide +kernel
theorem dX0_init_11 : decode cX0_init 11 = .ok (.iconst 3, 1) := by decide +kernel
theorem dX0_init_12 : decode cX0_init 12 = .ok (.invokespecial 11, 3) := by decide +kernel
theorem dX8_init_0 : decode cX8_init 0 = .ok (.aload_n 0, 1) := by decide +kernel
theorem dX8_init_1 : decode cX8_init 1 = .ok (.invokespecial 3, 3) := by decide +kernel
theorem dX8_init_4 : decode cX8_init 4 = .ok (.aload_n 0, 1) := by decide +kernel
theorem dX8_init_5 : decode cX8_init 5 = .ok (.iconst 0, 1) := by decide +kernel
theorem dX8_init_6 : decode cX8_init 6 = .ok (.iload_n 1, 1) := by decide +kernel
theorem dX8_init_7 : decode cX8_init 7 = .ok (.invokestatic 9, 3) := by decide +kernel
theorem dX8_init_10 : decode cX8_init 10 = .ok (.putfield 15, 3) := by decide +kernel
theorem dX8_init_13 : decode cX8_init 13 = .ok (.aload_n 0, 1) := by decide +kernel
theorem dX8_init_14 : decode cX8_init 14 = .ok (.iconst 0, 1) := by decide +kernel
theorem dX8_init_15 : decode cX8_init 15 = .ok (.iload_n 2, 1) := by decide +kernel
theorem dX8_init_16 : decode cX8_init 16 = .ok (.invokestatic 9, 3) := by decide +kernel
theorem dX8_init_19 : decode cX8_init 19 = .ok (.putfield 21, 3) := by decide +kernel
theorem dX8_init_22 : decode cX8_init 22 = .ok (.aload_n 0, 1) := by decide +kernel
theorem dX8_init_23 : decode cX8_init 23 = .ok (.aload_n 0, 1) := by decide +kernel
theorem dX8_init_24 : decode cX8_init 24 = .ok (.getfield 15, 3) := by decide +kernel
theorem dX8_init_27 : decode cX8_init 27 = .ok (.aload_n 0, 1) := by decide +kernel
theorem dX8_init_28 : decode cX8_init 28 = .ok (.getfield 21, 3) := by decide +kernel
theorem dX8_init_31 : decode cX8_init 31 = .ok (.imul, 1) := by decide +kernel
theorem dX8_init_32 : decode cX8_init 32 = .ok (.newarray .int, 2) := by decide +kernel
theorem dX8_init_34 : decode cX8_init 34 = .ok (.putfield 24, 3) := by decide +kernel
theorem dX8_init_37 : decode cX8_init 37 = .ok (.aload_n 0, 1) := by decide +kernel
theorem dX8_init_38 : decode cX8_init 38 = .ok (.iconst 0, 1) := by decide +kernel
theorem dX8_init_39 : decode cX8_init 39 = .ok (.putfield 28, 3) := by decide +kernel
theorem dX8_init_42 : decode cX8_init 42 = .ok (.return_, 1) := by decide +kernel
theorem dX0_init_15 : decode cX0_init 15 = .ok (.putfield 14, 3) := by decide +kernel
theorem dX0_init_18 : decode cX0_init 18 = .ok (.aload_n 0, 1) := by decide +kernel
theorem dX0_init_19 : decode cX0_init 19 = .ok (.new 9, 3) := by decide +kernel
theorem dX0_init_22 : decode cX0_init 22 = .ok (.dup, 1) := by decide +kernel
theorem dX0_init_23 : decode cX0_init 23 = .ok (.bipush 6, 2) := by decide +kernel
theorem dX0_init_25 : decode cX0_init 25 = .ok (.iconst 2, 1) := by decide +kernel
theorem dX0_init_26 : decode cX0_init 26 = .ok (.invokespecial 11, 3) := by decide +kernel
theorem dX0_init_29 : decode cX0_init 29 = .ok (.putfield 20, 3) := by decide +kernel
theorem dX0_init_32 : decode cX0_init 32 = .ok (.aload_n 0, 1) := by decide +kernel
theorem dX0_init_33 : decode cX0_init 33 = .ok (.new 9, 3) := by decide +kernel
theorem dX0_init_36 : decode cX0_init 36 = .ok (.dup, 1) := by decide +kernel
theorem dX0_init_37 : decode cX0_init 37 = .ok (.bipush 8, 2) := by decide +kernel
theorem dX0_init_39 : decode cX0_init 39 = .ok (.iconst 2, 1) := by decide +kernel
theorem dX0_init_40 : decode cX0_init 40 = .ok (.invokespecial 11, 3) := by decide +kernel
theorem dX0_init_43 : decode cX0_init 43 = .ok (.putfield 23, 3) := by decide +kernel
theorem dX0_init_46 : decode cX0_init 46 = .ok (.aload_n 0, 1) := by decide +kernel
theorem dX0_init_47 : decode cX0_init 47 = .ok (.new 9, 3) := by decide +kernel
theorem dX0_init_50 : decode cX0_init 50 = .ok (.dup, 1) := by decide +kernel
theorem dX0_init_51 : decode cX0_init 51 = .ok (.bipush 10, 2) := by decide +kernel
theorem dX0_init_53 : decode cX0_init 53 = .ok (.iconst 3, 1) := by decide +kernel
theorem dX0_init_54 : decode cX0_init 54 = .ok (.invokespecial 11, 3) := by decide +kernel
theorem dX0_init_57 : decode cX0_init 57 = .ok (.putfield 26, 3) := by decide +kernel
theorem dX0_init_60 : decode cX0_init 60 = .ok (.aload_n 0, 1) := by decide +kernel
theorem dX0_init_61 : decode cX0_init 61 = .ok (.new 9, 3) := by decide +kernel
theorem dX0_init_64 : decode cX0_init 64 = .ok (.dup, 1) := by decide +kernel
theorem dX0_init_65 : decode cX0_init 65 = .ok (.bipush 30, 2) := by decide +kernel
theorem dX0_init_67 : decode cX0_init 67 = .ok (.iconst 4, 1) := by decide +kernel
theorem dX0_init_68 : decode cX0_init 68 = .ok (.invokespecial 11, 3) := by decide +kernel
theorem dX0_init_71 : decode cX0_init 71 = .ok (.putfield 29, 3) := by decide +kernel
theorem dX0_init_74 : decode cX0_init 74 = .ok (.return_, 1) := by decide +kernel
theorem dX9_init_26 : decode cX9_init 26 = .ok (.putfield 20, 3) := by decide +kernel
theorem dX9_init_29 : decode cX9_init 29 = .ok (.aload_n 0, 1) := by decide +kernel
theorem dX9_init_30 : decode cX9_init 30 = .ok (.new 17, 3) := by decide +kernel
theorem dX9_init_33 : decode cX9_init 33 = .ok (.dup, 1) := by decide +kernel
theorem dX9_init_34 : decode cX9_init 34 = .ok (.invokespecial 19, 3) := by decide +kernel
theorem dX9_init_37 : decode cX9_init 37 = .ok (.putfield 24, 3) := by decide +kernel
theorem dX9_init_40 : decode cX9_init 40 = .ok (.aload_n 0, 1) := by decide +kernel
theorem dX9_init_41 : decode cX9_init 41 = .ok (.new 27, 3) := by decide +kernel
theorem dX9_init_44 : decode cX9_init 44 = .ok (.dup, 1) := by decide +kernel
theorem dX9_init_45 : decode cX9_init 45 = .ok (.aload_n 0, 1) := by decide +kernel
theorem dX9_init_46 : decode cX9_init 46 = .ok (.getfield 9, 3) := by decide +kernel
theorem dX9_init_49 : decode cX9_init 49 = .ok (.aload_n 0, 1) := by decide +kernel
theorem dX9_init_50 : decode cX9_init 50 = .ok (.getfield 24, 3) := by decide +kernel
theorem dX9_init_53 : decode cX9_init 53 = .ok (.invokespecial 29, 3) := by decide +kernel
theorem dX6_init_0 : decode cX6_init 0 = .ok (.aload_n 0, 1) := by decide +kernel
theorem dX6_init_1 : decode cX6_init 1 = .ok (.invokespecial 3, 3) := by decide +kernel
theorem dX6_init_4 : decode cX6_init 4 = .ok (.aload_n 0, 1) := by decide +kernel
theorem dX6_init_5 : decode cX6_init 5 = .ok (.aload_n 1, 1) := by decide +kernel
theorem dX6_init_6 : decode cX6_init 6 = .ok (.putfield 9, 3) := by decide +kernel
theorem dX6_init_9 : decode cX6_init 9 = .ok (.aload_n 0, 1) := by decide +kernel
theorem dX6_init_10 : decode cX6_init 10 = .ok (.aload_n 2, 1) := by decide +kernel
theorem dX6_init_11 : decode cX6_init 11 = .ok (.putfield 15, 3) := by decide +kernel
theorem dX6_init_14 : decode cX6_init 14 = .ok (.aload_n 0, 1) := by decide +kernel
theorem dX6_init_15 : decode cX6_init 15 = .ok (.iconst (-1), 1) := by decide +kernel
theorem dX6_init_16 : decode cX6_init 16 = .ok (.putfield 19, 3) := by decide +kernel
theorem dX6_init_19 : decode cX6_init 19 = .ok (.return_, 1) := by decide +kernel
theorem dX9_init_56 : decode cX9_init 56 = .ok (.putfield 32, 3) := by decide +kernel
theorem dX9_init_59 : decode cX9_init 59 = .ok (.aload_n 0, 1) := by decide +kernel
theorem dX9_init_60 : decode cX9_init 60 = .ok (.iconst 3, 1) := by decide +kernel
theorem dX9_init_61 : decode cX9_init 61 = .ok (.anewarray 17, 3) := by decide +kernel
theorem dX9_init_64 : decode cX9_init 64 = .ok (.putfield 36, 3) := by decide +kernel
theorem dX9_init_67 : decode cX9_init 67 = .ok (.aload_n 0, 1) := by decide +kernel
theorem dX9_init_68 : decode cX9_init 68 = .ok (.iconst 3, 1) := by decide +kernel
theorem dX9_init_69 : decode cX9_init 69 = .ok (.newarray .boolean, 2) := by decide +kernel
theorem dX9_init_71 : decode cX9_init 71 = .ok (.putfield 40, 3) := by decide +kernel
theorem dX9_init_74 : decode cX9_init 74 = .ok (.iconst 0, 1) := by decide +kernel
theorem dX9_init_75 : decode cX9_init 75 = .ok (.istore_n 1, 1) := by decide +kernel
theorem dX9_init_76 : decode cX9_init 76 = .ok (.iload_n 1, 1) := by decide +kernel
theorem dX9_init_77 : decode cX9_init 77 = .ok (.iconst 3, 1) := by decide +kernel
theorem dX9_init_78 : decode cX9_init 78 = .ok (.if_icmp .ge 22, 3) := by decide +kernel
theorem dX9_init_81 : decode cX9_init 81 = .ok (.aload_n 0, 1) := by decide +kernel
theorem dX9_init_82 : decode cX9_init 82 = .ok (.getfield 36, 3) := by decide +kernel
theorem dX9_init_85 : decode cX9_init 85 = .ok (.iload_n 1, 1) := by decide +kernel
theorem dX9_init_86 : decode cX9_init 86 = .ok (.new 17, 3) := by decide +kernel
theorem dX9_init_89 : decode cX9_init 89 = .ok (.dup, 1) := by decide +kernel
theorem dX9_init_90 : decode cX9_init 90 = .ok (.invokespecial 19, 3) := by decide +kernel
theorem dX9_init_93 : decode cX9_init 93 = .ok (.aastore, 1) := by decide +kernel
theorem dX9_init_94 : decode cX9_init 94 = .ok (.iinc 1 1, 3) := by decide +kernel
theorem dX9_init_97 : decode cX9_init 97 = .ok (.goto (-21), 3) := by decide +kernel
theorem dX9_init_100 : decode cX9_init 100 = .ok (.aload_n 0, 1) := by decide +kernel
theorem dX9_init_101 : decode cX9_init 101 = .ok (.iconst 4, 1) := by decide +kernel
theorem dX9_init_102 : decode cX9_init 102 = .ok (.anewarray 44, 3) := by decide +kernel
theorem dX9_init_105 : decode cX9_init 105 = .ok (.putfield 46, 3) := by decide +kernel
theorem dX9_init_108 : decode cX9_init 108 = .ok (.iconst 0, 1) := by decide +kernel
theorem dX9_init_109 : decode cX9_init 109 = .ok (.istore_n 1, 1) := by decide +kernel
theorem dX9_init_110 : decode cX9_init 110 = .ok (.iload_n 1, 1) := by decide +kernel
theorem dX9_init_111 : decode cX9_init 111 = .ok (.iconst 4, 1) := by decide +kernel
theorem dX9_init_112 : decode cX9_init 112 = .ok (.if_icmp .ge 22, 3) := by decide +kernel
theorem dX9_init_115 : decode cX9_init 115 = .ok (.aload_n 0, 1) := by decide +kernel
theorem dX9_init_116 : decode cX9_init 116 = .ok (.getfield 46, 3) := by decide +kernel
theorem dX9_init_119 : decode cX9_init 119 = .ok (.iload_n 1, 1) := by decide +kernel
theorem dX9_init_120 : decode cX9_init 120 = .ok (.new 44, 3) := by decide +kernel
theorem dX9_init_123 : decode cX9_init 123 = .ok (.dup, 1) := by decide +kernel
theorem dX9_init_124 : decode cX9_init 124 = .ok (.invokespecial 50, 3) := by decide +kernel
theorem dX7_init_0 : decode cX7_init 0 = .ok (.aload_n 0, 1) := by decide +kernel
theorem dX7_init_1 : decode cX7_init 1 = .ok (.invokespecial 3, 3) := by decide +kernel
theorem dX7_init_4 : decode cX7_init 4 = .ok (.aload_n 0, 1) := by decide +kernel
theorem dX7_init_5 : decode cX7_init 5 = .ok (.bipush 60, 2) := by decide +kernel
theorem dX7_init_7 : decode cX7_init 7 = .ok (.newarray .long, 2) := by decide +kernel
theorem dX7_init_9 : decode cX7_init 9 = .ok (.putfield 11, 3) := by decide +kernel
theorem dX7_init_12 : decode cX7_init 12 = .ok (.aload_n 0, 1) := by decide +kernel
theorem dX7_init_13 : decode cX7_init 13 = .ok (.iconst (-1), 1) := by decide +kernel
theorem dX7_init_14 : decode cX7_init 14 = .ok (.putfield 15, 3) := by decide +kernel
theorem dX7_init_17 : decode cX7_init 17 = .ok (.return_, 1) := by decide +kernel
theorem dX9_init_127 : decode cX9_init 127 = .ok (.aastore, 1) := by decide +kernel
theorem dX9_init_128 : decode cX9_init 128 = .ok (.iinc 1 1, 3) := by decide +kernel
theorem dX9_init_131 : decode cX9_init 131 = .ok (.goto (-21), 3) := by decide +kernel
theorem dX9_init_134 : decode cX9_init 134 = .ok (.aload_n 0, 1) := by decide +kernel
theorem dX9_init_135 : decode cX9_init 135 = .ok (.new 51, 3) := by decide +kernel
theorem dX9_init_138 : decode cX9_init 138 = .ok (.dup, 1) := by decide +kernel
theorem dX9_init_139 : decode cX9_init 139 = .ok (.invokespecial 53, 3) := by decide +kernel
theorem dX2_init_0 : decode cX2_init 0 = .ok (.aload_n 0, 1) := by decide +kernel
theorem dX2_init_1 : decode cX2_init 1 = .ok (.invokespecial 3, 3) := by decide +kernel
theorem dX2_init_4 : decode cX2_init 4 = .ok (.aload_n 0, 1) := by decide +kernel
theorem dX2_init_5 : decode cX2_init 5 = .ok (.bipush 48, 2) := by decide +kernel
theorem dX2_init_7 : decode cX2_init 7 = .ok (.newarray .int, 2) := by decide +kernel
theorem dX2_init_9 : decode cX2_init 9 = .ok (.putfield 9, 3) := by decide +kernel
theorem dX2_init_12 : decode cX2_init 12 = .ok (.aload_n 0, 1) := by decide +kernel
theorem dX2_init_13 : decode cX2_init 13 = .ok (.bipush 90, 2) := by decide +kernel
theorem dX2_init_15 : decode cX2_init 15 = .ok (.newarray .int, 2) := by decide +kernel
theorem dX2_init_17 : decode cX2_init 17 = .ok (.putfield 15, 3) := by decide +kernel
theorem dX2_init_20 : decode cX2_init 20 = .ok (.aload_n 0, 1) := by decide +kernel
theorem dX2_init_21 : decode cX2_init 21 = .ok (.bipush 90, 2) := by decide +kernel
theorem dX2_init_23 : decode cX2_init 23 = .ok (.newarray .int, 2) := by decide +kernel
theorem dX2_init_25 : decode cX2_init 25 = .ok (.putfield 18, 3) := by decide +kernel
theorem dX2_init_28 : decode cX2_init 28 = .ok (.aload_n 0, 1) := by decide +kernel
theorem dX2_init_29 : decode cX2_init 29 = .ok (.bipush 90, 2) := by decide +kernel
theorem dX2_init_31 : decode cX2_init 31 = .ok (.newarray .int, 2) := by decide +kernel
theorem dX2_init_33 : decode cX2_init 33 = .ok (.putfield 21, 3) := by decide +kernel
theorem dX2_init_36 : decode cX2_init 36 = .ok (.aload_n 0, 1) := by decide +kernel
theorem dX2_init_37 : decode cX2_init 37 = .ok (.bipush 90, 2) := by decide +kernel
theorem dX2_init_39 : decode cX2_init 39 = .ok (.newarray .int, 2) := by decide +kernel
theorem dX2_init_41 : decode cX2_init 41 = .ok (.putfield 24, 3) := by decide +kernel
theorem dX2_init_44 : decode cX2_init 44 = .ok (.return_, 1) := by decide +kernel
theorem dX9_init_142 : decode cX9_init 142 = .ok (.putfield 54, 3) := by decide +kernel
theorem dX9_init_145 : decode cX9_init 145 = .ok (.aload_n 0, 1) := by decide +kernel
theorem dX9_init_146 : decode cX9_init 146 = .ok (.new 51, 3) := by decide +kernel
theorem dX9_init_149 : decode cX9_init 149 = .ok (.dup, 1) := by decide +kernel
theorem dX9_init_150 : decode cX9_init 150 = .ok (.invokespecial 53, 3) := by decide +kernel
theorem dX9_init_153 : decode cX9_init 153 = .ok (.putfield 58, 3) := by decide +kernel
theorem dX9_init_156 : decode cX9_init 156 = .ok (.aload_n 0, 1) := by decide +kernel
theorem dX9_init_157 : decode cX9_init 157 = .ok (.new 61, 3) := by decide +kernel
theorem dX9_init_160 : decode cX9_init 160 = .ok (.dup, 1) := by decide +kernel
theorem dX9_init_161 : decode cX9_init 161 = .ok (.invokespecial 63, 3) := by decide +kernel
theorem dX5_init_0 : decode cX5_init 0 = .ok (.aload_n 0, 1) := by decide +kernel
theorem dX5_init_1 : decode cX5_init 1 = .ok (.invokespecial 3, 3) := by decide +kernel
theorem dX5_init_4 : decode cX5_init 4 = .ok (.aload_n 0, 1) := by decide +kernel
theorem dX5_init_5 : decode cX5_init 5 = .ok (.bipush 6, 2) := by decide +kernel
theorem dX5_init_7 : decode cX5_init 7 = .ok (.newarray .int, 2) := by decide +kernel
theorem dX5_init_9 : decode cX5_init 9 = .ok (.putfield 9, 3) := by decide +kernel
theorem dX5_init_12 : decode cX5_init 12 = .ok (.aload_n 0, 1) := by decide +kernel
theorem dX5_init_13 : decode cX5_init 13 = .ok (.bipush 6, 2) := by decide +kernel
theorem dX5_init_15 : decode cX5_init 15 = .ok (.newarray .int, 2) := by decide +kernel
theorem dX5_init_17 : decode cX5_init 17 = .ok (.putfield 15, 3) := by decide +kernel
theorem dX5_init_20 : decode cX5_init 20 = .ok (.aload_n 0, 1) := by decide +kernel
theorem dX5_init_21 : decode cX5_init 21 = .ok (.bipush 15, 2) := by decide +kernel
theorem dX5_init_23 : decode cX5_init 23 = .ok (.newarray .int, 2) := by decide +kernel
theorem dX5_init_25 : decode cX5_init 25 = .ok (.putfield 18, 3) := by decide +kernel
theorem dX5_init_28 : decode cX5_init 28 = .ok (.return_, 1) := by decide +kernel
theorem dX9_init_164 : decode cX9_init 164 = .ok (.putfield 64, 3) := by decide +kernel
theorem dX9_init_167 : decode cX9_init 167 = .ok (.aload_n 0, 1) := by decide +kernel
theorem dX9_init_168 : decode cX9_init 168 = .ok (.new 68, 3) := by decide +kernel
theorem dX9_init_171 : decode cX9_init 171 = .ok (.dup, 1) := by decide +kernel
theorem dX9_init_172 : decode cX9_init 172 = .ok (.invokespecial 70, 3) := by decide +kernel
theorem dX1_init_0 : decode cX1_init 0 = .ok (.aload_n 0, 1) := by decide +kernel
theorem dX1_init_1 : decode cX1_init 1 = .ok (.invokespecial 3, 3) := by decide +kernel
theorem dX1_init_4 : decode cX1_init 4 = .ok (.aload_n 0, 1) := by decide +kernel
theorem dX1_init_5 : decode cX1_init 5 = .ok (.bipush 15, 2) := by decide +kernel
theorem dX1_init_7 : decode cX1_init 7 = .ok (.newarray .int, 2) := by decide +kernel
theorem dX1_init_9 : decode cX1_init 9 = .ok (.putfield 9, 3) := by decide +kernel
theorem dX1_init_12 : decode cX1_init 12 = .ok (.aload_n 0, 1) := by decide +kernel
theorem dX1_init_13 : decode cX1_init 13 = .ok (.bipush 15, 2) := by decide +kernel
theorem dX1_init_15 : decode cX1_init 15 = .ok (.newarray .int, 2) := by decide +kernel
theorem dX1_init_17 : decode cX1_init 17 = .ok (.putfield 15, 3) := by decide +kernel
theorem dX1_init_20 : decode cX1_init 20 = .ok (.aload_n 0, 1) := by decide +kernel
theorem dX1_init_21 : decode cX1_init 21 = .ok (.bipush 15, 2) := by decide +kernel
theorem dX1_init_23 : decode cX1_init 23 = .ok (.newarray .int, 2) := by decide +kernel
theorem dX1_init_25 : decode cX1_init 25 = .ok (.putfield 18, 3) := by decide +kernel
theorem dX1_init_28 : decode cX1_init 28 = .ok (.return_, 1) := by decide +kernel
theorem dX9_init_175 : decode cX9_init 175 = .ok (.putfield 71, 3) := by decide +kernel
theorem dX9_init_178 : decode cX9_init 178 = .ok (.aload_n 0, 1) := by decide +kernel
theorem dX9_init_179 : decode cX9_init 179 = .ok (.new 75, 3) := by decide +kernel
theorem dX9_init_182 : decode cX9_init 182 = .ok (.dup, 1) := by decide +kernel
theorem dX9_init_183 : decode cX9_init 183 = .ok (.invokespecial 77, 3) := by decide +kernel
theorem dX3_init_0 : decode cX3_init 0 = .ok (.aload_n 0, 1) := by decide +kernel
theorem dX3_init_1 : decode cX3_init 1 = .ok (.invokespecial 3, 3) := by decide +kernel
theorem dX3_init_4 : decode cX3_init 4 = .ok (.aload_n 0, 1) := by decide +kernel
theorem dX3_init_5 : decode cX3_init 5 = .ok (.bipush 6, 2) := by decide +kernel
theorem dX3_init_7 : decode cX3_init 7 = .ok (.newarray .int, 2) := by decide +kernel
theorem dX3_init_9 : decode cX3_init 9 = .ok (.putfield 9, 3) := by decide +kernel
theorem dX3_init_12 : decode cX3_init 12 = .ok (.return_, 1) := by decide +kernel
theorem dX9_init_186 : decode cX9_init 186 = .ok (.putfield 78, 3) := by decide +kernel
theorem dX9_init_189 : decode cX9_init 189 = .ok (.aload_n 0, 1) := by decide +kernel
theorem dX9_init_190 : decode cX9_init 190 = .ok (.new 82, 3) := by decide +kernel
theorem dX9_init_193 : decode cX9_init 193 = .ok (.dup, 1) := by decide +kernel
theorem dX9_init_194 : decode cX9_init 194 = .ok (.invokespecial 84, 3) := by decide +kernel
theorem dX4_init_0 : decode cX4_init 0 = .ok (.aload_n 0, 1) := by decide +kernel
theorem dX4_init_1 : decode cX4_init 1 = .ok (.invokespecial 3, 3) := by decide +kernel
theorem dX4_init_4 : decode cX4_init 4 = .ok (.aload_n 0, 1) := by decide +kernel
theorem dX4_init_5 : decode cX4_init 5 = .ok (.bipush 64, 2) := by decide +kernel
theorem dX4_init_7 : decode cX4_init 7 = .ok (.newarray .long, 2) := by decide +kernel
theorem dX4_init_9 : decode cX4_init 9 = .ok (.putfield 9, 3) := by decide +kernel
theorem dX4_init_12 : decode cX4_init 12 = .ok (.aload_n 0, 1) := by decide +kernel
theorem dX4_init_13 : decode cX4_init 13 = .ok (.bipush 64, 2) := by decide +kernel
theorem dX4_init_15 : decode cX4_init 15 = .ok (.newarray .long, 2) := by decide +kernel
theorem dX4_init_17 : decode cX4_init 17 = .ok (.putfield 15, 3) := by decide +kernel
theorem dX4_init_20 : decode cX4_init 20 = .ok (.return_, 1) := by decide +kernel
theorem dX9_init_197 : decode cX9_init 197 = .ok (.putfield 85, 3) := by decide +kernel
theorem dX9_init_200 : decode cX9_init 200 = .ok (.aload_n 0, 1) := by decide +kernel
theorem dX9_init_201 : decode cX9_init 201 = .ok (.bipush 16, 2) := by decide +kernel
theorem dX9_init_203 : decode cX9_init 203 = .ok (.newarray .int, 2) := by decide +kernel
theorem dX9_init_205 : decode cX9_init 205 = .ok (.putfield 89, 3) := by decide +kernel
theorem dX9_init_208 : decode cX9_init 208 = .ok (.return_, 1) := by decide +kernel
theorem dX10_init_0 : decode cX10_init 0 = .ok (.aload_n 0, 1) := by decide +kernel
theorem dX10_init_1 : decode cX10_init 1 = .ok (.invokespecial 3, 3) := by decide +kernel
theorem dX10_init_4 : decode cX10_init 4 = .ok (.aload_n 0, 1) := by decide +kernel
theorem dX10_init_5 : decode cX10_init 5 = .ok (.sipush 134, 3) := by decide +kernel
theorem dX10_init_8 : decode cX10_init 8 = .ok (.newarray .int, 2) := by decide +kernel
theorem dX10_init_10 : decode cX10_init 10 = .ok (.putfield 9, 3) := by decide +kernel
theorem dX10_init_13 : decode cX10_init 13 = .ok (.aload_n 0, 1) := by decide +kernel
theorem dX10_init_14 : decode cX10_init 14 = .ok (.sipush 402, 3) := by decide +kernel
theorem dX10_init_17 : decode cX10_init 17 = .ok (.newarray .int, 2) := by decide +kernel
theorem dX10_init_19 : decode cX10_init 19 = .ok (.putfield 13, 3) := by decide +kernel
theorem dX10_init_22 : decode cX10_init 22 = .ok (.aload_n 0, 1) := by decide +kernel
theorem dX10_init_23 : decode cX10_init 23 = .ok (.iconst 3, 1) := by decide +kernel
theorem dX10_init_24 : decode cX10_init 24 = .ok (.newarray .boolean, 2) := by decide +kernel
theorem dX10_init_26 : decode cX10_init 26 = .ok (.putfield 16, 3) := by decide +kernel
theorem dX10_init_29 : decode cX10_init 29 = .ok (.aload_n 0, 1) := by decide +kernel
theorem dX10_init_30 : decode cX10_init 30 = .ok (.sipush 1000, 3) := by decide +kernel
theorem dX10_init_33 : decode cX10_init 33 = .ok (.newarray .byte, 2) := by decide +kernel
theorem dX10_init_35 : decode cX10_init 35 = .ok (.putfield 20, 3) := by decide +kernel
theorem dX10_init_38 : decode cX10_init 38 = .ok (.aload_n 0, 1) := by decide +kernel
theorem dX10_init_39 : decode cX10_init 39 = .ok (.iconst 5, 1) := by decide +kernel
theorem dX10_init_40 : decode cX10_init 40 = .ok (.newarray .int, 2) := by decide +kernel
theorem dX10_init_42 : decode cX10_init 42 = .ok (.putfield 24, 3) := by decide +kernel
theorem dX10_init_45 : decode cX10_init 45 = .ok (.aload_n 0, 1) := by decide +kernel
theorem dX10_init_46 : decode cX10_init 46 = .ok (.iconst (-1), 1) := by decide +kernel
theorem dX10_init_47 : decode cX10_init 47 = .ok (.putfield 27, 3) := by decide +kernel
theorem dX10_init_50 : decode cX10_init 50 = .ok (.aload_n 0, 1) := by decide +kernel
theorem dX10_init_51 : decode cX10_init 51 = .ok (.sipush 134, 3) := by decide +kernel
theorem dX10_init_54 : decode cX10_init 54 = .ok (.newarray .int, 2) := by decide +kernel
theorem dX10_init_56 : decode cX10_init 56 = .ok (.putfield 31, 3) := by decide +kernel
theorem dX10_init_59 : decode cX10_init 59 = .ok (.aload_n 0, 1) := by decide +kernel
theorem dX10_init_60 : decode cX10_init 60 = .ok (.sipush 640, 3) := by decide +kernel
theorem dX10_init_63 : decode cX10_init 63 = .ok (.newarray .int, 2) := by decide +kernel
theorem dX10_init_65 : decode cX10_init 65 = .ok (.putfield 34, 3) := by decide +kernel
theorem dX10_init_68 : decode cX10_init 68 = .ok (.aload_n 0, 1) := by decide +kernel
theorem dX10_init_69 : decode cX10_init 69 = .ok (.bipush 90, 2) := by decide +kernel
theorem dX10_init_71 : decode cX10_init 71 = .ok (.newarray .int, 2) := by decide +kernel
theorem dX10_init_73 : decode cX10_init 73 = .ok (.putfield 37, 3) := by decide +kernel
theorem dX10_init_76 : decode cX10_init 76 = .ok (.aload_n 0, 1) := by decide +kernel
theorem dX10_init_77 : decode cX10_init 77 = .ok (.bipush 8, 2) := by decide +kernel
theorem dX10_init_79 : decode cX10_init 79 = .ok (.newarray .int, 2) := by decide +kernel
theorem dX10_init_81 : decode cX10_init 81 = .ok (.putfield 40, 3) := by decide +kernel
theorem dX10_init_84 : decode cX10_init 84 = .ok (.aload_n 0, 1) := by decide +kernel
theorem dX10_init_85 : decode cX10_init 85 = .ok (.bipush 6, 2) := by decide +kernel
theorem dX10_init_87 : decode cX10_init 87 = .ok (.newarray .int, 2) := by decide +kernel
theorem dX10_init_89 : decode cX10_init 89 = .ok (.putfield 43, 3) := by decide +kernel
theorem dX10_init_92 : decode cX10_init 92 = .ok (.aload_n 0, 1) := by decide +kernel
theorem dX10_init_93 : decode cX10_init 93 = .ok (.bipush 15, 2) := by decide +kernel
theorem dX10_init_95 : decode cX10_init 95 = .ok (.newarray .int, 2) := by decide +kernel
theorem dX10_init_97 : decode cX10_init 97 = .ok (.putfield 46, 3) := by decide +kernel
theorem dX10_init_100 : decode cX10_init 100 = .ok (.aload_n 0, 1) := by decide +kernel
theorem dX10_init_101 : decode cX10_init 101 = .ok (.bipush 6, 2) := by decide +kernel
theorem dX10_init_103 : decode cX10_init 103 = .ok (.newarray .int, 2) := by decide +kernel
theorem dX10_init_105 : decode cX10_init 105 = .ok (.putfield 49, 3) := by decide +kernel
theorem dX10_init_108 : decode cX10_init 108 = .ok (.aload_n 0, 1) := by decide +kernel
theorem dX10_init_109 : decode cX10_init 109 = .ok (.bipush 6, 2) := by decide +kernel
theorem dX10_init_111 : decode cX10_init 111 = .ok (.newarray .int, 2) := by decide +kernel
theorem dX10_init_113 : decode cX10_init 113 = .ok (.putfield 52, 3) := by decide +kernel
theorem dX10_init_116 : decode cX10_init 116 = .ok (.aload_n 0, 1) := by decide +kernel
theorem dX10_init_117 : decode cX10_init 117 = .ok (.sipush 256, 3) := by decide +kernel
theorem dX10_init_120 : decode cX10_init 120 = .ok (.newarray .boolean, 2) := by decide +kernel
theorem dX10_init_122 : decode cX10_init 122 = .ok (.putfield 55, 3) := by decide +kernel
theorem dX10_init_125 : decode cX10_init 125 = .ok (.aload_n 0, 1) := by decide +kernel
theorem dX10_init_126 : decode cX10_init 126 = .ok (.bipush 15, 2) := by decide +kernel
theorem dX10_init_128 : decode cX10_init 128 = .ok (.newarray .int, 2) := by decide +kernel
theorem dX10_init_130 : decode cX10_init 130 = .ok (.putfield 58, 3) := by decide +kernel
theorem dX10_init_133 : decode cX10_init 133 = .ok (.aload_n 0, 1) := by decide +kernel
theorem dX10_init_134 : decode cX10_init 134 = .ok (.bipush 36, 2) := by decide +kernel
theorem dX10_init_136 : decode cX10_init 136 = .ok (.newarray .int, 2) := by decide +kernel
theorem dX10_init_138 : decode cX10_init 138 = .ok (.putfield 61, 3) := by decide +kernel
theorem dX10_init_141 : decode cX10_init 141 = .ok (.aload_n 0, 1) := by decide +kernel
theorem dX10_init_142 : decode cX10_init 142 = .ok (.iconst 4, 1) := by decide +kernel
theorem dX10_init_143 : decode cX10_init 143 = .ok (.newarray .int, 2) := by decide +kernel
theorem dX10_init_145 : decode cX10_init 145 = .ok (.dup, 1) := by decide +kernel
theorem dX10_init_146 : decode cX10_init 146 = .ok (.iconst 0, 1) := by decide +kernel
theorem dX10_init_147 : decode cX10_init 147 = .ok (.iconst (-1), 1) := by decide +kernel
theorem dX10_init_148 : decode cX10_init 148 = .ok (.iastore, 1) := by decide +kernel
theorem dX10_init_149 : decode cX10_init 149 = .ok (.dup, 1) := by decide +kernel
theorem dX10_init_150 : decode cX10_init 150 = .ok (.iconst 1, 1) := by decide +kernel
theorem dX10_init_151 : decode cX10_init 151 = .ok (.iconst (-1), 1) := by decide +kernel
theorem dX10_init_152 : decode cX10_init 152 = .ok (.iastore, 1) := by decide +kernel
theorem dX10_init_153 : decode cX10_init 153 = .ok (.dup, 1) := by decide +kernel
theorem dX10_init_154 : decode cX10_init 154 = .ok (.iconst 2, 1) := by decide +kernel
theorem dX10_init_155 : decode cX10_init 155 = .ok (.iconst (-1), 1) := by decide +kernel
theorem dX10_init_156 : decode cX10_init 156 = .ok (.iastore, 1) := by decide +kernel
theorem dX10_init_157 : decode cX10_init 157 = .ok (.dup, 1) := by decide +kernel
theorem dX10_init_158 : decode cX10_init 158 = .ok (.iconst 3, 1) := by decide +kernel
theorem dX10_init_159 : decode cX10_init 159 = .ok (.iconst (-1), 1) := by decide +kernel
theorem dX10_init_160 : decode cX10_init 160 = .ok (.iastore, 1) := by decide +kernel
theorem dX10_init_161 : decode cX10_init 161 = .ok (.putfield 64, 3) := by decide +kernel
theorem dX10_init_164 : decode cX10_init 164 = .ok (.aload_n 0, 1) := by decide +kernel
theorem dX10_init_165 : decode cX10_init 165 = .ok (.iconst 4, 1) := by decide +kernel
theorem dX10_init_166 : decode cX10_init 166 = .ok (.newarray .int, 2) := by decide +kernel
theorem dX10_init_168 : decode cX10_init 168 = .ok (.putfield 67, 3) := by decide +kernel
theorem dX10_init_171 : decode cX10_init 171 = .ok (.aload_n 0, 1) := by decide +kernel
theorem dX10_init_172 : decode cX10_init 172 = .ok (.sipush 240, 3) := by decide +kernel
theorem dX10_init_175 : decode cX10_init 175 = .ok (.newarray .long, 2) := by decide +kernel
theorem dX10_init_177 : decode cX10_init 177 = .ok (.putfield 70, 3) := by decide +kernel
theorem dX10_init_180 : decode cX10_init 180 = .ok (.aload_n 0, 1) := by decide +kernel
theorem dX10_init_181 : decode cX10_init 181 = .ok (.bipush 60, 2) := by decide +kernel
theorem dX10_init_183 : decode cX10_init 183 = .ok (.newarray .long, 2) := by decide +kernel
theorem dX10_init_185 : decode cX10_init 185 = .ok (.putfield 74, 3) := by decide +kernel
theorem dX10_init_188 : decode cX10_init 188 = .ok (.return_, 1) := by decide +kernel
end
section
def w00 : XW := (0, fun _ _ => 0, fun _ _ => 0, fun _ _ => 0)
def wv_1 : XW := nwW w00
def wv_2 : XW := nwW wv_1
def wv_3 : XW := upR wv_2 0 0 2
def wv_4 : XW := upI wv_3 0 1 0
def wv_5 : XW := nwW wv_4
def wv_6 : XW := nwW wv_5
def wv_7 : XW := upI wv_6 3 1 12
def wv_8 : XW := upI wv_7 3 2 3
def wv_9 : XW := nwW wv_8
def wv_10 : XW := upR wv_9 3 0 5
def wv_11 : XW := upI wv_10 3 3 0
def wv_12 : XW := upR wv_11 2 5 4
def wv_13 : XW := nwW wv_12
def wv_14 : XW := upI wv_13 5 1 6
def wv_15 : XW := upI wv_14 5 2 2
def wv_16 : XW := nwW wv_15
def wv_17 : XW := upR wv_16 5 0 7
def wv_18 : XW := upI wv_17 5 3 0
def wv_19 : XW := upR wv_18 2 6 6
def wv_20 : XW := nwW wv_19
def wv_21 : XW := upI wv_20 7 1 8
def wv_22 : XW := upI wv_21 7 2 2
def wv_23 : XW := nwW wv_22
def wv_24 : XW := upR wv_23 7 0 9
def wv_25 : XW := upI wv_24 7 3 0
def wv_26 : XW := upR wv_25 2 7 8
def wv_27 : XW := nwW wv_26
def wv_28 : XW := upI wv_27 9 1 10
def wv_29 : XW := upI wv_28 9 2 3
def wv_30 : XW := nwW wv_29
def wv_31 : XW := upR wv_30 9 0 11
def wv_32 : XW := upI wv_31 9 3 0
def wv_33 : XW := upR wv_32 2 8 10
def wv_34 : XW := nwW wv_33
def wv_35 : XW := upI wv_34 11 1 30
def wv_36 : XW := upI wv_35 11 2 4
def wv_37 : XW := nwW wv_36
def wv_38 : XW := upR wv_37 11 0 13
def wv_39 : XW := upI wv_38 11 3 0
def wv_40 : XW := upR wv_39 2 9 12
def wv_41 : XW := upR wv_40 0 3 3
def wv_42 : XW := nwW wv_41
def wv_43 : XW := nwW wv_42
def wv_44 : XW := upI wv_43 14 1 12
def wv_45 : XW := upI wv_44 14 2 3
def wv_46 : XW := nwW wv_45
def wv_47 : XW := upR wv_46 14 0 16
def wv_48 : XW := upI wv_47 14 3 0
def wv_49 : XW := upR wv_48 13 5 15
def wv_50 : XW := nwW wv_49
def wv_51 : XW := upI wv_50 16 1 6
def wv_52 : XW := upI wv_51 16 2 2
def wv_53 : XW := nwW wv_52
def wv_54 : XW := upR wv_53 16 0 18
def wv_55 : XW := upI wv_54 16 3 0
def wv_56 : XW := upR wv_55 13 6 17
def wv_57 : XW := nwW wv_56
def wv_58 : XW := upI wv_57 18 1 8
def wv_59 : XW := upI wv_58 18 2 2
def wv_60 : XW := nwW wv_59
def wv_61 : XW := upR wv_60 18 0 20
def wv_62 : XW := upI wv_61 18 3 0
def wv_63 : XW := upR wv_62 13 7 19
def wv_64 : XW := nwW wv_63
def wv_65 : XW := upI wv_64 20 1 10
def wv_66 : XW := upI wv_65 20 2 3
def wv_67 : XW := nwW wv_66
def wv_68 : XW := upR wv_67 20 0 22
def wv_69 : XW := upI wv_68 20 3 0
def wv_70 : XW := upR wv_69 13 8 21
def wv_71 : XW := nwW wv_70
def wv_72 : XW := upI wv_71 22 1 30
def wv_73 : XW := upI wv_72 22 2 4
def wv_74 : XW := nwW wv_73
def wv_75 : XW := upR wv_74 22 0 24
def wv_76 : XW := upI wv_75 22 3 0
def wv_77 : XW := upR wv_76 13 9 23
def wv_78 : XW := upR wv_77 0 4 14
def wv_79 : XW := nwW wv_78
def wv_80 : XW := upR wv_79 24 0 2
def wv_81 : XW := upR wv_80 24 1 14
def wv_82 : XW := upI wv_81 24 7 (-1)
def wv_83 : XW := upR wv_82 0 2 25
def wv_84 : XW := nwW wv_83
def wv_85 : XW := upR wv_84 0 5 26
def wv_86 : XW := nwW wv_85
def wv_87 : XW := upR wv_86 0 6 27
def wv_88 : XW := nwW wv_87
def wv_89 : XW := nwW wv_88
def wv_90 : XW := upI wv_89 28 1 12
def wv_91 : XW := upI wv_90 28 2 3
def wv_92 : XW := nwW wv_91
def wv_93 : XW := upR wv_92 28 0 30
def wv_94 : XW := upI wv_93 28 3 0
def wv_95 : XW := upR wv_94 27 5 29
def wv_96 : XW := nwW wv_95
def wv_97 : XW := upI wv_96 30 1 6
def wv_98 : XW := upI wv_97 30 2 2
def wv_99 : XW := nwW wv_98
def wv_100 : XW := upR wv_99 30 0 32
def wv_101 : XW := upI wv_100 30 3 0
def wv_102 : XW := upR wv_101 27 6 31
def wv_103 : XW := nwW wv_102
def wv_104 : XW := upI wv_103 32 1 8
def wv_105 : XW := upI wv_104 32 2 2
def wv_106 : XW := nwW wv_105
def wv_107 : XW := upR wv_106 32 0 34
def wv_108 : XW := upI wv_107 32 3 0
def wv_109 : XW := upR wv_108 27 7 33
def wv_110 : XW := nwW wv_109
def wv_111 : XW := upI wv_110 34 1 10
def wv_112 : XW := upI wv_111 34 2 3
def wv_113 : XW := nwW wv_112
def wv_114 : XW := upR wv_113 34 0 36
def wv_115 : XW := upI wv_114 34 3 0
def wv_116 : XW := upR wv_115 27 8 35
def wv_117 : XW := nwW wv_116
def wv_118 : XW := upI wv_117 36 1 30
def wv_119 : XW := upI wv_118 36 2 4
def wv_120 : XW := nwW wv_119
def wv_121 : XW := upR wv_120 36 0 38
def wv_122 : XW := upI wv_121 36 3 0
def wv_123 : XW := upR wv_122 27 9 37
def wv_124 : XW := upR wv_123 25 0 28
def wv_125 : XW := nwW wv_124
def wv_126 : XW := nwW wv_125
def wv_127 : XW := upI wv_126 39 1 12
def wv_128 : XW := upI wv_127 39 2 3
def wv_129 : XW := nwW wv_128
def wv_130 : XW := upR wv_129 39 0 41
def wv_131 : XW := upI wv_130 39 3 0
def wv_132 : XW := upR wv_131 38 5 40
def wv_133 : XW := nwW wv_132
def wv_134 : XW := upI wv_133 41 1 6
def wv_135 : XW := upI wv_134 41 2 2
def wv_136 : XW := nwW wv_135
def wv_137 : XW := upR wv_136 41 0 43
def wv_138 : XW := upI wv_137 41 3 0
def wv_139 : XW := upR wv_138 38 6 42
def wv_140 : XW := nwW wv_139
def wv_141 : XW := upI wv_140 43 1 8
def wv_142 : XW := upI wv_141 43 2 2
def wv_143 : XW := nwW wv_142
def wv_144 : XW := upR wv_143 43 0 45
def wv_145 : XW := upI wv_144 43 3 0
def wv_146 : XW := upR wv_145 38 7 44
def wv_147 : XW := nwW wv_146
def wv_148 : XW := upI wv_147 45 1 10
def wv_149 : XW := upI wv_148 45 2 3
def wv_150 : XW := nwW wv_149
def wv_151 : XW := upR wv_150 45 0 47
def wv_152 : XW := upI wv_151 45 3 0
def wv_153 : XW := upR wv_152 38 8 46
def wv_154 : XW := nwW wv_153
def wv_155 : XW := upI wv_154 47 1 30
def wv_156 : XW := upI wv_155 47 2 4
def wv_157 : XW := nwW wv_156
def wv_158 : XW := upR wv_157 47 0 49
def wv_159 : XW := upI wv_158 47 3 0
def wv_160 : XW := upR wv_159 38 9 48
def wv_161 : XW := upR wv_160 25 1 39
def wv_162 : XW := nwW wv_161
def wv_163 : XW := nwW wv_162
def wv_164 : XW := upI wv_163 50 1 12
def wv_165 : XW := upI wv_164 50 2 3
def wv_166 : XW := nwW wv_165
def wv_167 : XW := upR wv_166 50 0 52
def wv_168 : XW := upI wv_167 50 3 0
def wv_169 : XW := upR wv_168 49 5 51
def wv_170 : XW := nwW wv_169
def wv_171 : XW := upI wv_170 52 1 6
def wv_172 : XW := upI wv_171 52 2 2
def wv_173 : XW := nwW wv_172
def wv_174 : XW := upR wv_173 52 0 54
def wv_175 : XW := upI wv_174 52 3 0
def wv_176 : XW := upR wv_175 49 6 53
def wv_177 : XW := nwW wv_176
def wv_178 : XW := upI wv_177 54 1 8
def wv_179 : XW := upI wv_178 54 2 2
def wv_180 : XW := nwW wv_179
def wv_181 : XW := upR wv_180 54 0 56
def wv_182 : XW := upI wv_181 54 3 0
def wv_183 : XW := upR wv_182 49 7 55
def wv_184 : XW := nwW wv_183
def wv_185 : XW := upI wv_184 56 1 10
def wv_186 : XW := upI wv_185 56 2 3
def wv_187 : XW := nwW wv_186
def wv_188 : XW := upR wv_187 56 0 58
def wv_189 : XW := upI wv_188 56 3 0
def wv_190 : XW := upR wv_189 49 8 57
def wv_191 : XW := nwW wv_190
def wv_192 : XW := upI wv_191 58 1 30
def wv_193 : XW := upI wv_192 58 2 4
def wv_194 : XW := nwW wv_193
def wv_195 : XW := upR wv_194 58 0 60
def wv_196 : XW := upI wv_195 58 3 0
def wv_197 : XW := upR wv_196 49 9 59
def wv_198 : XW := upR wv_197 25 2 50
def wv_199 : XW := nwW wv_198
def wv_200 : XW := upR wv_199 0 7 61
def wv_201 : XW := nwW wv_200
def wv_202 : XW := nwW wv_201
def wv_203 : XW := upR wv_202 61 0 63
def wv_204 : XW := upI wv_203 61 2 (-1)
def wv_205 : XW := upR wv_204 60 0 62
def wv_206 : XW := nwW wv_205
def wv_207 : XW := nwW wv_206
def wv_208 : XW := upR wv_207 63 0 65
def wv_209 : XW := upI wv_208 63 2 (-1)
def wv_210 : XW := upR wv_209 60 1 64
def wv_211 : XW := nwW wv_210
def wv_212 : XW := nwW wv_211
def wv_213 : XW := upR wv_212 65 0 67
def wv_214 : XW := upI wv_213 65 2 (-1)
def wv_215 : XW := upR wv_214 60 2 66
def wv_216 : XW := nwW wv_215
def wv_217 : XW := nwW wv_216
def wv_218 : XW := upR wv_217 67 0 69
def wv_219 : XW := upI wv_218 67 2 (-1)
def wv_220 : XW := upR wv_219 60 3 68
def wv_221 : XW := nwW wv_220
def wv_222 : XW := nwW wv_221
def wv_223 : XW := upR wv_222 69 0 71
def wv_224 : XW := nwW wv_223
def wv_225 : XW := upR wv_224 69 1 72
def wv_226 : XW := nwW wv_225
def wv_227 : XW := upR wv_226 69 2 73
def wv_228 : XW := nwW wv_227
def wv_229 : XW := upR wv_228 69 3 74
def wv_230 : XW := nwW wv_229
def wv_231 : XW := upR wv_230 69 4 75
def wv_232 : XW := upR wv_231 0 8 70
def wv_233 : XW := nwW wv_232
def wv_234 : XW := nwW wv_233
def wv_235 : XW := upR wv_234 75 0 77
def wv_236 : XW := nwW wv_235
def wv_237 : XW := upR wv_236 75 1 78
def wv_238 : XW := nwW wv_237
def wv_239 : XW := upR wv_238 75 2 79
def wv_240 : XW := nwW wv_239
def wv_241 : XW := upR wv_240 75 3 80
def wv_242 : XW := nwW wv_241
def wv_243 : XW := upR wv_242 75 4 81
def wv_244 : XW := upR wv_243 0 9 76
def wv_245 : XW := nwW wv_244
def wv_246 : XW := nwW wv_245
def wv_247 : XW := upR wv_246 81 0 83
def wv_248 : XW := nwW wv_247
def wv_249 : XW := upR wv_248 81 1 84
def wv_250 : XW := nwW wv_249
def wv_251 : XW := upR wv_250 81 2 85
def wv_252 : XW := upR wv_251 0 10 82
def wv_253 : XW := nwW wv_252
def wv_254 : XW := nwW wv_253
def wv_255 : XW := upR wv_254 85 0 87
def wv_256 : XW := nwW wv_255
def wv_257 : XW := upR wv_256 85 1 88
def wv_258 : XW := nwW wv_257
def wv_259 : XW := upR wv_258 85 2 89
def wv_260 : XW := upR wv_259 0 11 86
def wv_261 : XW := nwW wv_260
def wv_262 : XW := nwW wv_261
def wv_263 : XW := upR wv_262 89 0 91
def wv_264 : XW := upR wv_263 0 12 90
def wv_265 : XW := nwW wv_264
def wv_266 : XW := nwW wv_265
def wv_267 : XW := upR wv_266 91 0 93
def wv_268 : XW := nwW wv_267
def wv_269 : XW := upR wv_268 91 1 94
def wv_270 : XW := upR wv_269 0 13 92
def wv_271 : XW := nwW wv_270
def wv_272 : XW := upR wv_271 0 14 95
def wv_273 : XW := nwW wv_272
def wv_274 : XW := nwW wv_273
def wv_275 : XW := upR wv_274 95 1 97
def wv_276 : XW := nwW wv_275
def wv_277 : XW := upR wv_276 95 2 98
def wv_278 : XW := nwW wv_277
def wv_279 : XW := upR wv_278 95 3 99
def wv_280 : XW := nwW wv_279
def wv_281 : XW := upR wv_280 95 4 100
def wv_282 : XW := nwW wv_281
def wv_283 : XW := upR wv_282 95 6 101
def wv_284 : XW := upI wv_283 95 13 (-1)
def wv_285 : XW := nwW wv_284
def wv_286 : XW := upR wv_285 95 14 102
def wv_287 : XW := nwW wv_286
def wv_288 : XW := upR wv_287 95 15 103
def wv_289 : XW := nwW wv_288
def wv_290 : XW := upR wv_289 95 18 104
def wv_291 : XW := nwW wv_290
def wv_292 : XW := upR wv_291 95 19 105
def wv_293 : XW := nwW wv_292
def wv_294 : XW := upR wv_293 95 20 106
def wv_295 : XW := nwW wv_294
def wv_296 : XW := upR wv_295 95 26 107
def wv_297 : XW := nwW wv_296
def wv_298 : XW := upR wv_297 95 27 108
def wv_299 : XW := nwW wv_298
def wv_300 : XW := upR wv_299 95 28 109
def wv_301 : XW := nwW wv_300
def wv_302 : XW := upR wv_301 95 29 110
def wv_303 : XW := nwW wv_302
def wv_304 : XW := upR wv_303 95 30 111
def wv_305 : XW := nwW wv_304
def wv_306 : XW := upR wv_305 95 31 112
def wv_307 : XW := nwW wv_306
def wv_308 : XW := upI wv_307 112 0 (-1)
def wv_309 : XW := upI wv_308 112 1 (-1)
def wv_310 : XW := upI wv_309 112 2 (-1)
def wv_311 : XW := upI wv_310 112 3 (-1)
def wv_312 : XW := upR wv_311 95 36 113
def wv_313 : XW := nwW wv_312
def wv_314 : XW := upR wv_313 95 37 114
def wv_315 : XW := nwW wv_314
def wv_316 : XW := upR wv_315 95 38 115
def wv_317 : XW := nwW wv_316
def wv_318 : XW := upR wv_317 95 39 116
end
section
set_option maxRecDepth 20000 in
theorem KC_1 (l : Launch) (D : va_G) (aC : Nat → ClassId) (b : Nat) : CnV l D aC b M_X8_init 1 21 1 36 [AR 3, AI 12, AI 3] wv_6 (fun u => u = wv_11) := by
  refine cn_V (own := RX8) (nm := "<init>") (L0 := [some (AR 3), some (AI 12), some (AI 3)]) (by decide +kernel) rfl rfl (Nat.le_of_ble_eq_true rfl) rfl ?_
  intro p e s m args below meth c E hin
  refine s_aload_n E dX8_init_0 rfl rfl ?_
  refine s_obj E k_39 k_26 k_27 (Nat.le_of_ble_eq_true rfl) (Nat.le_of_ble_eq_true rfl) dX8_init_1 ?_
  refine s_aload_n E dX8_init_4 rfl rfl ?_
  refine s_iconst (v := 0) E dX8_init_5 (by decide) ?_
  refine s_iload_n E dX8_init_6 rfl rfl ?_
  refine s_max (v := 12) E ⟨k_40, k_41, k_4, k_42⟩ (Nat.le_of_ble_eq_true rfl) (Nat.le_of_ble_eq_true rfl) (Nat.le_of_ble_eq_true rfl) (Nat.le_of_ble_eq_true rfl) dX8_init_7 (by decide) ?_
  refine s_pIF E hin ff_X8_15 rfl rfl (by decide +kernel) dX8_init_10 ?_
  refine s_world (w2 := wv_7) rfl ?_
  refine s_aload_n E dX8_init_13 rfl rfl ?_
  refine s_iconst (v := 0) E dX8_init_14 (by decide) ?_
  refine s_iload_n E dX8_init_15 rfl rfl ?_
  refine s_max (v := 3) E ⟨k_40, k_41, k_4, k_42⟩ (Nat.le_of_ble_eq_true rfl) (Nat.le_of_ble_eq_true rfl) (Nat.le_of_ble_eq_true rfl) (Nat.le_of_ble_eq_true rfl) dX8_init_16 (by decide) ?_
  refine s_pIF E hin ff_X8_21 rfl rfl (by decide +kernel) dX8_init_19 ?_
  refine s_world (w2 := wv_8) rfl ?_
  refine s_aload_n E dX8_init_22 rfl rfl ?_
  refine s_aload_n E dX8_init_23 rfl rfl ?_
  refine s_gI E fg_X8_15 rfl rfl (by decide +kernel) dX8_init_24 ?_
  refine s_top (y := 12) (by decide +kernel) ?_
  refine s_aload_n E dX8_init_27 rfl rfl ?_
  refine s_gI E fg_X8_21 rfl rfl (by decide +kernel) dX8_init_28 ?_
  refine s_top (y := 3) (by decide +kernel) ?_
  refine s_imul E dX8_init_31 ?_
  refine s_top (y := 36) (by decide) ?_
  refine s_newa100 (N := 36) E k_63 (by decide +kernel) (by decide) (by decide) (by decide) (Nat.le_of_ble_eq_true rfl) (Nat.le_of_ble_eq_true rfl) dX8_init_32 ?_
  refine s_topR (y := 4) (by decide +kernel) ?_
  refine s_world (w2 := wv_9) rfl ?_
  refine Wv.widen (cs2 := 1) (sl2 := 36) (Nat.le_of_ble_eq_true rfl) (Nat.le_of_ble_eq_true rfl) ?_
  refine s_pRF E hin ff_X8_24 rfl rfl (by decide +kernel) dX8_init_34 ?_
  refine s_world (w2 := wv_10) rfl ?_
  refine s_aload_n E dX8_init_37 rfl rfl ?_
  refine s_iconst (v := 0) E dX8_init_38 (by decide) ?_
  refine s_pI E fp_X8_28 (Or.inl rfl) rfl (by decide +kernel) dX8_init_39 ?_
  refine s_world (w2 := wv_11) rfl ?_
  exact r_void E dX8_init_42 rfl
set_option maxRecDepth 20000 in
theorem KC_2 (l : Launch) (D : va_G) (aC : Nat → ClassId) (b : Nat) : CnV l D aC b M_X8_init 1 21 1 12 [AR 5, AI 6, AI 2] wv_13 (fun u => u = wv_18) := by
  refine cn_V (own := RX8) (nm := "<init>") (L0 := [some (AR 5), some (AI 6), some (AI 2)]) (by decide +kernel) rfl rfl (Nat.le_of_ble_eq_true rfl) rfl ?_
  intro p e s m args below meth c E hin
  refine s_aload_n E dX8_init_0 rfl rfl ?_
  refine s_obj E k_39 k_26 k_27 (Nat.le_of_ble_eq_true rfl) (Nat.le_of_ble_eq_true rfl) dX8_init_1 ?_
  refine s_aload_n E dX8_init_4 rfl rfl ?_
  refine s_iconst (v := 0) E dX8_init_5 (by decide) ?_
  refine s_iload_n E dX8_init_6 rfl rfl ?_
  refine s_max (v := 6) E ⟨k_40, k_41, k_4, k_42⟩ (Nat.le_of_ble_eq_true rfl) (Nat.le_of_ble_eq_true rfl) (Nat.le_of_ble_eq_true rfl) (Nat.le_of_ble_eq_true rfl) dX8_init_7 (by decide) ?_
  refine s_pIF E hin ff_X8_15 rfl rfl (by decide +kernel) dX8_init_10 ?_
  refine s_world (w2 := wv_14) rfl ?_
  refine s_aload_n E dX8_init_13 rfl rfl ?_
  refine s_iconst (v := 0) E dX8_init_14 (by decide) ?_
  refine s_iload_n E dX8_init_15 rfl rfl ?_
  refine s_max (v := 2) E ⟨k_40, k_41, k_4, k_42⟩ (Nat.le_of_ble_eq_true rfl) (Nat.le_of_ble_eq_true rfl) (Nat.le_of_ble_eq_true rfl) (Nat.le_of_ble_eq_true rfl) dX8_init_16 (by decide) ?_
  refine s_pIF E hin ff_X8_21 rfl rfl (by decide +kernel) dX8_init_19 ?_
  refine s_world (w2 := wv_15) rfl ?_
  refine s_aload_n E dX8_init_22 rfl rfl ?_
  refine s_aload_n E dX8_init_23 rfl rfl ?_
  refine s_gI E fg_X8_15 rfl rfl (by decide +kernel) dX8_init_24 ?_
  refine s_top (y := 6) (by decide +kernel) ?_
  refine s_aload_n E dX8_init_27 rfl rfl ?_
  refine s_gI E fg_X8_21 rfl rfl (by decide +kernel) dX8_init_28 ?_
  refine s_top (y := 2) (by decide +kernel) ?_
  refine s_imul E dX8_init_31 ?_
  refine s_top (y := 12) (by decide) ?_
  refine s_newa100 (N := 12) E k_63 (by decide +kernel) (by decide) (by decide) (by decide) (Nat.le_of_ble_eq_true rfl) (Nat.le_of_ble_eq_true rfl) dX8_init_32 ?_
  refine s_topR (y := 6) (by decide +kernel) ?_
  refine s_world (w2 := wv_16) rfl ?_
  refine Wv.widen (cs2 := 1) (sl2 := 12) (Nat.le_of_ble_eq_true rfl) (Nat.le_of_ble_eq_true rfl) ?_
  refine s_pRF E hin ff_X8_24 rfl rfl (by decide +kernel) dX8_init_34 ?_
  refine s_world (w2 := wv_17) rfl ?_
  refine s_aload_n E dX8_init_37 rfl rfl ?_
  refine s_iconst (v := 0) E dX8_init_38 (by decide) ?_
  refine s_pI E fp_X8_28 (Or.inl rfl) rfl (by decide +kernel) dX8_init_39 ?_
  refine s_world (w2 := wv_18) rfl ?_
  exact r_void E dX8_init_42 rfl
set_option maxRecDepth 20000 in
theorem KC_3 (l : Launch) (D : va_G) (aC : Nat → ClassId) (b : Nat) : CnV l D aC b M_X8_init 1 21 1 16 [AR 7, AI 8, AI 2] wv_20 (fun u => u = wv_25) := by
  refine cn_V (own := RX8) (nm := "<init>") (L0 := [some (AR 7), some (AI 8), some (AI 2)]) (by decide +kernel) rfl rfl (Nat.le_of_ble_eq_true rfl) rfl ?_
  intro p e s m args below meth c E hin
  refine s_aload_n E dX8_init_0 rfl rfl ?_
  refine s_obj E k_39 k_26 k_27 (Nat.le_of_ble_eq_true rfl) (Nat.le_of_ble_eq_true rfl) dX8_init_1 ?_
  refine s_aload_n E dX8_init_4 rfl rfl ?_
  refine s_iconst (v := 0) E dX8_init_5 (by decide) ?_
  refine s_iload_n E dX8_init_6 rfl rfl ?_
  refine s_max (v := 8) E ⟨k_40, k_41, k_4, k_42⟩ (Nat.le_of_ble_eq_true rfl) (Nat.le_of_ble_eq_true rfl) (Nat.le_of_ble_eq_true rfl) (Nat.le_of_ble_eq_true rfl) dX8_init_7 (by decide) ?_
  refine s_pIF E hin ff_X8_15 rfl rfl (by decide +kernel) dX8_init_10 ?_
  refine s_world (w2 := wv_21) rfl ?_
  refine s_aload_n E dX8_init_13 rfl rfl ?_
  refine s_iconst (v := 0) E dX8_init_14 (by decide) ?_
  refine s_iload_n E dX8_init_15 rfl rfl ?_
  refine s_max (v := 2) E ⟨k_40, k_41, k_4, k_42⟩ (Nat.le_of_ble_eq_true rfl) (Nat.le_of_ble_eq_true rfl) (Nat.le_of_ble_eq_true rfl) (Nat.le_of_ble_eq_true rfl) dX8_init_16 (by decide) ?_
  refine s_pIF E hin ff_X8_21 rfl rfl (by decide +kernel) dX8_init_19 ?_
  refine s_world (w2 := wv_22) rfl ?_
  refine s_aload_n E dX8_init_22 rfl rfl ?_
  refine s_aload_n E dX8_init_23 rfl rfl ?_
  refine s_gI E fg_X8_15 rfl rfl (by decide +kernel) dX8_init_24 ?_
  refine s_top (y := 8) (by decide +kernel) ?_
  refine s_aload_n E dX8_init_27 rfl rfl ?_
  refine s_gI E fg_X8_21 rfl rfl (by decide +kernel) dX8_init_28 ?_
  refine s_top (y := 2) (by decide +kernel) ?_
  refine s_imul E dX8_init_31 ?_
  refine s_top (y := 16) (by decide) ?_
  refine s_newa100 (N := 16) E k_63 (by decide +kernel) (by decide) (by decide) (by decide) (Nat.le_of_ble_eq_true rfl) (Nat.le_of_ble_eq_true rfl) dX8_init_32 ?_
  refine s_topR (y := 8) (by decide +kernel) ?_
  refine s_world (w2 := wv_23) rfl ?_
  refine Wv.widen (cs2 := 1) (sl2 := 16) (Nat.le_of_ble_eq_true rfl) (Nat.le_of_ble_eq_true rfl) ?_
  refine s_pRF E hin ff_X8_24 rfl rfl (by decide +kernel) dX8_init_34 ?_
  refine s_world (w2 := wv_24) rfl ?_
  refine s_aload_n E dX8_init_37 rfl rfl ?_
  refine s_iconst (v := 0) E dX8_init_38 (by decide) ?_
  refine s_pI E fp_X8_28 (Or.inl rfl) rfl (by decide +kernel) dX8_init_39 ?_
  refine s_world (w2 := wv_25) rfl ?_
  exact r_void E dX8_init_42 rfl
set_option maxRecDepth 20000 in
theorem KC_4 (l : Launch) (D : va_G) (aC : Nat → ClassId) (b : Nat) : CnV l D aC b M_X8_init 1 21 1 30 [AR 9, AI 10, AI 3] wv_27 (fun u => u = wv_32) := by
  refine cn_V (own := RX8) (nm := "<init>") (L0 := [some (AR 9), some (AI 10), some (AI 3)]) (by decide +kernel) rfl rfl (Nat.le_of_ble_eq_true rfl) rfl ?_
  intro p e s m args below meth c E hin
  refine s_aload_n E dX8_init_0 rfl rfl ?_
  refine s_obj E k_39 k_26 k_27 (Nat.le_of_ble_eq_true rfl) (Nat.le_of_ble_eq_true rfl) dX8_init_1 ?_
  refine s_aload_n E dX8_init_4 rfl rfl ?_
  refine s_iconst (v := 0) E dX8_init_5 (by decide) ?_
  refine s_iload_n E dX8_init_6 rfl rfl ?_
  refine s_max (v := 10) E ⟨k_40, k_41, k_4, k_42⟩ (Nat.le_of_ble_eq_true rfl) (Nat.le_of_ble_eq_true rfl) (Nat.le_of_ble_eq_true rfl) (Nat.le_of_ble_eq_true rfl) dX8_init_7 (by decide) ?_
  refine s_pIF E hin ff_X8_15 rfl rfl (by decide +kernel) dX8_init_10 ?_
  refine s_world (w2 := wv_28) rfl ?_
  refine s_aload_n E dX8_init_13 rfl rfl ?_
  refine s_iconst (v := 0) E dX8_init_14 (by decide) ?_
  refine s_iload_n E dX8_init_15 rfl rfl ?_
  refine s_max (v := 3) E ⟨k_40, k_41, k_4, k_42⟩ (Nat.le_of_ble_eq_true rfl) (Nat.le_of_ble_eq_true rfl) (Nat.le_of_ble_eq_true rfl) (Nat.le_of_ble_eq_true rfl) dX8_init_16 (by decide) ?_
  refine s_pIF E hin ff_X8_21 rfl rfl (by decide +kernel) dX8_init_19 ?_
  refine s_world (w2 := wv_29) rfl ?_
  refine s_aload_n E dX8_init_22 rfl rfl ?_
  refine s_aload_n E dX8_init_23 rfl rfl ?_
  refine s_gI E fg_X8_15 rfl rfl (by decide +kernel) dX8_init_24 ?_
  refine s_top (y := 10) (by decide +kernel) ?_
  refine s_aload_n E dX8_init_27 rfl rfl ?_
  refine s_gI E fg_X8_21 rfl rfl (by decide +kernel) dX8_init_28 ?_
  refine s_top (y := 3) (by decide +kernel) ?_
  refine s_imul E dX8_init_31 ?_
  refine s_top (y := 30) (by decide) ?_
  refine s_newa100 (N := 30) E k_63 (by decide +kernel) (by decide) (by decide) (by decide) (Nat.le_of_ble_eq_true rfl) (Nat.le_of_ble_eq_true rfl) dX8_init_32 ?_
  refine s_topR (y := 10) (by decide +kernel) ?_
  refine s_world (w2 := wv_30) rfl ?_
  refine Wv.widen (cs2 := 1) (sl2 := 30) (Nat.le_of_ble_eq_true rfl) (Nat.le_of_ble_eq_true rfl) ?_
  refine s_pRF E hin ff_X8_24 rfl rfl (by decide +kernel) dX8_init_34 ?_
  refine s_world (w2 := wv_31) rfl ?_
  refine s_aload_n E dX8_init_37 rfl rfl ?_
  refine s_iconst (v := 0) E dX8_init_38 (by decide) ?_
  refine s_pI E fp_X8_28 (Or.inl rfl) rfl (by decide +kernel) dX8_init_39 ?_
  refine s_world (w2 := wv_32) rfl ?_
  exact r_void E dX8_init_42 rfl
set_option maxRecDepth 20000 in
theorem KC_5 (l : Launch) (D : va_G) (aC : Nat → ClassId) (b : Nat) : CnV l D aC b M_X8_init 1 21 1 120 [AR 11, AI 30, AI 4] wv_34 (fun u => u = wv_39) := by
  refine cn_V (own := RX8) (nm := "<init>") (L0 := [some (AR 11), some (AI 30), some (AI 4)]) (by decide +kernel) rfl rfl (Nat.le_of_ble_eq_true rfl) rfl ?_
  intro p e s m args below meth c E hin
  refine s_aload_n E dX8_init_0 rfl rfl ?_
  refine s_obj E k_39 k_26 k_27 (Nat.le_of_ble_eq_true rfl) (Nat.le_of_ble_eq_true rfl) dX8_init_1 ?_
  refine s_aload_n E dX8_init_4 rfl rfl ?_
  refine s_iconst (v := 0) E dX8_init_5 (by decide) ?_
  refine s_iload_n E dX8_init_6 rfl rfl ?_
  refine s_max (v := 30) E ⟨k_40, k_41, k_4, k_42⟩ (Nat.le_of_ble_eq_true rfl) (Nat.le_of_ble_eq_true rfl) (Nat.le_of_ble_eq_true rfl) (Nat.le_of_ble_eq_true rfl) dX8_init_7 (by decide) ?_
  refine s_pIF E hin ff_X8_15 rfl rfl (by decide +kernel) dX8_init_10 ?_
  refine s_world (w2 := wv_35) rfl ?_
  refine s_aload_n E dX8_init_13 rfl rfl ?_
  refine s_iconst (v := 0) E dX8_init_14 (by decide) ?_
  refine s_iload_n E dX8_init_15 rfl rfl ?_
  refine s_max (v := 4) E ⟨k_40, k_41, k_4, k_42⟩ (Nat.le_of_ble_eq_true rfl) (Nat.le_of_ble_eq_true rfl) (Nat.le_of_ble_eq_true rfl) (Nat.le_of_ble_eq_true rfl) dX8_init_16 (by decide) ?_
  refine s_pIF E hin ff_X8_21 rfl rfl (by decide +kernel) dX8_init_19 ?_
  refine s_world (w2 := wv_36) rfl ?_
  refine s_aload_n E dX8_init_22 rfl rfl ?_
  refine s_aload_n E dX8_init_23 rfl rfl ?_
  refine s_gI E fg_X8_15 rfl rfl (by decide +kernel) dX8_init_24 ?_
  refine s_top (y := 30) (by decide +kernel) ?_
  refine s_aload_n E dX8_init_27 rfl rfl ?_
  refine s_gI E fg_X8_21 rfl rfl (by decide +kernel) dX8_init_28 ?_
  refine s_top (y := 4) (by decide +kernel) ?_
  refine s_imul E dX8_init_31 ?_
  refine s_top (y := 120) (by decide) ?_
  refine s_newa100 (N := 120) E k_63 (by decide +kernel) (by decide) (by decide) (by decide) (Nat.le_of_ble_eq_true rfl) (Nat.le_of_ble_eq_true rfl) dX8_init_32 ?_
  refine s_topR (y := 12) (by decide +kernel) ?_
  refine s_world (w2 := wv_37) rfl ?_
  refine Wv.widen (cs2 := 1) (sl2 := 120) (Nat.le_of_ble_eq_true rfl) (Nat.le_of_ble_eq_true rfl) ?_
  refine s_pRF E hin ff_X8_24 rfl rfl (by decide +kernel) dX8_init_34 ?_
  refine s_world (w2 := wv_38) rfl ?_
  refine s_aload_n E dX8_init_37 rfl rfl ?_
  refine s_iconst (v := 0) E dX8_init_38 (by decide) ?_
  refine s_pI E fp_X8_28 (Or.inl rfl) rfl (by decide +kernel) dX8_init_39 ?_
  refine s_world (w2 := wv_39) rfl ?_
  exact r_void E dX8_init_42 rfl
set_option maxRecDepth 20000 in
theorem KC_6 (l : Launch) (D : va_G) (aC : Nat → ClassId) (b : Nat) : CnV l D aC b M_X0_init 2 43 10 234 [AR 2] wv_5 (fun u => u = wv_40) := by
  refine cn_V (own := RX0) (nm := "<init>") (L0 := [some (AR 2)]) (by decide +kernel) rfl rfl (Nat.le_of_ble_eq_true rfl) rfl ?_
  intro p e s m args below meth c E hin
  refine s_aload_n E dX0_init_0 rfl rfl ?_
  refine s_obj E k_33 k_26 k_27 (Nat.le_of_ble_eq_true rfl) (Nat.le_of_ble_eq_true rfl) dX0_init_1 ?_
  refine s_aload_n E dX0_init_4 rfl rfl ?_
  refine s_new E CI8 (by decide +kernel) k_34 k_35 k_3 (by decide +kernel) (Nat.le_of_ble_eq_true rfl) (Nat.le_of_ble_eq_true rfl) dX0_init_5 ?_
  refine s_topR (y := 3) (by decide +kernel) ?_
  refine s_world (w2 := wv_6) rfl ?_
  refine Wv.widen (cs2 := 1) (sl2 := 4) (Nat.le_of_ble_eq_true rfl) (Nat.le_of_ble_eq_true rfl) ?_
  refine s_dupR E dX0_init_8 ?_
  refine s_bipush (v := 12) E dX0_init_9 (by decide) ?_
  refine s_iconst (v := 3) E dX0_init_11 (by decide) ?_
  refine s_init (As := [AI 12, AI 3]) (S := [AR 3, AR 2]) E (KC_1 l D aC b) ci_X0_11 rfl rfl (Nat.le_of_ble_eq_true rfl) (Nat.le_of_ble_eq_true rfl) ⟨(Nat.le_of_ble_eq_true rfl), (Nat.le_of_ble_eq_true rfl)⟩ (Nat.le_of_ble_eq_true rfl) dX0_init_12 (fun u hp => ?_)
  subst hp
  refine Wv.widen (cs2 := 2) (sl2 := 40) (Nat.le_of_ble_eq_true rfl) (Nat.le_of_ble_eq_true rfl) ?_
  refine s_pRF E hin ff_X0_14 rfl rfl (by decide +kernel) dX0_init_15 ?_
  refine s_world (w2 := wv_12) rfl ?_
  refine s_aload_n E dX0_init_18 rfl rfl ?_
  refine s_new E CI8 (by decide +kernel) k_34 k_35 k_3 (by decide +kernel) (Nat.le_of_ble_eq_true rfl) (Nat.le_of_ble_eq_true rfl) dX0_init_19 ?_
  refine s_topR (y := 5) (by decide +kernel) ?_
  refine s_world (w2 := wv_13) rfl ?_
  refine Wv.widen (cs2 := 3) (sl2 := 44) (Nat.le_of_ble_eq_true rfl) (Nat.le_of_ble_eq_true rfl) ?_
  refine s_dupR E dX0_init_22 ?_
  refine s_bipush (v := 6) E dX0_init_23 (by decide) ?_
  refine s_iconst (v := 2) E dX0_init_25 (by decide) ?_
  refine s_init (As := [AI 6, AI 2]) (S := [AR 5, AR 2]) E (KC_2 l D aC b) ci_X0_11 rfl rfl (Nat.le_of_ble_eq_true rfl) (Nat.le_of_ble_eq_true rfl) ⟨(Nat.le_of_ble_eq_true rfl), (Nat.le_of_ble_eq_true rfl)⟩ (Nat.le_of_ble_eq_true rfl) dX0_init_26 (fun u hp => ?_)
  subst hp
  refine Wv.widen (cs2 := 4) (sl2 := 56) (Nat.le_of_ble_eq_true rfl) (Nat.le_of_ble_eq_true rfl) ?_
  refine s_pRF E hin ff_X0_20 rfl rfl (by decide +kernel) dX0_init_29 ?_
  refine s_world (w2 := wv_19) rfl ?_
  refine s_aload_n E dX0_init_32 rfl rfl ?_
  refine s_new E CI8 (by decide +kernel) k_34 k_35 k_3 (by decide +kernel) (Nat.le_of_ble_eq_true rfl) (Nat.le_of_ble_eq_true rfl) dX0_init_33 ?_
  refine s_topR (y := 7) (by decide +kernel) ?_
  refine s_world (w2 := wv_20) rfl ?_
  refine Wv.widen (cs2 := 5) (sl2 := 60) (Nat.le_of_ble_eq_true rfl) (Nat.le_of_ble_eq_true rfl) ?_
  refine s_dupR E dX0_init_36 ?_
  refine s_bipush (v := 8) E dX0_init_37 (by decide) ?_
  refine s_iconst (v := 2) E dX0_init_39 (by decide) ?_
  refine s_init (As := [AI 8, AI 2]) (S := [AR 7, AR 2]) E (KC_3 l D aC b) ci_X0_11 rfl rfl (Nat.le_of_ble_eq_true rfl) (Nat.le_of_ble_eq_true rfl) ⟨(Nat.le_of_ble_eq_true rfl), (Nat.le_of_ble_eq_true rfl)⟩ (Nat.le_of_ble_eq_true rfl) dX0_init_40 (fun u hp => ?_)
  subst hp
  refine Wv.widen (cs2 := 6) (sl2 := 76) (Nat.le_of_ble_eq_true rfl) (Nat.le_of_ble_eq_true rfl) ?_
  refine s_pRF E hin ff_X0_23 rfl rfl (by decide +kernel) dX0_init_43 ?_
  refine s_world (w2 := wv_26) rfl ?_
  refine s_aload_n E dX0_init_46 rfl rfl ?_
  refine s_new E CI8 (by decide +kernel) k_34 k_35 k_3 (by decide +kernel) (Nat.le_of_ble_eq_true rfl) (Nat.le_of_ble_eq_true rfl) dX0_init_47 ?_
  refine s_topR (y := 9) (by decide +kernel) ?_
  refine s_world (w2 := wv_27) rfl ?_
  refine Wv.widen (cs2 := 7) (sl2 := 80) (Nat.le_of_ble_eq_true rfl) (Nat.le_of_ble_eq_true rfl) ?_
  refine s_dupR E dX0_init_50 ?_
  refine s_bipush (v := 10) E dX0_init_51 (by decide) ?_
  refine s_iconst (v := 3) E dX0_init_53 (by decide) ?_
  refine s_init (As := [AI 10, AI 3]) (S := [AR 9, AR 2]) E (KC_4 l D aC b) ci_X0_11 rfl rfl (Nat.le_of_ble_eq_true rfl) (Nat.le_of_ble_eq_true rfl) ⟨(Nat.le_of_ble_eq_true rfl), (Nat.le_of_ble_eq_true rfl)⟩ (Nat.le_of_ble_eq_true rfl) dX0_init_54 (fun u hp => ?_)
  subst hp
  refine Wv.widen (cs2 := 8) (sl2 := 110) (Nat.le_of_ble_eq_true rfl) (Nat.le_of_ble_eq_true rfl) ?_
  refine s_pRF E hin ff_X0_26 rfl rfl (by decide +kernel) dX0_init_57 ?_
  refine s_world (w2 := wv_33) rfl ?_
  refine s_aload_n E dX0_init_60 rfl rfl ?_
  refine s_new E CI8 (by decide +kernel) k_34 k_35 k_3 (by decide +kernel) (Nat.le_of_ble_eq_true rfl) (Nat.le_of_ble_eq_true rfl) dX0_init_61 ?_
  refine s_topR (y := 11) (by decide +kernel) ?_
  refine s_world (w2 := wv_34) rfl ?_
  refine Wv.widen (cs2 := 9) (sl2 := 114) (Nat.le_of_ble_eq_true rfl) (Nat.le_of_ble_eq_true rfl) ?_
  refine s_dupR E dX0_init_64 ?_
  refine s_bipush (v := 30) E dX0_init_65 (by decide) ?_
  refine s_iconst (v := 4) E dX0_init_67 (by decide) ?_
  refine s_init (As := [AI 30, AI 4]) (S := [AR 11, AR 2]) E (KC_5 l D aC b) ci_X0_11 rfl rfl (Nat.le_of_ble_eq_true rfl) (Nat.le_of_ble_eq_true rfl) ⟨(Nat.le_of_ble_eq_true rfl), (Nat.le_of_ble_eq_true rfl)⟩ (Nat.le_of_ble_eq_true rfl) dX0_init_68 (fun u hp => ?_)
  subst hp
  refine Wv.widen (cs2 := 10) (sl2 := 234) (Nat.le_of_ble_eq_true rfl) (Nat.le_of_ble_eq_true rfl) ?_
  refine s_pRF E hin ff_X0_29 rfl rfl (by decide +kernel) dX0_init_71 ?_
  refine s_world (w2 := wv_40) rfl ?_
  exact r_void E dX0_init_74 rfl
set_option maxRecDepth 20000 in
theorem KC_7 (l : Launch) (D : va_G) (aC : Nat → ClassId) (b : Nat) : CnV l D aC b M_X8_init 1 21 1 36 [AR 14, AI 12, AI 3] wv_43 (fun u => u = wv_48) := by
  refine cn_V (own := RX8) (nm := "<init>") (L0 := [some (AR 14), some (AI 12), some (AI 3)]) (by decide +kernel) rfl rfl (Nat.le_of_ble_eq_true rfl) rfl ?_
  intro p e s m args below meth c E hin
  refine s_aload_n E dX8_init_0 rfl rfl ?_
  refine s_obj E k_39 k_26 k_27 (Nat.le_of_ble_eq_true rfl) (Nat.le_of_ble_eq_true rfl) dX8_init_1 ?_
  refine s_aload_n E dX8_init_4 rfl rfl ?_
  refine s_iconst (v := 0) E dX8_init_5 (by decide) ?_
  refine s_iload_n E dX8_init_6 rfl rfl ?_
  refine s_max (v := 12) E ⟨k_40, k_41, k_4, k_42⟩ (Nat.le_of_ble_eq_true rfl) (Nat.le_of_ble_eq_true rfl) (Nat.le_of_ble_eq_true rfl) (Nat.le_of_ble_eq_true rfl) dX8_init_7 (by decide) ?_
  refine s_pIF E hin ff_X8_15 rfl rfl (by decide +kernel) dX8_init_10 ?_
  refine s_world (w2 := wv_44) rfl ?_
  refine s_aload_n E dX8_init_13 rfl rfl ?_
  refine s_iconst (v := 0) E dX8_init_14 (by decide) ?_
  refine s_iload_n E dX8_init_15 rfl rfl ?_
  refine s_max (v := 3) E ⟨k_40, k_41, k_4, k_42⟩ (Nat.le_of_ble_eq_true rfl) (Nat.le_of_ble_eq_true rfl) (Nat.le_of_ble_eq_true rfl) (Nat.le_of_ble_eq_true rfl) dX8_init_16 (by decide) ?_
  refine s_pIF E hin ff_X8_21 rfl rfl (by decide +kernel) dX8_init_19 ?_
  refine s_world (w2 := wv_45) rfl ?_
  refine s_aload_n E dX8_init_22 rfl rfl ?_
  refine s_aload_n E dX8_init_23 rfl rfl ?_
  refine s_gI E fg_X8_15 rfl rfl (by decide +kernel) dX8_init_24 ?_
  refine s_top (y := 12) (by decide +kernel) ?_
  refine s_aload_n E dX8_init_27 rfl rfl ?_
  refine s_gI E fg_X8_21 rfl rfl (by decide +kernel) dX8_init_28 ?_
  refine s_top (y := 3) (by decide +kernel) ?_
  refine s_imul E dX8_init_31 ?_
  refine s_top (y := 36) (by decide) ?_
  refine s_newa100 (N := 36) E k_63 (by decide +kernel) (by decide) (by decide) (by decide) (Nat.le_of_ble_eq_true rfl) (Nat.le_of_ble_eq_true rfl) dX8_init_32 ?_
  refine s_topR (y := 15) (by decide +kernel) ?_
  refine s_world (w2 := wv_46) rfl ?_
  refine Wv.widen (cs2 := 1) (sl2 := 36) (Nat.le_of_ble_eq_true rfl) (Nat.le_of_ble_eq_true rfl) ?_
  refine s_pRF E hin ff_X8_24 rfl rfl (by decide +kernel) dX8_init_34 ?_
  refine s_world (w2 := wv_47) rfl ?_
  refine s_aload_n E dX8_init_37 rfl rfl ?_
  refine s_iconst (v := 0) E dX8_init_38 (by decide) ?_
  refine s_pI E fp_X8_28 (Or.inl rfl) rfl (by decide +kernel) dX8_init_39 ?_
  refine s_world (w2 := wv_48) rfl ?_
  exact r_void E dX8_init_42 rfl
set_option maxRecDepth 20000 in
theorem KC_8 (l : Launch) (D : va_G) (aC : Nat → ClassId) (b : Nat) : CnV l D aC b M_X8_init 1 21 1 12 [AR 16, AI 6, AI 2] wv_50 (fun u => u = wv_55) := by
  refine cn_V (own := RX8) (nm := "<init>") (L0 := [some (AR 16), some (AI 6), some (AI 2)]) (by decide +kernel) rfl rfl (Nat.le_of_ble_eq_true rfl) rfl ?_
  intro p e s m args below meth c E hin
  refine s_aload_n E dX8_init_0 rfl rfl ?_
  refine s_obj E k_39 k_26 k_27 (Nat.le_of_ble_eq_true rfl) (Nat.le_of_ble_eq_true rfl) dX8_init_1 ?_
  refine s_aload_n E dX8_init_4 rfl rfl ?_
  refine s_iconst (v := 0) E dX8_init_5 (by decide) ?_
  refine s_iload_n E dX8_init_6 rfl rfl ?_
  refine s_max (v := 6) E ⟨k_40, k_41, k_4, k_42⟩ (Nat.le_of_ble_eq_true rfl) (Nat.le_of_ble_eq_true rfl) (Nat.le_of_ble_eq_true rfl) (Nat.le_of_ble_eq_true rfl) dX8_init_7 (by decide) ?_
  refine s_pIF E hin ff_X8_15 rfl rfl (by decide +kernel) dX8_init_10 ?_
  refine s_world (w2 := wv_51) rfl ?_
  refine s_aload_n E dX8_init_13 rfl rfl ?_
  refine s_iconst (v := 0) E dX8_init_14 (by decide) ?_
  refine s_iload_n E dX8_init_15 rfl rfl ?_
  refine s_max (v := 2) E ⟨k_40, k_41, k_4, k_42⟩ (Nat.le_of_ble_eq_true rfl) (Nat.le_of_ble_eq_true rfl) (Nat.le_of_ble_eq_true rfl) (Nat.le_of_ble_eq_true rfl) dX8_init_16 (by decide) ?_
  refine s_pIF E hin ff_X8_21 rfl rfl (by decide +kernel) dX8_init_19 ?_
  refine s_world (w2 := wv_52) rfl ?_
  refine s_aload_n E dX8_init_22 rfl rfl ?_
  refine s_aload_n E dX8_init_23 rfl rfl ?_
  refine s_gI E fg_X8_15 rfl rfl (by decide +kernel) dX8_init_24 ?_
  refine s_top (y := 6) (by decide +kernel) ?_
  refine s_aload_n E dX8_init_27 rfl rfl ?_
  refine s_gI E fg_X8_21 rfl rfl (by decide +kernel) dX8_init_28 ?_
  refine s_top (y := 2) (by decide +kernel) ?_
  refine s_imul E dX8_init_31 ?_
  refine s_top (y := 12) (by decide) ?_
  refine s_newa100 (N := 12) E k_63 (by decide +kernel) (by decide) (by decide) (by decide) (Nat.le_of_ble_eq_true rfl) (Nat.le_of_ble_eq_true rfl) dX8_init_32 ?_
  refine s_topR (y := 17) (by decide +kernel) ?_
  refine s_world (w2 := wv_53) rfl ?_
  refine Wv.widen (cs2 := 1) (sl2 := 12) (Nat.le_of_ble_eq_true rfl) (Nat.le_of_ble_eq_true rfl) ?_
  refine s_pRF E hin ff_X8_24 rfl rfl (by decide +kernel) dX8_init_34 ?_
  refine s_world (w2 := wv_54) rfl ?_
  refine s_aload_n E dX8_init_37 rfl rfl ?_
  refine s_iconst (v := 0) E dX8_init_38 (by decide) ?_
  refine s_pI E fp_X8_28 (Or.inl rfl) rfl (by decide +kernel) dX8_init_39 ?_
  refine s_world (w2 := wv_55) rfl ?_
  exact r_void E dX8_init_42 rfl
set_option maxRecDepth 20000 in
theorem KC_9 (l : Launch) (D : va_G) (aC : Nat → ClassId) (b : Nat) : CnV l D aC b M_X8_init 1 21 1 16 [AR 18, AI 8, AI 2] wv_57 (fun u => u = wv_62) := by
  refine cn_V (own := RX8) (nm := "<init>") (L0 := [some (AR 18), some (AI 8), some (AI 2)]) (by decide +kernel) rfl rfl (Nat.le_of_ble_eq_true rfl) rfl ?_
  intro p e s m args below meth c E hin
  refine s_aload_n E dX8_init_0 rfl rfl ?_
  refine s_obj E k_39 k_26 k_27 (Nat.le_of_ble_eq_true rfl) (Nat.le_of_ble_eq_true rfl) dX8_init_1 ?_
  refine s_aload_n E dX8_init_4 rfl rfl ?_
  refine s_iconst (v := 0) E dX8_init_5 (by decide) ?_
  refine s_iload_n E dX8_init_6 rfl rfl ?_
  refine s_max (v := 8) E ⟨k_40, k_41, k_4, k_42⟩ (Nat.le_of_ble_eq_true rfl) (Nat.le_of_ble_eq_true rfl) (Nat.le_of_ble_eq_true rfl) (Nat.le_of_ble_eq_true rfl) dX8_init_7 (by decide) ?_
  refine s_pIF E hin ff_X8_15 rfl rfl (by decide +kernel) dX8_init_10 ?_
  refine s_world (w2 := wv_58) rfl ?_
  refine s_aload_n E dX8_init_13 rfl rfl ?_
  refine s_iconst (v := 0) E dX8_init_14 (by decide) ?_
  refine s_iload_n E dX8_init_15 rfl rfl ?_
  refine s_max (v := 2) E ⟨k_40, k_41, k_4, k_42⟩ (Nat.le_of_ble_eq_true rfl) (Nat.le_of_ble_eq_true rfl) (Nat.le_of_ble_eq_true rfl) (Nat.le_of_ble_eq_true rfl) dX8_init_16 (by decide) ?_
  refine s_pIF E hin ff_X8_21 rfl rfl (by decide +kernel) dX8_init_19 ?_
  refine s_world (w2 := wv_59) rfl ?_
  refine s_aload_n E dX8_init_22 rfl rfl ?_
  refine s_aload_n E dX8_init_23 rfl rfl ?_
  refine s_gI E fg_X8_15 rfl rfl (by decide +kernel) dX8_init_24 ?_
  refine s_top (y := 8) (by decide +kernel) ?_
  refine s_aload_n E dX8_init_27 rfl rfl ?_
  refine s_gI E fg_X8_21 rfl rfl (by decide +kernel) dX8_init_28 ?_
  refine s_top (y := 2) (by decide +kernel) ?_
  refine s_imul E dX8_init_31 ?_
  refine s_top (y := 16) (by decide) ?_
  refine s_newa100 (N := 16) E k_63 (by decide +kernel) (by decide) (by decide) (by decide) (Nat.le_of_ble_eq_true rfl) (Nat.le_of_ble_eq_true rfl) dX8_init_32 ?_
  refine s_topR (y := 19) (by decide +kernel) ?_
  refine s_world (w2 := wv_60) rfl ?_
  refine Wv.widen (cs2 := 1) (sl2 := 16) (Nat.le_of_ble_eq_true rfl) (Nat.le_of_ble_eq_true rfl) ?_
  refine s_pRF E hin ff_X8_24 rfl rfl (by decide +kernel) dX8_init_34 ?_
  refine s_world (w2 := wv_61) rfl ?_
  refine s_aload_n E dX8_init_37 rfl rfl ?_
  refine s_iconst (v := 0) E dX8_init_38 (by decide) ?_
  refine s_pI E fp_X8_28 (Or.inl rfl) rfl (by decide +kernel) dX8_init_39 ?_
  refine s_world (w2 := wv_62) rfl ?_
  exact r_void E dX8_init_42 rfl
set_option maxRecDepth 20000 in
theorem KC_10 (l : Launch) (D : va_G) (aC : Nat → ClassId) (b : Nat) : CnV l D aC b M_X8_init 1 21 1 30 [AR 20, AI 10, AI 3] wv_64 (fun u => u = wv_69) := by
  refine cn_V (own := RX8) (nm := "<init>") (L0 := [some (AR 20), some (AI 10), some (AI 3)]) (by decide +kernel) rfl rfl (Nat.le_of_ble_eq_true rfl) rfl ?_
  intro p e s m args below meth c E hin
  refine s_aload_n E dX8_init_0 rfl rfl ?_
  refine s_obj E k_39 k_26 k_27 (Nat.le_of_ble_eq_true rfl) (Nat.le_of_ble_eq_true rfl) dX8_init_1 ?_
  refine s_aload_n E dX8_init_4 rfl rfl ?_
  refine s_iconst (v := 0) E dX8_init_5 (by decide) ?_
  refine s_iload_n E dX8_init_6 rfl rfl ?_
  refine s_max (v := 10) E ⟨k_40, k_41, k_4, k_42⟩ (Nat.le_of_ble_eq_true rfl) (Nat.le_of_ble_eq_true rfl) (Nat.le_of_ble_eq_true rfl) (Nat.le_of_ble_eq_true rfl) dX8_init_7 (by decide) ?_
  refine s_pIF E hin ff_X8_15 rfl rfl (by decide +kernel) dX8_init_10 ?_
  refine s_world (w2 := wv_65) rfl ?_
  refine s_aload_n E dX8_init_13 rfl rfl ?_
  refine s_iconst (v := 0) E dX8_init_14 (by decide) ?_
  refine s_iload_n E dX8_init_15 rfl rfl ?_
  refine s_max (v := 3) E ⟨k_40, k_41, k_4, k_42⟩ (Nat.le_of_ble_eq_true rfl) (Nat.le_of_ble_eq_true rfl) (Nat.le_of_ble_eq_true rfl) (Nat.le_of_ble_eq_true rfl) dX8_init_16 (by decide) ?_
  refine s_pIF E hin ff_X8_21 rfl rfl (by decide +kernel) dX8_init_19 ?_
  refine s_world (w2 := wv_66) rfl ?_
  refine s_aload_n E dX8_init_22 rfl rfl ?_
  refine s_aload_n E dX8_init_23 rfl rfl ?_
  refine s_gI E fg_X8_15 rfl rfl (by decide +kernel) dX8_init_24 ?_
  refine s_top (y := 10) (by decide +kernel) ?_
  refine s_aload_n E dX8_init_27 rfl rfl ?_
  refine s_gI E fg_X8_21 rfl rfl (by decide +kernel) dX8_init_28 ?_
  refine s_top (y := 3) (by decide +kernel) ?_
  refine s_imul E dX8_init_31 ?_
  refine s_top (y := 30) (by decide) ?_
  refine s_newa100 (N := 30) E k_63 (by decide +kernel) (by decide) (by decide) (by decide) (Nat.le_of_ble_eq_true rfl) (Nat.le_of_ble_eq_true rfl) dX8_init_32 ?_
  refine s_topR (y := 21) (by decide +kernel) ?_
  refine s_world (w2 := wv_67) rfl ?_
  refine Wv.widen (cs2 := 1) (sl2 := 30) (Nat.le_of_ble_eq_true rfl) (Nat.le_of_ble_eq_true rfl) ?_
  refine s_pRF E hin ff_X8_24 rfl rfl (by decide +kernel) dX8_init_34 ?_
  refine s_world (w2 := wv_68) rfl ?_
  refine s_aload_n E dX8_init_37 rfl rfl ?_
  refine s_iconst (v := 0) E dX8_init_38 (by decide) ?_
  refine s_pI E fp_X8_28 (Or.inl rfl) rfl (by decide +kernel) dX8_init_39 ?_
  refine s_world (w2 := wv_69) rfl ?_
  exact r_void E dX8_init_42 rfl
set_option maxRecDepth 20000 in
theorem KC_11 (l : Launch) (D : va_G) (aC : Nat → ClassId) (b : Nat) : CnV l D aC b M_X8_init 1 21 1 120 [AR 22, AI 30, AI 4] wv_71 (fun u => u = wv_76) := by
  refine cn_V (own := RX8) (nm := "<init>") (L0 := [some (AR 22), some (AI 30), some (AI 4)]) (by decide +kernel) rfl rfl (Nat.le_of_ble_eq_true rfl) rfl ?_
  intro p e s m args below meth c E hin
  refine s_aload_n E dX8_init_0 rfl rfl ?_
  refine s_obj E k_39 k_26 k_27 (Nat.le_of_ble_eq_true rfl) (Nat.le_of_ble_eq_true rfl) dX8_init_1 ?_
  refine s_aload_n E dX8_init_4 rfl rfl ?_
  refine s_iconst (v := 0) E dX8_init_5 (by decide) ?_
  refine s_iload_n E dX8_init_6 rfl rfl ?_
  refine s_max (v := 30) E ⟨k_40, k_41, k_4, k_42⟩ (Nat.le_of_ble_eq_true rfl) (Nat.le_of_ble_eq_true rfl) (Nat.le_of_ble_eq_true rfl) (Nat.le_of_ble_eq_true rfl) dX8_init_7 (by decide) ?_
  refine s_pIF E hin ff_X8_15 rfl rfl (by decide +kernel) dX8_init_10 ?_
  refine s_world (w2 := wv_72) rfl ?_
  refine s_aload_n E dX8_init_13 rfl rfl ?_
  refine s_iconst (v := 0) E dX8_init_14 (by decide) ?_
  refine s_iload_n E dX8_init_15 rfl rfl ?_
  refine s_max (v := 4) E ⟨k_40, k_41, k_4, k_42⟩ (Nat.le_of_ble_eq_true rfl) (Nat.le_of_ble_eq_true rfl) (Nat.le_of_ble_eq_true rfl) (Nat.le_of_ble_eq_true rfl) dX8_init_16 (by decide) ?_
  refine s_pIF E hin ff_X8_21 rfl rfl (by decide +kernel) dX8_init_19 ?_
  refine s_world (w2 := wv_73) rfl ?_
  refine s_aload_n E dX8_init_22 rfl rfl ?_
  refine s_aload_n E dX8_init_23 rfl rfl ?_
  refine s_gI E fg_X8_15 rfl rfl (by decide +kernel) dX8_init_24 ?_
  refine s_top (y := 30) (by decide +kernel) ?_
  refine s_aload_n E dX8_init_27 rfl rfl ?_
  refine s_gI E fg_X8_21 rfl rfl (by decide +kernel) dX8_init_28 ?_
  refine s_top (y := 4) (by decide +kernel) ?_
  refine s_imul E dX8_init_31 ?_
  refine s_top (y := 120) (by decide) ?_
  refine s_newa100 (N := 120) E k_63 (by decide +kernel) (by decide) (by decide) (by decide) (Nat.le_of_ble_eq_true rfl) (Nat.le_of_ble_eq_true rfl) dX8_init_32 ?_
  refine s_topR (y := 23) (by decide +kernel) ?_
  refine s_world (w2 := wv_74) rfl ?_
  refine Wv.widen (cs2 := 1) (sl2 := 120) (Nat.le_of_ble_eq_true rfl) (Nat.le_of_ble_eq_true rfl) ?_
  refine s_pRF E hin ff_X8_24 rfl rfl (by decide +kernel) dX8_init_34 ?_
  refine s_world (w2 := wv_75) rfl ?_
  refine s_aload_n E dX8_init_37 rfl rfl ?_
  refine s_iconst (v := 0) E dX8_init_38 (by decide) ?_
  refine s_pI E fp_X8_28 (Or.inl rfl) rfl (by decide +kernel) dX8_init_39 ?_
  refine s_world (w2 := wv_76) rfl ?_
  exact r_void E dX8_init_42 rfl
set_option maxRecDepth 20000 in
theorem KC_12 (l : Launch) (D : va_G) (aC : Nat → ClassId) (b : Nat) : CnV l D aC b M_X0_init 2 43 10 234 [AR 13] wv_42 (fun u => u = wv_77) := by
  refine cn_V (own := RX0) (nm := "<init>") (L0 := [some (AR 13)]) (by decide +kernel) rfl rfl (Nat.le_of_ble_eq_true rfl) rfl ?_
  intro p e s m args below meth c E hin
  refine s_aload_n E dX0_init_0 rfl rfl ?_
  refine s_obj E k_33 k_26 k_27 (Nat.le_of_ble_eq_true rfl) (Nat.le_of_ble_eq_true rfl) dX0_init_1 ?_
  refine s_aload_n E dX0_init_4 rfl rfl ?_
  refine s_new E CI8 (by decide +kernel) k_34 k_35 k_3 (by decide +kernel) (Nat.le_of_ble_eq_true rfl) (Nat.le_of_ble_eq_true rfl) dX0_init_5 ?_
  refine s_topR (y := 14) (by decide +kernel) ?_
  refine s_world (w2 := wv_43) rfl ?_
  refine Wv.widen (cs2 := 1) (sl2 := 4) (Nat.le_of_ble_eq_true rfl) (Nat.le_of_ble_eq_true rfl) ?_
  refine s_dupR E dX0_init_8 ?_
  refine s_bipush (v := 12) E dX0_init_9 (by decide) ?_
  refine s_iconst (v := 3) E dX0_init_11 (by decide) ?_
  refine s_init (As := [AI 12, AI 3]) (S := [AR 14, AR 13]) E (KC_7 l D aC b) ci_X0_11 rfl rfl (Nat.le_of_ble_eq_true rfl) (Nat.le_of_ble_eq_true rfl) ⟨(Nat.le_of_ble_eq_true rfl), (Nat.le_of_ble_eq_true rfl)⟩ (Nat.le_of_ble_eq_true rfl) dX0_init_12 (fun u hp => ?_)
  subst hp
  refine Wv.widen (cs2 := 2) (sl2 := 40) (Nat.le_of_ble_eq_true rfl) (Nat.le_of_ble_eq_true rfl) ?_
  refine s_pRF E hin ff_X0_14 rfl rfl (by decide +kernel) dX0_init_15 ?_
  refine s_world (w2 := wv_49) rfl ?_
  refine s_aload_n E dX0_init_18 rfl rfl ?_
  refine s_new E CI8 (by decide +kernel) k_34 k_35 k_3 (by decide +kernel) (Nat.le_of_ble_eq_true rfl) (Nat.le_of_ble_eq_true rfl) dX0_init_19 ?_
  refine s_topR (y := 16) (by decide +kernel) ?_
  refine s_world (w2 := wv_50) rfl ?_
  refine Wv.widen (cs2 := 3) (sl2 := 44) (Nat.le_of_ble_eq_true rfl) (Nat.le_of_ble_eq_true rfl) ?_
  refine s_dupR E dX0_init_22 ?_
  refine s_bipush (v := 6) E dX0_init_23 (by decide) ?_
  refine s_iconst (v := 2) E dX0_init_25 (by decide) ?_
  refine s_init (As := [AI 6, AI 2]) (S := [AR 16, AR 13]) E (KC_8 l D aC b) ci_X0_11 rfl rfl (Nat.le_of_ble_eq_true rfl) (Nat.le_of_ble_eq_true rfl) ⟨(Nat.le_of_ble_eq_true rfl), (Nat.le_of_ble_eq_true rfl)⟩ (Nat.le_of_ble_eq_true rfl) dX0_init_26 (fun u hp => ?_)
  subst hp
  refine Wv.widen (cs2 := 4) (sl2 := 56) (Nat.le_of_ble_eq_true rfl) (Nat.le_of_ble_eq_true rfl) ?_
  refine s_pRF E hin ff_X0_20 rfl rfl (by decide +kernel) dX0_init_29 ?_
  refine s_world (w2 := wv_56) rfl ?_
  refine s_aload_n E dX0_init_32 rfl rfl ?_
  refine s_new E CI8 (by decide +kernel) k_34 k_35 k_3 (by decide +kernel) (Nat.le_of_ble_eq_true rfl) (Nat.le_of_ble_eq_true rfl) dX0_init_33 ?_
  refine s_topR (y := 18) (by decide +kernel) ?_
  refine s_world (w2 := wv_57) rfl ?_
  refine Wv.widen (cs2 := 5) (sl2 := 60) (Nat.le_of_ble_eq_true rfl) (Nat.le_of_ble_eq_true rfl) ?_
  refine s_dupR E dX0_init_36 ?_
  refine s_bipush (v := 8) E dX0_init_37 (by decide) ?_
  refine s_iconst (v := 2) E dX0_init_39 (by decide) ?_
  refine s_init (As := [AI 8, AI 2]) (S := [AR 18, AR 13]) E (KC_9 l D aC b) ci_X0_11 rfl rfl (Nat.le_of_ble_eq_true rfl) (Nat.le_of_ble_eq_true rfl) ⟨(Nat.le_of_ble_eq_true rfl), (Nat.le_of_ble_eq_true rfl)⟩ (Nat.le_of_ble_eq_true rfl) dX0_init_40 (fun u hp => ?_)
  subst hp
  refine Wv.widen (cs2 := 6) (sl2 := 76) (Nat.le_of_ble_eq_true rfl) (Nat.le_of_ble_eq_true rfl) ?_
  refine s_pRF E hin ff_X0_23 rfl rfl (by decide +kernel) dX0_init_43 ?_
  refine s_world (w2 := wv_63) rfl ?_
  refine s_aload_n E dX0_init_46 rfl rfl ?_
  refine s_new E CI8 (by decide +kernel) k_34 k_35 k_3 (by decide +kernel) (Nat.le_of_ble_eq_true rfl) (Nat.le_of_ble_eq_true rfl) dX0_init_47 ?_
  refine s_topR (y := 20) (by decide +kernel) ?_
  refine s_world (w2 := wv_64) rfl ?_
  refine Wv.widen (cs2 := 7) (sl2 := 80) (Nat.le_of_ble_eq_true rfl) (Nat.le_of_ble_eq_true rfl) ?_
  refine s_dupR E dX0_init_50 ?_
  refine s_bipush (v := 10) E dX0_init_51 (by decide) ?_
  refine s_iconst (v := 3) E dX0_init_53 (by decide) ?_
  refine s_init (As := [AI 10, AI 3]) (S := [AR 20, AR 13]) E (KC_10 l D aC b) ci_X0_11 rfl rfl (Nat.le_of_ble_eq_true rfl) (Nat.le_of_ble_eq_true rfl) ⟨(Nat.le_of_ble_eq_true rfl), (Nat.le_of_ble_eq_true rfl)⟩ (Nat.le_of_ble_eq_true rfl) dX0_init_54 (fun u hp => ?_)
  subst hp
  refine Wv.widen (cs2 := 8) (sl2 := 110) (Nat.le_of_ble_eq_true rfl) (Nat.le_of_ble_eq_true rfl) ?_
  refine s_pRF E hin ff_X0_26 rfl rfl (by decide +kernel) dX0_init_57 ?_
  refine s_world (w2 := wv_70) rfl ?_
  refine s_aload_n E dX0_init_60 rfl rfl ?_
  refine s_new E CI8 (by decide +kernel) k_34 k_35 k_3 (by decide +kernel) (Nat.le_of_ble_eq_true rfl) (Nat.le_of_ble_eq_true rfl) dX0_init_61 ?_
  refine s_topR (y := 22) (by decide +kernel) ?_
  refine s_world (w2 := wv_71) rfl ?_
  refine Wv.widen (cs2 := 9) (sl2 := 114) (Nat.le_of_ble_eq_true rfl) (Nat.le_of_ble_eq_true rfl) ?_
  refine s_dupR E dX0_init_64 ?_
  refine s_bipush (v := 30) E dX0_init_65 (by decide) ?_
  refine s_iconst (v := 4) E dX0_init_67 (by decide) ?_
  refine s_init (As := [AI 30, AI 4]) (S := [AR 22, AR 13]) E (KC_11 l D aC b) ci_X0_11 rfl rfl (Nat.le_of_ble_eq_true rfl) (Nat.le_of_ble_eq_true rfl) ⟨(Nat.le_of_ble_eq_true rfl), (Nat.le_of_ble_eq_true rfl)⟩ (Nat.le_of_ble_eq_true rfl) dX0_init_68 (fun u hp => ?_)
  subst hp
  refine Wv.widen (cs2 := 10) (sl2 := 234) (Nat.le_of_ble_eq_true rfl) (Nat.le_of_ble_eq_true rfl) ?_
  refine s_pRF E hin ff_X0_29 rfl rfl (by decide +kernel) dX0_init_71 ?_
  refine s_world (w2 := wv_77) rfl ?_
  exact r_void E dX0_init_74 rfl
set_option maxRecDepth 20000 in
theorem KC_13 (l : Launch) (D : va_G) (aC : Nat → ClassId) (b : Nat) : CnV l D aC b M_X6_init 1 20 0 0 [AR 24, AR 1, AR 13] wv_79 (fun u => u = wv_82) := by
  refine cn_V (own := RX6) (nm := "<init>") (L0 := [some (AR 24), some (AR 1), some (AR 13)]) (by decide +kernel) rfl rfl (Nat.le_of_ble_eq_true rfl) rfl ?_
  intro p e s m args below meth c E hin
  refine s_aload_n E dX6_init_0 rfl rfl ?_
  refine s_obj E k_128 k_26 k_27 (Nat.le_of_ble_eq_true rfl) (Nat.le_of_ble_eq_true rfl) dX6_init_1 ?_
  refine s_aload_n E dX6_init_4 rfl rfl ?_
  refine s_aload_n E dX6_init_5 rfl rfl ?_
  refine s_pRF E hin ff_X6_9 rfl rfl (by decide +kernel) dX6_init_6 ?_
  refine s_world (w2 := wv_80) rfl ?_
  refine s_aload_n E dX6_init_9 rfl rfl ?_
  refine s_aload_n E dX6_init_10 rfl rfl ?_
  refine s_pRF E hin ff_X6_15 rfl rfl (by decide +kernel) dX6_init_11 ?_
  refine s_world (w2 := wv_81) rfl ?_
  refine s_aload_n E dX6_init_14 rfl rfl ?_
  refine s_iconst (v := (-1)) E dX6_init_15 (by decide) ?_
  refine s_pI E fp_X6_19 (Or.inl rfl) rfl (by decide +kernel) dX6_init_16 ?_
  refine s_world (w2 := wv_82) rfl ?_
  exact r_void E dX6_init_19 rfl
set_option maxRecDepth 20000 in
theorem KC_14 (l : Launch) (D : va_G) (aC : Nat → ClassId) (b : Nat) : CnV l D aC b M_X8_init 1 21 1 36 [AR 28, AI 12, AI 3] wv_89 (fun u => u = wv_94) := by
  refine cn_V (own := RX8) (nm := "<init>") (L0 := [some (AR 28), some (AI 12), some (AI 3)]) (by decide +kernel) rfl rfl (Nat.le_of_ble_eq_true rfl) rfl ?_
  intro p e s m args below meth c E hin
  refine s_aload_n E dX8_init_0 rfl rfl ?_
  refine s_obj E k_39 k_26 k_27 (Nat.le_of_ble_eq_true rfl) (Nat.le_of_ble_eq_true rfl) dX8_init_1 ?_
  refine s_aload_n E dX8_init_4 rfl rfl ?_
  refine s_iconst (v := 0) E dX8_init_5 (by decide) ?_
  refine s_iload_n E dX8_init_6 rfl rfl ?_
  refine s_max (v := 12) E ⟨k_40, k_41, k_4, k_42⟩ (Nat.le_of_ble_eq_true rfl) (Nat.le_of_ble_eq_true rfl) (Nat.le_of_ble_eq_true rfl) (Nat.le_of_ble_eq_true rfl) dX8_init_7 (by decide) ?_
  refine s_pIF E hin ff_X8_15 rfl rfl (by decide +kernel) dX8_init_10 ?_
  refine s_world (w2 := wv_90) rfl ?_
  refine s_aload_n E dX8_init_13 rfl rfl ?_
  refine s_iconst (v := 0) E dX8_init_14 (by decide) ?_
  refine s_iload_n E dX8_init_15 rfl rfl ?_
  refine s_max (v := 3) E ⟨k_40, k_41, k_4, k_42⟩ (Nat.le_of_ble_eq_true rfl) (Nat.le_of_ble_eq_true rfl) (Nat.le_of_ble_eq_true rfl) (Nat.le_of_ble_eq_true rfl) dX8_init_16 (by decide) ?_
  refine s_pIF E hin ff_X8_21 rfl rfl (by decide +kernel) dX8_init_19 ?_
  refine s_world (w2 := wv_91) rfl ?_
  refine s_aload_n E dX8_init_22 rfl rfl ?_
  refine s_aload_n E dX8_init_23 rfl rfl ?_
  refine s_gI E fg_X8_15 rfl rfl (by decide +kernel) dX8_init_24 ?_
  refine s_top (y := 12) (by decide +kernel) ?_
  refine s_aload_n E dX8_init_27 rfl rfl ?_
  refine s_gI E fg_X8_21 rfl rfl (by decide +kernel) dX8_init_28 ?_
  refine s_top (y := 3) (by decide +kernel) ?_
  refine s_imul E dX8_init_31 ?_
  refine s_top (y := 36) (by decide) ?_
  refine s_newa100 (N := 36) E k_63 (by decide +kernel) (by decide) (by decide) (by decide) (Nat.le_of_ble_eq_true rfl) (Nat.le_of_ble_eq_true rfl) dX8_init_32 ?_
  refine s_topR (y := 29) (by decide +kernel) ?_
  refine s_world (w2 := wv_92) rfl ?_
  refine Wv.widen (cs2 := 1) (sl2 := 36) (Nat.le_of_ble_eq_true rfl) (Nat.le_of_ble_eq_true rfl) ?_
  refine s_pRF E hin ff_X8_24 rfl rfl (by decide +kernel) dX8_init_34 ?_
  refine s_world (w2 := wv_93) rfl ?_
  refine s_aload_n E dX8_init_37 rfl rfl ?_
  refine s_iconst (v := 0) E dX8_init_38 (by decide) ?_
  refine s_pI E fp_X8_28 (Or.inl rfl) rfl (by decide +kernel) dX8_init_39 ?_
  refine s_world (w2 := wv_94) rfl ?_
  exact r_void E dX8_init_42 rfl
set_option maxRecDepth 20000 in
theorem KC_15 (l : Launch) (D : va_G) (aC : Nat → ClassId) (b : Nat) : CnV l D aC b M_X8_init 1 21 1 12 [AR 30, AI 6, AI 2] wv_96 (fun u => u = wv_101) := by
  refine cn_V (own := RX8) (nm := "<init>") (L0 := [some (AR 30), some (AI 6), some (AI 2)]) (by decide +kernel) rfl rfl (Nat.le_of_ble_eq_true rfl) rfl ?_
  intro p e s m args below meth c E hin
  refine s_aload_n E dX8_init_0 rfl rfl ?_
  refine s_obj E k_39 k_26 k_27 (Nat.le_of_ble_eq_true rfl) (Nat.le_of_ble_eq_true rfl) dX8_init_1 ?_
  refine s_aload_n E dX8_init_4 rfl rfl ?_
  refine s_iconst (v := 0) E dX8_init_5 (by decide) ?_
  refine s_iload_n E dX8_init_6 rfl rfl ?_
  refine s_max (v := 6) E ⟨k_40, k_41, k_4, k_42⟩ (Nat.le_of_ble_eq_true rfl) (Nat.le_of_ble_eq_true rfl) (Nat.le_of_ble_eq_true rfl) (Nat.le_of_ble_eq_true rfl) dX8_init_7 (by decide) ?_
  refine s_pIF E hin ff_X8_15 rfl rfl (by decide +kernel) dX8_init_10 ?_
  refine s_world (w2 := wv_97) rfl ?_
  refine s_aload_n E dX8_init_13 rfl rfl ?_
  refine s_iconst (v := 0) E dX8_init_14 (by decide) ?_
  refine s_iload_n E dX8_init_15 rfl rfl ?_
  refine s_max (v := 2) E ⟨k_40, k_41, k_4, k_42⟩ (Nat.le_of_ble_eq_true rfl) (Nat.le_of_ble_eq_true rfl) (Nat.le_of_ble_eq_true rfl) (Nat.le_of_ble_eq_true rfl) dX8_init_16 (by decide) ?_
  refine s_pIF E hin ff_X8_21 rfl rfl (by decide +kernel) dX8_init_19 ?_
  refine s_world (w2 := wv_98) rfl ?_
  refine s_aload_n E dX8_init_22 rfl rfl ?_
  refine s_aload_n E dX8_init_23 rfl rfl ?_
  refine s_gI E fg_X8_15 rfl rfl (by decide +kernel) dX8_init_24 ?_
  refine s_top (y := 6) (by decide +kernel) ?_
  refine s_aload_n E dX8_init_27 rfl rfl ?_
  refine s_gI E fg_X8_21 rfl rfl (by decide +kernel) dX8_init_28 ?_
  refine s_top (y := 2) (by decide +kernel) ?_
  refine s_imul E dX8_init_31 ?_
  refine s_top (y := 12) (by decide) ?_
  refine s_newa100 (N := 12) E k_63 (by decide +kernel) (by decide) (by decide) (by decide) (Nat.le_of_ble_eq_true rfl) (Nat.le_of_ble_eq_true rfl) dX8_init_32 ?_
  refine s_topR (y := 31) (by decide +kernel) ?_
  refine s_world (w2 := wv_99) rfl ?_
  refine Wv.widen (cs2 := 1) (sl2 := 12) (Nat.le_of_ble_eq_true rfl) (Nat.le_of_ble_eq_true rfl) ?_
  refine s_pRF E hin ff_X8_24 rfl rfl (by decide +kernel) dX8_init_34 ?_
  refine s_world (w2 := wv_100) rfl ?_
  refine s_aload_n E dX8_init_37 rfl rfl ?_
  refine s_iconst (v := 0) E dX8_init_38 (by decide) ?_
  refine s_pI E fp_X8_28 (Or.inl rfl) rfl (by decide +kernel) dX8_init_39 ?_
  refine s_world (w2 := wv_101) rfl ?_
  exact r_void E dX8_init_42 rfl
set_option maxRecDepth 20000 in
theorem KC_16 (l : Launch) (D : va_G) (aC : Nat → ClassId) (b : Nat) : CnV l D aC b M_X8_init 1 21 1 16 [AR 32, AI 8, AI 2] wv_103 (fun u => u = wv_108) := by
  refine cn_V (own := RX8) (nm := "<init>") (L0 := [some (AR 32), some (AI 8), some (AI 2)]) (by decide +kernel) rfl rfl (Nat.le_of_ble_eq_true rfl) rfl ?_
  intro p e s m args below meth c E hin
  refine s_aload_n E dX8_init_0 rfl rfl ?_
  refine s_obj E k_39 k_26 k_27 (Nat.le_of_ble_eq_true rfl) (Nat.le_of_ble_eq_true rfl) dX8_init_1 ?_
  refine s_aload_n E dX8_init_4 rfl rfl ?_
  refine s_iconst (v := 0) E dX8_init_5 (by decide) ?_
  refine s_iload_n E dX8_init_6 rfl rfl ?_
  refine s_max (v := 8) E ⟨k_40, k_41, k_4, k_42⟩ (Nat.le_of_ble_eq_true rfl) (Nat.le_of_ble_eq_true rfl) (Nat.le_of_ble_eq_true rfl) (Nat.le_of_ble_eq_true rfl) dX8_init_7 (by decide) ?_
  refine s_pIF E hin ff_X8_15 rfl rfl (by decide +kernel) dX8_init_10 ?_
  refine s_world (w2 := wv_104) rfl ?_
  refine s_aload_n E dX8_init_13 rfl rfl ?_
  refine s_iconst (v := 0) E dX8_init_14 (by decide) ?_
  refine s_iload_n E dX8_init_15 rfl rfl ?_
  refine s_max (v := 2) E ⟨k_40, k_41, k_4, k_42⟩ (Nat.le_of_ble_eq_true rfl) (Nat.le_of_ble_eq_true rfl) (Nat.le_of_ble_eq_true rfl) (Nat.le_of_ble_eq_true rfl) dX8_init_16 (by decide) ?_
  refine s_pIF E hin ff_X8_21 rfl rfl (by decide +kernel) dX8_init_19 ?_
  refine s_world (w2 := wv_105) rfl ?_
  refine s_aload_n E dX8_init_22 rfl rfl ?_
  refine s_aload_n E dX8_init_23 rfl rfl ?_
  refine s_gI E fg_X8_15 rfl rfl (by decide +kernel) dX8_init_24 ?_
  refine s_top (y := 8) (by decide +kernel) ?_
  refine s_aload_n E dX8_init_27 rfl rfl ?_
  refine s_gI E fg_X8_21 rfl rfl (by decide +kernel) dX8_init_28 ?_
  refine s_top (y := 2) (by decide +kernel) ?_
  refine s_imul E dX8_init_31 ?_
  refine s_top (y := 16) (by decide) ?_
  refine s_newa100 (N := 16) E k_63 (by decide +kernel) (by decide) (by decide) (by decide) (Nat.le_of_ble_eq_true rfl) (Nat.le_of_ble_eq_true rfl) dX8_init_32 ?_
  refine s_topR (y := 33) (by decide +kernel) ?_
  refine s_world (w2 := wv_106) rfl ?_
  refine Wv.widen (cs2 := 1) (sl2 := 16) (Nat.le_of_ble_eq_true rfl) (Nat.le_of_ble_eq_true rfl) ?_
  refine s_pRF E hin ff_X8_24 rfl rfl (by decide +kernel) dX8_init_34 ?_
  refine s_world (w2 := wv_107) rfl ?_
  refine s_aload_n E dX8_init_37 rfl rfl ?_
  refine s_iconst (v := 0) E dX8_init_38 (by decide) ?_
  refine s_pI E fp_X8_28 (Or.inl rfl) rfl (by decide +kernel) dX8_init_39 ?_
  refine s_world (w2 := wv_108) rfl ?_
  exact r_void E dX8_init_42 rfl
set_option maxRecDepth 20000 in
theorem KC_17 (l : Launch) (D : va_G) (aC : Nat → ClassId) (b : Nat) : CnV l D aC b M_X8_init 1 21 1 30 [AR 34, AI 10, AI 3] wv_110 (fun u => u = wv_115) := by
  refine cn_V (own := RX8) (nm := "<init>") (L0 := [some (AR 34), some (AI 10), some (AI 3)]) (by decide +kernel) rfl rfl (Nat.le_of_ble_eq_true rfl) rfl ?_
  intro p e s m args below meth c E hin
  refine s_aload_n E dX8_init_0 rfl rfl ?_
  refine s_obj E k_39 k_26 k_27 (Nat.le_of_ble_eq_true rfl) (Nat.le_of_ble_eq_true rfl) dX8_init_1 ?_
  refine s_aload_n E dX8_init_4 rfl rfl ?_
  refine s_iconst (v := 0) E dX8_init_5 (by decide) ?_
  refine s_iload_n E dX8_init_6 rfl rfl ?_
  refine s_max (v := 10) E ⟨k_40, k_41, k_4, k_42⟩ (Nat.le_of_ble_eq_true rfl) (Nat.le_of_ble_eq_true rfl) (Nat.le_of_ble_eq_true rfl) (Nat.le_of_ble_eq_true rfl) dX8_init_7 (by decide) ?_
  refine s_pIF E hin ff_X8_15 rfl rfl (by decide +kernel) dX8_init_10 ?_
  refine s_world (w2 := wv_111) rfl ?_
  refine s_aload_n E dX8_init_13 rfl rfl ?_
  refine s_iconst (v := 0) E dX8_init_14 (by decide) ?_
  refine s_iload_n E dX8_init_15 rfl rfl ?_
  refine s_max (v := 3) E ⟨k_40, k_41, k_4, k_42⟩ (Nat.le_of_ble_eq_true rfl) (Nat.le_of_ble_eq_true rfl) (Nat.le_of_ble_eq_true rfl) (Nat.le_of_ble_eq_true rfl) dX8_init_16 (by decide) ?_
  refine s_pIF E hin ff_X8_21 rfl rfl (by decide +kernel) dX8_init_19 ?_
  refine s_world (w2 := wv_112) rfl ?_
  refine s_aload_n E dX8_init_22 rfl rfl ?_
  refine s_aload_n E dX8_init_23 rfl rfl ?_
  refine s_gI E fg_X8_15 rfl rfl (by decide +kernel) dX8_init_24 ?_
  refine s_top (y := 10) (by decide +kernel) ?_
  refine s_aload_n E dX8_init_27 rfl rfl ?_
  refine s_gI E fg_X8_21 rfl rfl (by decide +kernel) dX8_init_28 ?_
  refine s_top (y := 3) (by decide +kernel) ?_
  refine s_imul E dX8_init_31 ?_
  refine s_top (y := 30) (by decide) ?_
  refine s_newa100 (N := 30) E k_63 (by decide +kernel) (by decide) (by decide) (by decide) (Nat.le_of_ble_eq_true rfl) (Nat.le_of_ble_eq_true rfl) dX8_init_32 ?_
  refine s_topR (y := 35) (by decide +kernel) ?_
  refine s_world (w2 := wv_113) rfl ?_
  refine Wv.widen (cs2 := 1) (sl2 := 30) (Nat.le_of_ble_eq_true rfl) (Nat.le_of_ble_eq_true rfl) ?_
  refine s_pRF E hin ff_X8_24 rfl rfl (by decide +kernel) dX8_init_34 ?_
  refine s_world (w2 := wv_114) rfl ?_
  refine s_aload_n E dX8_init_37 rfl rfl ?_
  refine s_iconst (v := 0) E dX8_init_38 (by decide) ?_
  refine s_pI E fp_X8_28 (Or.inl rfl) rfl (by decide +kernel) dX8_init_39 ?_
  refine s_world (w2 := wv_115) rfl ?_
  exact r_void E dX8_init_42 rfl
set_option maxRecDepth 20000 in
theorem KC_18 (l : Launch) (D : va_G) (aC : Nat → ClassId) (b : Nat) : CnV l D aC b M_X8_init 1 21 1 120 [AR 36, AI 30, AI 4] wv_117 (fun u => u = wv_122) := by
  refine cn_V (own := RX8) (nm := "<init>") (L0 := [some (AR 36), some (AI 30), some (AI 4)]) (by decide +kernel) rfl rfl (Nat.le_of_ble_eq_true rfl) rfl ?_
  intro p e s m args below meth c E hin
  refine s_aload_n E dX8_init_0 rfl rfl ?_
  refine s_obj E k_39 k_26 k_27 (Nat.le_of_ble_eq_true rfl) (Nat.le_of_ble_eq_true rfl) dX8_init_1 ?_
  refine s_aload_n E dX8_init_4 rfl rfl ?_
  refine s_iconst (v := 0) E dX8_init_5 (by decide) ?_
  refine s_iload_n E dX8_init_6 rfl rfl ?_
  refine s_max (v := 30) E ⟨k_40, k_41, k_4, k_42⟩ (Nat.le_of_ble_eq_true rfl) (Nat.le_of_ble_eq_true rfl) (Nat.le_of_ble_eq_true rfl) (Nat.le_of_ble_eq_true rfl) dX8_init_7 (by decide) ?_
  refine s_pIF E hin ff_X8_15 rfl rfl (by decide +kernel) dX8_init_10 ?_
  refine s_world (w2 := wv_118) rfl ?_
  refine s_aload_n E dX8_init_13 rfl rfl ?_
  refine s_iconst (v := 0) E dX8_init_14 (by decide) ?_
  refine s_iload_n E dX8_init_15 rfl rfl ?_
  refine s_max (v := 4) E ⟨k_40, k_41, k_4, k_42⟩ (Nat.le_of_ble_eq_true rfl) (Nat.le_of_ble_eq_true rfl) (Nat.le_of_ble_eq_true rfl) (Nat.le_of_ble_eq_true rfl) dX8_init_16 (by decide) ?_
  refine s_pIF E hin ff_X8_21 rfl rfl (by decide +kernel) dX8_init_19 ?_
  refine s_world (w2 := wv_119) rfl ?_
  refine s_aload_n E dX8_init_22 rfl rfl ?_
  refine s_aload_n E dX8_init_23 rfl rfl ?_
  refine s_gI E fg_X8_15 rfl rfl (by decide +kernel) dX8_init_24 ?_
  refine s_top (y := 30) (by decide +kernel) ?_
  refine s_aload_n E dX8_init_27 rfl rfl ?_
  refine s_gI E fg_X8_21 rfl rfl (by decide +kernel) dX8_init_28 ?_
  refine s_top (y := 4) (by decide +kernel) ?_
  refine s_imul E dX8_init_31 ?_
  refine s_top (y := 120) (by decide) ?_
  refine s_newa100 (N := 120) E k_63 (by decide +kernel) (by decide) (by decide) (by decide) (Nat.le_of_ble_eq_true rfl) (Nat.le_of_ble_eq_true rfl) dX8_init_32 ?_
  refine s_topR (y := 37) (by decide +kernel) ?_
  refine s_world (w2 := wv_120) rfl ?_
  refine Wv.widen (cs2 := 1) (sl2 := 120) (Nat.le_of_ble_eq_true rfl) (Nat.le_of_ble_eq_true rfl) ?_
  refine s_pRF E hin ff_X8_24 rfl rfl (by decide +kernel) dX8_init_34 ?_
  refine s_world (w2 := wv_121) rfl ?_
  refine s_aload_n E dX8_init_37 rfl rfl ?_
  refine s_iconst (v := 0) E dX8_init_38 (by decide) ?_
  refine s_pI E fp_X8_28 (Or.inl rfl) rfl (by decide +kernel) dX8_init_39 ?_
  refine s_world (w2 := wv_122) rfl ?_
  exact r_void E dX8_init_42 rfl
set_option maxRecDepth 20000 in
theorem KC_19 (l : Launch) (D : va_G) (aC : Nat → ClassId) (b : Nat) : CnV l D aC b M_X0_init 2 43 10 234 [AR 27] wv_88 (fun u => u = wv_123) := by
  refine cn_V (own := RX0) (nm := "<init>") (L0 := [some (AR 27)]) (by decide +kernel) rfl rfl (Nat.le_of_ble_eq_true rfl) rfl ?_
  intro p e s m args below meth c E hin
  refine s_aload_n E dX0_init_0 rfl rfl ?_
  refine s_obj E k_33 k_26 k_27 (Nat.le_of_ble_eq_true rfl) (Nat.le_of_ble_eq_true rfl) dX0_init_1 ?_
  refine s_aload_n E dX0_init_4 rfl rfl ?_
  refine s_new E CI8 (by decide +kernel) k_34 k_35 k_3 (by decide +kernel) (Nat.le_of_ble_eq_true rfl) (Nat.le_of_ble_eq_true rfl) dX0_init_5 ?_
  refine s_topR (y := 28) (by decide +kernel) ?_
  refine s_world (w2 := wv_89) rfl ?_
  refine Wv.widen (cs2 := 1) (sl2 := 4) (Nat.le_of_ble_eq_true rfl) (Nat.le_of_ble_eq_true rfl) ?_
  refine s_dupR E dX0_init_8 ?_
  refine s_bipush (v := 12) E dX0_init_9 (by decide) ?_
  refine s_iconst (v := 3) E dX0_init_11 (by decide) ?_
  refine s_init (As := [AI 12, AI 3]) (S := [AR 28, AR 27]) E (KC_14 l D aC b) ci_X0_11 rfl rfl (Nat.le_of_ble_eq_true rfl) (Nat.le_of_ble_eq_true rfl) ⟨(Nat.le_of_ble_eq_true rfl), (Nat.le_of_ble_eq_true rfl)⟩ (Nat.le_of_ble_eq_true rfl) dX0_init_12 (fun u hp => ?_)
  subst hp
  refine Wv.widen (cs2 := 2) (sl2 := 40) (Nat.le_of_ble_eq_true rfl) (Nat.le_of_ble_eq_true rfl) ?_
  refine s_pRF E hin ff_X0_14 rfl rfl (by decide +kernel) dX0_init_15 ?_
  refine s_world (w2 := wv_95) rfl ?_
  refine s_aload_n E dX0_init_18 rfl rfl ?_
  refine s_new E CI8 (by decide +kernel) k_34 k_35 k_3 (by decide +kernel) (Nat.le_of_ble_eq_true rfl) (Nat.le_of_ble_eq_true rfl) dX0_init_19 ?_
  refine s_topR (y := 30) (by decide +kernel) ?_
  refine s_world (w2 := wv_96) rfl ?_
  refine Wv.widen (cs2 := 3) (sl2 := 44) (Nat.le_of_ble_eq_true rfl) (Nat.le_of_ble_eq_true rfl) ?_
  refine s_dupR E dX0_init_22 ?_
  refine s_bipush (v := 6) E dX0_init_23 (by decide) ?_
  refine s_iconst (v := 2) E dX0_init_25 (by decide) ?_
  refine s_init (As := [AI 6, AI 2]) (S := [AR 30, AR 27]) E (KC_15 l D aC b) ci_X0_11 rfl rfl (Nat.le_of_ble_eq_true rfl) (Nat.le_of_ble_eq_true rfl) ⟨(Nat.le_of_ble_eq_true rfl), (Nat.le_of_ble_eq_true rfl)⟩ (Nat.le_of_ble_eq_true rfl) dX0_init_26 (fun u hp => ?_)
  subst hp
  refine Wv.widen (cs2 := 4) (sl2 := 56) (Nat.le_of_ble_eq_true rfl) (Nat.le_of_ble_eq_true rfl) ?_
  refine s_pRF E hin ff_X0_20 rfl rfl (by decide +kernel) dX0_init_29 ?_
  refine s_world (w2 := wv_102) rfl ?_
  refine s_aload_n E dX0_init_32 rfl rfl ?_
  refine s_new E CI8 (by decide +kernel) k_34 k_35 k_3 (by decide +kernel) (Nat.le_of_ble_eq_true rfl) (Nat.le_of_ble_eq_true rfl) dX0_init_33 ?_
  refine s_topR (y := 32) (by decide +kernel) ?_
  refine s_world (w2 := wv_103) rfl ?_
  refine Wv.widen (cs2 := 5) (sl2 := 60) (Nat.le_of_ble_eq_true rfl) (Nat.le_of_ble_eq_true rfl) ?_
  refine s_dupR E dX0_init_36 ?_
  refine s_bipush (v := 8) E dX0_init_37 (by decide) ?_
  refine s_iconst (v := 2) E dX0_init_39 (by decide) ?_
  refine s_init (As := [AI 8, AI 2]) (S := [AR 32, AR 27]) E (KC_16 l D aC b) ci_X0_11 rfl rfl (Nat.le_of_ble_eq_true rfl) (Nat.le_of_ble_eq_true rfl) ⟨(Nat.le_of_ble_eq_true rfl), (Nat.le_of_ble_eq_true rfl)⟩ (Nat.le_of_ble_eq_true rfl) dX0_init_40 (fun u hp => ?_)
  subst hp
  refine Wv.widen (cs2 := 6) (sl2 := 76) (Nat.le_of_ble_eq_true rfl) (Nat.le_of_ble_eq_true rfl) ?_
  refine s_pRF E hin ff_X0_23 rfl rfl (by decide +kernel) dX0_init_43 ?_
  refine s_world (w2 := wv_109) rfl ?_
  refine s_aload_n E dX0_init_46 rfl rfl ?_
  refine s_new E CI8 (by decide +kernel) k_34 k_35 k_3 (by decide +kernel) (Nat.le_of_ble_eq_true rfl) (Nat.le_of_ble_eq_true rfl) dX0_init_47 ?_
  refine s_topR (y := 34) (by decide +kernel) ?_
  refine s_world (w2 := wv_110) rfl ?_
  refine Wv.widen (cs2 := 7) (sl2 := 80) (Nat.le_of_ble_eq_true rfl) (Nat.le_of_ble_eq_true rfl) ?_
  refine s_dupR E dX0_init_50 ?_
  refine s_bipush (v := 10) E dX0_init_51 (by decide) ?_
  refine s_iconst (v := 3) E dX0_init_53 (by decide) ?_
  refine s_init (As := [AI 10, AI 3]) (S := [AR 34, AR 27]) E (KC_17 l D aC b) ci_X0_11 rfl rfl (Nat.le_of_ble_eq_true rfl) (Nat.le_of_ble_eq_true rfl) ⟨(Nat.le_of_ble_eq_true rfl), (Nat.le_of_ble_eq_true rfl)⟩ (Nat.le_of_ble_eq_true rfl) dX0_init_54 (fun u hp => ?_)
  subst hp
  refine Wv.widen (cs2 := 8) (sl2 := 110) (Nat.le_of_ble_eq_true rfl) (Nat.le_of_ble_eq_true rfl) ?_
  refine s_pRF E hin ff_X0_26 rfl rfl (by decide +kernel) dX0_init_57 ?_
  refine s_world (w2 := wv_116) rfl ?_
  refine s_aload_n E dX0_init_60 rfl rfl ?_
  refine s_new E CI8 (by decide +kernel) k_34 k_35 k_3 (by decide +kernel) (Nat.le_of_ble_eq_true rfl) (Nat.le_of_ble_eq_true rfl) dX0_init_61 ?_
  refine s_topR (y := 36) (by decide +kernel) ?_
  refine s_world (w2 := wv_117) rfl ?_
  refine Wv.widen (cs2 := 9) (sl2 := 114) (Nat.le_of_ble_eq_true rfl) (Nat.le_of_ble_eq_true rfl) ?_
  refine s_dupR E dX0_init_64 ?_
  refine s_bipush (v := 30) E dX0_init_65 (by decide) ?_
  refine s_iconst (v := 4) E dX0_init_67 (by decide) ?_
  refine s_init (As := [AI 30, AI 4]) (S := [AR 36, AR 27]) E (KC_18 l D aC b) ci_X0_11 rfl rfl (Nat.le_of_ble_eq_true rfl) (Nat.le_of_ble_eq_true rfl) ⟨(Nat.le_of_ble_eq_true rfl), (Nat.le_of_ble_eq_true rfl)⟩ (Nat.le_of_ble_eq_true rfl) dX0_init_68 (fun u hp => ?_)
  subst hp
  refine Wv.widen (cs2 := 10) (sl2 := 234) (Nat.le_of_ble_eq_true rfl) (Nat.le_of_ble_eq_true rfl) ?_
  refine s_pRF E hin ff_X0_29 rfl rfl (by decide +kernel) dX0_init_71 ?_
  refine s_world (w2 := wv_123) rfl ?_
  exact r_void E dX0_init_74 rfl
set_option maxRecDepth 20000 in
theorem KC_20 (l : Launch) (D : va_G) (aC : Nat → ClassId) (b : Nat) : CnV l D aC b M_X8_init 1 21 1 36 [AR 39, AI 12, AI 3] wv_126 (fun u => u = wv_131) := by
  refine cn_V (own := RX8) (nm := "<init>") (L0 := [some (AR 39), some (AI 12), some (AI 3)]) (by decide +kernel) rfl rfl (Nat.le_of_ble_eq_true rfl) rfl ?_
  intro p e s m args below meth c E hin
  refine s_aload_n E dX8_init_0 rfl rfl ?_
  refine s_obj E k_39 k_26 k_27 (Nat.le_of_ble_eq_true rfl) (Nat.le_of_ble_eq_true rfl) dX8_init_1 ?_
  refine s_aload_n E dX8_init_4 rfl rfl ?_
  refine s_iconst (v := 0) E dX8_init_5 (by decide) ?_
  refine s_iload_n E dX8_init_6 rfl rfl ?_
  refine s_max (v := 12) E ⟨k_40, k_41, k_4, k_42⟩ (Nat.le_of_ble_eq_true rfl) (Nat.le_of_ble_eq_true rfl) (Nat.le_of_ble_eq_true rfl) (Nat.le_of_ble_eq_true rfl) dX8_init_7 (by decide) ?_
  refine s_pIF E hin ff_X8_15 rfl rfl (by decide +kernel) dX8_init_10 ?_
  refine s_world (w2 := wv_127) rfl ?_
  refine s_aload_n E dX8_init_13 rfl rfl ?_
  refine s_iconst (v := 0) E dX8_init_14 (by decide) ?_
  refine s_iload_n E dX8_init_15 rfl rfl ?_
  refine s_max (v := 3) E ⟨k_40, k_41, k_4, k_42⟩ (Nat.le_of_ble_eq_true rfl) (Nat.le_of_ble_eq_true rfl) (Nat.le_of_ble_eq_true rfl) (Nat.le_of_ble_eq_true rfl) dX8_init_16 (by decide) ?_
  refine s_pIF E hin ff_X8_21 rfl rfl (by decide +kernel) dX8_init_19 ?_
  refine s_world (w2 := wv_128) rfl ?_
  refine s_aload_n E dX8_init_22 rfl rfl ?_
  refine s_aload_n E dX8_init_23 rfl rfl ?_
  refine s_gI E fg_X8_15 rfl rfl (by decide +kernel) dX8_init_24 ?_
  refine s_top (y := 12) (by decide +kernel) ?_
  refine s_aload_n E dX8_init_27 rfl rfl ?_
  refine s_gI E fg_X8_21 rfl rfl (by decide +kernel) dX8_init_28 ?_
  refine s_top (y := 3) (by decide +kernel) ?_
  refine s_imul E dX8_init_31 ?_
  refine s_top (y := 36) (by decide) ?_
  refine s_newa100 (N := 36) E k_63 (by decide +kernel) (by decide) (by decide) (by decide) (Nat.le_of_ble_eq_true rfl) (Nat.le_of_ble_eq_true rfl) dX8_init_32 ?_
  refine s_topR (y := 40) (by decide +kernel) ?_
  refine s_world (w2 := wv_129) rfl ?_
  refine Wv.widen (cs2 := 1) (sl2 := 36) (Nat.le_of_ble_eq_true rfl) (Nat.le_of_ble_eq_true rfl) ?_
  refine s_pRF E hin ff_X8_24 rfl rfl (by decide +kernel) dX8_init_34 ?_
  refine s_world (w2 := wv_130) rfl ?_
  refine s_aload_n E dX8_init_37 rfl rfl ?_
  refine s_iconst (v := 0) E dX8_init_38 (by decide) ?_
  refine s_pI E fp_X8_28 (Or.inl rfl) rfl (by decide +kernel) dX8_init_39 ?_
  refine s_world (w2 := wv_131) rfl ?_
  exact r_void E dX8_init_42 rfl
set_option maxRecDepth 20000 in
theorem KC_21 (l : Launch) (D : va_G) (aC : Nat → ClassId) (b : Nat) : CnV l D aC b M_X8_init 1 21 1 12 [AR 41, AI 6, AI 2] wv_133 (fun u => u = wv_138) := by
  refine cn_V (own := RX8) (nm := "<init>") (L0 := [some (AR 41), some (AI 6), some (AI 2)]) (by decide +kernel) rfl rfl (Nat.le_of_ble_eq_true rfl) rfl ?_
  intro p e s m args below meth c E hin
  refine s_aload_n E dX8_init_0 rfl rfl ?_
  refine s_obj E k_39 k_26 k_27 (Nat.le_of_ble_eq_true rfl) (Nat.le_of_ble_eq_true rfl) dX8_init_1 ?_
  refine s_aload_n E dX8_init_4 rfl rfl ?_
  refine s_iconst (v := 0) E dX8_init_5 (by decide) ?_
  refine s_iload_n E dX8_init_6 rfl rfl ?_
  refine s_max (v := 6) E ⟨k_40, k_41, k_4, k_42⟩ (Nat.le_of_ble_eq_true rfl) (Nat.le_of_ble_eq_true rfl) (Nat.le_of_ble_eq_true rfl) (Nat.le_of_ble_eq_true rfl) dX8_init_7 (by decide) ?_
  refine s_pIF E hin ff_X8_15 rfl rfl (by decide +kernel) dX8_init_10 ?_
  refine s_world (w2 := wv_134) rfl ?_
  refine s_aload_n E dX8_init_13 rfl rfl ?_
  refine s_iconst (v := 0) E dX8_init_14 (by decide) ?_
  refine s_iload_n E dX8_init_15 rfl rfl ?_
  refine s_max (v := 2) E ⟨k_40, k_41, k_4, k_42⟩ (Nat.le_of_ble_eq_true rfl) (Nat.le_of_ble_eq_true rfl) (Nat.le_of_ble_eq_true rfl) (Nat.le_of_ble_eq_true rfl) dX8_init_16 (by decide) ?_
  refine s_pIF E hin ff_X8_21 rfl rfl (by decide +kernel) dX8_init_19 ?_
  refine s_world (w2 := wv_135) rfl ?_
  refine s_aload_n E dX8_init_22 rfl rfl ?_
  refine s_aload_n E dX8_init_23 rfl rfl ?_
  refine s_gI E fg_X8_15 rfl rfl (by decide +kernel) dX8_init_24 ?_
  refine s_top (y := 6) (by decide +kernel) ?_
  refine s_aload_n E dX8_init_27 rfl rfl ?_
  refine s_gI E fg_X8_21 rfl rfl (by decide +kernel) dX8_init_28 ?_
  refine s_top (y := 2) (by decide +kernel) ?_
  refine s_imul E dX8_init_31 ?_
  refine s_top (y := 12) (by decide) ?_
  refine s_newa100 (N := 12) E k_63 (by decide +kernel) (by decide) (by decide) (by decide) (Nat.le_of_ble_eq_true rfl) (Nat.le_of_ble_eq_true rfl) dX8_init_32 ?_
  refine s_topR (y := 42) (by decide +kernel) ?_
  refine s_world (w2 := wv_136) rfl ?_
  refine Wv.widen (cs2 := 1) (sl2 := 12) (Nat.le_of_ble_eq_true rfl) (Nat.le_of_ble_eq_true rfl) ?_
  refine s_pRF E hin ff_X8_24 rfl rfl (by decide +kernel) dX8_init_34 ?_
  refine s_world (w2 := wv_137) rfl ?_
  refine s_aload_n E dX8_init_37 rfl rfl ?_
  refine s_iconst (v := 0) E dX8_init_38 (by decide) ?_
  refine s_pI E fp_X8_28 (Or.inl rfl) rfl (by decide +kernel) dX8_init_39 ?_
  refine s_world (w2 := wv_138) rfl ?_
  exact r_void E dX8_init_42 rfl
set_option maxRecDepth 20000 in
theorem KC_22 (l : Launch) (D : va_G) (aC : Nat → ClassId) (b : Nat) : CnV l D aC b M_X8_init 1 21 1 16 [AR 43, AI 8, AI 2] wv_140 (fun u => u = wv_145) := by
  refine cn_V (own := RX8) (nm := "<init>") (L0 := [some (AR 43), some (AI 8), some (AI 2)]) (by decide +kernel) rfl rfl (Nat.le_of_ble_eq_true rfl) rfl ?_
  intro p e s m args below meth c E hin
  refine s_aload_n E dX8_init_0 rfl rfl ?_
  refine s_obj E k_39 k_26 k_27 (Nat.le_of_ble_eq_true rfl) (Nat.le_of_ble_eq_true rfl) dX8_init_1 ?_
  refine s_aload_n E dX8_init_4 rfl rfl ?_
  refine s_iconst (v := 0) E dX8_init_5 (by decide) ?_
  refine s_iload_n E dX8_init_6 rfl rfl ?_
  refine s_max (v := 8) E ⟨k_40, k_41, k_4, k_42⟩ (Nat.le_of_ble_eq_true rfl) (Nat.le_of_ble_eq_true rfl) (Nat.le_of_ble_eq_true rfl) (Nat.le_of_ble_eq_true rfl) dX8_init_7 (by decide) ?_
  refine s_pIF E hin ff_X8_15 rfl rfl (by decide +kernel) dX8_init_10 ?_
  refine s_world (w2 := wv_141) rfl ?_
  refine s_aload_n E dX8_init_13 rfl rfl ?_
  refine s_iconst (v := 0) E dX8_init_14 (by decide) ?_
  refine s_iload_n E dX8_init_15 rfl rfl ?_
  refine s_max (v := 2) E ⟨k_40, k_41, k_4, k_42⟩ (Nat.le_of_ble_eq_true rfl) (Nat.le_of_ble_eq_true rfl) (Nat.le_of_ble_eq_true rfl) (Nat.le_of_ble_eq_true rfl) dX8_init_16 (by decide) ?_
  refine s_pIF E hin ff_X8_21 rfl rfl (by decide +kernel) dX8_init_19 ?_
  refine s_world (w2 := wv_142) rfl ?_
  refine s_aload_n E dX8_init_22 rfl rfl ?_
  refine s_aload_n E dX8_init_23 rfl rfl ?_
  refine s_gI E fg_X8_15 rfl rfl (by decide +kernel) dX8_init_24 ?_
  refine s_top (y := 8) (by decide +kernel) ?_
  refine s_aload_n E dX8_init_27 rfl rfl ?_
  refine s_gI E fg_X8_21 rfl rfl (by decide +kernel) dX8_init_28 ?_
  refine s_top (y := 2) (by decide +kernel) ?_
  refine s_imul E dX8_init_31 ?_
  refine s_top (y := 16) (by decide) ?_
  refine s_newa100 (N := 16) E k_63 (by decide +kernel) (by decide) (by decide) (by decide) (Nat.le_of_ble_eq_true rfl) (Nat.le_of_ble_eq_true rfl) dX8_init_32 ?_
  refine s_topR (y := 44) (by decide +kernel) ?_
  refine s_world (w2 := wv_143) rfl ?_
  refine Wv.widen (cs2 := 1) (sl2 := 16) (Nat.le_of_ble_eq_true rfl) (Nat.le_of_ble_eq_true rfl) ?_
  refine s_pRF E hin ff_X8_24 rfl rfl (by decide +kernel) dX8_init_34 ?_
  refine s_world (w2 := wv_144) rfl ?_
  refine s_aload_n E dX8_init_37 rfl rfl ?_
  refine s_iconst (v := 0) E dX8_init_38 (by decide) ?_
  refine s_pI E fp_X8_28 (Or.inl rfl) rfl (by decide +kernel) dX8_init_39 ?_
  refine s_world (w2 := wv_145) rfl ?_
  exact r_void E dX8_init_42 rfl
set_option maxRecDepth 20000 in
theorem KC_23 (l : Launch) (D : va_G) (aC : Nat → ClassId) (b : Nat) : CnV l D aC b M_X8_init 1 21 1 30 [AR 45, AI 10, AI 3] wv_147 (fun u => u = wv_152) := by
  refine cn_V (own := RX8) (nm := "<init>") (L0 := [some (AR 45), some (AI 10), some (AI 3)]) (by decide +kernel) rfl rfl (Nat.le_of_ble_eq_true rfl) rfl ?_
  intro p e s m args below meth c E hin
  refine s_aload_n E dX8_init_0 rfl rfl ?_
  refine s_obj E k_39 k_26 k_27 (Nat.le_of_ble_eq_true rfl) (Nat.le_of_ble_eq_true rfl) dX8_init_1 ?_
  refine s_aload_n E dX8_init_4 rfl rfl ?_
  refine s_iconst (v := 0) E dX8_init_5 (by decide) ?_
  refine s_iload_n E dX8_init_6 rfl rfl ?_
  refine s_max (v := 10) E ⟨k_40, k_41, k_4, k_42⟩ (Nat.le_of_ble_eq_true rfl) (Nat.le_of_ble_eq_true rfl) (Nat.le_of_ble_eq_true rfl) (Nat.le_of_ble_eq_true rfl) dX8_init_7 (by decide) ?_
  refine s_pIF E hin ff_X8_15 rfl rfl (by decide +kernel) dX8_init_10 ?_
  refine s_world (w2 := wv_148) rfl ?_
  refine s_aload_n E dX8_init_13 rfl rfl ?_
  refine s_iconst (v := 0) E dX8_init_14 (by decide) ?_
  refine s_iload_n E dX8_init_15 rfl rfl ?_
  refine s_max (v := 3) E ⟨k_40, k_41, k_4, k_42⟩ (Nat.le_of_ble_eq_true rfl) (Nat.le_of_ble_eq_true rfl) (Nat.le_of_ble_eq_true rfl) (Nat.le_of_ble_eq_true rfl) dX8_init_16 (by decide) ?_
  refine s_pIF E hin ff_X8_21 rfl rfl (by decide +kernel) dX8_init_19 ?_
  refine s_world (w2 := wv_149) rfl ?_
  refine s_aload_n E dX8_init_22 rfl rfl ?_
  refine s_aload_n E dX8_init_23 rfl rfl ?_
  refine s_gI E fg_X8_15 rfl rfl (by decide +kernel) dX8_init_24 ?_
  refine s_top (y := 10) (by decide +kernel) ?_
  refine s_aload_n E dX8_init_27 rfl rfl ?_
  refine s_gI E fg_X8_21 rfl rfl (by decide +kernel) dX8_init_28 ?_
  refine s_top (y := 3) (by decide +kernel) ?_
  refine s_imul E dX8_init_31 ?_
  refine s_top (y := 30) (by decide) ?_
  refine s_newa100 (N := 30) E k_63 (by decide +kernel) (by decide) (by decide) (by decide) (Nat.le_of_ble_eq_true rfl) (Nat.le_of_ble_eq_true rfl) dX8_init_32 ?_
  refine s_topR (y := 46) (by decide +kernel) ?_
  refine s_world (w2 := wv_150) rfl ?_
  refine Wv.widen (cs2 := 1) (sl2 := 30) (Nat.le_of_ble_eq_true rfl) (Nat.le_of_ble_eq_true rfl) ?_
  refine s_pRF E hin ff_X8_24 rfl rfl (by decide +kernel) dX8_init_34 ?_
  refine s_world (w2 := wv_151) rfl ?_
  refine s_aload_n E dX8_init_37 rfl rfl ?_
  refine s_iconst (v := 0) E dX8_init_38 (by decide) ?_
  refine s_pI E fp_X8_28 (Or.inl rfl) rfl (by decide +kernel) dX8_init_39 ?_
  refine s_world (w2 := wv_152) rfl ?_
  exact r_void E dX8_init_42 rfl
set_option maxRecDepth 20000 in
theorem KC_24 (l : Launch) (D : va_G) (aC : Nat → ClassId) (b : Nat) : CnV l D aC b M_X8_init 1 21 1 120 [AR 47, AI 30, AI 4] wv_154 (fun u => u = wv_159) := by
  refine cn_V (own := RX8) (nm := "<init>") (L0 := [some (AR 47), some (AI 30), some (AI 4)]) (by decide +kernel) rfl rfl (Nat.le_of_ble_eq_true rfl) rfl ?_
  intro p e s m args below meth c E hin
  refine s_aload_n E dX8_init_0 rfl rfl ?_
  refine s_obj E k_39 k_26 k_27 (Nat.le_of_ble_eq_true rfl) (Nat.le_of_ble_eq_true rfl) dX8_init_1 ?_
  refine s_aload_n E dX8_init_4 rfl rfl ?_
  refine s_iconst (v := 0) E dX8_init_5 (by decide) ?_
  refine s_iload_n E dX8_init_6 rfl rfl ?_
  refine s_max (v := 30) E ⟨k_40, k_41, k_4, k_42⟩ (Nat.le_of_ble_eq_true rfl) (Nat.le_of_ble_eq_true rfl) (Nat.le_of_ble_eq_true rfl) (Nat.le_of_ble_eq_true rfl) dX8_init_7 (by decide) ?_
  refine s_pIF E hin ff_X8_15 rfl rfl (by decide +kernel) dX8_init_10 ?_
  refine s_world (w2 := wv_155) rfl ?_
  refine s_aload_n E dX8_init_13 rfl rfl ?_
  refine s_iconst (v := 0) E dX8_init_14 (by decide) ?_
  refine s_iload_n E dX8_init_15 rfl rfl ?_
  refine s_max (v := 4) E ⟨k_40, k_41, k_4, k_42⟩ (Nat.le_of_ble_eq_true rfl) (Nat.le_of_ble_eq_true rfl) (Nat.le_of_ble_eq_true rfl) (Nat.le_of_ble_eq_true rfl) dX8_init_16 (by decide) ?_
  refine s_pIF E hin ff_X8_21 rfl rfl (by decide +kernel) dX8_init_19 ?_
  refine s_world (w2 := wv_156) rfl ?_
  refine s_aload_n E dX8_init_22 rfl rfl ?_
  refine s_aload_n E dX8_init_23 rfl rfl ?_
  refine s_gI E fg_X8_15 rfl rfl (by decide +kernel) dX8_init_24 ?_
  refine s_top (y := 30) (by decide +kernel) ?_
  refine s_aload_n E dX8_init_27 rfl rfl ?_
  refine s_gI E fg_X8_21 rfl rfl (by decide +kernel) dX8_init_28 ?_
  refine s_top (y := 4) (by decide +kernel) ?_
  refine s_imul E dX8_init_31 ?_
  refine s_top (y := 120) (by decide) ?_
  refine s_newa100 (N := 120) E k_63 (by decide +kernel) (by decide) (by decide) (by decide) (Nat.le_of_ble_eq_true rfl) (Nat.le_of_ble_eq_true rfl) dX8_init_32 ?_
  refine s_topR (y := 48) (by decide +kernel) ?_
  refine s_world (w2 := wv_157) rfl ?_
  refine Wv.widen (cs2 := 1) (sl2 := 120) (Nat.le_of_ble_eq_true rfl) (Nat.le_of_ble_eq_true rfl) ?_
  refine s_pRF E hin ff_X8_24 rfl rfl (by decide +kernel) dX8_init_34 ?_
  refine s_world (w2 := wv_158) rfl ?_
  refine s_aload_n E dX8_init_37 rfl rfl ?_
  refine s_iconst (v := 0) E dX8_init_38 (by decide) ?_
  refine s_pI E fp_X8_28 (Or.inl rfl) rfl (by decide +kernel) dX8_init_39 ?_
  refine s_world (w2 := wv_159) rfl ?_
  exact r_void E dX8_init_42 rfl
set_option maxRecDepth 20000 in
theorem KC_25 (l : Launch) (D : va_G) (aC : Nat → ClassId) (b : Nat) : CnV l D aC b M_X0_init 2 43 10 234 [AR 38] wv_125 (fun u => u = wv_160) := by
  refine cn_V (own := RX0) (nm := "<init>") (L0 := [some (AR 38)]) (by decide +kernel) rfl rfl (Nat.le_of_ble_eq_true rfl) rfl ?_
  intro p e s m args below meth c E hin
  refine s_aload_n E dX0_init_0 rfl rfl ?_
  refine s_obj E k_33 k_26 k_27 (Nat.le_of_ble_eq_true rfl) (Nat.le_of_ble_eq_true rfl) dX0_init_1 ?_
  refine s_aload_n E dX0_init_4 rfl rfl ?_
  refine s_new E CI8 (by decide +kernel) k_34 k_35 k_3 (by decide +kernel) (Nat.le_of_ble_eq_true rfl) (Nat.le_of_ble_eq_true rfl) dX0_init_5 ?_
  refine s_topR (y := 39) (by decide +kernel) ?_
  refine s_world (w2 := wv_126) rfl ?_
  refine Wv.widen (cs2 := 1) (sl2 := 4) (Nat.le_of_ble_eq_true rfl) (Nat.le_of_ble_eq_true rfl) ?_
  refine s_dupR E dX0_init_8 ?_
  refine s_bipush (v := 12) E dX0_init_9 (by decide) ?_
  refine s_iconst (v := 3) E dX0_init_11 (by decide) ?_
  refine s_init (As := [AI 12, AI 3]) (S := [AR 39, AR 38]) E (KC_20 l D aC b) ci_X0_11 rfl rfl (Nat.le_of_ble_eq_true rfl) (Nat.le_of_ble_eq_true rfl) ⟨(Nat.le_of_ble_eq_true rfl), (Nat.le_of_ble_eq_true rfl)⟩ (Nat.le_of_ble_eq_true rfl) dX0_init_12 (fun u hp => ?_)
  subst hp
  refine Wv.widen (cs2 := 2) (sl2 := 40) (Nat.le_of_ble_eq_true rfl) (Nat.le_of_ble_eq_true rfl) ?_
  refine s_pRF E hin ff_X0_14 rfl rfl (by decide +kernel) dX0_init_15 ?_
  refine s_world (w2 := wv_132) rfl ?_
  refine s_aload_n E dX0_init_18 rfl rfl ?_
  refine s_new E CI8 (by decide +kernel) k_34 k_35 k_3 (by decide +kernel) (Nat.le_of_ble_eq_true rfl) (Nat.le_of_ble_eq_true rfl) dX0_init_19 ?_
  refine s_topR (y := 41) (by decide +kernel) ?_
  refine s_world (w2 := wv_133) rfl ?_
  refine Wv.widen (cs2 := 3) (sl2 := 44) (Nat.le_of_ble_eq_true rfl) (Nat.le_of_ble_eq_true rfl) ?_
  refine s_dupR E dX0_init_22 ?_
  refine s_bipush (v := 6) E dX0_init_23 (by decide) ?_
  refine s_iconst (v := 2) E dX0_init_25 (by decide) ?_
  refine s_init (As := [AI 6, AI 2]) (S := [AR 41, AR 38]) E (KC_21 l D aC b) ci_X0_11 rfl rfl (Nat.le_of_ble_eq_true rfl) (Nat.le_of_ble_eq_true rfl) ⟨(Nat.le_of_ble_eq_true rfl), (Nat.le_of_ble_eq_true rfl)⟩ (Nat.le_of_ble_eq_true rfl) dX0_init_26 (fun u hp => ?_)
  subst hp
  refine Wv.widen (cs2 := 4) (sl2 := 56) (Nat.le_of_ble_eq_true rfl) (Nat.le_of_ble_eq_true rfl) ?_
  refine s_pRF E hin ff_X0_20 rfl rfl (by decide +kernel) dX0_init_29 ?_
  refine s_world (w2 := wv_139) rfl ?_
  refine s_aload_n E dX0_init_32 rfl rfl ?_
  refine s_new E CI8 (by decide +kernel) k_34 k_35 k_3 (by decide +kernel) (Nat.le_of_ble_eq_true rfl) (Nat.le_of_ble_eq_true rfl) dX0_init_33 ?_
  refine s_topR (y := 43) (by decide +kernel) ?_
  refine s_world (w2 := wv_140) rfl ?_
  refine Wv.widen (cs2 := 5) (sl2 := 60) (Nat.le_of_ble_eq_true rfl) (Nat.le_of_ble_eq_true rfl) ?_
  refine s_dupR E dX0_init_36 ?_
  refine s_bipush (v := 8) E dX0_init_37 (by decide) ?_
  refine s_iconst (v := 2) E dX0_init_39 (by decide) ?_
  refine s_init (As := [AI 8, AI 2]) (S := [AR 43, AR 38]) E (KC_22 l D aC b) ci_X0_11 rfl rfl (Nat.le_of_ble_eq_true rfl) (Nat.le_of_ble_eq_true rfl) ⟨(Nat.le_of_ble_eq_true rfl), (Nat.le_of_ble_eq_true rfl)⟩ (Nat.le_of_ble_eq_true rfl) dX0_init_40 (fun u hp => ?_)
  subst hp
  refine Wv.widen (cs2 := 6) (sl2 := 76) (Nat.le_of_ble_eq_true rfl) (Nat.le_of_ble_eq_true rfl) ?_
  refine s_pRF E hin ff_X0_23 rfl rfl (by decide +kernel) dX0_init_43 ?_
  refine s_world (w2 := wv_146) rfl ?_
  refine s_aload_n E dX0_init_46 rfl rfl ?_
  refine s_new E CI8 (by decide +kernel) k_34 k_35 k_3 (by decide +kernel) (Nat.le_of_ble_eq_true rfl) (Nat.le_of_ble_eq_true rfl) dX0_init_47 ?_
  refine s_topR (y := 45) (by decide +kernel) ?_
  refine s_world (w2 := wv_147) rfl ?_
  refine Wv.widen (cs2 := 7) (sl2 := 80) (Nat.le_of_ble_eq_true rfl) (Nat.le_of_ble_eq_true rfl) ?_
  refine s_dupR E dX0_init_50 ?_
  refine s_bipush (v := 10) E dX0_init_51 (by decide) ?_
  refine s_iconst (v := 3) E dX0_init_53 (by decide) ?_
  refine s_init (As := [AI 10, AI 3]) (S := [AR 45, AR 38]) E (KC_23 l D aC b) ci_X0_11 rfl rfl (Nat.le_of_ble_eq_true rfl) (Nat.le_of_ble_eq_true rfl) ⟨(Nat.le_of_ble_eq_true rfl), (Nat.le_of_ble_eq_true rfl)⟩ (Nat.le_of_ble_eq_true rfl) dX0_init_54 (fun u hp => ?_)
  subst hp
  refine Wv.widen (cs2 := 8) (sl2 := 110) (Nat.le_of_ble_eq_true rfl) (Nat.le_of_ble_eq_true rfl) ?_
  refine s_pRF E hin ff_X0_26 rfl rfl (by decide +kernel) dX0_init_57 ?_
  refine s_world (w2 := wv_153) rfl ?_
  refine s_aload_n E dX0_init_60 rfl rfl ?_
  refine s_new E CI8 (by decide +kernel) k_34 k_35 k_3 (by decide +kernel) (Nat.le_of_ble_eq_true rfl) (Nat.le_of_ble_eq_true rfl) dX0_init_61 ?_
  refine s_topR (y := 47) (by decide +kernel) ?_
  refine s_world (w2 := wv_154) rfl ?_
  refine Wv.widen (cs2 := 9) (sl2 := 114) (Nat.le_of_ble_eq_true rfl) (Nat.le_of_ble_eq_true rfl) ?_
  refine s_dupR E dX0_init_64 ?_
  refine s_bipush (v := 30) E dX0_init_65 (by decide) ?_
  refine s_iconst (v := 4) E dX0_init_67 (by decide) ?_
  refine s_init (As := [AI 30, AI 4]) (S := [AR 47, AR 38]) E (KC_24 l D aC b) ci_X0_11 rfl rfl (Nat.le_of_ble_eq_true rfl) (Nat.le_of_ble_eq_true rfl) ⟨(Nat.le_of_ble_eq_true rfl), (Nat.le_of_ble_eq_true rfl)⟩ (Nat.le_of_ble_eq_true rfl) dX0_init_68 (fun u hp => ?_)
  subst hp
  refine Wv.widen (cs2 := 10) (sl2 := 234) (Nat.le_of_ble_eq_true rfl) (Nat.le_of_ble_eq_true rfl) ?_
  refine s_pRF E hin ff_X0_29 rfl rfl (by decide +kernel) dX0_init_71 ?_
  refine s_world (w2 := wv_160) rfl ?_
  exact r_void E dX0_init_74 rfl
set_option maxRecDepth 20000 in
theorem KC_26 (l : Launch) (D : va_G) (aC : Nat → ClassId) (b : Nat) : CnV l D aC b M_X8_init 1 21 1 36 [AR 50, AI 12, AI 3] wv_163 (fun u => u = wv_168) := by
  refine cn_V (own := RX8) (nm := "<init>") (L0 := [some (AR 50), some (AI 12), some (AI 3)]) (by decide +kernel) rfl rfl (Nat.le_of_ble_eq_true rfl) rfl ?_
  intro p e s m args below meth c E hin
  refine s_aload_n E dX8_init_0 rfl rfl ?_
  refine s_obj E k_39 k_26 k_27 (Nat.le_of_ble_eq_true rfl) (Nat.le_of_ble_eq_true rfl) dX8_init_1 ?_
  refine s_aload_n E dX8_init_4 rfl rfl ?_
  refine s_iconst (v := 0) E dX8_init_5 (by decide) ?_
  refine s_iload_n E dX8_init_6 rfl rfl ?_
  refine s_max (v := 12) E ⟨k_40, k_41, k_4, k_42⟩ (Nat.le_of_ble_eq_true rfl) (Nat.le_of_ble_eq_true rfl) (Nat.le_of_ble_eq_true rfl) (Nat.le_of_ble_eq_true rfl) dX8_init_7 (by decide) ?_
  refine s_pIF E hin ff_X8_15 rfl rfl (by decide +kernel) dX8_init_10 ?_
  refine s_world (w2 := wv_164) rfl ?_
  refine s_aload_n E dX8_init_13 rfl rfl ?_
  refine s_iconst (v := 0) E dX8_init_14 (by decide) ?_
  refine s_iload_n E dX8_init_15 rfl rfl ?_
  refine s_max (v := 3) E ⟨k_40, k_41, k_4, k_42⟩ (Nat.le_of_ble_eq_true rfl) (Nat.le_of_ble_eq_true rfl) (Nat.le_of_ble_eq_true rfl) (Nat.le_of_ble_eq_true rfl) dX8_init_16 (by decide) ?_
  refine s_pIF E hin ff_X8_21 rfl rfl (by decide +kernel) dX8_init_19 ?_
  refine s_world (w2 := wv_165) rfl ?_
  refine s_aload_n E dX8_init_22 rfl rfl ?_
  refine s_aload_n E dX8_init_23 rfl rfl ?_
  refine s_gI E fg_X8_15 rfl rfl (by decide +kernel) dX8_init_24 ?_
  refine s_top (y := 12) (by decide +kernel) ?_
  refine s_aload_n E dX8_init_27 rfl rfl ?_
  refine s_gI E fg_X8_21 rfl rfl (by decide +kernel) dX8_init_28 ?_
  refine s_top (y := 3) (by decide +kernel) ?_
  refine s_imul E dX8_init_31 ?_
  refine s_top (y := 36) (by decide) ?_
  refine s_newa100 (N := 36) E k_63 (by decide +kernel) (by decide) (by decide) (by decide) (Nat.le_of_ble_eq_true rfl) (Nat.le_of_ble_eq_true rfl) dX8_init_32 ?_
  refine s_topR (y := 51) (by decide +kernel) ?_
  refine s_world (w2 := wv_166) rfl ?_
  refine Wv.widen (cs2 := 1) (sl2 := 36) (Nat.le_of_ble_eq_true rfl) (Nat.le_of_ble_eq_true rfl) ?_
  refine s_pRF E hin ff_X8_24 rfl rfl (by decide +kernel) dX8_init_34 ?_
  refine s_world (w2 := wv_167) rfl ?_
  refine s_aload_n E dX8_init_37 rfl rfl ?_
  refine s_iconst (v := 0) E dX8_init_38 (by decide) ?_
  refine s_pI E fp_X8_28 (Or.inl rfl) rfl (by decide +kernel) dX8_init_39 ?_
  refine s_world (w2 := wv_168) rfl ?_
  exact r_void E dX8_init_42 rfl
set_option maxRecDepth 20000 in
theorem KC_27 (l : Launch) (D : va_G) (aC : Nat → ClassId) (b : Nat) : CnV l D aC b M_X8_init 1 21 1 12 [AR 52, AI 6, AI 2] wv_170 (fun u => u = wv_175) := by
  refine cn_V (own := RX8) (nm := "<init>") (L0 := [some (AR 52), some (AI 6), some (AI 2)]) (by decide +kernel) rfl rfl (Nat.le_of_ble_eq_true rfl) rfl ?_
  intro p e s m args below meth c E hin
  refine s_aload_n E dX8_init_0 rfl rfl ?_
  refine s_obj E k_39 k_26 k_27 (Nat.le_of_ble_eq_true rfl) (Nat.le_of_ble_eq_true rfl) dX8_init_1 ?_
  refine s_aload_n E dX8_init_4 rfl rfl ?_
  refine s_iconst (v := 0) E dX8_init_5 (by decide) ?_
  refine s_iload_n E dX8_init_6 rfl rfl ?_
  refine s_max (v := 6) E ⟨k_40, k_41, k_4, k_42⟩ (Nat.le_of_ble_eq_true rfl) (Nat.le_of_ble_eq_true rfl) (Nat.le_of_ble_eq_true rfl) (Nat.le_of_ble_eq_true rfl) dX8_init_7 (by decide) ?_
  refine s_pIF E hin ff_X8_15 rfl rfl (by decide +kernel) dX8_init_10 ?_
  refine s_world (w2 := wv_171) rfl ?_
  refine s_aload_n E dX8_init_13 rfl rfl ?_
  refine s_iconst (v := 0) E dX8_init_14 (by decide) ?_
  refine s_iload_n E dX8_init_15 rfl rfl ?_
  refine s_max (v := 2) E ⟨k_40, k_41, k_4, k_42⟩ (Nat.le_of_ble_eq_true rfl) (Nat.le_of_ble_eq_true rfl) (Nat.le_of_ble_eq_true rfl) (Nat.le_of_ble_eq_true rfl) dX8_init_16 (by decide) ?_
  refine s_pIF E hin ff_X8_21 rfl rfl (by decide +kernel) dX8_init_19 ?_
  refine s_world (w2 := wv_172) rfl ?_
  refine s_aload_n E dX8_init_22 rfl rfl ?_
  refine s_aload_n E dX8_init_23 rfl rfl ?_
  refine s_gI E fg_X8_15 rfl rfl (by decide +kernel) dX8_init_24 ?_
  refine s_top (y := 6) (by decide +kernel) ?_
  refine s_aload_n E dX8_init_27 rfl rfl ?_
  refine s_gI E fg_X8_21 rfl rfl (by decide +kernel) dX8_init_28 ?_
  refine s_top (y := 2) (by decide +kernel) ?_
  refine s_imul E dX8_init_31 ?_
  refine s_top (y := 12) (by decide) ?_
  refine s_newa100 (N := 12) E k_63 (by decide +kernel) (by decide) (by decide) (by decide) (Nat.le_of_ble_eq_true rfl) (Nat.le_of_ble_eq_true rfl) dX8_init_32 ?_
  refine s_topR (y := 53) (by decide +kernel) ?_
  refine s_world (w2 := wv_173) rfl ?_
  refine Wv.widen (cs2 := 1) (sl2 := 12) (Nat.le_of_ble_eq_true rfl) (Nat.le_of_ble_eq_true rfl) ?_
  refine s_pRF E hin ff_X8_24 rfl rfl (by decide +kernel) dX8_init_34 ?_
  refine s_world (w2 := wv_174) rfl ?_
  refine s_aload_n E dX8_init_37 rfl rfl ?_
  refine s_iconst (v := 0) E dX8_init_38 (by decide) ?_
  refine s_pI E fp_X8_28 (Or.inl rfl) rfl (by decide +kernel) dX8_init_39 ?_
  refine s_world (w2 := wv_175) rfl ?_
  exact r_void E dX8_init_42 rfl
set_option maxRecDepth 20000 in
theorem KC_28 (l : Launch) (D : va_G) (aC : Nat → ClassId) (b : Nat) : CnV l D aC b M_X8_init 1 21 1 16 [AR 54, AI 8, AI 2] wv_177 (fun u => u = wv_182) := by
  refine cn_V (own := RX8) (nm := "<init>") (L0 := [some (AR 54), some (AI 8), some (AI 2)]) (by decide +kernel) rfl rfl (Nat.le_of_ble_eq_true rfl) rfl ?_
  intro p e s m args below meth c E hin
  refine s_aload_n E dX8_init_0 rfl rfl ?_
  refine s_obj E k_39 k_26 k_27 (Nat.le_of_ble_eq_true rfl) (Nat.le_of_ble_eq_true rfl) dX8_init_1 ?_
  refine s_aload_n E dX8_init_4 rfl rfl ?_
  refine s_iconst (v := 0) E dX8_init_5 (by decide) ?_
  refine s_iload_n E dX8_init_6 rfl rfl ?_
  refine s_max (v := 8) E ⟨k_40, k_41, k_4, k_42⟩ (Nat.le_of_ble_eq_true rfl) (Nat.le_of_ble_eq_true rfl) (Nat.le_of_ble_eq_true rfl) (Nat.le_of_ble_eq_true rfl) dX8_init_7 (by decide) ?_
  refine s_pIF E hin ff_X8_15 rfl rfl (by decide +kernel) dX8_init_10 ?_
  refine s_world (w2 := wv_178) rfl ?_
  refine s_aload_n E dX8_init_13 rfl rfl ?_
  refine s_iconst (v := 0) E dX8_init_14 (by decide) ?_
  refine s_iload_n E dX8_init_15 rfl rfl ?_
  refine s_max (v := 2) E ⟨k_40, k_41, k_4, k_42⟩ (Nat.le_of_ble_eq_true rfl) (Nat.le_of_ble_eq_true rfl) (Nat.le_of_ble_eq_true rfl) (Nat.le_of_ble_eq_true rfl) dX8_init_16 (by decide) ?_
  refine s_pIF E hin ff_X8_21 rfl rfl (by decide +kernel) dX8_init_19 ?_
  refine s_world (w2 := wv_179) rfl ?_
  refine s_aload_n E dX8_init_22 rfl rfl ?_
  refine s_aload_n E dX8_init_23 rfl rfl ?_
  refine s_gI E fg_X8_15 rfl rfl (by decide +kernel) dX8_init_24 ?_
  refine s_top (y := 8) (by decide +kernel) ?_
  refine s_aload_n E dX8_init_27 rfl rfl ?_
  refine s_gI E fg_X8_21 rfl rfl (by decide +kernel) dX8_init_28 ?_
  refine s_top (y := 2) (by decide +kernel) ?_
  refine s_imul E dX8_init_31 ?_
  refine s_top (y := 16) (by decide) ?_
  refine s_newa100 (N := 16) E k_63 (by decide +kernel) (by decide) (by decide) (by decide) (Nat.le_of_ble_eq_true rfl) (Nat.le_of_ble_eq_true rfl) dX8_init_32 ?_
  refine s_topR (y := 55) (by decide +kernel) ?_
  refine s_world (w2 := wv_180) rfl ?_
  refine Wv.widen (cs2 := 1) (sl2 := 16) (Nat.le_of_ble_eq_true rfl) (Nat.le_of_ble_eq_true rfl) ?_
  refine s_pRF E hin ff_X8_24 rfl rfl (by decide +kernel) dX8_init_34 ?_
  refine s_world (w2 := wv_181) rfl ?_
  refine s_aload_n E dX8_init_37 rfl rfl ?_
  refine s_iconst (v := 0) E dX8_init_38 (by decide) ?_
  refine s_pI E fp_X8_28 (Or.inl rfl) rfl (by decide +kernel) dX8_init_39 ?_
  refine s_world (w2 := wv_182) rfl ?_
  exact r_void E dX8_init_42 rfl
set_option maxRecDepth 20000 in
theorem KC_29 (l : Launch) (D : va_G) (aC : Nat → ClassId) (b : Nat) : CnV l D aC b M_X8_init 1 21 1 30 [AR 56, AI 10, AI 3] wv_184 (fun u => u = wv_189) := by
  refine cn_V (own := RX8) (nm := "<init>") (L0 := [some (AR 56), some (AI 10), some (AI 3)]) (by decide +kernel) rfl rfl (Nat.le_of_ble_eq_true rfl) rfl ?_
  intro p e s m args below meth c E hin
  refine s_aload_n E dX8_init_0 rfl rfl ?_
  refine s_obj E k_39 k_26 k_27 (Nat.le_of_ble_eq_true rfl) (Nat.le_of_ble_eq_true rfl) dX8_init_1 ?_
  refine s_aload_n E dX8_init_4 rfl rfl ?_
  refine s_iconst (v := 0) E dX8_init_5 (by decide) ?_
  refine s_iload_n E dX8_init_6 rfl rfl ?_
  refine s_max (v := 10) E ⟨k_40, k_41, k_4, k_42⟩ (Nat.le_of_ble_eq_true rfl) (Nat.le_of_ble_eq_true rfl) (Nat.le_of_ble_eq_true rfl) (Nat.le_of_ble_eq_true rfl) dX8_init_7 (by decide) ?_
  refine s_pIF E hin ff_X8_15 rfl rfl (by decide +kernel) dX8_init_10 ?_
  refine s_world (w2 := wv_185) rfl ?_
  refine s_aload_n E dX8_init_13 rfl rfl ?_
  refine s_iconst (v := 0) E dX8_init_14 (by decide) ?_
  refine s_iload_n E dX8_init_15 rfl rfl ?_
  refine s_max (v := 3) E ⟨k_40, k_41, k_4, k_42⟩ (Nat.le_of_ble_eq_true rfl) (Nat.le_of_ble_eq_true rfl) (Nat.le_of_ble_eq_true rfl) (Nat.le_of_ble_eq_true rfl) dX8_init_16 (by decide) ?_
  refine s_pIF E hin ff_X8_21 rfl rfl (by decide +kernel) dX8_init_19 ?_
  refine s_world (w2 := wv_186) rfl ?_
  refine s_aload_n E dX8_init_22 rfl rfl ?_
  refine s_aload_n E dX8_init_23 rfl rfl ?_
  refine s_gI E fg_X8_15 rfl rfl (by decide +kernel) dX8_init_24 ?_
  refine s_top (y := 10) (by decide +kernel) ?_
  refine s_aload_n E dX8_init_27 rfl rfl ?_
  refine s_gI E fg_X8_21 rfl rfl (by decide +kernel) dX8_init_28 ?_
  refine s_top (y := 3) (by decide +kernel) ?_
  refine s_imul E dX8_init_31 ?_
  refine s_top (y := 30) (by decide) ?_
  refine s_newa100 (N := 30) E k_63 (by decide +kernel) (by decide) (by decide) (by decide) (Nat.le_of_ble_eq_true rfl) (Nat.le_of_ble_eq_true rfl) dX8_init_32 ?_
  refine s_topR (y := 57) (by decide +kernel) ?_
  refine s_world (w2 := wv_187) rfl ?_
  refine Wv.widen (cs2 := 1) (sl2 := 30) (Nat.le_of_ble_eq_true rfl) (Nat.le_of_ble_eq_true rfl) ?_
  refine s_pRF E hin ff_X8_24 rfl rfl (by decide +kernel) dX8_init_34 ?_
  refine s_world (w2 := wv_188) rfl ?_
  refine s_aload_n E dX8_init_37 rfl rfl ?_
  refine s_iconst (v := 0) E dX8_init_38 (by decide) ?_
  refine s_pI E fp_X8_28 (Or.inl rfl) rfl (by decide +kernel) dX8_init_39 ?_
  refine s_world (w2 := wv_189) rfl ?_
  exact r_void E dX8_init_42 rfl
set_option maxRecDepth 20000 in
theorem KC_30 (l : Launch) (D : va_G) (aC : Nat → ClassId) (b : Nat) : CnV l D aC b M_X8_init 1 21 1 120 [AR 58, AI 30, AI 4] wv_191 (fun u => u = wv_196) := by
  refine cn_V (own := RX8) (nm := "<init>") (L0 := [some (AR 58), some (AI 30), some (AI 4)]) (by decide +kernel) rfl rfl (Nat.le_of_ble_eq_true rfl) rfl ?_
  intro p e s m args below meth c E hin
  refine s_aload_n E dX8_init_0 rfl rfl ?_
  refine s_obj E k_39 k_26 k_27 (Nat.le_of_ble_eq_true rfl) (Nat.le_of_ble_eq_true rfl) dX8_init_1 ?_
  refine s_aload_n E dX8_init_4 rfl rfl ?_
  refine s_iconst (v := 0) E dX8_init_5 (by decide) ?_
  refine s_iload_n E dX8_init_6 rfl rfl ?_
  refine s_max (v := 30) E ⟨k_40, k_41, k_4, k_42⟩ (Nat.le_of_ble_eq_true rfl) (Nat.le_of_ble_eq_true rfl) (Nat.le_of_ble_eq_true rfl) (Nat.le_of_ble_eq_true rfl) dX8_init_7 (by decide) ?_
  refine s_pIF E hin ff_X8_15 rfl rfl (by decide +kernel) dX8_init_10 ?_
  refine s_world (w2 := wv_192) rfl ?_
  refine s_aload_n E dX8_init_13 rfl rfl ?_
  refine s_iconst (v := 0) E dX8_init_14 (by decide) ?_
  refine s_iload_n E dX8_init_15 rfl rfl ?_
  refine s_max (v := 4) E ⟨k_40, k_41, k_4, k_42⟩ (Nat.le_of_ble_eq_true rfl) (Nat.le_of_ble_eq_true rfl) (Nat.le_of_ble_eq_true rfl) (Nat.le_of_ble_eq_true rfl) dX8_init_16 (by decide) ?_
  refine s_pIF E hin ff_X8_21 rfl rfl (by decide +kernel) dX8_init_19 ?_
  refine s_world (w2 := wv_193) rfl ?_
  refine s_aload_n E dX8_init_22 rfl rfl ?_
  refine s_aload_n E dX8_init_23 rfl rfl ?_
  refine s_gI E fg_X8_15 rfl rfl (by decide +kernel) dX8_init_24 ?_
  refine s_top (y := 30) (by decide +kernel) ?_
  refine s_aload_n E dX8_init_27 rfl rfl ?_
  refine s_gI E fg_X8_21 rfl rfl (by decide +kernel) dX8_init_28 ?_
  refine s_top (y := 4) (by decide +kernel) ?_
  refine s_imul E dX8_init_31 ?_
  refine s_top (y := 120) (by decide) ?_
  refine s_newa100 (N := 120) E k_63 (by decide +kernel) (by decide) (by decide) (by decide) (Nat.le_of_ble_eq_true rfl) (Nat.le_of_ble_eq_true rfl) dX8_init_32 ?_
  refine s_topR (y := 59) (by decide +kernel) ?_
  refine s_world (w2 := wv_194) rfl ?_
  refine Wv.widen (cs2 := 1) (sl2 := 120) (Nat.le_of_ble_eq_true rfl) (Nat.le_of_ble_eq_true rfl) ?_
  refine s_pRF E hin ff_X8_24 rfl rfl (by decide +kernel) dX8_init_34 ?_
  refine s_world (w2 := wv_195) rfl ?_
  refine s_aload_n E dX8_init_37 rfl rfl ?_
  refine s_iconst (v := 0) E dX8_init_38 (by decide) ?_
  refine s_pI E fp_X8_28 (Or.inl rfl) rfl (by decide +kernel) dX8_init_39 ?_
  refine s_world (w2 := wv_196) rfl ?_
  exact r_void E dX8_init_42 rfl
set_option maxRecDepth 20000 in
theorem KC_31 (l : Launch) (D : va_G) (aC : Nat → ClassId) (b : Nat) : CnV l D aC b M_X0_init 2 43 10 234 [AR 49] wv_162 (fun u => u = wv_197) := by
  refine cn_V (own := RX0) (nm := "<init>") (L0 := [some (AR 49)]) (by decide +kernel) rfl rfl (Nat.le_of_ble_eq_true rfl) rfl ?_
  intro p e s m args below meth c E hin
  refine s_aload_n E dX0_init_0 rfl rfl ?_
  refine s_obj E k_33 k_26 k_27 (Nat.le_of_ble_eq_true rfl) (Nat.le_of_ble_eq_true rfl) dX0_init_1 ?_
  refine s_aload_n E dX0_init_4 rfl rfl ?_
  refine s_new E CI8 (by decide +kernel) k_34 k_35 k_3 (by decide +kernel) (Nat.le_of_ble_eq_true rfl) (Nat.le_of_ble_eq_true rfl) dX0_init_5 ?_
  refine s_topR (y := 50) (by decide +kernel) ?_
  refine s_world (w2 := wv_163) rfl ?_
  refine Wv.widen (cs2 := 1) (sl2 := 4) (Nat.le_of_ble_eq_true rfl) (Nat.le_of_ble_eq_true rfl) ?_
  refine s_dupR E dX0_init_8 ?_
  refine s_bipush (v := 12) E dX0_init_9 (by decide) ?_
  refine s_iconst (v := 3) E dX0_init_11 (by decide) ?_
  refine s_init (As := [AI 12, AI 3]) (S := [AR 50, AR 49]) E (KC_26 l D aC b) ci_X0_11 rfl rfl (Nat.le_of_ble_eq_true rfl) (Nat.le_of_ble_eq_true rfl) ⟨(Nat.le_of_ble_eq_true rfl), (Nat.le_of_ble_eq_true rfl)⟩ (Nat.le_of_ble_eq_true rfl) dX0_init_12 (fun u hp => ?_)
  subst hp
  refine Wv.widen (cs2 := 2) (sl2 := 40) (Nat.le_of_ble_eq_true rfl) (Nat.le_of_ble_eq_true rfl) ?_
  refine s_pRF E hin ff_X0_14 rfl rfl (by decide +kernel) dX0_init_15 ?_
  refine s_world (w2 := wv_169) rfl ?_
  refine s_aload_n E dX0_init_18 rfl rfl ?_
  refine s_new E CI8 (by decide +kernel) k_34 k_35 k_3 (by decide +kernel) (Nat.le_of_ble_eq_true rfl) (Nat.le_of_ble_eq_true rfl) dX0_init_19 ?_
  refine s_topR (y := 52) (by decide +kernel) ?_
  refine s_world (w2 := wv_170) rfl ?_
  refine Wv.widen (cs2 := 3) (sl2 := 44) (Nat.le_of_ble_eq_true rfl) (Nat.le_of_ble_eq_true rfl) ?_
  refine s_dupR E dX0_init_22 ?_
  refine s_bipush (v := 6) E dX0_init_23 (by decide) ?_
  refine s_iconst (v := 2) E dX0_init_25 (by decide) ?_
  refine s_init (As := [AI 6, AI 2]) (S := [AR 52, AR 49]) E (KC_27 l D aC b) ci_X0_11 rfl rfl (Nat.le_of_ble_eq_true rfl) (Nat.le_of_ble_eq_true rfl) ⟨(Nat.le_of_ble_eq_true rfl), (Nat.le_of_ble_eq_true rfl)⟩ (Nat.le_of_ble_eq_true rfl) dX0_init_26 (fun u hp => ?_)
  subst hp
  refine Wv.widen (cs2 := 4) (sl2 := 56) (Nat.le_of_ble_eq_true rfl) (Nat.le_of_ble_eq_true rfl) ?_
  refine s_pRF E hin ff_X0_20 rfl rfl (by decide +kernel) dX0_init_29 ?_
  refine s_world (w2 := wv_176) rfl ?_
  refine s_aload_n E dX0_init_32 rfl rfl ?_
  refine s_new E CI8 (by decide +kernel) k_34 k_35 k_3 (by decide +kernel) (Nat.le_of_ble_eq_true rfl) (Nat.le_of_ble_eq_true rfl) dX0_init_33 ?_
  refine s_topR (y := 54) (by decide +kernel) ?_
  refine s_world (w2 := wv_177) rfl ?_
  refine Wv.widen (cs2 := 5) (sl2 := 60) (Nat.le_of_ble_eq_true rfl) (Nat.le_of_ble_eq_true rfl) ?_
  refine s_dupR E dX0_init_36 ?_
  refine s_bipush (v := 8) E dX0_init_37 (by decide) ?_
  refine s_iconst (v := 2) E dX0_init_39 (by decide) ?_
  refine s_init (As := [AI 8, AI 2]) (S := [AR 54, AR 49]) E (KC_28 l D aC b) ci_X0_11 rfl rfl (Nat.le_of_ble_eq_true rfl) (Nat.le_of_ble_eq_true rfl) ⟨(Nat.le_of_ble_eq_true rfl), (Nat.le_of_ble_eq_true rfl)⟩ (Nat.le_of_ble_eq_true rfl) dX0_init_40 (fun u hp => ?_)
  subst hp
  refine Wv.widen (cs2 := 6) (sl2 := 76) (Nat.le_of_ble_eq_true rfl) (Nat.le_of_ble_eq_true rfl) ?_
  refine s_pRF E hin ff_X0_23 rfl rfl (by decide +kernel) dX0_init_43 ?_
  refine s_world (w2 := wv_183) rfl ?_
  refine s_aload_n E dX0_init_46 rfl rfl ?_
  refine s_new E CI8 (by decide +kernel) k_34 k_35 k_3 (by decide +kernel) (Nat.le_of_ble_eq_true rfl) (Nat.le_of_ble_eq_true rfl) dX0_init_47 ?_
  refine s_topR (y := 56) (by decide +kernel) ?_
  refine s_world (w2 := wv_184) rfl ?_
  refine Wv.widen (cs2 := 7) (sl2 := 80) (Nat.le_of_ble_eq_true rfl) (Nat.le_of_ble_eq_true rfl) ?_
  refine s_dupR E dX0_init_50 ?_
  refine s_bipush (v := 10) E dX0_init_51 (by decide) ?_
  refine s_iconst (v := 3) E dX0_init_53 (by decide) ?_
  refine s_init (As := [AI 10, AI 3]) (S := [AR 56, AR 49]) E (KC_29 l D aC b) ci_X0_11 rfl rfl (Nat.le_of_ble_eq_true rfl) (Nat.le_of_ble_eq_true rfl) ⟨(Nat.le_of_ble_eq_true rfl), (Nat.le_of_ble_eq_true rfl)⟩ (Nat.le_of_ble_eq_true rfl) dX0_init_54 (fun u hp => ?_)
  subst hp
  refine Wv.widen (cs2 := 8) (sl2 := 110) (Nat.le_of_ble_eq_true rfl) (Nat.le_of_ble_eq_true rfl) ?_
  refine s_pRF E hin ff_X0_26 rfl rfl (by decide +kernel) dX0_init_57 ?_
  refine s_world (w2 := wv_190) rfl ?_
  refine s_aload_n E dX0_init_60 rfl rfl ?_
  refine s_new E CI8 (by decide +kernel) k_34 k_35 k_3 (by decide +kernel) (Nat.le_of_ble_eq_true rfl) (Nat.le_of_ble_eq_true rfl) dX0_init_61 ?_
  refine s_topR (y := 58) (by decide +kernel) ?_
  refine s_world (w2 := wv_191) rfl ?_
  refine Wv.widen (cs2 := 9) (sl2 := 114) (Nat.le_of_ble_eq_true rfl) (Nat.le_of_ble_eq_true rfl) ?_
  refine s_dupR E dX0_init_64 ?_
  refine s_bipush (v := 30) E dX0_init_65 (by decide) ?_
  refine s_iconst (v := 4) E dX0_init_67 (by decide) ?_
  refine s_init (As := [AI 30, AI 4]) (S := [AR 58, AR 49]) E (KC_30 l D aC b) ci_X0_11 rfl rfl (Nat.le_of_ble_eq_true rfl) (Nat.le_of_ble_eq_true rfl) ⟨(Nat.le_of_ble_eq_true rfl), (Nat.le_of_ble_eq_true rfl)⟩ (Nat.le_of_ble_eq_true rfl) dX0_init_68 (fun u hp => ?_)
  subst hp
  refine Wv.widen (cs2 := 10) (sl2 := 234) (Nat.le_of_ble_eq_true rfl) (Nat.le_of_ble_eq_true rfl) ?_
  refine s_pRF E hin ff_X0_29 rfl rfl (by decide +kernel) dX0_init_71 ?_
  refine s_world (w2 := wv_197) rfl ?_
  exact r_void E dX0_init_74 rfl
set_option maxRecDepth 20000 in
theorem KC_32 (l : Launch) (D : va_G) (aC : Nat → ClassId) (b : Nat) : CnV l D aC b M_X7_init 1 20 1 60 [AR 61] wv_201 (fun u => u = wv_204) := by
  refine cn_V (own := RX7) (nm := "<init>") (L0 := [some (AR 61)]) (by decide +kernel) rfl rfl (Nat.le_of_ble_eq_true rfl) rfl ?_
  intro p e s m args below meth c E hin
  refine s_aload_n E dX7_init_0 rfl rfl ?_
  refine s_obj E k_163 k_26 k_27 (Nat.le_of_ble_eq_true rfl) (Nat.le_of_ble_eq_true rfl) dX7_init_1 ?_
  refine s_aload_n E dX7_init_4 rfl rfl ?_
  refine s_bipush (v := 60) E dX7_init_5 (by decide) ?_
  refine s_newa101 (N := 60) E k_178 (by decide +kernel) (by decide) (by decide) (by decide) (Nat.le_of_ble_eq_true rfl) (Nat.le_of_ble_eq_true rfl) dX7_init_7 ?_
  refine s_topR (y := 62) (by decide +kernel) ?_
  refine s_world (w2 := wv_202) rfl ?_
  refine Wv.widen (cs2 := 1) (sl2 := 60) (Nat.le_of_ble_eq_true rfl) (Nat.le_of_ble_eq_true rfl) ?_
  refine s_pRF E hin ff_X7_11 rfl rfl (by decide +kernel) dX7_init_9 ?_
  refine s_world (w2 := wv_203) rfl ?_
  refine s_aload_n E dX7_init_12 rfl rfl ?_
  refine s_iconst (v := (-1)) E dX7_init_13 (by decide) ?_
  refine s_pI E fp_X7_15 (Or.inl rfl) rfl (by decide +kernel) dX7_init_14 ?_
  refine s_world (w2 := wv_204) rfl ?_
  exact r_void E dX7_init_17 rfl
set_option maxRecDepth 20000 in
theorem KC_33 (l : Launch) (D : va_G) (aC : Nat → ClassId) (b : Nat) : CnV l D aC b M_X7_init 1 20 1 60 [AR 63] wv_206 (fun u => u = wv_209) := by
  refine cn_V (own := RX7) (nm := "<init>") (L0 := [some (AR 63)]) (by decide +kernel) rfl rfl (Nat.le_of_ble_eq_true rfl) rfl ?_
  intro p e s m args below meth c E hin
  refine s_aload_n E dX7_init_0 rfl rfl ?_
  refine s_obj E k_163 k_26 k_27 (Nat.le_of_ble_eq_true rfl) (Nat.le_of_ble_eq_true rfl) dX7_init_1 ?_
  refine s_aload_n E dX7_init_4 rfl rfl ?_
  refine s_bipush (v := 60) E dX7_init_5 (by decide) ?_
  refine s_newa101 (N := 60) E k_178 (by decide +kernel) (by decide) (by decide) (by decide) (Nat.le_of_ble_eq_true rfl) (Nat.le_of_ble_eq_true rfl) dX7_init_7 ?_
  refine s_topR (y := 64) (by decide +kernel) ?_
  refine s_world (w2 := wv_207) rfl ?_
  refine Wv.widen (cs2 := 1) (sl2 := 60) (Nat.le_of_ble_eq_true rfl) (Nat.le_of_ble_eq_true rfl) ?_
  refine s_pRF E hin ff_X7_11 rfl rfl (by decide +kernel) dX7_init_9 ?_
  refine s_world (w2 := wv_208) rfl ?_
  refine s_aload_n E dX7_init_12 rfl rfl ?_
  refine s_iconst (v := (-1)) E dX7_init_13 (by decide) ?_
  refine s_pI E fp_X7_15 (Or.inl rfl) rfl (by decide +kernel) dX7_init_14 ?_
  refine s_world (w2 := wv_209) rfl ?_
  exact r_void E dX7_init_17 rfl
set_option maxRecDepth 20000 in
theorem KC_34 (l : Launch) (D : va_G) (aC : Nat → ClassId) (b : Nat) : CnV l D aC b M_X7_init 1 20 1 60 [AR 65] wv_211 (fun u => u = wv_214) := by
  refine cn_V (own := RX7) (nm := "<init>") (L0 := [some (AR 65)]) (by decide +kernel) rfl rfl (Nat.le_of_ble_eq_true rfl) rfl ?_
  intro p e s m args below meth c E hin
  refine s_aload_n E dX7_init_0 rfl rfl ?_
  refine s_obj E k_163 k_26 k_27 (Nat.le_of_ble_eq_true rfl) (Nat.le_of_ble_eq_true rfl) dX7_init_1 ?_
  refine s_aload_n E dX7_init_4 rfl rfl ?_
  refine s_bipush (v := 60) E dX7_init_5 (by decide) ?_
  refine s_newa101 (N := 60) E k_178 (by decide +kernel) (by decide) (by decide) (by decide) (Nat.le_of_ble_eq_true rfl) (Nat.le_of_ble_eq_true rfl) dX7_init_7 ?_
  refine s_topR (y := 66) (by decide +kernel) ?_
  refine s_world (w2 := wv_212) rfl ?_
  refine Wv.widen (cs2 := 1) (sl2 := 60) (Nat.le_of_ble_eq_true rfl) (Nat.le_of_ble_eq_true rfl) ?_
  refine s_pRF E hin ff_X7_11 rfl rfl (by decide +kernel) dX7_init_9 ?_
  refine s_world (w2 := wv_213) rfl ?_
  refine s_aload_n E dX7_init_12 rfl rfl ?_
  refine s_iconst (v := (-1)) E dX7_init_13 (by decide) ?_
  refine s_pI E fp_X7_15 (Or.inl rfl) rfl (by decide +kernel) dX7_init_14 ?_
  refine s_world (w2 := wv_214) rfl ?_
  exact r_void E dX7_init_17 rfl
set_option maxRecDepth 20000 in
theorem KC_35 (l : Launch) (D : va_G) (aC : Nat → ClassId) (b : Nat) : CnV l D aC b M_X7_init 1 20 1 60 [AR 67] wv_216 (fun u => u = wv_219) := by
  refine cn_V (own := RX7) (nm := "<init>") (L0 := [some (AR 67)]) (by decide +kernel) rfl rfl (Nat.le_of_ble_eq_true rfl) rfl ?_
  intro p e s m args below meth c E hin
  refine s_aload_n E dX7_init_0 rfl rfl ?_
  refine s_obj E k_163 k_26 k_27 (Nat.le_of_ble_eq_true rfl) (Nat.le_of_ble_eq_true rfl) dX7_init_1 ?_
  refine s_aload_n E dX7_init_4 rfl rfl ?_
  refine s_bipush (v := 60) E dX7_init_5 (by decide) ?_
  refine s_newa101 (N := 60) E k_178 (by decide +kernel) (by decide) (by decide) (by decide) (Nat.le_of_ble_eq_true rfl) (Nat.le_of_ble_eq_true rfl) dX7_init_7 ?_
  refine s_topR (y := 68) (by decide +kernel) ?_
  refine s_world (w2 := wv_217) rfl ?_
  refine Wv.widen (cs2 := 1) (sl2 := 60) (Nat.le_of_ble_eq_true rfl) (Nat.le_of_ble_eq_true rfl) ?_
  refine s_pRF E hin ff_X7_11 rfl rfl (by decide +kernel) dX7_init_9 ?_
  refine s_world (w2 := wv_218) rfl ?_
  refine s_aload_n E dX7_init_12 rfl rfl ?_
  refine s_iconst (v := (-1)) E dX7_init_13 (by decide) ?_
  refine s_pI E fp_X7_15 (Or.inl rfl) rfl (by decide +kernel) dX7_init_14 ?_
  refine s_world (w2 := wv_219) rfl ?_
  exact r_void E dX7_init_17 rfl
set_option maxRecDepth 20000 in
theorem KC_36 (l : Launch) (D : va_G) (aC : Nat → ClassId) (b : Nat) : CnV l D aC b M_X2_init 1 20 5 408 [AR 69] wv_221 (fun u => u = wv_231) := by
  refine cn_V (own := RX2) (nm := "<init>") (L0 := [some (AR 69)]) (by decide +kernel) rfl rfl (Nat.le_of_ble_eq_true rfl) rfl ?_
  intro p e s m args below meth c E hin
  refine s_aload_n E dX2_init_0 rfl rfl ?_
  refine s_obj E k_184 k_26 k_27 (Nat.le_of_ble_eq_true rfl) (Nat.le_of_ble_eq_true rfl) dX2_init_1 ?_
  refine s_aload_n E dX2_init_4 rfl rfl ?_
  refine s_bipush (v := 48) E dX2_init_5 (by decide) ?_
  refine s_newa100 (N := 48) E k_63 (by decide +kernel) (by decide) (by decide) (by decide) (Nat.le_of_ble_eq_true rfl) (Nat.le_of_ble_eq_true rfl) dX2_init_7 ?_
  refine s_topR (y := 70) (by decide +kernel) ?_
  refine s_world (w2 := wv_222) rfl ?_
  refine Wv.widen (cs2 := 1) (sl2 := 48) (Nat.le_of_ble_eq_true rfl) (Nat.le_of_ble_eq_true rfl) ?_
  refine s_pRF E hin ff_X2_9 rfl rfl (by decide +kernel) dX2_init_9 ?_
  refine s_world (w2 := wv_223) rfl ?_
  refine s_aload_n E dX2_init_12 rfl rfl ?_
  refine s_bipush (v := 90) E dX2_init_13 (by decide) ?_
  refine s_newa100 (N := 90) E k_63 (by decide +kernel) (by decide) (by decide) (by decide) (Nat.le_of_ble_eq_true rfl) (Nat.le_of_ble_eq_true rfl) dX2_init_15 ?_
  refine s_topR (y := 71) (by decide +kernel) ?_
  refine s_world (w2 := wv_224) rfl ?_
  refine Wv.widen (cs2 := 2) (sl2 := 138) (Nat.le_of_ble_eq_true rfl) (Nat.le_of_ble_eq_true rfl) ?_
  refine s_pRF E hin ff_X2_15 rfl rfl (by decide +kernel) dX2_init_17 ?_
  refine s_world (w2 := wv_225) rfl ?_
  refine s_aload_n E dX2_init_20 rfl rfl ?_
  refine s_bipush (v := 90) E dX2_init_21 (by decide) ?_
  refine s_newa100 (N := 90) E k_63 (by decide +kernel) (by decide) (by decide) (by decide) (Nat.le_of_ble_eq_true rfl) (Nat.le_of_ble_eq_true rfl) dX2_init_23 ?_
  refine s_topR (y := 72) (by decide +kernel) ?_
  refine s_world (w2 := wv_226) rfl ?_
  refine Wv.widen (cs2 := 3) (sl2 := 228) (Nat.le_of_ble_eq_true rfl) (Nat.le_of_ble_eq_true rfl) ?_
  refine s_pRF E hin ff_X2_18 rfl rfl (by decide +kernel) dX2_init_25 ?_
  refine s_world (w2 := wv_227) rfl ?_
  refine s_aload_n E dX2_init_28 rfl rfl ?_
  refine s_bipush (v := 90) E dX2_init_29 (by decide) ?_
  refine s_newa100 (N := 90) E k_63 (by decide +kernel) (by decide) (by decide) (by decide) (Nat.le_of_ble_eq_true rfl) (Nat.le_of_ble_eq_true rfl) dX2_init_31 ?_
  refine s_topR (y := 73) (by decide +kernel) ?_
  refine s_world (w2 := wv_228) rfl ?_
  refine Wv.widen (cs2 := 4) (sl2 := 318) (Nat.le_of_ble_eq_true rfl) (Nat.le_of_ble_eq_true rfl) ?_
  refine s_pRF E hin ff_X2_21 rfl rfl (by decide +kernel) dX2_init_33 ?_
  refine s_world (w2 := wv_229) rfl ?_
  refine s_aload_n E dX2_init_36 rfl rfl ?_
  refine s_bipush (v := 90) E dX2_init_37 (by decide) ?_
  refine s_newa100 (N := 90) E k_63 (by decide +kernel) (by decide) (by decide) (by decide) (Nat.le_of_ble_eq_true rfl) (Nat.le_of_ble_eq_true rfl) dX2_init_39 ?_
  refine s_topR (y := 74) (by decide +kernel) ?_
  refine s_world (w2 := wv_230) rfl ?_
  refine Wv.widen (cs2 := 5) (sl2 := 408) (Nat.le_of_ble_eq_true rfl) (Nat.le_of_ble_eq_true rfl) ?_
  refine s_pRF E hin ff_X2_24 rfl rfl (by decide +kernel) dX2_init_41 ?_
  refine s_world (w2 := wv_231) rfl ?_
  exact r_void E dX2_init_44 rfl
set_option maxRecDepth 20000 in
theorem KC_37 (l : Launch) (D : va_G) (aC : Nat → ClassId) (b : Nat) : CnV l D aC b M_X2_init 1 20 5 408 [AR 75] wv_233 (fun u => u = wv_243) := by
  refine cn_V (own := RX2) (nm := "<init>") (L0 := [some (AR 75)]) (by decide +kernel) rfl rfl (Nat.le_of_ble_eq_true rfl) rfl ?_
  intro p e s m args below meth c E hin
  refine s_aload_n E dX2_init_0 rfl rfl ?_
  refine s_obj E k_184 k_26 k_27 (Nat.le_of_ble_eq_true rfl) (Nat.le_of_ble_eq_true rfl) dX2_init_1 ?_
  refine s_aload_n E dX2_init_4 rfl rfl ?_
  refine s_bipush (v := 48) E dX2_init_5 (by decide) ?_
  refine s_newa100 (N := 48) E k_63 (by decide +kernel) (by decide) (by decide) (by decide) (Nat.le_of_ble_eq_true rfl) (Nat.le_of_ble_eq_true rfl) dX2_init_7 ?_
  refine s_topR (y := 76) (by decide +kernel) ?_
  refine s_world (w2 := wv_234) rfl ?_
  refine Wv.widen (cs2 := 1) (sl2 := 48) (Nat.le_of_ble_eq_true rfl) (Nat.le_of_ble_eq_true rfl) ?_
  refine s_pRF E hin ff_X2_9 rfl rfl (by decide +kernel) dX2_init_9 ?_
  refine s_world (w2 := wv_235) rfl ?_
  refine s_aload_n E dX2_init_12 rfl rfl ?_
  refine s_bipush (v := 90) E dX2_init_13 (by decide) ?_
  refine s_newa100 (N := 90) E k_63 (by decide +kernel) (by decide) (by decide) (by decide) (Nat.le_of_ble_eq_true rfl) (Nat.le_of_ble_eq_true rfl) dX2_init_15 ?_
  refine s_topR (y := 77) (by decide +kernel) ?_
  refine s_world (w2 := wv_236) rfl ?_
  refine Wv.widen (cs2 := 2) (sl2 := 138) (Nat.le_of_ble_eq_true rfl) (Nat.le_of_ble_eq_true rfl) ?_
  refine s_pRF E hin ff_X2_15 rfl rfl (by decide +kernel) dX2_init_17 ?_
  refine s_world (w2 := wv_237) rfl ?_
  refine s_aload_n E dX2_init_20 rfl rfl ?_
  refine s_bipush (v := 90) E dX2_init_21 (by decide) ?_
  refine s_newa100 (N := 90) E k_63 (by decide +kernel) (by decide) (by decide) (by decide) (Nat.le_of_ble_eq_true rfl) (Nat.le_of_ble_eq_true rfl) dX2_init_23 ?_
  refine s_topR (y := 78) (by decide +kernel) ?_
  refine s_world (w2 := wv_238) rfl ?_
  refine Wv.widen (cs2 := 3) (sl2 := 228) (Nat.le_of_ble_eq_true rfl) (Nat.le_of_ble_eq_true rfl) ?_
  refine s_pRF E hin ff_X2_18 rfl rfl (by decide +kernel) dX2_init_25 ?_
  refine s_world (w2 := wv_239) rfl ?_
  refine s_aload_n E dX2_init_28 rfl rfl ?_
  refine s_bipush (v := 90) E dX2_init_29 (by decide) ?_
  refine s_newa100 (N := 90) E k_63 (by decide +kernel) (by decide) (by decide) (by decide) (Nat.le_of_ble_eq_true rfl) (Nat.le_of_ble_eq_true rfl) dX2_init_31 ?_
  refine s_topR (y := 79) (by decide +kernel) ?_
  refine s_world (w2 := wv_240) rfl ?_
  refine Wv.widen (cs2 := 4) (sl2 := 318) (Nat.le_of_ble_eq_true rfl) (Nat.le_of_ble_eq_true rfl) ?_
  refine s_pRF E hin ff_X2_21 rfl rfl (by decide +kernel) dX2_init_33 ?_
  refine s_world (w2 := wv_241) rfl ?_
  refine s_aload_n E dX2_init_36 rfl rfl ?_
  refine s_bipush (v := 90) E dX2_init_37 (by decide) ?_
  refine s_newa100 (N := 90) E k_63 (by decide +kernel) (by decide) (by decide) (by decide) (Nat.le_of_ble_eq_true rfl) (Nat.le_of_ble_eq_true rfl) dX2_init_39 ?_
  refine s_topR (y := 80) (by decide +kernel) ?_
  refine s_world (w2 := wv_242) rfl ?_
  refine Wv.widen (cs2 := 5) (sl2 := 408) (Nat.le_of_ble_eq_true rfl) (Nat.le_of_ble_eq_true rfl) ?_
  refine s_pRF E hin ff_X2_24 rfl rfl (by decide +kernel) dX2_init_41 ?_
  refine s_world (w2 := wv_243) rfl ?_
  exact r_void E dX2_init_44 rfl
set_option maxRecDepth 20000 in
theorem KC_38 (l : Launch) (D : va_G) (aC : Nat → ClassId) (b : Nat) : CnV l D aC b M_X5_init 1 20 3 27 [AR 81] wv_245 (fun u => u = wv_251) := by
  refine cn_V (own := RX5) (nm := "<init>") (L0 := [some (AR 81)]) (by decide +kernel) rfl rfl (Nat.le_of_ble_eq_true rfl) rfl ?_
  intro p e s m args below meth c E hin
  refine s_aload_n E dX5_init_0 rfl rfl ?_
  refine s_obj E k_215 k_26 k_27 (Nat.le_of_ble_eq_true rfl) (Nat.le_of_ble_eq_true rfl) dX5_init_1 ?_
  refine s_aload_n E dX5_init_4 rfl rfl ?_
  refine s_bipush (v := 6) E dX5_init_5 (by decide) ?_
  refine s_newa100 (N := 6) E k_63 (by decide +kernel) (by decide) (by decide) (by decide) (Nat.le_of_ble_eq_true rfl) (Nat.le_of_ble_eq_true rfl) dX5_init_7 ?_
  refine s_topR (y := 82) (by decide +kernel) ?_
  refine s_world (w2 := wv_246) rfl ?_
  refine Wv.widen (cs2 := 1) (sl2 := 6) (Nat.le_of_ble_eq_true rfl) (Nat.le_of_ble_eq_true rfl) ?_
  refine s_pRF E hin ff_X5_9 rfl rfl (by decide +kernel) dX5_init_9 ?_
  refine s_world (w2 := wv_247) rfl ?_
  refine s_aload_n E dX5_init_12 rfl rfl ?_
  refine s_bipush (v := 6) E dX5_init_13 (by decide) ?_
  refine s_newa100 (N := 6) E k_63 (by decide +kernel) (by decide) (by decide) (by decide) (Nat.le_of_ble_eq_true rfl) (Nat.le_of_ble_eq_true rfl) dX5_init_15 ?_
  refine s_topR (y := 83) (by decide +kernel) ?_
  refine s_world (w2 := wv_248) rfl ?_
  refine Wv.widen (cs2 := 2) (sl2 := 12) (Nat.le_of_ble_eq_true rfl) (Nat.le_of_ble_eq_true rfl) ?_
  refine s_pRF E hin ff_X5_15 rfl rfl (by decide +kernel) dX5_init_17 ?_
  refine s_world (w2 := wv_249) rfl ?_
  refine s_aload_n E dX5_init_20 rfl rfl ?_
  refine s_bipush (v := 15) E dX5_init_21 (by decide) ?_
  refine s_newa100 (N := 15) E k_63 (by decide +kernel) (by decide) (by decide) (by decide) (Nat.le_of_ble_eq_true rfl) (Nat.le_of_ble_eq_true rfl) dX5_init_23 ?_
  refine s_topR (y := 84) (by decide +kernel) ?_
  refine s_world (w2 := wv_250) rfl ?_
  refine Wv.widen (cs2 := 3) (sl2 := 27) (Nat.le_of_ble_eq_true rfl) (Nat.le_of_ble_eq_true rfl) ?_
  refine s_pRF E hin ff_X5_18 rfl rfl (by decide +kernel) dX5_init_25 ?_
  refine s_world (w2 := wv_251) rfl ?_
  exact r_void E dX5_init_28 rfl
set_option maxRecDepth 20000 in
theorem KC_39 (l : Launch) (D : va_G) (aC : Nat → ClassId) (b : Nat) : CnV l D aC b M_X1_init 1 20 3 45 [AR 85] wv_253 (fun u => u = wv_259) := by
  refine cn_V (own := RX1) (nm := "<init>") (L0 := [some (AR 85)]) (by decide +kernel) rfl rfl (Nat.le_of_ble_eq_true rfl) rfl ?_
  intro p e s m args below meth c E hin
  refine s_aload_n E dX1_init_0 rfl rfl ?_
  refine s_obj E k_242 k_26 k_27 (Nat.le_of_ble_eq_true rfl) (Nat.le_of_ble_eq_true rfl) dX1_init_1 ?_
  refine s_aload_n E dX1_init_4 rfl rfl ?_
  refine s_bipush (v := 15) E dX1_init_5 (by decide) ?_
  refine s_newa100 (N := 15) E k_63 (by decide +kernel) (by decide) (by decide) (by decide) (Nat.le_of_ble_eq_true rfl) (Nat.le_of_ble_eq_true rfl) dX1_init_7 ?_
  refine s_topR (y := 86) (by decide +kernel) ?_
  refine s_world (w2 := wv_254) rfl ?_
  refine Wv.widen (cs2 := 1) (sl2 := 15) (Nat.le_of_ble_eq_true rfl) (Nat.le_of_ble_eq_true rfl) ?_
  refine s_pRF E hin ff_X1_9 rfl rfl (by decide +kernel) dX1_init_9 ?_
  refine s_world (w2 := wv_255) rfl ?_
  refine s_aload_n E dX1_init_12 rfl rfl ?_
  refine s_bipush (v := 15) E dX1_init_13 (by decide) ?_
  refine s_newa100 (N := 15) E k_63 (by decide +kernel) (by decide) (by decide) (by decide) (Nat.le_of_ble_eq_true rfl) (Nat.le_of_ble_eq_true rfl) dX1_init_15 ?_
  refine s_topR (y := 87) (by decide +kernel) ?_
  refine s_world (w2 := wv_256) rfl ?_
  refine Wv.widen (cs2 := 2) (sl2 := 30) (Nat.le_of_ble_eq_true rfl) (Nat.le_of_ble_eq_true rfl) ?_
  refine s_pRF E hin ff_X1_15 rfl rfl (by decide +kernel) dX1_init_17 ?_
  refine s_world (w2 := wv_257) rfl ?_
  refine s_aload_n E dX1_init_20 rfl rfl ?_
  refine s_bipush (v := 15) E dX1_init_21 (by decide) ?_
  refine s_newa100 (N := 15) E k_63 (by decide +kernel) (by decide) (by decide) (by decide) (Nat.le_of_ble_eq_true rfl) (Nat.le_of_ble_eq_true rfl) dX1_init_23 ?_
  refine s_topR (y := 88) (by decide +kernel) ?_
  refine s_world (w2 := wv_258) rfl ?_
  refine Wv.widen (cs2 := 3) (sl2 := 45) (Nat.le_of_ble_eq_true rfl) (Nat.le_of_ble_eq_true rfl) ?_
  refine s_pRF E hin ff_X1_18 rfl rfl (by decide +kernel) dX1_init_25 ?_
  refine s_world (w2 := wv_259) rfl ?_
  exact r_void E dX1_init_28 rfl
set_option maxRecDepth 20000 in
theorem KC_40 (l : Launch) (D : va_G) (aC : Nat → ClassId) (b : Nat) : CnV l D aC b M_X3_init 1 20 1 6 [AR 89] wv_261 (fun u => u = wv_263) := by
  refine cn_V (own := RX3) (nm := "<init>") (L0 := [some (AR 89)]) (by decide +kernel) rfl rfl (Nat.le_of_ble_eq_true rfl) rfl ?_
  intro p e s m args below meth c E hin
  refine s_aload_n E dX3_init_0 rfl rfl ?_
  refine s_obj E k_273 k_26 k_27 (Nat.le_of_ble_eq_true rfl) (Nat.le_of_ble_eq_true rfl) dX3_init_1 ?_
  refine s_aload_n E dX3_init_4 rfl rfl ?_
  refine s_bipush (v := 6) E dX3_init_5 (by decide) ?_
  refine s_newa100 (N := 6) E k_63 (by decide +kernel) (by decide) (by decide) (by decide) (Nat.le_of_ble_eq_true rfl) (Nat.le_of_ble_eq_true rfl) dX3_init_7 ?_
  refine s_topR (y := 90) (by decide +kernel) ?_
  refine s_world (w2 := wv_262) rfl ?_
  refine Wv.widen (cs2 := 1) (sl2 := 6) (Nat.le_of_ble_eq_true rfl) (Nat.le_of_ble_eq_true rfl) ?_
  refine s_pRF E hin ff_X3_9 rfl rfl (by decide +kernel) dX3_init_9 ?_
  refine s_world (w2 := wv_263) rfl ?_
  exact r_void E dX3_init_12 rfl
set_option maxRecDepth 20000 in
theorem KC_41 (l : Launch) (D : va_G) (aC : Nat → ClassId) (b : Nat) : CnV l D aC b M_X4_init 1 20 2 128 [AR 91] wv_265 (fun u => u = wv_269) := by
  refine cn_V (own := RX4) (nm := "<init>") (L0 := [some (AR 91)]) (by decide +kernel) rfl rfl (Nat.le_of_ble_eq_true rfl) rfl ?_
  intro p e s m args below meth c E hin
  refine s_aload_n E dX4_init_0 rfl rfl ?_
  refine s_obj E k_290 k_26 k_27 (Nat.le_of_ble_eq_true rfl) (Nat.le_of_ble_eq_true rfl) dX4_init_1 ?_
  refine s_aload_n E dX4_init_4 rfl rfl ?_
  refine s_bipush (v := 64) E dX4_init_5 (by decide) ?_
  refine s_newa101 (N := 64) E k_178 (by decide +kernel) (by decide) (by decide) (by decide) (Nat.le_of_ble_eq_true rfl) (Nat.le_of_ble_eq_true rfl) dX4_init_7 ?_
  refine s_topR (y := 92) (by decide +kernel) ?_
  refine s_world (w2 := wv_266) rfl ?_
  refine Wv.widen (cs2 := 1) (sl2 := 64) (Nat.le_of_ble_eq_true rfl) (Nat.le_of_ble_eq_true rfl) ?_
  refine s_pR E fp_X4_9 rfl rfl (by decide +kernel) dX4_init_9 ?_
  refine s_world (w2 := wv_267) rfl ?_
  refine s_aload_n E dX4_init_12 rfl rfl ?_
  refine s_bipush (v := 64) E dX4_init_13 (by decide) ?_
  refine s_newa101 (N := 64) E k_178 (by decide +kernel) (by decide) (by decide) (by decide) (Nat.le_of_ble_eq_true rfl) (Nat.le_of_ble_eq_true rfl) dX4_init_15 ?_
  refine s_topR (y := 93) (by decide +kernel) ?_
  refine s_world (w2 := wv_268) rfl ?_
  refine Wv.widen (cs2 := 2) (sl2 := 128) (Nat.le_of_ble_eq_true rfl) (Nat.le_of_ble_eq_true rfl) ?_
  refine s_pR E fp_X4_15 rfl rfl (by decide +kernel) dX4_init_17 ?_
  refine s_world (w2 := wv_269) rfl ?_
  exact r_void E dX4_init_20 rfl
set_option maxRecDepth 20000 in
theorem KC_42 (l : Launch) (D : va_G) (aC : Nat → ClassId) (b : Nat) : CnV l D aC b M_X9_init 3 63 94 3564 [AR 0] wv_1 (fun u => u = wv_272) := by
  refine cn_V (own := RX9) (nm := "<init>") (L0 := [some (AR 0), none]) (by decide +kernel) rfl rfl (Nat.le_of_ble_eq_true rfl) rfl ?_
  intro p e s m args below meth c E hin
  refine s_aload_n E dX9_init_0 rfl rfl ?_
  refine s_obj E k_25 k_26 k_27 (Nat.le_of_ble_eq_true rfl) (Nat.le_of_ble_eq_true rfl) dX9_init_1 ?_
  refine s_aload_n E dX9_init_4 rfl rfl ?_
  refine s_sipush (v := 1000) E dX9_init_5 (by decide) ?_
  refine s_newa102 (N := 1000) E k_62 (by decide +kernel) (by decide) (by decide) (by decide) (Nat.le_of_ble_eq_true rfl) (Nat.le_of_ble_eq_true rfl) dX9_init_8 ?_
  refine s_topR (y := 1) (by decide +kernel) ?_
  refine s_world (w2 := wv_2) rfl ?_
  refine Wv.widen (cs2 := 1) (sl2 := 1000) (Nat.le_of_ble_eq_true rfl) (Nat.le_of_ble_eq_true rfl) ?_
  refine s_pRF E hin ff_X9_9 rfl rfl (by decide +kernel) dX9_init_10 ?_
  refine s_world (w2 := wv_3) rfl ?_
  refine s_aload_n E dX9_init_13 rfl rfl ?_
  refine s_iconst (v := 0) E dX9_init_14 (by decide) ?_
  refine s_pI E fp_X9_13 (Or.inl rfl) rfl (by decide +kernel) dX9_init_15 ?_
  refine s_world (w2 := wv_4) rfl ?_
  refine s_aload_n E dX9_init_18 rfl rfl ?_
  refine s_new E CI0 (by decide +kernel) k_28 k_29 k_2 (by decide +kernel) (Nat.le_of_ble_eq_true rfl) (Nat.le_of_ble_eq_true rfl) dX9_init_19 ?_
  refine s_topR (y := 2) (by decide +kernel) ?_
  refine s_world (w2 := wv_5) rfl ?_
  refine Wv.widen (cs2 := 2) (sl2 := 1010) (Nat.le_of_ble_eq_true rfl) (Nat.le_of_ble_eq_true rfl) ?_
  refine s_dupR E dX9_init_22 ?_
  refine s_init (As := []) (S := [AR 2, AR 0]) E (KC_6 l D aC b) ci_X9_19 rfl rfl (Nat.le_of_ble_eq_true rfl) (Nat.le_of_ble_eq_true rfl) ⟨(Nat.le_of_ble_eq_true rfl), (Nat.le_of_ble_eq_true rfl)⟩ (Nat.le_of_ble_eq_true rfl) dX9_init_23 (fun u hp => ?_)
  subst hp
  refine Wv.widen (cs2 := 12) (sl2 := 1244) (Nat.le_of_ble_eq_true rfl) (Nat.le_of_ble_eq_true rfl) ?_
  refine s_pRF E hin ff_X9_20 rfl rfl (by decide +kernel) dX9_init_26 ?_
  refine s_world (w2 := wv_41) rfl ?_
  refine s_aload_n E dX9_init_29 rfl rfl ?_
  refine s_new E CI0 (by decide +kernel) k_28 k_29 k_2 (by decide +kernel) (Nat.le_of_ble_eq_true rfl) (Nat.le_of_ble_eq_true rfl) dX9_init_30 ?_
  refine s_topR (y := 13) (by decide +kernel) ?_
  refine s_world (w2 := wv_42) rfl ?_
  refine Wv.widen (cs2 := 13) (sl2 := 1254) (Nat.le_of_ble_eq_true rfl) (Nat.le_of_ble_eq_true rfl) ?_
  refine s_dupR E dX9_init_33 ?_
  refine s_init (As := []) (S := [AR 13, AR 0]) E (KC_12 l D aC b) ci_X9_19 rfl rfl (Nat.le_of_ble_eq_true rfl) (Nat.le_of_ble_eq_true rfl) ⟨(Nat.le_of_ble_eq_true rfl), (Nat.le_of_ble_eq_true rfl)⟩ (Nat.le_of_ble_eq_true rfl) dX9_init_34 (fun u hp => ?_)
  subst hp
  refine Wv.widen (cs2 := 23) (sl2 := 1488) (Nat.le_of_ble_eq_true rfl) (Nat.le_of_ble_eq_true rfl) ?_
  refine s_pRF E hin ff_X9_24 rfl rfl (by decide +kernel) dX9_init_37 ?_
  refine s_world (w2 := wv_78) rfl ?_
  refine s_aload_n E dX9_init_40 rfl rfl ?_
  refine s_new E CI6 (by decide +kernel) k_123 k_124 k_5 (by decide +kernel) (Nat.le_of_ble_eq_true rfl) (Nat.le_of_ble_eq_true rfl) dX9_init_41 ?_
  refine s_topR (y := 24) (by decide +kernel) ?_
  refine s_world (w2 := wv_79) rfl ?_
  refine Wv.widen (cs2 := 24) (sl2 := 1496) (Nat.le_of_ble_eq_true rfl) (Nat.le_of_ble_eq_true rfl) ?_
  refine s_dupR E dX9_init_44 ?_
  refine s_aload_n E dX9_init_45 rfl rfl ?_
  refine s_gR (r := 1) E fg_X9_9 rfl rfl (by decide +kernel) (by decide +kernel) dX9_init_46 ?_
  refine s_aload_n E dX9_init_49 rfl rfl ?_
  refine s_gR (r := 13) E fg_X9_24 rfl rfl (by decide +kernel) (by decide +kernel) dX9_init_50 ?_
  refine s_init (As := [AR 1, AR 13]) (S := [AR 24, AR 0]) E (KC_13 l D aC b) ci_X9_29 rfl rfl (Nat.le_of_ble_eq_true rfl) (Nat.le_of_ble_eq_true rfl) ⟨(Nat.le_of_ble_eq_true rfl), (Nat.le_of_ble_eq_true rfl)⟩ (Nat.le_of_ble_eq_true rfl) dX9_init_53 (fun u hp => ?_)
  subst hp
  refine s_pRF E hin ff_X9_32 rfl rfl (by decide +kernel) dX9_init_56 ?_
  refine s_world (w2 := wv_83) rfl ?_
  refine s_aload_n E dX9_init_59 rfl rfl ?_
  refine s_iconst (v := 3) E dX9_init_60 (by decide) ?_
  refine s_newr104 (N := 3) E k_28 k_156 (by decide +kernel) (by decide) (by decide) (by decide) (Nat.le_of_ble_eq_true rfl) (Nat.le_of_ble_eq_true rfl) dX9_init_61 ?_
  refine s_topR (y := 25) (by decide +kernel) ?_
  refine s_world (w2 := wv_84) rfl ?_
  refine Wv.widen (cs2 := 25) (sl2 := 1499) (Nat.le_of_ble_eq_true rfl) (Nat.le_of_ble_eq_true rfl) ?_
  refine s_pRF E hin ff_X9_36 rfl rfl (by decide +kernel) dX9_init_64 ?_
  refine s_world (w2 := wv_85) rfl ?_
  refine s_aload_n E dX9_init_67 rfl rfl ?_
  refine s_iconst (v := 3) E dX9_init_68 (by decide) ?_
  refine s_newa103 (N := 3) E k_177 (by decide +kernel) (by decide) (by decide) (by decide) (Nat.le_of_ble_eq_true rfl) (Nat.le_of_ble_eq_true rfl) dX9_init_69 ?_
  refine s_topR (y := 26) (by decide +kernel) ?_
  refine s_world (w2 := wv_86) rfl ?_
  refine Wv.widen (cs2 := 26) (sl2 := 1502) (Nat.le_of_ble_eq_true rfl) (Nat.le_of_ble_eq_true rfl) ?_
  refine s_pRF E hin ff_X9_40 rfl rfl (by decide +kernel) dX9_init_71 ?_
  refine s_world (w2 := wv_87) rfl ?_
  refine s_iconst (v := 0) E dX9_init_74 (by decide) ?_
  refine s_istore_n (L2 := [some (AR 0), some (AI 0)]) E dX9_init_75 rfl (by decide) rfl ?_
  refine s_iload_n E dX9_init_76 rfl rfl ?_
  refine s_iconst (v := 3) E dX9_init_77 (by decide) ?_
  refine s_icmp_ge (tgt := 100) E dX9_init_78 (by decide) (fun hh => absurd hh (by decide)) (fun _ => ?_)
  refine s_aload_n E dX9_init_81 rfl rfl ?_
  refine s_gR (r := 25) E fg_X9_36 rfl rfl (by decide +kernel) (by decide +kernel) dX9_init_82 ?_
  refine s_iload_n E dX9_init_85 rfl rfl ?_
  refine s_new E CI0 (by decide +kernel) k_28 k_29 k_2 (by decide +kernel) (Nat.le_of_ble_eq_true rfl) (Nat.le_of_ble_eq_true rfl) dX9_init_86 ?_
  refine s_topR (y := 27) (by decide +kernel) ?_
  refine s_world (w2 := wv_88) rfl ?_
  refine Wv.widen (cs2 := 27) (sl2 := 1512) (Nat.le_of_ble_eq_true rfl) (Nat.le_of_ble_eq_true rfl) ?_
  refine s_dupR E dX9_init_89 ?_
  refine s_init (As := []) (S := [AR 27, AI 0, AR 25]) E (KC_19 l D aC b) ci_X9_19 rfl rfl (Nat.le_of_ble_eq_true rfl) (Nat.le_of_ble_eq_true rfl) ⟨(Nat.le_of_ble_eq_true rfl), (Nat.le_of_ble_eq_true rfl)⟩ (Nat.le_of_ble_eq_true rfl) dX9_init_90 (fun u hp => ?_)
  subst hp
  refine Wv.widen (cs2 := 37) (sl2 := 1746) (Nat.le_of_ble_eq_true rfl) (Nat.le_of_ble_eq_true rfl) ?_
  refine s_aast104 E rfl (by decide +kernel) (vp_c (by decide)) rfl (by decide +kernel) dX9_init_93 ?_
  refine s_world (w2 := wv_124) rfl ?_
  refine s_iinc (v := 1) (L2 := [some (AR 0), some (AI 1)]) E dX9_init_94 rfl (by decide) (by decide) rfl ?_
  refine s_goto (tgt := 76) E dX9_init_97 (by decide) ?_
  refine s_iload_n E dX9_init_76 rfl rfl ?_
  refine s_iconst (v := 3) E dX9_init_77 (by decide) ?_
  refine s_icmp_ge (tgt := 100) E dX9_init_78 (by decide) (fun hh => absurd hh (by decide)) (fun _ => ?_)
  refine s_aload_n E dX9_init_81 rfl rfl ?_
  refine s_gR (r := 25) E fg_X9_36 rfl rfl (by decide +kernel) (by decide +kernel) dX9_init_82 ?_
  refine s_iload_n E dX9_init_85 rfl rfl ?_
  refine s_new E CI0 (by decide +kernel) k_28 k_29 k_2 (by decide +kernel) (Nat.le_of_ble_eq_true rfl) (Nat.le_of_ble_eq_true rfl) dX9_init_86 ?_
  refine s_topR (y := 38) (by decide +kernel) ?_
  refine s_world (w2 := wv_125) rfl ?_
  refine Wv.widen (cs2 := 38) (sl2 := 1756) (Nat.le_of_ble_eq_true rfl) (Nat.le_of_ble_eq_true rfl) ?_
  refine s_dupR E dX9_init_89 ?_
  refine s_init (As := []) (S := [AR 38, AI 1, AR 25]) E (KC_25 l D aC b) ci_X9_19 rfl rfl (Nat.le_of_ble_eq_true rfl) (Nat.le_of_ble_eq_true rfl) ⟨(Nat.le_of_ble_eq_true rfl), (Nat.le_of_ble_eq_true rfl)⟩ (Nat.le_of_ble_eq_true rfl) dX9_init_90 (fun u hp => ?_)
  subst hp
  refine Wv.widen (cs2 := 48) (sl2 := 1990) (Nat.le_of_ble_eq_true rfl) (Nat.le_of_ble_eq_true rfl) ?_
  refine s_aast104 E rfl (by decide +kernel) (vp_c (by decide)) rfl (by decide +kernel) dX9_init_93 ?_
  refine s_world (w2 := wv_161) rfl ?_
  refine s_iinc (v := 2) (L2 := [some (AR 0), some (AI 2)]) E dX9_init_94 rfl (by decide) (by decide) rfl ?_
  refine s_goto (tgt := 76) E dX9_init_97 (by decide) ?_
  refine s_iload_n E dX9_init_76 rfl rfl ?_
  refine s_iconst (v := 3) E dX9_init_77 (by decide) ?_
  refine s_icmp_ge (tgt := 100) E dX9_init_78 (by decide) (fun hh => absurd hh (by decide)) (fun _ => ?_)
  refine s_aload_n E dX9_init_81 rfl rfl ?_
  refine s_gR (r := 25) E fg_X9_36 rfl rfl (by decide +kernel) (by decide +kernel) dX9_init_82 ?_
  refine s_iload_n E dX9_init_85 rfl rfl ?_
  refine s_new E CI0 (by decide +kernel) k_28 k_29 k_2 (by decide +kernel) (Nat.le_of_ble_eq_true rfl) (Nat.le_of_ble_eq_true rfl) dX9_init_86 ?_
  refine s_topR (y := 49) (by decide +kernel) ?_
  refine s_world (w2 := wv_162) rfl ?_
  refine Wv.widen (cs2 := 49) (sl2 := 2000) (Nat.le_of_ble_eq_true rfl) (Nat.le_of_ble_eq_true rfl) ?_
  refine s_dupR E dX9_init_89 ?_
  refine s_init (As := []) (S := [AR 49, AI 2, AR 25]) E (KC_31 l D aC b) ci_X9_19 rfl rfl (Nat.le_of_ble_eq_true rfl) (Nat.le_of_ble_eq_true rfl) ⟨(Nat.le_of_ble_eq_true rfl), (Nat.le_of_ble_eq_true rfl)⟩ (Nat.le_of_ble_eq_true rfl) dX9_init_90 (fun u hp => ?_)
  subst hp
  refine Wv.widen (cs2 := 59) (sl2 := 2234) (Nat.le_of_ble_eq_true rfl) (Nat.le_of_ble_eq_true rfl) ?_
  refine s_aast104 E rfl (by decide +kernel) (vp_c (by decide)) rfl (by decide +kernel) dX9_init_93 ?_
  refine s_world (w2 := wv_198) rfl ?_
  refine s_iinc (v := 3) (L2 := [some (AR 0), some (AI 3)]) E dX9_init_94 rfl (by decide) (by decide) rfl ?_
  refine s_goto (tgt := 76) E dX9_init_97 (by decide) ?_
  refine s_iload_n E dX9_init_76 rfl rfl ?_
  refine s_iconst (v := 3) E dX9_init_77 (by decide) ?_
  refine s_icmp_ge (tgt := 100) E dX9_init_78 (by decide) (fun _ => ?_) (fun hh => absurd (by decide) hh) 
  refine s_aload_n E dX9_init_100 rfl rfl ?_
  refine s_iconst (v := 4) E dX9_init_101 (by decide) ?_
  refine s_newr105 (N := 4) E k_157 k_158 (by decide +kernel) (by decide) (by decide) (by decide) (Nat.le_of_ble_eq_true rfl) (Nat.le_of_ble_eq_true rfl) dX9_init_102 ?_
  refine s_topR (y := 60) (by decide +kernel) ?_
  refine s_world (w2 := wv_199) rfl ?_
  refine Wv.widen (cs2 := 60) (sl2 := 2238) (Nat.le_of_ble_eq_true rfl) (Nat.le_of_ble_eq_true rfl) ?_
  refine s_pRF E hin ff_X9_46 rfl rfl (by decide +kernel) dX9_init_105 ?_
  refine s_world (w2 := wv_200) rfl ?_
  refine s_iconst (v := 0) E dX9_init_108 (by decide) ?_
  refine s_istore_n (L2 := [some (AR 0), some (AI 0)]) E dX9_init_109 rfl (by decide) rfl ?_
  refine s_iload_n E dX9_init_110 rfl rfl ?_
  refine s_iconst (v := 4) E dX9_init_111 (by decide) ?_
  refine s_icmp_ge (tgt := 134) E dX9_init_112 (by decide) (fun hh => absurd hh (by decide)) (fun _ => ?_)
  refine s_aload_n E dX9_init_115 rfl rfl ?_
  refine s_gR (r := 60) E fg_X9_46 rfl rfl (by decide +kernel) (by decide +kernel) dX9_init_116 ?_
  refine s_iload_n E dX9_init_119 rfl rfl ?_
  refine s_new E CI7 (by decide +kernel) k_157 k_159 k_6 (by decide +kernel) (Nat.le_of_ble_eq_true rfl) (Nat.le_of_ble_eq_true rfl) dX9_init_120 ?_
  refine s_topR (y := 61) (by decide +kernel) ?_
  refine s_world (w2 := wv_201) rfl ?_
  refine Wv.widen (cs2 := 61) (sl2 := 2241) (Nat.le_of_ble_eq_true rfl) (Nat.le_of_ble_eq_true rfl) ?_
  refine s_dupR E dX9_init_123 ?_
  refine s_init (As := []) (S := [AR 61, AI 0, AR 60]) E (KC_32 l D aC b) ci_X9_50 rfl rfl (Nat.le_of_ble_eq_true rfl) (Nat.le_of_ble_eq_true rfl) ⟨(Nat.le_of_ble_eq_true rfl), (Nat.le_of_ble_eq_true rfl)⟩ (Nat.le_of_ble_eq_true rfl) dX9_init_124 (fun u hp => ?_)
  subst hp
  refine Wv.widen (cs2 := 62) (sl2 := 2301) (Nat.le_of_ble_eq_true rfl) (Nat.le_of_ble_eq_true rfl) ?_
  refine s_aast105 E rfl (by decide +kernel) (vp_c (by decide)) rfl (by decide +kernel) dX9_init_127 ?_
  refine s_world (w2 := wv_205) rfl ?_
  refine s_iinc (v := 1) (L2 := [some (AR 0), some (AI 1)]) E dX9_init_128 rfl (by decide) (by decide) rfl ?_
  refine s_goto (tgt := 110) E dX9_init_131 (by decide) ?_
  refine s_iload_n E dX9_init_110 rfl rfl ?_
  refine s_iconst (v := 4) E dX9_init_111 (by decide) ?_
  refine s_icmp_ge (tgt := 134) E dX9_init_112 (by decide) (fun hh => absurd hh (by decide)) (fun _ => ?_)
  refine s_aload_n E dX9_init_115 rfl rfl ?_
  refine s_gR (r := 60) E fg_X9_46 rfl rfl (by decide +kernel) (by decide +kernel) dX9_init_116 ?_
  refine s_iload_n E dX9_init_119 rfl rfl ?_
  refine s_new E CI7 (by decide +kernel) k_157 k_159 k_6 (by decide +kernel) (Nat.le_of_ble_eq_true rfl) (Nat.le_of_ble_eq_true rfl) dX9_init_120 ?_
  refine s_topR (y := 63) (by decide +kernel) ?_
  refine s_world (w2 := wv_206) rfl ?_
  refine Wv.widen (cs2 := 63) (sl2 := 2304) (Nat.le_of_ble_eq_true rfl) (Nat.le_of_ble_eq_true rfl) ?_
  refine s_dupR E dX9_init_123 ?_
  refine s_init (As := []) (S := [AR 63, AI 1, AR 60]) E (KC_33 l D aC b) ci_X9_50 rfl rfl (Nat.le_of_ble_eq_true rfl) (Nat.le_of_ble_eq_true rfl) ⟨(Nat.le_of_ble_eq_true rfl), (Nat.le_of_ble_eq_true rfl)⟩ (Nat.le_of_ble_eq_true rfl) dX9_init_124 (fun u hp => ?_)
  subst hp
  refine Wv.widen (cs2 := 64) (sl2 := 2364) (Nat.le_of_ble_eq_true rfl) (Nat.le_of_ble_eq_true rfl) ?_
  refine s_aast105 E rfl (by decide +kernel) (vp_c (by decide)) rfl (by decide +kernel) dX9_init_127 ?_
  refine s_world (w2 := wv_210) rfl ?_
  refine s_iinc (v := 2) (L2 := [some (AR 0), some (AI 2)]) E dX9_init_128 rfl (by decide) (by decide) rfl ?_
  refine s_goto (tgt := 110) E dX9_init_131 (by decide) ?_
  refine s_iload_n E dX9_init_110 rfl rfl ?_
  refine s_iconst (v := 4) E dX9_init_111 (by decide) ?_
  refine s_icmp_ge (tgt := 134) E dX9_init_112 (by decide) (fun hh => absurd hh (by decide)) (fun _ => ?_)
  refine s_aload_n E dX9_init_115 rfl rfl ?_
  refine s_gR (r := 60) E fg_X9_46 rfl rfl (by decide +kernel) (by decide +kernel) dX9_init_116 ?_
  refine s_iload_n E dX9_init_119 rfl rfl ?_
  refine s_new E CI7 (by decide +kernel) k_157 k_159 k_6 (by decide +kernel) (Nat.le_of_ble_eq_true rfl) (Nat.le_of_ble_eq_true rfl) dX9_init_120 ?_
  refine s_topR (y := 65) (by decide +kernel) ?_
  refine s_world (w2 := wv_211) rfl ?_
  refine Wv.widen (cs2 := 65) (sl2 := 2367) (Nat.le_of_ble_eq_true rfl) (Nat.le_of_ble_eq_true rfl) ?_
  refine s_dupR E dX9_init_123 ?_
  refine s_init (As := []) (S := [AR 65, AI 2, AR 60]) E (KC_34 l D aC b) ci_X9_50 rfl rfl (Nat.le_of_ble_eq_true rfl) (Nat.le_of_ble_eq_true rfl) ⟨(Nat.le_of_ble_eq_true rfl), (Nat.le_of_ble_eq_true rfl)⟩ (Nat.le_of_ble_eq_true rfl) dX9_init_124 (fun u hp => ?_)
  subst hp
  refine Wv.widen (cs2 := 66) (sl2 := 2427) (Nat.le_of_ble_eq_true rfl) (Nat.le_of_ble_eq_true rfl) ?_
  refine s_aast105 E rfl (by decide +kernel) (vp_c (by decide)) rfl (by decide +kernel) dX9_init_127 ?_
  refine s_world (w2 := wv_215) rfl ?_
  refine s_iinc (v := 3) (L2 := [some (AR 0), some (AI 3)]) E dX9_init_128 rfl (by decide) (by decide) rfl ?_
  refine s_goto (tgt := 110) E dX9_init_131 (by decide) ?_
  refine s_iload_n E dX9_init_110 rfl rfl ?_
  refine s_iconst (v := 4) E dX9_init_111 (by decide) ?_
  refine s_icmp_ge (tgt := 134) E dX9_init_112 (by decide) (fun hh => absurd hh (by decide)) (fun _ => ?_)
  refine s_aload_n E dX9_init_115 rfl rfl ?_
  refine s_gR (r := 60) E fg_X9_46 rfl rfl (by decide +kernel) (by decide +kernel) dX9_init_116 ?_
  refine s_iload_n E dX9_init_119 rfl rfl ?_
  refine s_new E CI7 (by decide +kernel) k_157 k_159 k_6 (by decide +kernel) (Nat.le_of_ble_eq_true rfl) (Nat.le_of_ble_eq_true rfl) dX9_init_120 ?_
  refine s_topR (y := 67) (by decide +kernel) ?_
  refine s_world (w2 := wv_216) rfl ?_
  refine Wv.widen (cs2 := 67) (sl2 := 2430) (Nat.le_of_ble_eq_true rfl) (Nat.le_of_ble_eq_true rfl) ?_
  refine s_dupR E dX9_init_123 ?_
  refine s_init (As := []) (S := [AR 67, AI 3, AR 60]) E (KC_35 l D aC b) ci_X9_50 rfl rfl (Nat.le_of_ble_eq_true rfl) (Nat.le_of_ble_eq_true rfl) ⟨(Nat.le_of_ble_eq_true rfl), (Nat.le_of_ble_eq_true rfl)⟩ (Nat.le_of_ble_eq_true rfl) dX9_init_124 (fun u hp => ?_)
  subst hp
  refine Wv.widen (cs2 := 68) (sl2 := 2490) (Nat.le_of_ble_eq_true rfl) (Nat.le_of_ble_eq_true rfl) ?_
  refine s_aast105 E rfl (by decide +kernel) (vp_c (by decide)) rfl (by decide +kernel) dX9_init_127 ?_
  refine s_world (w2 := wv_220) rfl ?_
  refine s_iinc (v := 4) (L2 := [some (AR 0), some (AI 4)]) E dX9_init_128 rfl (by decide) (by decide) rfl ?_
  refine s_goto (tgt := 110) E dX9_init_131 (by decide) ?_
  refine s_iload_n E dX9_init_110 rfl rfl ?_
  refine s_iconst (v := 4) E dX9_init_111 (by decide) ?_
  refine s_icmp_ge (tgt := 134) E dX9_init_112 (by decide) (fun _ => ?_) (fun hh => absurd (by decide) hh) 
  refine s_aload_n E dX9_init_134 rfl rfl ?_
  refine s_new E CI2 (by decide +kernel) k_179 k_180 k_7 (by decide +kernel) (Nat.le_of_ble_eq_true rfl) (Nat.le_of_ble_eq_true rfl) dX9_init_135 ?_
  refine s_topR (y := 69) (by decide +kernel) ?_
  refine s_world (w2 := wv_221) rfl ?_
  refine Wv.widen (cs2 := 69) (sl2 := 2498) (Nat.le_of_ble_eq_true rfl) (Nat.le_of_ble_eq_true rfl) ?_
  refine s_dupR E dX9_init_138 ?_
  refine s_init (As := []) (S := [AR 69, AR 0]) E (KC_36 l D aC b) ci_X9_53 rfl rfl (Nat.le_of_ble_eq_true rfl) (Nat.le_of_ble_eq_true rfl) ⟨(Nat.le_of_ble_eq_true rfl), (Nat.le_of_ble_eq_true rfl)⟩ (Nat.le_of_ble_eq_true rfl) dX9_init_139 (fun u hp => ?_)
  subst hp
  refine Wv.widen (cs2 := 74) (sl2 := 2906) (Nat.le_of_ble_eq_true rfl) (Nat.le_of_ble_eq_true rfl) ?_
  refine s_pRF E hin ff_X9_54 rfl rfl (by decide +kernel) dX9_init_142 ?_
  refine s_world (w2 := wv_232) rfl ?_
  refine s_aload_n E dX9_init_145 rfl rfl ?_
  refine s_new E CI2 (by decide +kernel) k_179 k_180 k_7 (by decide +kernel) (Nat.le_of_ble_eq_true rfl) (Nat.le_of_ble_eq_true rfl) dX9_init_146 ?_
  refine s_topR (y := 75) (by decide +kernel) ?_
  refine s_world (w2 := wv_233) rfl ?_
  refine Wv.widen (cs2 := 75) (sl2 := 2914) (Nat.le_of_ble_eq_true rfl) (Nat.le_of_ble_eq_true rfl) ?_
  refine s_dupR E dX9_init_149 ?_
  refine s_init (As := []) (S := [AR 75, AR 0]) E (KC_37 l D aC b) ci_X9_53 rfl rfl (Nat.le_of_ble_eq_true rfl) (Nat.le_of_ble_eq_true rfl) ⟨(Nat.le_of_ble_eq_true rfl), (Nat.le_of_ble_eq_true rfl)⟩ (Nat.le_of_ble_eq_true rfl) dX9_init_150 (fun u hp => ?_)
  subst hp
  refine Wv.widen (cs2 := 80) (sl2 := 3322) (Nat.le_of_ble_eq_true rfl) (Nat.le_of_ble_eq_true rfl) ?_
  refine s_pRF E hin ff_X9_58 rfl rfl (by decide +kernel) dX9_init_153 ?_
  refine s_world (w2 := wv_244) rfl ?_
  refine s_aload_n E dX9_init_156 rfl rfl ?_
  refine s_new E CI5 (by decide +kernel) k_210 k_211 k_8 (by decide +kernel) (Nat.le_of_ble_eq_true rfl) (Nat.le_of_ble_eq_true rfl) dX9_init_157 ?_
  refine s_topR (y := 81) (by decide +kernel) ?_
  refine s_world (w2 := wv_245) rfl ?_
  refine Wv.widen (cs2 := 81) (sl2 := 3328) (Nat.le_of_ble_eq_true rfl) (Nat.le_of_ble_eq_true rfl) ?_
  refine s_dupR E dX9_init_160 ?_
  refine s_init (As := []) (S := [AR 81, AR 0]) E (KC_38 l D aC b) ci_X9_63 rfl rfl (Nat.le_of_ble_eq_true rfl) (Nat.le_of_ble_eq_true rfl) ⟨(Nat.le_of_ble_eq_true rfl), (Nat.le_of_ble_eq_true rfl)⟩ (Nat.le_of_ble_eq_true rfl) dX9_init_161 (fun u hp => ?_)
  subst hp
  refine Wv.widen (cs2 := 84) (sl2 := 3355) (Nat.le_of_ble_eq_true rfl) (Nat.le_of_ble_eq_true rfl) ?_
  refine s_pRF E hin ff_X9_64 rfl rfl (by decide +kernel) dX9_init_164 ?_
  refine s_world (w2 := wv_252) rfl ?_
  refine s_aload_n E dX9_init_167 rfl rfl ?_
  refine s_new E CI1 (by decide +kernel) k_237 k_238 k_9 (by decide +kernel) (Nat.le_of_ble_eq_true rfl) (Nat.le_of_ble_eq_true rfl) dX9_init_168 ?_
  refine s_topR (y := 85) (by decide +kernel) ?_
  refine s_world (w2 := wv_253) rfl ?_
  refine Wv.widen (cs2 := 85) (sl2 := 3363) (Nat.le_of_ble_eq_true rfl) (Nat.le_of_ble_eq_true rfl) ?_
  refine s_dupR E dX9_init_171 ?_
  refine s_init (As := []) (S := [AR 85, AR 0]) E (KC_39 l D aC b) ci_X9_70 rfl rfl (Nat.le_of_ble_eq_true rfl) (Nat.le_of_ble_eq_true rfl) ⟨(Nat.le_of_ble_eq_true rfl), (Nat.le_of_ble_eq_true rfl)⟩ (Nat.le_of_ble_eq_true rfl) dX9_init_172 (fun u hp => ?_)
  subst hp
  refine Wv.widen (cs2 := 88) (sl2 := 3408) (Nat.le_of_ble_eq_true rfl) (Nat.le_of_ble_eq_true rfl) ?_
  refine s_pRF E hin ff_X9_71 rfl rfl (by decide +kernel) dX9_init_175 ?_
  refine s_world (w2 := wv_260) rfl ?_
  refine s_aload_n E dX9_init_178 rfl rfl ?_
  refine s_new E CI3 (by decide +kernel) k_268 k_269 k_10 (by decide +kernel) (Nat.le_of_ble_eq_true rfl) (Nat.le_of_ble_eq_true rfl) dX9_init_179 ?_
  refine s_topR (y := 89) (by decide +kernel) ?_
  refine s_world (w2 := wv_261) rfl ?_
  refine Wv.widen (cs2 := 89) (sl2 := 3411) (Nat.le_of_ble_eq_true rfl) (Nat.le_of_ble_eq_true rfl) ?_
  refine s_dupR E dX9_init_182 ?_
  refine s_init (As := []) (S := [AR 89, AR 0]) E (KC_40 l D aC b) ci_X9_77 rfl rfl (Nat.le_of_ble_eq_true rfl) (Nat.le_of_ble_eq_true rfl) ⟨(Nat.le_of_ble_eq_true rfl), (Nat.le_of_ble_eq_true rfl)⟩ (Nat.le_of_ble_eq_true rfl) dX9_init_183 (fun u hp => ?_)
  subst hp
  refine Wv.widen (cs2 := 90) (sl2 := 3417) (Nat.le_of_ble_eq_true rfl) (Nat.le_of_ble_eq_true rfl) ?_
  refine s_pRF E hin ff_X9_78 rfl rfl (by decide +kernel) dX9_init_186 ?_
  refine s_world (w2 := wv_264) rfl ?_
  refine s_aload_n E dX9_init_189 rfl rfl ?_
  refine s_new E CI4 (by decide +kernel) k_285 k_286 k_11 (by decide +kernel) (Nat.le_of_ble_eq_true rfl) (Nat.le_of_ble_eq_true rfl) dX9_init_190 ?_
  refine s_topR (y := 91) (by decide +kernel) ?_
  refine s_world (w2 := wv_265) rfl ?_
  refine Wv.widen (cs2 := 91) (sl2 := 3420) (Nat.le_of_ble_eq_true rfl) (Nat.le_of_ble_eq_true rfl) ?_
  refine s_dupR E dX9_init_193 ?_
  refine s_init (As := []) (S := [AR 91, AR 0]) E (KC_41 l D aC b) ci_X9_84 rfl rfl (Nat.le_of_ble_eq_true rfl) (Nat.le_of_ble_eq_true rfl) ⟨(Nat.le_of_ble_eq_true rfl), (Nat.le_of_ble_eq_true rfl)⟩ (Nat.le_of_ble_eq_true rfl) dX9_init_194 (fun u hp => ?_)
  subst hp
  refine Wv.widen (cs2 := 93) (sl2 := 3548) (Nat.le_of_ble_eq_true rfl) (Nat.le_of_ble_eq_true rfl) ?_
  refine s_pRF E hin ff_X9_85 rfl rfl (by decide +kernel) dX9_init_197 ?_
  refine s_world (w2 := wv_270) rfl ?_
  refine s_aload_n E dX9_init_200 rfl rfl ?_
  refine s_bipush (v := 16) E dX9_init_201 (by decide) ?_
  refine s_newa100 (N := 16) E k_63 (by decide +kernel) (by decide) (by decide) (by decide) (Nat.le_of_ble_eq_true rfl) (Nat.le_of_ble_eq_true rfl) dX9_init_203 ?_
  refine s_topR (y := 94) (by decide +kernel) ?_
  refine s_world (w2 := wv_271) rfl ?_
  refine Wv.widen (cs2 := 94) (sl2 := 3564) (Nat.le_of_ble_eq_true rfl) (Nat.le_of_ble_eq_true rfl) ?_
  refine s_pRF E hin ff_X9_89 rfl rfl (by decide +kernel) dX9_init_205 ?_
  refine s_world (w2 := wv_272) rfl ?_
  exact r_void E dX9_init_208 rfl
set_option maxRecDepth 20000 in
theorem KC_43 (l : Launch) (D : va_G) (aC : Nat → ClassId) (b : Nat) : CnV l D aC b M_X10_init 1 20 20 3064 [AR 95] wv_273 (fun u => u = wv_318) := by
  refine cn_V (own := RX10) (nm := "<init>") (L0 := [some (AR 95)]) (by decide +kernel) rfl rfl (Nat.le_of_ble_eq_true rfl) rfl ?_
  intro p e s m args below meth c E hin
  refine s_aload_n E dX10_init_0 rfl rfl ?_
  refine s_obj E k_1240 k_26 k_27 (Nat.le_of_ble_eq_true rfl) (Nat.le_of_ble_eq_true rfl) dX10_init_1 ?_
  refine s_aload_n E dX10_init_4 rfl rfl ?_
  refine s_sipush (v := 134) E dX10_init_5 (by decide) ?_
  refine s_newa100 (N := 134) E k_63 (by decide +kernel) (by decide) (by decide) (by decide) (Nat.le_of_ble_eq_true rfl) (Nat.le_of_ble_eq_true rfl) dX10_init_8 ?_
  refine s_topR (y := 96) (by decide +kernel) ?_
  refine s_world (w2 := wv_274) rfl ?_
  refine Wv.widen (cs2 := 1) (sl2 := 134) (Nat.le_of_ble_eq_true rfl) (Nat.le_of_ble_eq_true rfl) ?_
  refine s_pRF E hin ff_X10_9 rfl rfl (by decide +kernel) dX10_init_10 ?_
  refine s_world (w2 := wv_275) rfl ?_
  refine s_aload_n E dX10_init_13 rfl rfl ?_
  refine s_sipush (v := 402) E dX10_init_14 (by decide) ?_
  refine s_newa100 (N := 402) E k_63 (by decide +kernel) (by decide) (by decide) (by decide) (Nat.le_of_ble_eq_true rfl) (Nat.le_of_ble_eq_true rfl) dX10_init_17 ?_
  refine s_topR (y := 97) (by decide +kernel) ?_
  refine s_world (w2 := wv_276) rfl ?_
  refine Wv.widen (cs2 := 2) (sl2 := 536) (Nat.le_of_ble_eq_true rfl) (Nat.le_of_ble_eq_true rfl) ?_
  refine s_pRF E hin ff_X10_13 rfl rfl (by decide +kernel) dX10_init_19 ?_
  refine s_world (w2 := wv_277) rfl ?_
  refine s_aload_n E dX10_init_22 rfl rfl ?_
  refine s_iconst (v := 3) E dX10_init_23 (by decide) ?_
  refine s_newa103 (N := 3) E k_177 (by decide +kernel) (by decide) (by decide) (by decide) (Nat.le_of_ble_eq_true rfl) (Nat.le_of_ble_eq_true rfl) dX10_init_24 ?_
  refine s_topR (y := 98) (by decide +kernel) ?_
  refine s_world (w2 := wv_278) rfl ?_
  refine Wv.widen (cs2 := 3) (sl2 := 539) (Nat.le_of_ble_eq_true rfl) (Nat.le_of_ble_eq_true rfl) ?_
  refine s_pRF E hin ff_X10_16 rfl rfl (by decide +kernel) dX10_init_26 ?_
  refine s_world (w2 := wv_279) rfl ?_
  refine s_aload_n E dX10_init_29 rfl rfl ?_
  refine s_sipush (v := 1000) E dX10_init_30 (by decide) ?_
  refine s_newa102 (N := 1000) E k_62 (by decide +kernel) (by decide) (by decide) (by decide) (Nat.le_of_ble_eq_true rfl) (Nat.le_of_ble_eq_true rfl) dX10_init_33 ?_
  refine s_topR (y := 99) (by decide +kernel) ?_
  refine s_world (w2 := wv_280) rfl ?_
  refine Wv.widen (cs2 := 4) (sl2 := 1539) (Nat.le_of_ble_eq_true rfl) (Nat.le_of_ble_eq_true rfl) ?_
  refine s_pRF E hin ff_X10_20 rfl rfl (by decide +kernel) dX10_init_35 ?_
  refine s_world (w2 := wv_281) rfl ?_
  refine s_aload_n E dX10_init_38 rfl rfl ?_
  refine s_iconst (v := 5) E dX10_init_39 (by decide) ?_
  refine s_newa100 (N := 5) E k_63 (by decide +kernel) (by decide) (by decide) (by decide) (Nat.le_of_ble_eq_true rfl) (Nat.le_of_ble_eq_true rfl) dX10_init_40 ?_
  refine s_topR (y := 100) (by decide +kernel) ?_
  refine s_world (w2 := wv_282) rfl ?_
  refine Wv.widen (cs2 := 5) (sl2 := 1544) (Nat.le_of_ble_eq_true rfl) (Nat.le_of_ble_eq_true rfl) ?_
  refine s_pRF E hin ff_X10_24 rfl rfl (by decide +kernel) dX10_init_42 ?_
  refine s_world (w2 := wv_283) rfl ?_
  refine s_aload_n E dX10_init_45 rfl rfl ?_
  refine s_iconst (v := (-1)) E dX10_init_46 (by decide) ?_
  refine s_pI E fp_X10_27 (Or.inl rfl) rfl (by decide +kernel) dX10_init_47 ?_
  refine s_world (w2 := wv_284) rfl ?_
  refine s_aload_n E dX10_init_50 rfl rfl ?_
  refine s_sipush (v := 134) E dX10_init_51 (by decide) ?_
  refine s_newa100 (N := 134) E k_63 (by decide +kernel) (by decide) (by decide) (by decide) (Nat.le_of_ble_eq_true rfl) (Nat.le_of_ble_eq_true rfl) dX10_init_54 ?_
  refine s_topR (y := 101) (by decide +kernel) ?_
  refine s_world (w2 := wv_285) rfl ?_
  refine Wv.widen (cs2 := 6) (sl2 := 1678) (Nat.le_of_ble_eq_true rfl) (Nat.le_of_ble_eq_true rfl) ?_
  refine s_pRF E hin ff_X10_31 rfl rfl (by decide +kernel) dX10_init_56 ?_
  refine s_world (w2 := wv_286) rfl ?_
  refine s_aload_n E dX10_init_59 rfl rfl ?_
  refine s_sipush (v := 640) E dX10_init_60 (by decide) ?_
  refine s_newa100 (N := 640) E k_63 (by decide +kernel) (by decide) (by decide) (by decide) (Nat.le_of_ble_eq_true rfl) (Nat.le_of_ble_eq_true rfl) dX10_init_63 ?_
  refine s_topR (y := 102) (by decide +kernel) ?_
  refine s_world (w2 := wv_287) rfl ?_
  refine Wv.widen (cs2 := 7) (sl2 := 2318) (Nat.le_of_ble_eq_true rfl) (Nat.le_of_ble_eq_true rfl) ?_
  refine s_pRF E hin ff_X10_34 rfl rfl (by decide +kernel) dX10_init_65 ?_
  refine s_world (w2 := wv_288) rfl ?_
  refine s_aload_n E dX10_init_68 rfl rfl ?_
  refine s_bipush (v := 90) E dX10_init_69 (by decide) ?_
  refine s_newa100 (N := 90) E k_63 (by decide +kernel) (by decide) (by decide) (by decide) (Nat.le_of_ble_eq_true rfl) (Nat.le_of_ble_eq_true rfl) dX10_init_71 ?_
  refine s_topR (y := 103) (by decide +kernel) ?_
  refine s_world (w2 := wv_289) rfl ?_
  refine Wv.widen (cs2 := 8) (sl2 := 2408) (Nat.le_of_ble_eq_true rfl) (Nat.le_of_ble_eq_true rfl) ?_
  refine s_pRF E hin ff_X10_37 rfl rfl (by decide +kernel) dX10_init_73 ?_
  refine s_world (w2 := wv_290) rfl ?_
  refine s_aload_n E dX10_init_76 rfl rfl ?_
  refine s_bipush (v := 8) E dX10_init_77 (by decide) ?_
  refine s_newa100 (N := 8) E k_63 (by decide +kernel) (by decide) (by decide) (by decide) (Nat.le_of_ble_eq_true rfl) (Nat.le_of_ble_eq_true rfl) dX10_init_79 ?_
  refine s_topR (y := 104) (by decide +kernel) ?_
  refine s_world (w2 := wv_291) rfl ?_
  refine Wv.widen (cs2 := 9) (sl2 := 2416) (Nat.le_of_ble_eq_true rfl) (Nat.le_of_ble_eq_true rfl) ?_
  refine s_pRF E hin ff_X10_40 rfl rfl (by decide +kernel) dX10_init_81 ?_
  refine s_world (w2 := wv_292) rfl ?_
  refine s_aload_n E dX10_init_84 rfl rfl ?_
  refine s_bipush (v := 6) E dX10_init_85 (by decide) ?_
  refine s_newa100 (N := 6) E k_63 (by decide +kernel) (by decide) (by decide) (by decide) (Nat.le_of_ble_eq_true rfl) (Nat.le_of_ble_eq_true rfl) dX10_init_87 ?_
  refine s_topR (y := 105) (by decide +kernel) ?_
  refine s_world (w2 := wv_293) rfl ?_
  refine Wv.widen (cs2 := 10) (sl2 := 2422) (Nat.le_of_ble_eq_true rfl) (Nat.le_of_ble_eq_true rfl) ?_
  refine s_pRF E hin ff_X10_43 rfl rfl (by decide +kernel) dX10_init_89 ?_
  refine s_world (w2 := wv_294) rfl ?_
  refine s_aload_n E dX10_init_92 rfl rfl ?_
  refine s_bipush (v := 15) E dX10_init_93 (by decide) ?_
  refine s_newa100 (N := 15) E k_63 (by decide +kernel) (by decide) (by decide) (by decide) (Nat.le_of_ble_eq_true rfl) (Nat.le_of_ble_eq_true rfl) dX10_init_95 ?_
  refine s_topR (y := 106) (by decide +kernel) ?_
  refine s_world (w2 := wv_295) rfl ?_
  refine Wv.widen (cs2 := 11) (sl2 := 2437) (Nat.le_of_ble_eq_true rfl) (Nat.le_of_ble_eq_true rfl) ?_
  refine s_pRF E hin ff_X10_46 rfl rfl (by decide +kernel) dX10_init_97 ?_
  refine s_world (w2 := wv_296) rfl ?_
  refine s_aload_n E dX10_init_100 rfl rfl ?_
  refine s_bipush (v := 6) E dX10_init_101 (by decide) ?_
  refine s_newa100 (N := 6) E k_63 (by decide +kernel) (by decide) (by decide) (by decide) (Nat.le_of_ble_eq_true rfl) (Nat.le_of_ble_eq_true rfl) dX10_init_103 ?_
  refine s_topR (y := 107) (by decide +kernel) ?_
  refine s_world (w2 := wv_297) rfl ?_
  refine Wv.widen (cs2 := 12) (sl2 := 2443) (Nat.le_of_ble_eq_true rfl) (Nat.le_of_ble_eq_true rfl) ?_
  refine s_pRF E hin ff_X10_49 rfl rfl (by decide +kernel) dX10_init_105 ?_
  refine s_world (w2 := wv_298) rfl ?_
  refine s_aload_n E dX10_init_108 rfl rfl ?_
  refine s_bipush (v := 6) E dX10_init_109 (by decide) ?_
  refine s_newa100 (N := 6) E k_63 (by decide +kernel) (by decide) (by decide) (by decide) (Nat.le_of_ble_eq_true rfl) (Nat.le_of_ble_eq_true rfl) dX10_init_111 ?_
  refine s_topR (y := 108) (by decide +kernel) ?_
  refine s_world (w2 := wv_299) rfl ?_
  refine Wv.widen (cs2 := 13) (sl2 := 2449) (Nat.le_of_ble_eq_true rfl) (Nat.le_of_ble_eq_true rfl) ?_
  refine s_pRF E hin ff_X10_52 rfl rfl (by decide +kernel) dX10_init_113 ?_
  refine s_world (w2 := wv_300) rfl ?_
  refine s_aload_n E dX10_init_116 rfl rfl ?_
  refine s_sipush (v := 256) E dX10_init_117 (by decide) ?_
  refine s_newa103 (N := 256) E k_177 (by decide +kernel) (by decide) (by decide) (by decide) (Nat.le_of_ble_eq_true rfl) (Nat.le_of_ble_eq_true rfl) dX10_init_120 ?_
  refine s_topR (y := 109) (by decide +kernel) ?_
  refine s_world (w2 := wv_301) rfl ?_
  refine Wv.widen (cs2 := 14) (sl2 := 2705) (Nat.le_of_ble_eq_true rfl) (Nat.le_of_ble_eq_true rfl) ?_
  refine s_pRF E hin ff_X10_55 rfl rfl (by decide +kernel) dX10_init_122 ?_
  refine s_world (w2 := wv_302) rfl ?_
  refine s_aload_n E dX10_init_125 rfl rfl ?_
  refine s_bipush (v := 15) E dX10_init_126 (by decide) ?_
  refine s_newa100 (N := 15) E k_63 (by decide +kernel) (by decide) (by decide) (by decide) (Nat.le_of_ble_eq_true rfl) (Nat.le_of_ble_eq_true rfl) dX10_init_128 ?_
  refine s_topR (y := 110) (by decide +kernel) ?_
  refine s_world (w2 := wv_303) rfl ?_
  refine Wv.widen (cs2 := 15) (sl2 := 2720) (Nat.le_of_ble_eq_true rfl) (Nat.le_of_ble_eq_true rfl) ?_
  refine s_pRF E hin ff_X10_58 rfl rfl (by decide +kernel) dX10_init_130 ?_
  refine s_world (w2 := wv_304) rfl ?_
  refine s_aload_n E dX10_init_133 rfl rfl ?_
  refine s_bipush (v := 36) E dX10_init_134 (by decide) ?_
  refine s_newa100 (N := 36) E k_63 (by decide +kernel) (by decide) (by decide) (by decide) (Nat.le_of_ble_eq_true rfl) (Nat.le_of_ble_eq_true rfl) dX10_init_136 ?_
  refine s_topR (y := 111) (by decide +kernel) ?_
  refine s_world (w2 := wv_305) rfl ?_
  refine Wv.widen (cs2 := 16) (sl2 := 2756) (Nat.le_of_ble_eq_true rfl) (Nat.le_of_ble_eq_true rfl) ?_
  refine s_pRF E hin ff_X10_61 rfl rfl (by decide +kernel) dX10_init_138 ?_
  refine s_world (w2 := wv_306) rfl ?_
  refine s_aload_n E dX10_init_141 rfl rfl ?_
  refine s_iconst (v := 4) E dX10_init_142 (by decide) ?_
  refine s_newa100 (N := 4) E k_63 (by decide +kernel) (by decide) (by decide) (by decide) (Nat.le_of_ble_eq_true rfl) (Nat.le_of_ble_eq_true rfl) dX10_init_143 ?_
  refine s_topR (y := 112) (by decide +kernel) ?_
  refine s_world (w2 := wv_307) rfl ?_
  refine Wv.widen (cs2 := 17) (sl2 := 2760) (Nat.le_of_ble_eq_true rfl) (Nat.le_of_ble_eq_true rfl) ?_
  refine s_dupR E dX10_init_145 ?_
  refine s_iconst (v := 0) E dX10_init_146 (by decide) ?_
  refine s_iconst (v := (-1)) E dX10_init_147 (by decide) ?_
  refine s_iast E rfl (by decide +kernel) (vp_c (by decide)) dX10_init_148 ?_
  refine s_world (w2 := wv_308) rfl ?_
  refine s_dupR E dX10_init_149 ?_
  refine s_iconst (v := 1) E dX10_init_150 (by decide) ?_
  refine s_iconst (v := (-1)) E dX10_init_151 (by decide) ?_
  refine s_iast E rfl (by decide +kernel) (vp_c (by decide)) dX10_init_152 ?_
  refine s_world (w2 := wv_309) rfl ?_
  refine s_dupR E dX10_init_153 ?_
  refine s_iconst (v := 2) E dX10_init_154 (by decide) ?_
  refine s_iconst (v := (-1)) E dX10_init_155 (by decide) ?_
  refine s_iast E rfl (by decide +kernel) (vp_c (by decide)) dX10_init_156 ?_
  refine s_world (w2 := wv_310) rfl ?_
  refine s_dupR E dX10_init_157 ?_
  refine s_iconst (v := 3) E dX10_init_158 (by decide) ?_
  refine s_iconst (v := (-1)) E dX10_init_159 (by decide) ?_
  refine s_iast E rfl (by decide +kernel) (vp_c (by decide)) dX10_init_160 ?_
  refine s_world (w2 := wv_311) rfl ?_
  refine s_pRF E hin ff_X10_64 rfl rfl (by decide +kernel) dX10_init_161 ?_
  refine s_world (w2 := wv_312) rfl ?_
  refine s_aload_n E dX10_init_164 rfl rfl ?_
  refine s_iconst (v := 4) E dX10_init_165 (by decide) ?_
  refine s_newa100 (N := 4) E k_63 (by decide +kernel) (by decide) (by decide) (by decide) (Nat.le_of_ble_eq_true rfl) (Nat.le_of_ble_eq_true rfl) dX10_init_166 ?_
  refine s_topR (y := 113) (by decide +kernel) ?_
  refine s_world (w2 := wv_313) rfl ?_
  refine Wv.widen (cs2 := 18) (sl2 := 2764) (Nat.le_of_ble_eq_true rfl) (Nat.le_of_ble_eq_true rfl) ?_
  refine s_pRF E hin ff_X10_67 rfl rfl (by decide +kernel) dX10_init_168 ?_
  refine s_world (w2 := wv_314) rfl ?_
  refine s_aload_n E dX10_init_171 rfl rfl ?_
  refine s_sipush (v := 240) E dX10_init_172 (by decide) ?_
  refine s_newa101 (N := 240) E k_178 (by decide +kernel) (by decide) (by decide) (by decide) (Nat.le_of_ble_eq_true rfl) (Nat.le_of_ble_eq_true rfl) dX10_init_175 ?_
  refine s_topR (y := 114) (by decide +kernel) ?_
  refine s_world (w2 := wv_315) rfl ?_
  refine Wv.widen (cs2 := 19) (sl2 := 3004) (Nat.le_of_ble_eq_true rfl) (Nat.le_of_ble_eq_true rfl) ?_
  refine s_pRF E hin ff_X10_70 rfl rfl (by decide +kernel) dX10_init_177 ?_
  refine s_world (w2 := wv_316) rfl ?_
  refine s_aload_n E dX10_init_180 rfl rfl ?_
  refine s_bipush (v := 60) E dX10_init_181 (by decide) ?_
  refine s_newa101 (N := 60) E k_178 (by decide +kernel) (by decide) (by decide) (by decide) (Nat.le_of_ble_eq_true rfl) (Nat.le_of_ble_eq_true rfl) dX10_init_183 ?_
  refine s_topR (y := 115) (by decide +kernel) ?_
  refine s_world (w2 := wv_317) rfl ?_
  refine Wv.widen (cs2 := 20) (sl2 := 3064) (Nat.le_of_ble_eq_true rfl) (Nat.le_of_ble_eq_true rfl) ?_
  refine s_pRF E hin ff_X10_74 rfl rfl (by decide +kernel) dX10_init_185 ?_
  refine s_world (w2 := wv_318) rfl ?_
  exact r_void E dX10_init_188 rfl
end
