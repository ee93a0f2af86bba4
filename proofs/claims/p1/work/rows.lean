section
-- ===== PART A: goes FIRST, ahead of the names: the tables' words, and 'selects' of the private methods out of them =====
/-- a private method of a class that the tables say can be made, by its rows of tables_1 -/
def lw_okq (q : MethodName × Nat) : Prop := (q.1.cls ≠ "java/lang/invoke/MethodHandle" ∧ q.1.cls ≠ "java/lang/invoke/VarHandle") ∧ Cond.instantiable q.1.cls q.2 ∈ tables_1 ∧ Cond.privateMethod q.1 ∈ tables_1 ∧ Cond.instanceMethod q.1 ∈ tables_1
theorem lw_p0 : lw_okq (⟨"HoopCabinet", "appendFour", "(I)V"⟩, 15) := ⟨⟨by decide +kernel, by decide +kernel⟩, List.mem_of_getElem? (i := 21) (by decide +kernel), List.mem_of_getElem? (i := 353) (by decide +kernel), List.mem_of_getElem? (i := 354) (by decide +kernel)⟩
theorem lw_p1 : lw_okq (⟨"HoopCabinet$Reader", "nextToken", "()V"⟩, 8) := ⟨⟨by decide +kernel, by decide +kernel⟩, List.mem_of_getElem? (i := 124) (by decide +kernel), List.mem_of_getElem? (i := 381) (by decide +kernel), List.mem_of_getElem? (i := 382) (by decide +kernel)⟩
theorem lw_p2 : lw_okq (⟨"HoopCabinet$Reader", "byteAt", "(I)I"⟩, 8) := ⟨⟨by decide +kernel, by decide +kernel⟩, List.mem_of_getElem? (i := 124) (by decide +kernel), List.mem_of_getElem? (i := 385) (by decide +kernel), List.mem_of_getElem? (i := 386) (by decide +kernel)⟩
theorem lw_p3 : lw_okq (⟨"HoopCabinet$Reader", "readLine", "()V"⟩, 8) := ⟨⟨by decide +kernel, by decide +kernel⟩, List.mem_of_getElem? (i := 124) (by decide +kernel), List.mem_of_getElem? (i := 395) (by decide +kernel), List.mem_of_getElem? (i := 396) (by decide +kernel)⟩
theorem lw_p4 : lw_okq (⟨"HoopCabinet$Reader", "readBall", "()V"⟩, 8) := ⟨⟨by decide +kernel, by decide +kernel⟩, List.mem_of_getElem? (i := 124) (by decide +kernel), List.mem_of_getElem? (i := 399) (by decide +kernel), List.mem_of_getElem? (i := 400) (by decide +kernel)⟩
theorem lw_p5 : lw_okq (⟨"HoopCabinet$Reader", "takeWord", "(Ljava/lang/String;)V"⟩, 8) := ⟨⟨by decide +kernel, by decide +kernel⟩, List.mem_of_getElem? (i := 124) (by decide +kernel), List.mem_of_getElem? (i := 404) (by decide +kernel), List.mem_of_getElem? (i := 405) (by decide +kernel)⟩
theorem lw_p6 : lw_okq (⟨"HoopCabinet$Reader", "isWord", "(Ljava/lang/String;)Z"⟩, 8) := ⟨⟨by decide +kernel, by decide +kernel⟩, List.mem_of_getElem? (i := 124) (by decide +kernel), List.mem_of_getElem? (i := 408) (by decide +kernel), List.mem_of_getElem? (i := 409) (by decide +kernel)⟩
theorem lw_p7 : lw_okq (⟨"HoopCabinet$Reader", "fail", "(I)V"⟩, 8) := ⟨⟨by decide +kernel, by decide +kernel⟩, List.mem_of_getElem? (i := 124) (by decide +kernel), List.mem_of_getElem? (i := 460) (by decide +kernel), List.mem_of_getElem? (i := 461) (by decide +kernel)⟩
theorem lw_p8 : lw_okq (⟨"HoopCabinet$Reader", "takeNumber", "(II)I"⟩, 8) := ⟨⟨by decide +kernel, by decide +kernel⟩, List.mem_of_getElem? (i := 124) (by decide +kernel), List.mem_of_getElem? (i := 465) (by decide +kernel), List.mem_of_getElem? (i := 466) (by decide +kernel)⟩
theorem lw_p9 : lw_okq (⟨"HoopCabinet$Reader", "digits", "()I"⟩, 8) := ⟨⟨by decide +kernel, by decide +kernel⟩, List.mem_of_getElem? (i := 124) (by decide +kernel), List.mem_of_getElem? (i := 469) (by decide +kernel), List.mem_of_getElem? (i := 470) (by decide +kernel)⟩
theorem lw_p10 : lw_okq (⟨"HoopCabinet$Reader", "takeSign", "()V"⟩, 8) := ⟨⟨by decide +kernel, by decide +kernel⟩, List.mem_of_getElem? (i := 124) (by decide +kernel), List.mem_of_getElem? (i := 477) (by decide +kernel), List.mem_of_getElem? (i := 478) (by decide +kernel)⟩
theorem lw_p11 : lw_okq (⟨"HoopCabinet$Reader", "readDoor", "()V"⟩, 8) := ⟨⟨by decide +kernel, by decide +kernel⟩, List.mem_of_getElem? (i := 124) (by decide +kernel), List.mem_of_getElem? (i := 482) (by decide +kernel), List.mem_of_getElem? (i := 483) (by decide +kernel)⟩
theorem lw_p12 : lw_okq (⟨"HoopCabinet$Reader", "startRow", "(LHoopCabinet$Table;)V"⟩, 8) := ⟨⟨by decide +kernel, by decide +kernel⟩, List.mem_of_getElem? (i := 124) (by decide +kernel), List.mem_of_getElem? (i := 486) (by decide +kernel), List.mem_of_getElem? (i := 487) (by decide +kernel)⟩
theorem lw_p13 : lw_okq (⟨"HoopCabinet$Reader", "readLady", "()V"⟩, 8) := ⟨⟨by decide +kernel, by decide +kernel⟩, List.mem_of_getElem? (i := 124) (by decide +kernel), List.mem_of_getElem? (i := 510) (by decide +kernel), List.mem_of_getElem? (i := 511) (by decide +kernel)⟩
theorem lw_p14 : lw_okq (⟨"HoopCabinet$Reader", "readMinister", "()V"⟩, 8) := ⟨⟨by decide +kernel, by decide +kernel⟩, List.mem_of_getElem? (i := 124) (by decide +kernel), List.mem_of_getElem? (i := 516) (by decide +kernel), List.mem_of_getElem? (i := 517) (by decide +kernel)⟩
theorem lw_p15 : lw_okq (⟨"HoopCabinet$Reader", "readBid", "()V"⟩, 8) := ⟨⟨by decide +kernel, by decide +kernel⟩, List.mem_of_getElem? (i := 124) (by decide +kernel), List.mem_of_getElem? (i := 523) (by decide +kernel), List.mem_of_getElem? (i := 524) (by decide +kernel)⟩
def lw_privs_1 : List (MethodName × Nat) := [(⟨"HoopCabinet", "appendFour", "(I)V"⟩, 15), (⟨"HoopCabinet$Reader", "nextToken", "()V"⟩, 8), (⟨"HoopCabinet$Reader", "byteAt", "(I)I"⟩, 8), (⟨"HoopCabinet$Reader", "readLine", "()V"⟩, 8), (⟨"HoopCabinet$Reader", "readBall", "()V"⟩, 8), (⟨"HoopCabinet$Reader", "takeWord", "(Ljava/lang/String;)V"⟩, 8), (⟨"HoopCabinet$Reader", "isWord", "(Ljava/lang/String;)Z"⟩, 8), (⟨"HoopCabinet$Reader", "fail", "(I)V"⟩, 8), (⟨"HoopCabinet$Reader", "takeNumber", "(II)I"⟩, 8), (⟨"HoopCabinet$Reader", "digits", "()I"⟩, 8), (⟨"HoopCabinet$Reader", "takeSign", "()V"⟩, 8), (⟨"HoopCabinet$Reader", "readDoor", "()V"⟩, 8), (⟨"HoopCabinet$Reader", "startRow", "(LHoopCabinet$Table;)V"⟩, 8), (⟨"HoopCabinet$Reader", "readLady", "()V"⟩, 8), (⟨"HoopCabinet$Reader", "readMinister", "()V"⟩, 8), (⟨"HoopCabinet$Reader", "readBid", "()V"⟩, 8)]
theorem lw_r1 : ∀ q ∈ lw_privs_1, lw_okq q := List.forall_mem_cons.mpr ⟨lw_p0, List.forall_mem_cons.mpr ⟨lw_p1, List.forall_mem_cons.mpr ⟨lw_p2, List.forall_mem_cons.mpr ⟨lw_p3, List.forall_mem_cons.mpr ⟨lw_p4, List.forall_mem_cons.mpr ⟨lw_p5, List.forall_mem_cons.mpr ⟨lw_p6, List.forall_mem_cons.mpr ⟨lw_p7, List.forall_mem_cons.mpr ⟨lw_p8, List.forall_mem_cons.mpr ⟨lw_p9, List.forall_mem_cons.mpr ⟨lw_p10, List.forall_mem_cons.mpr ⟨lw_p11, List.forall_mem_cons.mpr ⟨lw_p12, List.forall_mem_cons.mpr ⟨lw_p13, List.forall_mem_cons.mpr ⟨lw_p14, List.forall_mem_cons.mpr ⟨lw_p15, fun _ h => absurd h List.not_mem_nil⟩⟩⟩⟩⟩⟩⟩⟩⟩⟩⟩⟩⟩⟩⟩⟩
theorem lw_p16 : lw_okq (⟨"HoopCabinet", "settle", "()V"⟩, 15) := ⟨⟨by decide +kernel, by decide +kernel⟩, List.mem_of_getElem? (i := 21) (by decide +kernel), List.mem_of_getElem? (i := 540) (by decide +kernel), List.mem_of_getElem? (i := 541) (by decide +kernel)⟩
theorem lw_p17 : lw_okq (⟨"HoopCabinet$Floor", "openDoor", "(LHoopCabinet$Ball;II)V"⟩, 8) := ⟨⟨by decide +kernel, by decide +kernel⟩, List.mem_of_getElem? (i := 180) (by decide +kernel), List.mem_of_getElem? (i := 556) (by decide +kernel), List.mem_of_getElem? (i := 557) (by decide +kernel)⟩
theorem lw_p18 : lw_okq (⟨"HoopCabinet$Floor", "hearBids", "(LHoopCabinet$Ball;)V"⟩, 8) := ⟨⟨by decide +kernel, by decide +kernel⟩, List.mem_of_getElem? (i := 180) (by decide +kernel), List.mem_of_getElem? (i := 564) (by decide +kernel), List.mem_of_getElem? (i := 565) (by decide +kernel)⟩
theorem lw_p19 : lw_okq (⟨"HoopCabinet$Floor", "hearBid", "(III)V"⟩, 8) := ⟨⟨by decide +kernel, by decide +kernel⟩, List.mem_of_getElem? (i := 180) (by decide +kernel), List.mem_of_getElem? (i := 571) (by decide +kernel), List.mem_of_getElem? (i := 572) (by decide +kernel)⟩
theorem lw_p20 : lw_okq (⟨"HoopCabinet$Floor", "goAsBidden", "(II)V"⟩, 8) := ⟨⟨by decide +kernel, by decide +kernel⟩, List.mem_of_getElem? (i := 180) (by decide +kernel), List.mem_of_getElem? (i := 575) (by decide +kernel), List.mem_of_getElem? (i := 576) (by decide +kernel)⟩
theorem lw_p21 : lw_okq (⟨"HoopCabinet$Floor", "isHere", "(II)Z"⟩, 8) := ⟨⟨by decide +kernel, by decide +kernel⟩, List.mem_of_getElem? (i := 180) (by decide +kernel), List.mem_of_getElem? (i := 583) (by decide +kernel), List.mem_of_getElem? (i := 584) (by decide +kernel)⟩
theorem lw_p22 : lw_okq (⟨"HoopCabinet$Floor", "nextRoom", "(III)I"⟩, 8) := ⟨⟨by decide +kernel, by decide +kernel⟩, List.mem_of_getElem? (i := 180) (by decide +kernel), List.mem_of_getElem? (i := 587) (by decide +kernel), List.mem_of_getElem? (i := 588) (by decide +kernel)⟩
theorem lw_p23 : lw_okq (⟨"HoopCabinet", "fullest", "(I)I"⟩, 15) := ⟨⟨by decide +kernel, by decide +kernel⟩, List.mem_of_getElem? (i := 21) (by decide +kernel), List.mem_of_getElem? (i := 726) (by decide +kernel), List.mem_of_getElem? (i := 727) (by decide +kernel)⟩
theorem lw_p24 : lw_okq (⟨"HoopCabinet", "passAsTold", "()V"⟩, 15) := ⟨⟨by decide +kernel, by decide +kernel⟩, List.mem_of_getElem? (i := 21) (by decide +kernel), List.mem_of_getElem? (i := 778) (by decide +kernel), List.mem_of_getElem? (i := 779) (by decide +kernel)⟩
theorem lw_p25 : lw_okq (⟨"HoopCabinet$Notes", "mayGive", "(LHoopCabinet$Ball;III)Z"⟩, 6) := ⟨⟨by decide +kernel, by decide +kernel⟩, List.mem_of_getElem? (i := 211) (by decide +kernel), List.mem_of_getElem? (i := 791) (by decide +kernel), List.mem_of_getElem? (i := 792) (by decide +kernel)⟩
theorem lw_p26 : lw_okq (⟨"HoopCabinet", "inTheEnd", "(LHoopCabinet$Floor;I)I"⟩, 15) := ⟨⟨by decide +kernel, by decide +kernel⟩, List.mem_of_getElem? (i := 21) (by decide +kernel), List.mem_of_getElem? (i := 796) (by decide +kernel), List.mem_of_getElem? (i := 797) (by decide +kernel)⟩
theorem lw_p27 : lw_okq (⟨"HoopCabinet$Carrier", "lookBack", "(LHoopCabinet$Floor;I)V"⟩, 8) := ⟨⟨by decide +kernel, by decide +kernel⟩, List.mem_of_getElem? (i := 238) (by decide +kernel), List.mem_of_getElem? (i := 886) (by decide +kernel), List.mem_of_getElem? (i := 887) (by decide +kernel)⟩
theorem lw_p28 : lw_okq (⟨"HoopCabinet$Carrier", "goodWithout", "(II)I"⟩, 8) := ⟨⟨by decide +kernel, by decide +kernel⟩, List.mem_of_getElem? (i := 238) (by decide +kernel), List.mem_of_getElem? (i := 891) (by decide +kernel), List.mem_of_getElem? (i := 892) (by decide +kernel)⟩
theorem lw_p29 : lw_okq (⟨"HoopCabinet", "seenFault", "(I)I"⟩, 15) := ⟨⟨by decide +kernel, by decide +kernel⟩, List.mem_of_getElem? (i := 21) (by decide +kernel), List.mem_of_getElem? (i := 924) (by decide +kernel), List.mem_of_getElem? (i := 925) (by decide +kernel)⟩
theorem lw_p30 : lw_okq (⟨"HoopCabinet", "isSighting", "(JJJ)Z"⟩, 15) := ⟨⟨by decide +kernel, by decide +kernel⟩, List.mem_of_getElem? (i := 21) (by decide +kernel), List.mem_of_getElem? (i := 940) (by decide +kernel), List.mem_of_getElem? (i := 941) (by decide +kernel)⟩
theorem lw_p31 : lw_okq (⟨"HoopCabinet", "possibleFirsts", "(LHoopCabinet$Slot;)I"⟩, 15) := ⟨⟨by decide +kernel, by decide +kernel⟩, List.mem_of_getElem? (i := 21) (by decide +kernel), List.mem_of_getElem? (i := 944) (by decide +kernel), List.mem_of_getElem? (i := 945) (by decide +kernel)⟩
def lw_privs_2 : List (MethodName × Nat) := [(⟨"HoopCabinet", "settle", "()V"⟩, 15), (⟨"HoopCabinet$Floor", "openDoor", "(LHoopCabinet$Ball;II)V"⟩, 8), (⟨"HoopCabinet$Floor", "hearBids", "(LHoopCabinet$Ball;)V"⟩, 8), (⟨"HoopCabinet$Floor", "hearBid", "(III)V"⟩, 8), (⟨"HoopCabinet$Floor", "goAsBidden", "(II)V"⟩, 8), (⟨"HoopCabinet$Floor", "isHere", "(II)Z"⟩, 8), (⟨"HoopCabinet$Floor", "nextRoom", "(III)I"⟩, 8), (⟨"HoopCabinet", "fullest", "(I)I"⟩, 15), (⟨"HoopCabinet", "passAsTold", "()V"⟩, 15), (⟨"HoopCabinet$Notes", "mayGive", "(LHoopCabinet$Ball;III)Z"⟩, 6), (⟨"HoopCabinet", "inTheEnd", "(LHoopCabinet$Floor;I)I"⟩, 15), (⟨"HoopCabinet$Carrier", "lookBack", "(LHoopCabinet$Floor;I)V"⟩, 8), (⟨"HoopCabinet$Carrier", "goodWithout", "(II)I"⟩, 8), (⟨"HoopCabinet", "seenFault", "(I)I"⟩, 15), (⟨"HoopCabinet", "isSighting", "(JJJ)Z"⟩, 15), (⟨"HoopCabinet", "possibleFirsts", "(LHoopCabinet$Slot;)I"⟩, 15)]
theorem lw_r2 : ∀ q ∈ lw_privs_2, lw_okq q := List.forall_mem_cons.mpr ⟨lw_p16, List.forall_mem_cons.mpr ⟨lw_p17, List.forall_mem_cons.mpr ⟨lw_p18, List.forall_mem_cons.mpr ⟨lw_p19, List.forall_mem_cons.mpr ⟨lw_p20, List.forall_mem_cons.mpr ⟨lw_p21, List.forall_mem_cons.mpr ⟨lw_p22, List.forall_mem_cons.mpr ⟨lw_p23, List.forall_mem_cons.mpr ⟨lw_p24, List.forall_mem_cons.mpr ⟨lw_p25, List.forall_mem_cons.mpr ⟨lw_p26, List.forall_mem_cons.mpr ⟨lw_p27, List.forall_mem_cons.mpr ⟨lw_p28, List.forall_mem_cons.mpr ⟨lw_p29, List.forall_mem_cons.mpr ⟨lw_p30, List.forall_mem_cons.mpr ⟨lw_p31, fun _ h => absurd h List.not_mem_nil⟩⟩⟩⟩⟩⟩⟩⟩⟩⟩⟩⟩⟩⟩⟩⟩
theorem lw_p32 : lw_okq (⟨"HoopCabinet", "agrees", "(LHoopCabinet$Slot;)Z"⟩, 15) := ⟨⟨by decide +kernel, by decide +kernel⟩, List.mem_of_getElem? (i := 21) (by decide +kernel), List.mem_of_getElem? (i := 948) (by decide +kernel), List.mem_of_getElem? (i := 949) (by decide +kernel)⟩
theorem lw_p33 : lw_okq (⟨"HoopCabinet", "bestAsked", "(I)I"⟩, 15) := ⟨⟨by decide +kernel, by decide +kernel⟩, List.mem_of_getElem? (i := 21) (by decide +kernel), List.mem_of_getElem? (i := 956) (by decide +kernel), List.mem_of_getElem? (i := 957) (by decide +kernel)⟩
theorem lw_p34 : lw_okq (⟨"HoopCabinet", "leftAtWorst", "(II)I"⟩, 15) := ⟨⟨by decide +kernel, by decide +kernel⟩, List.mem_of_getElem? (i := 21) (by decide +kernel), List.mem_of_getElem? (i := 960) (by decide +kernel), List.mem_of_getElem? (i := 961) (by decide +kernel)⟩
theorem lw_p35 : lw_okq (⟨"HoopCabinet", "makesOneHold", "(I)Z"⟩, 15) := ⟨⟨by decide +kernel, by decide +kernel⟩, List.mem_of_getElem? (i := 21) (by decide +kernel), List.mem_of_getElem? (i := 1057) (by decide +kernel), List.mem_of_getElem? (i := 1058) (by decide +kernel)⟩
theorem lw_p36 : lw_okq (⟨"HoopCabinet", "isContent", "(IIII)Z"⟩, 15) := ⟨⟨by decide +kernel, by decide +kernel⟩, List.mem_of_getElem? (i := 21) (by decide +kernel), List.mem_of_getElem? (i := 1066) (by decide +kernel), List.mem_of_getElem? (i := 1067) (by decide +kernel)⟩
theorem lw_p37 : lw_okq (⟨"HoopCabinet", "gainOf", "(IIII)I"⟩, 15) := ⟨⟨by decide +kernel, by decide +kernel⟩, List.mem_of_getElem? (i := 21) (by decide +kernel), List.mem_of_getElem? (i := 1070) (by decide +kernel), List.mem_of_getElem? (i := 1071) (by decide +kernel)⟩
theorem lw_p38 : lw_okq (⟨"HoopCabinet", "isChanceDance", "(I)Z"⟩, 15) := ⟨⟨by decide +kernel, by decide +kernel⟩, List.mem_of_getElem? (i := 21) (by decide +kernel), List.mem_of_getElem? (i := 1092) (by decide +kernel), List.mem_of_getElem? (i := 1093) (by decide +kernel)⟩
theorem lw_p39 : lw_okq (⟨"HoopCabinet$Music", "playOne", "(LHoopCabinet$Floor;LHoopCabinet$Notes;II)V"⟩, 3) := ⟨⟨by decide +kernel, by decide +kernel⟩, List.mem_of_getElem? (i := 286) (by decide +kernel), List.mem_of_getElem? (i := 1104) (by decide +kernel), List.mem_of_getElem? (i := 1105) (by decide +kernel)⟩
theorem lw_p40 : lw_okq (⟨"HoopCabinet", "loudDances", "(I)I"⟩, 15) := ⟨⟨by decide +kernel, by decide +kernel⟩, List.mem_of_getElem? (i := 21) (by decide +kernel), List.mem_of_getElem? (i := 1132) (by decide +kernel), List.mem_of_getElem? (i := 1133) (by decide +kernel)⟩
theorem lw_p41 : lw_okq (⟨"HoopCabinet", "drawnHolders", "(II)I"⟩, 15) := ⟨⟨by decide +kernel, by decide +kernel⟩, List.mem_of_getElem? (i := 21) (by decide +kernel), List.mem_of_getElem? (i := 1141) (by decide +kernel), List.mem_of_getElem? (i := 1142) (by decide +kernel)⟩
theorem lw_p42 : lw_okq (⟨"HoopCabinet", "slotsWithRow", "()I"⟩, 15) := ⟨⟨by decide +kernel, by decide +kernel⟩, List.mem_of_getElem? (i := 21) (by decide +kernel), List.mem_of_getElem? (i := 1193) (by decide +kernel), List.mem_of_getElem? (i := 1194) (by decide +kernel)⟩
theorem lw_p43 : lw_okq (⟨"HoopCabinet$Slot", "cut", "(J)J"⟩, 3) := ⟨⟨by decide +kernel, by decide +kernel⟩, List.mem_of_getElem? (i := 159) (by decide +kernel), List.mem_of_getElem? (i := 1223) (by decide +kernel), List.mem_of_getElem? (i := 1224) (by decide +kernel)⟩
theorem lw_p44 : lw_okq (⟨"HoopCabinetModel", "advance", "()V"⟩, 40) := ⟨⟨by decide +kernel, by decide +kernel⟩, List.mem_of_getElem? (i := 1236) (by decide +kernel), List.mem_of_getElem? (i := 1390) (by decide +kernel), List.mem_of_getElem? (i := 1391) (by decide +kernel)⟩
theorem lw_p45 : lw_okq (⟨"HoopCabinetModel", "see", "(I)I"⟩, 40) := ⟨⟨by decide +kernel, by decide +kernel⟩, List.mem_of_getElem? (i := 1236) (by decide +kernel), List.mem_of_getElem? (i := 1394) (by decide +kernel), List.mem_of_getElem? (i := 1395) (by decide +kernel)⟩
theorem lw_p46 : lw_okq (⟨"HoopCabinetModel", "good", "()Z"⟩, 40) := ⟨⟨by decide +kernel, by decide +kernel⟩, List.mem_of_getElem? (i := 1236) (by decide +kernel), List.mem_of_getElem? (i := 1404) (by decide +kernel), List.mem_of_getElem? (i := 1405) (by decide +kernel)⟩
theorem lw_p47 : lw_okq (⟨"HoopCabinetModel", "readLine", "()V"⟩, 40) := ⟨⟨by decide +kernel, by decide +kernel⟩, List.mem_of_getElem? (i := 1236) (by decide +kernel), List.mem_of_getElem? (i := 1408) (by decide +kernel), List.mem_of_getElem? (i := 1409) (by decide +kernel)⟩
def lw_privs_3 : List (MethodName × Nat) := [(⟨"HoopCabinet", "agrees", "(LHoopCabinet$Slot;)Z"⟩, 15), (⟨"HoopCabinet", "bestAsked", "(I)I"⟩, 15), (⟨"HoopCabinet", "leftAtWorst", "(II)I"⟩, 15), (⟨"HoopCabinet", "makesOneHold", "(I)Z"⟩, 15), (⟨"HoopCabinet", "isContent", "(IIII)Z"⟩, 15), (⟨"HoopCabinet", "gainOf", "(IIII)I"⟩, 15), (⟨"HoopCabinet", "isChanceDance", "(I)Z"⟩, 15), (⟨"HoopCabinet$Music", "playOne", "(LHoopCabinet$Floor;LHoopCabinet$Notes;II)V"⟩, 3), (⟨"HoopCabinet", "loudDances", "(I)I"⟩, 15), (⟨"HoopCabinet", "drawnHolders", "(II)I"⟩, 15), (⟨"HoopCabinet", "slotsWithRow", "()I"⟩, 15), (⟨"HoopCabinet$Slot", "cut", "(J)J"⟩, 3), (⟨"HoopCabinetModel", "advance", "()V"⟩, 40), (⟨"HoopCabinetModel", "see", "(I)I"⟩, 40), (⟨"HoopCabinetModel", "good", "()Z"⟩, 40), (⟨"HoopCabinetModel", "readLine", "()V"⟩, 40)]
theorem lw_r3 : ∀ q ∈ lw_privs_3, lw_okq q := List.forall_mem_cons.mpr ⟨lw_p32, List.forall_mem_cons.mpr ⟨lw_p33, List.forall_mem_cons.mpr ⟨lw_p34, List.forall_mem_cons.mpr ⟨lw_p35, List.forall_mem_cons.mpr ⟨lw_p36, List.forall_mem_cons.mpr ⟨lw_p37, List.forall_mem_cons.mpr ⟨lw_p38, List.forall_mem_cons.mpr ⟨lw_p39, List.forall_mem_cons.mpr ⟨lw_p40, List.forall_mem_cons.mpr ⟨lw_p41, List.forall_mem_cons.mpr ⟨lw_p42, List.forall_mem_cons.mpr ⟨lw_p43, List.forall_mem_cons.mpr ⟨lw_p44, List.forall_mem_cons.mpr ⟨lw_p45, List.forall_mem_cons.mpr ⟨lw_p46, List.forall_mem_cons.mpr ⟨lw_p47, fun _ h => absurd h List.not_mem_nil⟩⟩⟩⟩⟩⟩⟩⟩⟩⟩⟩⟩⟩⟩⟩⟩
theorem lw_p48 : lw_okq (⟨"HoopCabinetModel", "readFirst", "()V"⟩, 40) := ⟨⟨by decide +kernel, by decide +kernel⟩, List.mem_of_getElem? (i := 1236) (by decide +kernel), List.mem_of_getElem? (i := 1412) (by decide +kernel), List.mem_of_getElem? (i := 1413) (by decide +kernel)⟩
theorem lw_p49 : lw_okq (⟨"HoopCabinetModel", "needs", "(Ljava/lang/String;)V"⟩, 40) := ⟨⟨by decide +kernel, by decide +kernel⟩, List.mem_of_getElem? (i := 1236) (by decide +kernel), List.mem_of_getElem? (i := 1417) (by decide +kernel), List.mem_of_getElem? (i := 1418) (by decide +kernel)⟩
theorem lw_p50 : lw_okq (⟨"HoopCabinetModel", "takes", "(Ljava/lang/String;)Z"⟩, 40) := ⟨⟨by decide +kernel, by decide +kernel⟩, List.mem_of_getElem? (i := 1236) (by decide +kernel), List.mem_of_getElem? (i := 1421) (by decide +kernel), List.mem_of_getElem? (i := 1422) (by decide +kernel)⟩
theorem lw_p51 : lw_okq (⟨"HoopCabinetModel", "is", "(Ljava/lang/String;)Z"⟩, 40) := ⟨⟨by decide +kernel, by decide +kernel⟩, List.mem_of_getElem? (i := 1236) (by decide +kernel), List.mem_of_getElem? (i := 1425) (by decide +kernel), List.mem_of_getElem? (i := 1426) (by decide +kernel)⟩
theorem lw_p52 : lw_okq (⟨"HoopCabinetModel", "errs", "(I)V"⟩, 40) := ⟨⟨by decide +kernel, by decide +kernel⟩, List.mem_of_getElem? (i := 1236) (by decide +kernel), List.mem_of_getElem? (i := 1431) (by decide +kernel), List.mem_of_getElem? (i := 1432) (by decide +kernel)⟩
theorem lw_p53 : lw_okq (⟨"HoopCabinetModel", "told", "(Ljava/lang/String;II)I"⟩, 40) := ⟨⟨by decide +kernel, by decide +kernel⟩, List.mem_of_getElem? (i := 1236) (by decide +kernel), List.mem_of_getElem? (i := 1436) (by decide +kernel), List.mem_of_getElem? (i := 1437) (by decide +kernel)⟩
theorem lw_p54 : lw_okq (⟨"HoopCabinetModel", "number", "(II)I"⟩, 40) := ⟨⟨by decide +kernel, by decide +kernel⟩, List.mem_of_getElem? (i := 1236) (by decide +kernel), List.mem_of_getElem? (i := 1440) (by decide +kernel), List.mem_of_getElem? (i := 1441) (by decide +kernel)⟩
theorem lw_p55 : lw_okq (⟨"HoopCabinetModel", "readNext", "()V"⟩, 40) := ⟨⟨by decide +kernel, by decide +kernel⟩, List.mem_of_getElem? (i := 1236) (by decide +kernel), List.mem_of_getElem? (i := 1447) (by decide +kernel), List.mem_of_getElem? (i := 1448) (by decide +kernel)⟩
theorem lw_p56 : lw_okq (⟨"HoopCabinetModel", "isFull", "()Z"⟩, 40) := ⟨⟨by decide +kernel, by decide +kernel⟩, List.mem_of_getElem? (i := 1236) (by decide +kernel), List.mem_of_getElem? (i := 1455) (by decide +kernel), List.mem_of_getElem? (i := 1456) (by decide +kernel)⟩
theorem lw_p57 : lw_okq (⟨"HoopCabinetModel", "readDoor", "()V"⟩, 40) := ⟨⟨by decide +kernel, by decide +kernel⟩, List.mem_of_getElem? (i := 1236) (by decide +kernel), List.mem_of_getElem? (i := 1459) (by decide +kernel), List.mem_of_getElem? (i := 1460) (by decide +kernel)⟩
theorem lw_p58 : lw_okq (⟨"HoopCabinetModel", "freshRoom", "(Ljava/lang/String;)I"⟩, 40) := ⟨⟨by decide +kernel, by decide +kernel⟩, List.mem_of_getElem? (i := 1236) (by decide +kernel), List.mem_of_getElem? (i := 1466) (by decide +kernel), List.mem_of_getElem? (i := 1467) (by decide +kernel)⟩
theorem lw_p59 : lw_okq (⟨"HoopCabinetModel", "readBid", "()V"⟩, 40) := ⟨⟨by decide +kernel, by decide +kernel⟩, List.mem_of_getElem? (i := 1236) (by decide +kernel), List.mem_of_getElem? (i := 1472) (by decide +kernel), List.mem_of_getElem? (i := 1473) (by decide +kernel)⟩
theorem lw_p60 : lw_okq (⟨"HoopCabinetModel", "isDoor", "(I)Z"⟩, 40) := ⟨⟨by decide +kernel, by decide +kernel⟩, List.mem_of_getElem? (i := 1236) (by decide +kernel), List.mem_of_getElem? (i := 1481) (by decide +kernel), List.mem_of_getElem? (i := 1482) (by decide +kernel)⟩
theorem lw_p61 : lw_okq (⟨"HoopCabinetModel", "isLady", "(J)Z"⟩, 40) := ⟨⟨by decide +kernel, by decide +kernel⟩, List.mem_of_getElem? (i := 1236) (by decide +kernel), List.mem_of_getElem? (i := 1489) (by decide +kernel), List.mem_of_getElem? (i := 1490) (by decide +kernel)⟩
theorem lw_p62 : lw_okq (⟨"HoopCabinetModel", "asItIs", "()V"⟩, 40) := ⟨⟨by decide +kernel, by decide +kernel⟩, List.mem_of_getElem? (i := 1236) (by decide +kernel), List.mem_of_getElem? (i := 1497) (by decide +kernel), List.mem_of_getElem? (i := 1498) (by decide +kernel)⟩
theorem lw_p63 : lw_okq (⟨"HoopCabinetModel", "layMinisters", "()V"⟩, 40) := ⟨⟨by decide +kernel, by decide +kernel⟩, List.mem_of_getElem? (i := 1236) (by decide +kernel), List.mem_of_getElem? (i := 1501) (by decide +kernel), List.mem_of_getElem? (i := 1502) (by decide +kernel)⟩
def lw_privs_4 : List (MethodName × Nat) := [(⟨"HoopCabinetModel", "readFirst", "()V"⟩, 40), (⟨"HoopCabinetModel", "needs", "(Ljava/lang/String;)V"⟩, 40), (⟨"HoopCabinetModel", "takes", "(Ljava/lang/String;)Z"⟩, 40), (⟨"HoopCabinetModel", "is", "(Ljava/lang/String;)Z"⟩, 40), (⟨"HoopCabinetModel", "errs", "(I)V"⟩, 40), (⟨"HoopCabinetModel", "told", "(Ljava/lang/String;II)I"⟩, 40), (⟨"HoopCabinetModel", "number", "(II)I"⟩, 40), (⟨"HoopCabinetModel", "readNext", "()V"⟩, 40), (⟨"HoopCabinetModel", "isFull", "()Z"⟩, 40), (⟨"HoopCabinetModel", "readDoor", "()V"⟩, 40), (⟨"HoopCabinetModel", "freshRoom", "(Ljava/lang/String;)I"⟩, 40), (⟨"HoopCabinetModel", "readBid", "()V"⟩, 40), (⟨"HoopCabinetModel", "isDoor", "(I)Z"⟩, 40), (⟨"HoopCabinetModel", "isLady", "(J)Z"⟩, 40), (⟨"HoopCabinetModel", "asItIs", "()V"⟩, 40), (⟨"HoopCabinetModel", "layMinisters", "()V"⟩, 40)]
theorem lw_r4 : ∀ q ∈ lw_privs_4, lw_okq q := List.forall_mem_cons.mpr ⟨lw_p48, List.forall_mem_cons.mpr ⟨lw_p49, List.forall_mem_cons.mpr ⟨lw_p50, List.forall_mem_cons.mpr ⟨lw_p51, List.forall_mem_cons.mpr ⟨lw_p52, List.forall_mem_cons.mpr ⟨lw_p53, List.forall_mem_cons.mpr ⟨lw_p54, List.forall_mem_cons.mpr ⟨lw_p55, List.forall_mem_cons.mpr ⟨lw_p56, List.forall_mem_cons.mpr ⟨lw_p57, List.forall_mem_cons.mpr ⟨lw_p58, List.forall_mem_cons.mpr ⟨lw_p59, List.forall_mem_cons.mpr ⟨lw_p60, List.forall_mem_cons.mpr ⟨lw_p61, List.forall_mem_cons.mpr ⟨lw_p62, List.forall_mem_cons.mpr ⟨lw_p63, fun _ h => absurd h List.not_mem_nil⟩⟩⟩⟩⟩⟩⟩⟩⟩⟩⟩⟩⟩⟩⟩⟩
theorem lw_p64 : lw_okq (⟨"HoopCabinetModel", "layPlaces", "()V"⟩, 40) := ⟨⟨by decide +kernel, by decide +kernel⟩, List.mem_of_getElem? (i := 1236) (by decide +kernel), List.mem_of_getElem? (i := 1506) (by decide +kernel), List.mem_of_getElem? (i := 1507) (by decide +kernel)⟩
theorem lw_p65 : lw_okq (⟨"HoopCabinetModel", "layWays", "()V"⟩, 40) := ⟨⟨by decide +kernel, by decide +kernel⟩, List.mem_of_getElem? (i := 1236) (by decide +kernel), List.mem_of_getElem? (i := 1510) (by decide +kernel), List.mem_of_getElem? (i := 1511) (by decide +kernel)⟩
theorem lw_p66 : lw_okq (⟨"HoopCabinetModel", "wayOf", "(III)I"⟩, 40) := ⟨⟨by decide +kernel, by decide +kernel⟩, List.mem_of_getElem? (i := 1236) (by decide +kernel), List.mem_of_getElem? (i := 1515) (by decide +kernel), List.mem_of_getElem? (i := 1516) (by decide +kernel)⟩
theorem lw_p67 : lw_okq (⟨"HoopCabinetModel", "ladies", "()I"⟩, 40) := ⟨⟨by decide +kernel, by decide +kernel⟩, List.mem_of_getElem? (i := 1236) (by decide +kernel), List.mem_of_getElem? (i := 1519) (by decide +kernel), List.mem_of_getElem? (i := 1520) (by decide +kernel)⟩
theorem lw_p68 : lw_okq (⟨"HoopCabinetModel", "dances", "()I"⟩, 40) := ⟨⟨by decide +kernel, by decide +kernel⟩, List.mem_of_getElem? (i := 1236) (by decide +kernel), List.mem_of_getElem? (i := 1523) (by decide +kernel), List.mem_of_getElem? (i := 1524) (by decide +kernel)⟩
theorem lw_p69 : lw_okq (⟨"HoopCabinetModel", "atOf", "(II)I"⟩, 40) := ⟨⟨by decide +kernel, by decide +kernel⟩, List.mem_of_getElem? (i := 1236) (by decide +kernel), List.mem_of_getElem? (i := 1530) (by decide +kernel), List.mem_of_getElem? (i := 1531) (by decide +kernel)⟩
theorem lw_p70 : lw_okq (⟨"HoopCabinetModel", "biddenOf", "(II)I"⟩, 40) := ⟨⟨by decide +kernel, by decide +kernel⟩, List.mem_of_getElem? (i := 1236) (by decide +kernel), List.mem_of_getElem? (i := 1534) (by decide +kernel), List.mem_of_getElem? (i := 1535) (by decide +kernel)⟩
theorem lw_p71 : lw_okq (⟨"HoopCabinetModel", "nextRoom", "(III)I"⟩, 40) := ⟨⟨by decide +kernel, by decide +kernel⟩, List.mem_of_getElem? (i := 1236) (by decide +kernel), List.mem_of_getElem? (i := 1538) (by decide +kernel), List.mem_of_getElem? (i := 1539) (by decide +kernel)⟩
theorem lw_p72 : lw_okq (⟨"HoopCabinetModel", "wideOf", "(I)I"⟩, 40) := ⟨⟨by decide +kernel, by decide +kernel⟩, List.mem_of_getElem? (i := 1236) (by decide +kernel), List.mem_of_getElem? (i := 1542) (by decide +kernel), List.mem_of_getElem? (i := 1543) (by decide +kernel)⟩
theorem lw_p73 : lw_okq (⟨"HoopCabinetModel", "isMinister", "(I)Z"⟩, 40) := ⟨⟨by decide +kernel, by decide +kernel⟩, List.mem_of_getElem? (i := 1236) (by decide +kernel), List.mem_of_getElem? (i := 1546) (by decide +kernel), List.mem_of_getElem? (i := 1547) (by decide +kernel)⟩
theorem lw_p74 : lw_okq (⟨"HoopCabinetModel", "asksLady", "(I)Z"⟩, 40) := ⟨⟨by decide +kernel, by decide +kernel⟩, List.mem_of_getElem? (i := 1236) (by decide +kernel), List.mem_of_getElem? (i := 1554) (by decide +kernel), List.mem_of_getElem? (i := 1555) (by decide +kernel)⟩
theorem lw_p75 : lw_okq (⟨"HoopCabinetModel", "isRoom", "(I)Z"⟩, 40) := ⟨⟨by decide +kernel, by decide +kernel⟩, List.mem_of_getElem? (i := 1236) (by decide +kernel), List.mem_of_getElem? (i := 1558) (by decide +kernel), List.mem_of_getElem? (i := 1559) (by decide +kernel)⟩
theorem lw_p76 : lw_okq (⟨"HoopCabinetModel", "isDance", "(J)Z"⟩, 40) := ⟨⟨by decide +kernel, by decide +kernel⟩, List.mem_of_getElem? (i := 1236) (by decide +kernel), List.mem_of_getElem? (i := 1570) (by decide +kernel), List.mem_of_getElem? (i := 1571) (by decide +kernel)⟩
theorem lw_p77 : lw_okq (⟨"HoopCabinetModel", "isBall", "()Z"⟩, 40) := ⟨⟨by decide +kernel, by decide +kernel⟩, List.mem_of_getElem? (i := 1236) (by decide +kernel), List.mem_of_getElem? (i := 1574) (by decide +kernel), List.mem_of_getElem? (i := 1575) (by decide +kernel)⟩
theorem lw_p78 : lw_okq (⟨"HoopCabinetModel", "asksDance", "(I)Z"⟩, 40) := ⟨⟨by decide +kernel, by decide +kernel⟩, List.mem_of_getElem? (i := 1236) (by decide +kernel), List.mem_of_getElem? (i := 1582) (by decide +kernel), List.mem_of_getElem? (i := 1583) (by decide +kernel)⟩
theorem lw_p79 : lw_okq (⟨"HoopCabinetModel", "withinOf", "(II)I"⟩, 40) := ⟨⟨by decide +kernel, by decide +kernel⟩, List.mem_of_getElem? (i := 1236) (by decide +kernel), List.mem_of_getElem? (i := 1590) (by decide +kernel), List.mem_of_getElem? (i := 1591) (by decide +kernel)⟩
def lw_privs_5 : List (MethodName × Nat) := [(⟨"HoopCabinetModel", "layPlaces", "()V"⟩, 40), (⟨"HoopCabinetModel", "layWays", "()V"⟩, 40), (⟨"HoopCabinetModel", "wayOf", "(III)I"⟩, 40), (⟨"HoopCabinetModel", "ladies", "()I"⟩, 40), (⟨"HoopCabinetModel", "dances", "()I"⟩, 40), (⟨"HoopCabinetModel", "atOf", "(II)I"⟩, 40), (⟨"HoopCabinetModel", "biddenOf", "(II)I"⟩, 40), (⟨"HoopCabinetModel", "nextRoom", "(III)I"⟩, 40), (⟨"HoopCabinetModel", "wideOf", "(I)I"⟩, 40), (⟨"HoopCabinetModel", "isMinister", "(I)Z"⟩, 40), (⟨"HoopCabinetModel", "asksLady", "(I)Z"⟩, 40), (⟨"HoopCabinetModel", "isRoom", "(I)Z"⟩, 40), (⟨"HoopCabinetModel", "isDance", "(J)Z"⟩, 40), (⟨"HoopCabinetModel", "isBall", "()Z"⟩, 40), (⟨"HoopCabinetModel", "asksDance", "(I)Z"⟩, 40), (⟨"HoopCabinetModel", "withinOf", "(II)I"⟩, 40)]
theorem lw_r5 : ∀ q ∈ lw_privs_5, lw_okq q := List.forall_mem_cons.mpr ⟨lw_p64, List.forall_mem_cons.mpr ⟨lw_p65, List.forall_mem_cons.mpr ⟨lw_p66, List.forall_mem_cons.mpr ⟨lw_p67, List.forall_mem_cons.mpr ⟨lw_p68, List.forall_mem_cons.mpr ⟨lw_p69, List.forall_mem_cons.mpr ⟨lw_p70, List.forall_mem_cons.mpr ⟨lw_p71, List.forall_mem_cons.mpr ⟨lw_p72, List.forall_mem_cons.mpr ⟨lw_p73, List.forall_mem_cons.mpr ⟨lw_p74, List.forall_mem_cons.mpr ⟨lw_p75, List.forall_mem_cons.mpr ⟨lw_p76, List.forall_mem_cons.mpr ⟨lw_p77, List.forall_mem_cons.mpr ⟨lw_p78, List.forall_mem_cons.mpr ⟨lw_p79, fun _ h => absurd h List.not_mem_nil⟩⟩⟩⟩⟩⟩⟩⟩⟩⟩⟩⟩⟩⟩⟩⟩
theorem lw_p80 : lw_okq (⟨"HoopCabinetModel", "stepsOf", "(I)I"⟩, 40) := ⟨⟨by decide +kernel, by decide +kernel⟩, List.mem_of_getElem? (i := 1236) (by decide +kernel), List.mem_of_getElem? (i := 1598) (by decide +kernel), List.mem_of_getElem? (i := 1599) (by decide +kernel)⟩
theorem lw_p81 : lw_okq (⟨"HoopCabinetModel", "firstMeet", "(II)I"⟩, 40) := ⟨⟨by decide +kernel, by decide +kernel⟩, List.mem_of_getElem? (i := 1236) (by decide +kernel), List.mem_of_getElem? (i := 1610) (by decide +kernel), List.mem_of_getElem? (i := 1611) (by decide +kernel)⟩
theorem lw_p82 : lw_okq (⟨"HoopCabinetModel", "doMeet", "(III)Z"⟩, 40) := ⟨⟨by decide +kernel, by decide +kernel⟩, List.mem_of_getElem? (i := 1236) (by decide +kernel), List.mem_of_getElem? (i := 1614) (by decide +kernel), List.mem_of_getElem? (i := 1615) (by decide +kernel)⟩
theorem lw_p83 : lw_okq (⟨"HoopCabinetModel", "oftenMeet", "(II)I"⟩, 40) := ⟨⟨by decide +kernel, by decide +kernel⟩, List.mem_of_getElem? (i := 1236) (by decide +kernel), List.mem_of_getElem? (i := 1622) (by decide +kernel), List.mem_of_getElem? (i := 1623) (by decide +kernel)⟩
theorem lw_p84 : lw_okq (⟨"HoopCabinetModel", "friendsOf", "(I)I"⟩, 40) := ⟨⟨by decide +kernel, by decide +kernel⟩, List.mem_of_getElem? (i := 1236) (by decide +kernel), List.mem_of_getElem? (i := 1630) (by decide +kernel), List.mem_of_getElem? (i := 1631) (by decide +kernel)⟩
theorem lw_p85 : lw_okq (⟨"HoopCabinetModel", "asksBall", "()Z"⟩, 40) := ⟨⟨by decide +kernel, by decide +kernel⟩, List.mem_of_getElem? (i := 1236) (by decide +kernel), List.mem_of_getElem? (i := 1638) (by decide +kernel), List.mem_of_getElem? (i := 1639) (by decide +kernel)⟩
theorem lw_p86 : lw_okq (⟨"HoopCabinetModel", "crushOf", "()I"⟩, 40) := ⟨⟨by decide +kernel, by decide +kernel⟩, List.mem_of_getElem? (i := 1236) (by decide +kernel), List.mem_of_getElem? (i := 1642) (by decide +kernel), List.mem_of_getElem? (i := 1643) (by decide +kernel)⟩
theorem lw_p87 : lw_okq (⟨"HoopCabinetModel", "goNote", "(II)I"⟩, 40) := ⟨⟨by decide +kernel, by decide +kernel⟩, List.mem_of_getElem? (i := 1236) (by decide +kernel), List.mem_of_getElem? (i := 1685) (by decide +kernel), List.mem_of_getElem? (i := 1686) (by decide +kernel)⟩
theorem lw_p88 : lw_okq (⟨"HoopCabinetModel", "giverTo", "(III)I"⟩, 40) := ⟨⟨by decide +kernel, by decide +kernel⟩, List.mem_of_getElem? (i := 1236) (by decide +kernel), List.mem_of_getElem? (i := 1689) (by decide +kernel), List.mem_of_getElem? (i := 1690) (by decide +kernel)⟩
theorem lw_p89 : lw_okq (⟨"HoopCabinetModel", "doesGive", "(II)Z"⟩, 40) := ⟨⟨by decide +kernel, by decide +kernel⟩, List.mem_of_getElem? (i := 1236) (by decide +kernel), List.mem_of_getElem? (i := 1693) (by decide +kernel), List.mem_of_getElem? (i := 1694) (by decide +kernel)⟩
theorem lw_p90 : lw_okq (⟨"HoopCabinetModel", "asksNote", "(II)Z"⟩, 40) := ⟨⟨by decide +kernel, by decide +kernel⟩, List.mem_of_getElem? (i := 1236) (by decide +kernel), List.mem_of_getElem? (i := 1701) (by decide +kernel), List.mem_of_getElem? (i := 1702) (by decide +kernel)⟩
theorem lw_p91 : lw_okq (⟨"HoopCabinetModel", "goNote", "(I)I"⟩, 40) := ⟨⟨by decide +kernel, by decide +kernel⟩, List.mem_of_getElem? (i := 1236) (by decide +kernel), List.mem_of_getElem? (i := 1705) (by decide +kernel), List.mem_of_getElem? (i := 1706) (by decide +kernel)⟩
theorem lw_p92 : lw_okq (⟨"HoopCabinetModel", "asksCarry", "(III)Z"⟩, 40) := ⟨⟨by decide +kernel, by decide +kernel⟩, List.mem_of_getElem? (i := 1236) (by decide +kernel), List.mem_of_getElem? (i := 1747) (by decide +kernel), List.mem_of_getElem? (i := 1748) (by decide +kernel)⟩
theorem lw_p93 : lw_okq (⟨"HoopCabinetModel", "layWalk", "(III)I"⟩, 40) := ⟨⟨by decide +kernel, by decide +kernel⟩, List.mem_of_getElem? (i := 1236) (by decide +kernel), List.mem_of_getElem? (i := 1751) (by decide +kernel), List.mem_of_getElem? (i := 1752) (by decide +kernel)⟩
theorem lw_p94 : lw_okq (⟨"HoopCabinetModel", "layCarry", "(IIII)V"⟩, 40) := ⟨⟨by decide +kernel, by decide +kernel⟩, List.mem_of_getElem? (i := 1236) (by decide +kernel), List.mem_of_getElem? (i := 1755) (by decide +kernel), List.mem_of_getElem? (i := 1756) (by decide +kernel)⟩
theorem lw_p95 : lw_okq (⟨"HoopCabinetModel", "takesIn", "(IIII)Z"⟩, 40) := ⟨⟨by decide +kernel, by decide +kernel⟩, List.mem_of_getElem? (i := 1236) (by decide +kernel), List.mem_of_getElem? (i := 1759) (by decide +kernel), List.mem_of_getElem? (i := 1760) (by decide +kernel)⟩
def lw_privs_6 : List (MethodName × Nat) := [(⟨"HoopCabinetModel", "stepsOf", "(I)I"⟩, 40), (⟨"HoopCabinetModel", "firstMeet", "(II)I"⟩, 40), (⟨"HoopCabinetModel", "doMeet", "(III)Z"⟩, 40), (⟨"HoopCabinetModel", "oftenMeet", "(II)I"⟩, 40), (⟨"HoopCabinetModel", "friendsOf", "(I)I"⟩, 40), (⟨"HoopCabinetModel", "asksBall", "()Z"⟩, 40), (⟨"HoopCabinetModel", "crushOf", "()I"⟩, 40), (⟨"HoopCabinetModel", "goNote", "(II)I"⟩, 40), (⟨"HoopCabinetModel", "giverTo", "(III)I"⟩, 40), (⟨"HoopCabinetModel", "doesGive", "(II)Z"⟩, 40), (⟨"HoopCabinetModel", "asksNote", "(II)Z"⟩, 40), (⟨"HoopCabinetModel", "goNote", "(I)I"⟩, 40), (⟨"HoopCabinetModel", "asksCarry", "(III)Z"⟩, 40), (⟨"HoopCabinetModel", "layWalk", "(III)I"⟩, 40), (⟨"HoopCabinetModel", "layCarry", "(IIII)V"⟩, 40), (⟨"HoopCabinetModel", "takesIn", "(IIII)Z"⟩, 40)]
theorem lw_r6 : ∀ q ∈ lw_privs_6, lw_okq q := List.forall_mem_cons.mpr ⟨lw_p80, List.forall_mem_cons.mpr ⟨lw_p81, List.forall_mem_cons.mpr ⟨lw_p82, List.forall_mem_cons.mpr ⟨lw_p83, List.forall_mem_cons.mpr ⟨lw_p84, List.forall_mem_cons.mpr ⟨lw_p85, List.forall_mem_cons.mpr ⟨lw_p86, List.forall_mem_cons.mpr ⟨lw_p87, List.forall_mem_cons.mpr ⟨lw_p88, List.forall_mem_cons.mpr ⟨lw_p89, List.forall_mem_cons.mpr ⟨lw_p90, List.forall_mem_cons.mpr ⟨lw_p91, List.forall_mem_cons.mpr ⟨lw_p92, List.forall_mem_cons.mpr ⟨lw_p93, List.forall_mem_cons.mpr ⟨lw_p94, List.forall_mem_cons.mpr ⟨lw_p95, fun _ h => absurd h List.not_mem_nil⟩⟩⟩⟩⟩⟩⟩⟩⟩⟩⟩⟩⟩⟩⟩⟩
theorem lw_p96 : lw_okq (⟨"HoopCabinetModel", "isBeside", "(III)Z"⟩, 40) := ⟨⟨by decide +kernel, by decide +kernel⟩, List.mem_of_getElem? (i := 1236) (by decide +kernel), List.mem_of_getElem? (i := 1763) (by decide +kernel), List.mem_of_getElem? (i := 1764) (by decide +kernel)⟩
theorem lw_p97 : lw_okq (⟨"HoopCabinetModel", "haveWith", "(III)I"⟩, 40) := ⟨⟨by decide +kernel, by decide +kernel⟩, List.mem_of_getElem? (i := 1236) (by decide +kernel), List.mem_of_getElem? (i := 1778) (by decide +kernel), List.mem_of_getElem? (i := 1779) (by decide +kernel)⟩
theorem lw_p98 : lw_okq (⟨"HoopCabinetModel", "layFirsts", "(I)I"⟩, 40) := ⟨⟨by decide +kernel, by decide +kernel⟩, List.mem_of_getElem? (i := 1236) (by decide +kernel), List.mem_of_getElem? (i := 1794) (by decide +kernel), List.mem_of_getElem? (i := 1795) (by decide +kernel)⟩
theorem lw_p99 : lw_okq (⟨"HoopCabinetModel", "isThree", "(II)Z"⟩, 40) := ⟨⟨by decide +kernel, by decide +kernel⟩, List.mem_of_getElem? (i := 1236) (by decide +kernel), List.mem_of_getElem? (i := 1801) (by decide +kernel), List.mem_of_getElem? (i := 1802) (by decide +kernel)⟩
theorem lw_p100 : lw_okq (⟨"HoopCabinetModel", "numberAt", "(II)J"⟩, 40) := ⟨⟨by decide +kernel, by decide +kernel⟩, List.mem_of_getElem? (i := 1236) (by decide +kernel), List.mem_of_getElem? (i := 1805) (by decide +kernel), List.mem_of_getElem? (i := 1806) (by decide +kernel)⟩
theorem lw_p101 : lw_okq (⟨"HoopCabinetModel", "askOf", "(I)I"⟩, 40) := ⟨⟨by decide +kernel, by decide +kernel⟩, List.mem_of_getElem? (i := 1236) (by decide +kernel), List.mem_of_getElem? (i := 1813) (by decide +kernel), List.mem_of_getElem? (i := 1814) (by decide +kernel)⟩
theorem lw_p102 : lw_okq (⟨"HoopCabinetModel", "isSet", "(I)Z"⟩, 40) := ⟨⟨by decide +kernel, by decide +kernel⟩, List.mem_of_getElem? (i := 1236) (by decide +kernel), List.mem_of_getElem? (i := 1833) (by decide +kernel), List.mem_of_getElem? (i := 1834) (by decide +kernel)⟩
theorem lw_p103 : lw_okq (⟨"HoopCabinetModel", "doesHold", "(I)Z"⟩, 40) := ⟨⟨by decide +kernel, by decide +kernel⟩, List.mem_of_getElem? (i := 1236) (by decide +kernel), List.mem_of_getElem? (i := 1837) (by decide +kernel), List.mem_of_getElem? (i := 1838) (by decide +kernel)⟩
theorem lw_p104 : lw_okq (⟨"HoopCabinetModel", "seatsIn", "(I)I"⟩, 40) := ⟨⟨by decide +kernel, by decide +kernel⟩, List.mem_of_getElem? (i := 1236) (by decide +kernel), List.mem_of_getElem? (i := 1841) (by decide +kernel), List.mem_of_getElem? (i := 1842) (by decide +kernel)⟩
theorem lw_p105 : lw_okq (⟨"HoopCabinetModel", "allLadies", "()I"⟩, 40) := ⟨⟨by decide +kernel, by decide +kernel⟩, List.mem_of_getElem? (i := 1236) (by decide +kernel), List.mem_of_getElem? (i := 1845) (by decide +kernel), List.mem_of_getElem? (i := 1846) (by decide +kernel)⟩
theorem lw_p106 : lw_okq (⟨"HoopCabinetModel", "powerOf", "(I)I"⟩, 40) := ⟨⟨by decide +kernel, by decide +kernel⟩, List.mem_of_getElem? (i := 1236) (by decide +kernel), List.mem_of_getElem? (i := 1857) (by decide +kernel), List.mem_of_getElem? (i := 1858) (by decide +kernel)⟩
theorem lw_p107 : lw_okq (⟨"HoopCabinetModel", "isLeast", "(I)Z"⟩, 40) := ⟨⟨by decide +kernel, by decide +kernel⟩, List.mem_of_getElem? (i := 1236) (by decide +kernel), List.mem_of_getElem? (i := 1887) (by decide +kernel), List.mem_of_getElem? (i := 1888) (by decide +kernel)⟩
theorem lw_p108 : lw_okq (⟨"HoopCabinetModel", "areTwo", "(II)Z"⟩, 40) := ⟨⟨by decide +kernel, by decide +kernel⟩, List.mem_of_getElem? (i := 1236) (by decide +kernel), List.mem_of_getElem? (i := 1899) (by decide +kernel), List.mem_of_getElem? (i := 1900) (by decide +kernel)⟩
theorem lw_p109 : lw_okq (⟨"HoopCabinetModel", "gainsBy", "(IIIII)I"⟩, 40) := ⟨⟨by decide +kernel, by decide +kernel⟩, List.mem_of_getElem? (i := 1236) (by decide +kernel), List.mem_of_getElem? (i := 1903) (by decide +kernel), List.mem_of_getElem? (i := 1904) (by decide +kernel)⟩
theorem lw_p110 : lw_okq (⟨"HoopCabinetModel", "asksMusic", "(III)Z"⟩, 40) := ⟨⟨by decide +kernel, by decide +kernel⟩, List.mem_of_getElem? (i := 1236) (by decide +kernel), List.mem_of_getElem? (i := 1915) (by decide +kernel), List.mem_of_getElem? (i := 1916) (by decide +kernel)⟩
theorem lw_p111 : lw_okq (⟨"HoopCabinetModel", "layMusic", "(III)V"⟩, 40) := ⟨⟨by decide +kernel, by decide +kernel⟩, List.mem_of_getElem? (i := 1236) (by decide +kernel), List.mem_of_getElem? (i := 1921) (by decide +kernel), List.mem_of_getElem? (i := 1922) (by decide +kernel)⟩
def lw_privs_7 : List (MethodName × Nat) := [(⟨"HoopCabinetModel", "isBeside", "(III)Z"⟩, 40), (⟨"HoopCabinetModel", "haveWith", "(III)I"⟩, 40), (⟨"HoopCabinetModel", "layFirsts", "(I)I"⟩, 40), (⟨"HoopCabinetModel", "isThree", "(II)Z"⟩, 40), (⟨"HoopCabinetModel", "numberAt", "(II)J"⟩, 40), (⟨"HoopCabinetModel", "askOf", "(I)I"⟩, 40), (⟨"HoopCabinetModel", "isSet", "(I)Z"⟩, 40), (⟨"HoopCabinetModel", "doesHold", "(I)Z"⟩, 40), (⟨"HoopCabinetModel", "seatsIn", "(I)I"⟩, 40), (⟨"HoopCabinetModel", "allLadies", "()I"⟩, 40), (⟨"HoopCabinetModel", "powerOf", "(I)I"⟩, 40), (⟨"HoopCabinetModel", "isLeast", "(I)Z"⟩, 40), (⟨"HoopCabinetModel", "areTwo", "(II)Z"⟩, 40), (⟨"HoopCabinetModel", "gainsBy", "(IIIII)I"⟩, 40), (⟨"HoopCabinetModel", "asksMusic", "(III)Z"⟩, 40), (⟨"HoopCabinetModel", "layMusic", "(III)V"⟩, 40)]
theorem lw_r7 : ∀ q ∈ lw_privs_7, lw_okq q := List.forall_mem_cons.mpr ⟨lw_p96, List.forall_mem_cons.mpr ⟨lw_p97, List.forall_mem_cons.mpr ⟨lw_p98, List.forall_mem_cons.mpr ⟨lw_p99, List.forall_mem_cons.mpr ⟨lw_p100, List.forall_mem_cons.mpr ⟨lw_p101, List.forall_mem_cons.mpr ⟨lw_p102, List.forall_mem_cons.mpr ⟨lw_p103, List.forall_mem_cons.mpr ⟨lw_p104, List.forall_mem_cons.mpr ⟨lw_p105, List.forall_mem_cons.mpr ⟨lw_p106, List.forall_mem_cons.mpr ⟨lw_p107, List.forall_mem_cons.mpr ⟨lw_p108, List.forall_mem_cons.mpr ⟨lw_p109, List.forall_mem_cons.mpr ⟨lw_p110, List.forall_mem_cons.mpr ⟨lw_p111, fun _ h => absurd h List.not_mem_nil⟩⟩⟩⟩⟩⟩⟩⟩⟩⟩⟩⟩⟩⟩⟩⟩
theorem lw_p112 : lw_okq (⟨"HoopCabinetModel", "keepAct", "(I)I"⟩, 40) := ⟨⟨by decide +kernel, by decide +kernel⟩, List.mem_of_getElem? (i := 1236) (by decide +kernel), List.mem_of_getElem? (i := 1934) (by decide +kernel), List.mem_of_getElem? (i := 1935) (by decide +kernel)⟩
theorem lw_p113 : lw_okq (⟨"HoopCabinetModel", "goDrawn", "(JI)I"⟩, 40) := ⟨⟨by decide +kernel, by decide +kernel⟩, List.mem_of_getElem? (i := 1236) (by decide +kernel), List.mem_of_getElem? (i := 1958) (by decide +kernel), List.mem_of_getElem? (i := 1959) (by decide +kernel)⟩
def lw_privs_8 : List (MethodName × Nat) := [(⟨"HoopCabinetModel", "keepAct", "(I)I"⟩, 40), (⟨"HoopCabinetModel", "goDrawn", "(JI)I"⟩, 40)]
theorem lw_r8 : ∀ q ∈ lw_privs_8, lw_okq q := List.forall_mem_cons.mpr ⟨lw_p112, List.forall_mem_cons.mpr ⟨lw_p113, fun _ h => absurd h List.not_mem_nil⟩⟩
def lw_privs : List (MethodName × Nat) := lw_privs_1 ++ (lw_privs_2 ++ (lw_privs_3 ++ (lw_privs_4 ++ (lw_privs_5 ++ (lw_privs_6 ++ (lw_privs_7 ++ (lw_privs_8)))))))
def lw_tbl : List Cond := k2_sels lw_privs ++ tables_1
theorem lw_privs_ok : ∀ q ∈ lw_privs, lw_okq q := by
  show ∀ q ∈ lw_privs_1 ++ (lw_privs_2 ++ (lw_privs_3 ++ (lw_privs_4 ++ (lw_privs_5 ++ (lw_privs_6 ++ (lw_privs_7 ++ (lw_privs_8))))))), lw_okq q
  exact List.forall_mem_append.mpr ⟨lw_r1, List.forall_mem_append.mpr ⟨lw_r2, List.forall_mem_append.mpr ⟨lw_r3, List.forall_mem_append.mpr ⟨lw_r4, List.forall_mem_append.mpr ⟨lw_r5, List.forall_mem_append.mpr ⟨lw_r6, List.forall_mem_append.mpr ⟨lw_r7, lw_r8⟩⟩⟩⟩⟩⟩⟩
def RX0 : String := "HoopCabinet$Ball"
def TX0 : u_T := fun k => match k with
  | 0 => ("HoopCabinet$Ball", "lines", "I", false)
  | 1 => ("HoopCabinet$Ball", "rooms", "I", false)
  | 2 => ("HoopCabinet$Ball", "dances", "I", false)
  | 3 => ("HoopCabinet$Ball", "law", "I", false)
  | 4 => ("HoopCabinet$Ball", "odds", "I", false)
  | 5 => ("HoopCabinet$Ball", "doors", "LHoopCabinet$Table;", true)
  | 6 => ("HoopCabinet$Ball", "ladies", "LHoopCabinet$Table;", true)
  | 7 => ("HoopCabinet$Ball", "ministers", "LHoopCabinet$Table;", true)
  | 8 => ("HoopCabinet$Ball", "bids", "LHoopCabinet$Table;", true)
  | _ => ("HoopCabinet$Ball", "acts", "LHoopCabinet$Table;", true)
def tyX0 : Nat → FieldType := fun k => match k with
  | 0 => .int
  | 1 => .int
  | 2 => .int
  | 3 => .int
  | 4 => .int
  | 5 => .object "HoopCabinet$Table"
  | 6 => .object "HoopCabinet$Table"
  | 7 => .object "HoopCabinet$Table"
  | 8 => .object "HoopCabinet$Table"
  | _ => .object "HoopCabinet$Table"
abbrev wsX00 : List Cond := u_ws RX0 TX0 10
theorem nmX0 : ∀ a, a < 10 → ∀ b, b < 10 → a ≠ b → (TX0 a).2.1 ≠ (TX0 b).2.1 := by decide +kernel
theorem tyX0_ok : ∀ k, k < 10 → parseFieldDescriptor (TX0 k).2.2.1 = some (tyX0 k) := by decide +kernel
abbrev cX0_init : ByteArray := prog_2_method_1_code
def yX0_init : MethodName := ⟨RX0, "<init>", "()V"⟩
abbrev cX0_clear : ByteArray := prog_2_method_2_code
def yX0_clear : MethodName := ⟨RX0, "clear", "()V"⟩
abbrev cX0_copyFrom : ByteArray := prog_2_method_3_code
def yX0_copyFrom : MethodName := ⟨RX0, "copyFrom", "(LHoopCabinet$Ball;)V"⟩
abbrev cX0_isTold : ByteArray := prog_2_method_4_code
def yX0_isTold : MethodName := ⟨RX0, "isTold", "()Z"⟩
abbrev cX0_hasLady : ByteArray := prog_2_method_5_code
def yX0_hasLady : MethodName := ⟨RX0, "hasLady", "(I)Z"⟩
abbrev cX0_hasRoom : ByteArray := prog_2_method_6_code
def yX0_hasRoom : MethodName := ⟨RX0, "hasRoom", "(I)Z"⟩
abbrev cX0_hasDance : ByteArray := prog_2_method_7_code
def yX0_hasDance : MethodName := ⟨RX0, "hasDance", "(I)Z"⟩
abbrev cX0_hasSet : ByteArray := prog_2_method_8_code
def yX0_hasSet : MethodName := ⟨RX0, "hasSet", "(I)Z"⟩
abbrev cX0_everybody : ByteArray := prog_2_method_9_code
def yX0_everybody : MethodName := ⟨RX0, "everybody", "()I"⟩
abbrev cX0_ministersUnder : ByteArray := prog_2_method_10_code
def yX0_ministersUnder : MethodName := ⟨RX0, "ministersUnder", "(I)I"⟩
abbrev cX0_seatsUnder : ByteArray := prog_2_method_11_code
def yX0_seatsUnder : MethodName := ⟨RX0, "seatsUnder", "(I)I"⟩
abbrev cX0_actBid : ByteArray := prog_2_method_12_code
def yX0_actBid : MethodName := ⟨RX0, "actBid", "(III)V"⟩
abbrev cX0_actMove : ByteArray := prog_2_method_13_code
def yX0_actMove : MethodName := ⟨RX0, "actMove", "(II)V"⟩
abbrev cX0_takeBack : ByteArray := prog_2_method_14_code
def yX0_takeBack : MethodName := ⟨RX0, "takeBack", "()V"⟩
def RX1 : String := "HoopCabinet$Carrier"
def TX1 : u_T := fun k => match k with
  | 0 => ("HoopCabinet$Carrier", "taking", "[I", true)
  | 1 => ("HoopCabinet$Carrier", "holding", "[I", true)
  | 2 => ("HoopCabinet$Carrier", "bare", "[I", true)
  | 3 => ("HoopCabinet$Carrier", "lady", "I", false)
  | 4 => ("HoopCabinet$Carrier", "other", "I", false)
  | 5 => ("HoopCabinet$Carrier", "dances", "I", false)
  | 6 => ("HoopCabinet$Carrier", "startsWithIt", "Z", false)
  | _ => ("HoopCabinet$Carrier", "givesAtOnce", "Z", false)
def tyX1 : Nat → FieldType := fun k => match k with
  | 0 => .array .int
  | 1 => .array .int
  | 2 => .array .int
  | 3 => .int
  | 4 => .int
  | 5 => .int
  | 6 => .boolean
  | _ => .boolean
abbrev wsX10 : List Cond := u_ws RX1 TX1 8
theorem nmX1 : ∀ a, a < 8 → ∀ b, b < 8 → a ≠ b → (TX1 a).2.1 ≠ (TX1 b).2.1 := by decide +kernel
theorem tyX1_ok : ∀ k, k < 8 → parseFieldDescriptor (TX1 k).2.2.1 = some (tyX1 k) := by decide +kernel
abbrev cX1_init : ByteArray := prog_3_method_1_code
def yX1_init : MethodName := ⟨RX1, "<init>", "()V"⟩
abbrev cX1_prepare : ByteArray := prog_3_method_2_code
def yX1_prepare : MethodName := ⟨RX1, "prepare", "(LHoopCabinet$Floor;LHoopCabinet$Notes;II)V"⟩
abbrev cX1_roomsOf : ByteArray := prog_3_method_3_code
def yX1_roomsOf : MethodName := ⟨RX1, "roomsOf", "(LHoopCabinet$Floor;II)I"⟩
abbrev cX1_soonest : ByteArray := prog_3_method_4_code
def yX1_soonest : MethodName := ⟨RX1, "soonest", "(LHoopCabinet$Floor;)I"⟩
abbrev cX1_lookBack : ByteArray := prog_3_method_5_code
def yX1_lookBack : MethodName := ⟨RX1, "lookBack", "(LHoopCabinet$Floor;I)V"⟩
abbrev cX1_goodWithout : ByteArray := prog_3_method_6_code
def yX1_goodWithout : MethodName := ⟨RX1, "goodWithout", "(II)I"⟩
abbrev cX1_roomAt : ByteArray := prog_3_method_7_code
def yX1_roomAt : MethodName := ⟨RX1, "roomAt", "(LHoopCabinet$Floor;II)I"⟩
def RX2 : String := "HoopCabinet$Floor"
def TX2 : u_T := fun k => match k with
  | 0 => ("HoopCabinet$Floor", "near", "[I", true)
  | 1 => ("HoopCabinet$Floor", "goals", "[I", true)
  | 2 => ("HoopCabinet$Floor", "since", "[I", true)
  | 3 => ("HoopCabinet$Floor", "places", "[I", true)
  | 4 => ("HoopCabinet$Floor", "company", "[I", true)
  | 5 => ("HoopCabinet$Floor", "ladies", "I", false)
  | 6 => ("HoopCabinet$Floor", "rooms", "I", false)
  | _ => ("HoopCabinet$Floor", "dances", "I", false)
def tyX2 : Nat → FieldType := fun k => match k with
  | 0 => .array .int
  | 1 => .array .int
  | 2 => .array .int
  | 3 => .array .int
  | 4 => .array .int
  | 5 => .int
  | 6 => .int
  | _ => .int
abbrev wsX20 : List Cond := u_ws RX2 TX2 8
theorem nmX2 : ∀ a, a < 8 → ∀ b, b < 8 → a ≠ b → (TX2 a).2.1 ≠ (TX2 b).2.1 := by decide +kernel
theorem tyX2_ok : ∀ k, k < 8 → parseFieldDescriptor (TX2 k).2.2.1 = some (tyX2 k) := by decide +kernel
abbrev cX2_init : ByteArray := prog_4_method_1_code
def yX2_init : MethodName := ⟨RX2, "<init>", "()V"⟩
abbrev cX2_settle : ByteArray := prog_4_method_2_code
def yX2_settle : MethodName := ⟨RX2, "settle", "(LHoopCabinet$Ball;II)V"⟩
abbrev cX2_openDoors : ByteArray := prog_4_method_3_code
def yX2_openDoors : MethodName := ⟨RX2, "openDoors", "(LHoopCabinet$Ball;II)V"⟩
abbrev cX2_openDoor : ByteArray := prog_4_method_4_code
def yX2_openDoor : MethodName := ⟨RX2, "openDoor", "(LHoopCabinet$Ball;II)V"⟩
abbrev cX2_hearBids : ByteArray := prog_4_method_5_code
def yX2_hearBids : MethodName := ⟨RX2, "hearBids", "(LHoopCabinet$Ball;)V"⟩
abbrev cX2_hearBid : ByteArray := prog_4_method_6_code
def yX2_hearBid : MethodName := ⟨RX2, "hearBid", "(III)V"⟩
abbrev cX2_goAsBidden : ByteArray := prog_4_method_7_code
def yX2_goAsBidden : MethodName := ⟨RX2, "goAsBidden", "(II)V"⟩
abbrev cX2_nextRoom : ByteArray := prog_4_method_8_code
def yX2_nextRoom : MethodName := ⟨RX2, "nextRoom", "(III)I"⟩
abbrev cX2_gather : ByteArray := prog_4_method_9_code
def yX2_gather : MethodName := ⟨RX2, "gather", "()V"⟩
abbrev cX2_keepStill : ByteArray := prog_4_method_10_code
def yX2_keepStill : MethodName := ⟨RX2, "keepStill", "(I)V"⟩
abbrev cX2_copyFrom : ByteArray := prog_4_method_11_code
def yX2_copyFrom : MethodName := ⟨RX2, "copyFrom", "(LHoopCabinet$Floor;)V"⟩
abbrev cX2_stepsFrom : ByteArray := prog_4_method_12_code
def yX2_stepsFrom : MethodName := ⟨RX2, "stepsFrom", "(II)I"⟩
abbrev cX2_spread : ByteArray := prog_4_method_13_code
def yX2_spread : MethodName := ⟨RX2, "spread", "(II)I"⟩
abbrev cX2_distance : ByteArray := prog_4_method_14_code
def yX2_distance : MethodName := ⟨RX2, "distance", "(III)I"⟩
abbrev cX2_reachable : ByteArray := prog_4_method_15_code
def yX2_reachable : MethodName := ⟨RX2, "reachable", "(II)I"⟩
abbrev cX2_isHere : ByteArray := prog_4_method_16_code
def yX2_isHere : MethodName := ⟨RX2, "isHere", "(II)Z"⟩
abbrev cX2_goalOf : ByteArray := prog_4_method_17_code
def yX2_goalOf : MethodName := ⟨RX2, "goalOf", "(II)I"⟩
abbrev cX2_placeOf : ByteArray := prog_4_method_18_code
def yX2_placeOf : MethodName := ⟨RX2, "placeOf", "(II)I"⟩
abbrev cX2_companyOf : ByteArray := prog_4_method_19_code
def yX2_companyOf : MethodName := ⟨RX2, "companyOf", "(II)I"⟩
abbrev cX2_ladiesIn : ByteArray := prog_4_method_20_code
def yX2_ladiesIn : MethodName := ⟨RX2, "ladiesIn", "(II)I"⟩
abbrev cX2_dancesIn : ByteArray := prog_4_method_21_code
def yX2_dancesIn : MethodName := ⟨RX2, "dancesIn", "(II)I"⟩
abbrev cX2_stepsOf : ByteArray := prog_4_method_22_code
def yX2_stepsOf : MethodName := ⟨RX2, "stepsOf", "(I)I"⟩
abbrev cX2_meetingsOf : ByteArray := prog_4_method_23_code
def yX2_meetingsOf : MethodName := ⟨RX2, "meetingsOf", "(II)I"⟩
abbrev cX2_friendsOf : ByteArray := prog_4_method_24_code
def yX2_friendsOf : MethodName := ⟨RX2, "friendsOf", "(I)I"⟩
def RX3 : String := "HoopCabinet$House"
def TX3 : u_T := fun k => match k with
  | 0 => ("HoopCabinet$House", "seatsUnder", "[I", true)
  | 1 => ("HoopCabinet$House", "ladies", "I", false)
  | _ => ("HoopCabinet$House", "total", "I", false)
def tyX3 : Nat → FieldType := fun k => match k with
  | 0 => .array .int
  | 1 => .int
  | _ => .int
abbrev wsX30 : List Cond := u_ws RX3 TX3 3
theorem nmX3 : ∀ a, a < 3 → ∀ b, b < 3 → a ≠ b → (TX3 a).2.1 ≠ (TX3 b).2.1 := by decide +kernel
theorem tyX3_ok : ∀ k, k < 3 → parseFieldDescriptor (TX3 k).2.2.1 = some (tyX3 k) := by decide +kernel
abbrev cX3_init : ByteArray := prog_5_method_1_code
def yX3_init : MethodName := ⟨RX3, "<init>", "()V"⟩
abbrev cX3_tally : ByteArray := prog_5_method_2_code
def yX3_tally : MethodName := ⟨RX3, "tally", "(LHoopCabinet$Ball;)V"⟩
abbrev cX3_seatsOf : ByteArray := prog_5_method_3_code
def yX3_seatsOf : MethodName := ⟨RX3, "seatsOf", "(I)I"⟩
abbrev cX3_isMoreThanHalf : ByteArray := prog_5_method_4_code
def yX3_isMoreThanHalf : MethodName := ⟨RX3, "isMoreThanHalf", "(I)Z"⟩
abbrev cX3_isMajority : ByteArray := prog_5_method_5_code
def yX3_isMajority : MethodName := ⟨RX3, "isMajority", "(I)Z"⟩
abbrev cX3_isLeastMajority : ByteArray := prog_5_method_6_code
def yX3_isLeastMajority : MethodName := ⟨RX3, "isLeastMajority", "(I)Z"⟩
abbrev cX3_powerOf : ByteArray := prog_5_method_7_code
def yX3_powerOf : MethodName := ⟨RX3, "powerOf", "(I)I"⟩
def RX4 : String := "HoopCabinet$Music"
def TX4 : u_T := fun k => match k with
  | 0 => ("HoopCabinet$Music", "weights", "[J", false)
  | 1 => ("HoopCabinet$Music", "later", "[J", false)
  | _ => ("HoopCabinet$Music", "total", "J", false)
def tyX4 : Nat → FieldType := fun k => match k with
  | 0 => .array .long
  | 1 => .array .long
  | _ => .long
abbrev wsX40 : List Cond := u_ws RX4 TX4 3
theorem nmX4 : ∀ a, a < 3 → ∀ b, b < 3 → a ≠ b → (TX4 a).2.1 ≠ (TX4 b).2.1 := by decide +kernel
theorem tyX4_ok : ∀ k, k < 3 → parseFieldDescriptor (TX4 k).2.2.1 = some (tyX4 k) := by decide +kernel
abbrev cX4_init : ByteArray := prog_6_method_1_code
def yX4_init : MethodName := ⟨RX4, "<init>", "()V"⟩
abbrev cX4_play : ByteArray := prog_6_method_2_code
def yX4_play : MethodName := ⟨RX4, "play", "(LHoopCabinet$Floor;LHoopCabinet$Notes;III)V"⟩
abbrev cX4_playOne : ByteArray := prog_6_method_3_code
def yX4_playOne : MethodName := ⟨RX4, "playOne", "(LHoopCabinet$Floor;LHoopCabinet$Notes;II)V"⟩
abbrev cX4_weightWith : ByteArray := prog_6_method_4_code
def yX4_weightWith : MethodName := ⟨RX4, "weightWith", "(I)J"⟩
abbrev cX4_weightOfHolders : ByteArray := prog_6_method_5_code
def yX4_weightOfHolders : MethodName := ⟨RX4, "weightOfHolders", "()J"⟩
def RX5 : String := "HoopCabinet$Notes"
def TX5 : u_T := fun k => match k with
  | 0 => ("HoopCabinet$Notes", "allowed", "[I", true)
  | 1 => ("HoopCabinet$Notes", "seatsUnder", "[I", true)
  | 2 => ("HoopCabinet$Notes", "holders", "[I", true)
  | 3 => ("HoopCabinet$Notes", "ladies", "I", false)
  | 4 => ("HoopCabinet$Notes", "dances", "I", false)
  | _ => ("HoopCabinet$Notes", "first", "I", false)
def tyX5 : Nat → FieldType := fun k => match k with
  | 0 => .array .int
  | 1 => .array .int
  | 2 => .array .int
  | 3 => .int
  | 4 => .int
  | _ => .int
abbrev wsX50 : List Cond := u_ws RX5 TX5 6
theorem nmX5 : ∀ a, a < 6 → ∀ b, b < 6 → a ≠ b → (TX5 a).2.1 ≠ (TX5 b).2.1 := by decide +kernel
theorem tyX5_ok : ∀ k, k < 6 → parseFieldDescriptor (TX5 k).2.2.1 = some (tyX5 k) := by decide +kernel
abbrev cX5_init : ByteArray := prog_7_method_1_code
def yX5_init : MethodName := ⟨RX5, "<init>", "()V"⟩
abbrev cX5_prepare : ByteArray := prog_7_method_2_code
def yX5_prepare : MethodName := ⟨RX5, "prepare", "(LHoopCabinet$Ball;II)V"⟩
abbrev cX5_mayGive : ByteArray := prog_7_method_3_code
def yX5_mayGive : MethodName := ⟨RX5, "mayGive", "(LHoopCabinet$Ball;III)Z"⟩
abbrev cX5_passed : ByteArray := prog_7_method_4_code
def yX5_passed : MethodName := ⟨RX5, "passed", "(LHoopCabinet$Floor;II)I"⟩
abbrev cX5_follow : ByteArray := prog_7_method_5_code
def yX5_follow : MethodName := ⟨RX5, "follow", "(LHoopCabinet$Floor;II)V"⟩
abbrev cX5_behind : ByteArray := prog_7_method_6_code
def yX5_behind : MethodName := ⟨RX5, "behind", "(I)I"⟩
abbrev cX5_ahead : ByteArray := prog_7_method_7_code
def yX5_ahead : MethodName := ⟨RX5, "ahead", "(I)I"⟩
abbrev cX5_gotAt : ByteArray := prog_7_method_8_code
def yX5_gotAt : MethodName := ⟨RX5, "gotAt", "(I)I"⟩
abbrev cX5_giverOf : ByteArray := prog_7_method_9_code
def yX5_giverOf : MethodName := ⟨RX5, "giverOf", "(LHoopCabinet$Floor;I)I"⟩
def RX6 : String := "HoopCabinet$Reader"
def TX6 : u_T := fun k => match k with
  | 0 => ("HoopCabinet$Reader", "tape", "[B", true)
  | 1 => ("HoopCabinet$Reader", "ball", "LHoopCabinet$Ball;", true)
  | 2 => ("HoopCabinet$Reader", "length", "I", false)
  | 3 => ("HoopCabinet$Reader", "kind", "I", false)
  | 4 => ("HoopCabinet$Reader", "place", "I", false)
  | 5 => ("HoopCabinet$Reader", "stop", "I", false)
  | 6 => ("HoopCabinet$Reader", "fault", "I", false)
  | _ => ("HoopCabinet$Reader", "faultPlace", "I", false)
def tyX6 : Nat → FieldType := fun k => match k with
  | 0 => .array .byte
  | 1 => .object "HoopCabinet$Ball"
  | 2 => .int
  | 3 => .int
  | 4 => .int
  | 5 => .int
  | 6 => .int
  | _ => .int
abbrev wsX60 : List Cond := u_ws RX6 TX6 8
theorem nmX6 : ∀ a, a < 8 → ∀ b, b < 8 → a ≠ b → (TX6 a).2.1 ≠ (TX6 b).2.1 := by decide +kernel
theorem tyX6_ok : ∀ k, k < 8 → parseFieldDescriptor (TX6 k).2.2.1 = some (tyX6 k) := by decide +kernel
abbrev cX6_init : ByteArray := prog_8_method_1_code
def yX6_init : MethodName := ⟨RX6, "<init>", "([BLHoopCabinet$Ball;)V"⟩
abbrev cX6_read : ByteArray := prog_8_method_2_code
def yX6_read : MethodName := ⟨RX6, "read", "(I)V"⟩
abbrev cX6_readLine : ByteArray := prog_8_method_3_code
def yX6_readLine : MethodName := ⟨RX6, "readLine", "()V"⟩
abbrev cX6_readBall : ByteArray := prog_8_method_4_code
def yX6_readBall : MethodName := ⟨RX6, "readBall", "()V"⟩
abbrev cX6_readDoor : ByteArray := prog_8_method_5_code
def yX6_readDoor : MethodName := ⟨RX6, "readDoor", "()V"⟩
abbrev cX6_readLady : ByteArray := prog_8_method_6_code
def yX6_readLady : MethodName := ⟨RX6, "readLady", "()V"⟩
abbrev cX6_readMinister : ByteArray := prog_8_method_7_code
def yX6_readMinister : MethodName := ⟨RX6, "readMinister", "()V"⟩
abbrev cX6_readBid : ByteArray := prog_8_method_8_code
def yX6_readBid : MethodName := ⟨RX6, "readBid", "()V"⟩
abbrev cX6_startRow : ByteArray := prog_8_method_9_code
def yX6_startRow : MethodName := ⟨RX6, "startRow", "(LHoopCabinet$Table;)V"⟩
abbrev cX6_fail : ByteArray := prog_8_method_10_code
def yX6_fail : MethodName := ⟨RX6, "fail", "(I)V"⟩
abbrev cX6_takeWord : ByteArray := prog_8_method_11_code
def yX6_takeWord : MethodName := ⟨RX6, "takeWord", "(Ljava/lang/String;)V"⟩
abbrev cX6_takeSign : ByteArray := prog_8_method_12_code
def yX6_takeSign : MethodName := ⟨RX6, "takeSign", "()V"⟩
abbrev cX6_takeNumber : ByteArray := prog_8_method_13_code
def yX6_takeNumber : MethodName := ⟨RX6, "takeNumber", "(II)I"⟩
abbrev cX6_isWord : ByteArray := prog_8_method_14_code
def yX6_isWord : MethodName := ⟨RX6, "isWord", "(Ljava/lang/String;)Z"⟩
abbrev cX6_nextToken : ByteArray := prog_8_method_15_code
def yX6_nextToken : MethodName := ⟨RX6, "nextToken", "()V"⟩
abbrev cX6_digits : ByteArray := prog_8_method_16_code
def yX6_digits : MethodName := ⟨RX6, "digits", "()I"⟩
abbrev cX6_byteAt : ByteArray := prog_8_method_17_code
def yX6_byteAt : MethodName := ⟨RX6, "byteAt", "(I)I"⟩
abbrev cX6_isBlank : ByteArray := prog_8_method_18_code
def yX6_isBlank : MethodName := ⟨RX6, "isBlank", "(I)Z"⟩
abbrev cX6_kindOf : ByteArray := prog_8_method_19_code
def yX6_kindOf : MethodName := ⟨RX6, "kindOf", "(I)I"⟩
def RX7 : String := "HoopCabinet$Slot"
def TX7 : u_T := fun k => match k with
  | 0 => ("HoopCabinet$Slot", "cells", "[J", true)
  | 1 => ("HoopCabinet$Slot", "width", "I", false)
  | _ => ("HoopCabinet$Slot", "size", "I", false)
def tyX7 : Nat → FieldType := fun k => match k with
  | 0 => .array .long
  | 1 => .int
  | _ => .int
abbrev wsX70 : List Cond := u_ws RX7 TX7 3
theorem nmX7 : ∀ a, a < 3 → ∀ b, b < 3 → a ≠ b → (TX7 a).2.1 ≠ (TX7 b).2.1 := by decide +kernel
theorem tyX7_ok : ∀ k, k < 3 → parseFieldDescriptor (TX7 k).2.2.1 = some (tyX7 k) := by decide +kernel
abbrev cX7_init : ByteArray := prog_9_method_1_code
def yX7_init : MethodName := ⟨RX7, "<init>", "()V"⟩
abbrev cX7_isBare : ByteArray := prog_9_method_2_code
def yX7_isBare : MethodName := ⟨RX7, "isBare", "()Z"⟩
abbrev cX7_start : ByteArray := prog_9_method_3_code
def yX7_start : MethodName := ⟨RX7, "start", "(II)V"⟩
abbrev cX7_cell : ByteArray := prog_9_method_4_code
def yX7_cell : MethodName := ⟨RX7, "cell", "(I)J"⟩
abbrev cX7_put : ByteArray := prog_9_method_5_code
def yX7_put : MethodName := ⟨RX7, "put", "(IJ)V"⟩
abbrev cX7_cut : ByteArray := prog_9_method_6_code
def yX7_cut : MethodName := ⟨RX7, "cut", "(J)J"⟩
abbrev cX7_hasStretch : ByteArray := prog_9_method_7_code
def yX7_hasStretch : MethodName := ⟨RX7, "hasStretch", "(II)Z"⟩
def RX8 : String := "HoopCabinet$Table"
def TX8 : u_T := fun k => match k with
  | 0 => ("HoopCabinet$Table", "cells", "[I", true)
  | 1 => ("HoopCabinet$Table", "limit", "I", true)
  | 2 => ("HoopCabinet$Table", "width", "I", true)
  | _ => ("HoopCabinet$Table", "rows", "I", false)
def tyX8 : Nat → FieldType := fun k => match k with
  | 0 => .array .int
  | 1 => .int
  | 2 => .int
  | _ => .int
abbrev wsX80 : List Cond := u_ws RX8 TX8 4
theorem nmX8 : ∀ a, a < 4 → ∀ b, b < 4 → a ≠ b → (TX8 a).2.1 ≠ (TX8 b).2.1 := by decide +kernel
theorem tyX8_ok : ∀ k, k < 4 → parseFieldDescriptor (TX8 k).2.2.1 = some (tyX8 k) := by decide +kernel
abbrev cX8_init : ByteArray := prog_10_method_1_code
def yX8_init : MethodName := ⟨RX8, "<init>", "(II)V"⟩
abbrev cX8_has : ByteArray := prog_10_method_2_code
def yX8_has : MethodName := ⟨RX8, "has", "(I)Z"⟩
abbrev cX8_hasCell : ByteArray := prog_10_method_3_code
def yX8_hasCell : MethodName := ⟨RX8, "hasCell", "(II)Z"⟩
abbrev cX8_isFull : ByteArray := prog_10_method_4_code
def yX8_isFull : MethodName := ⟨RX8, "isFull", "()Z"⟩
abbrev cX8_cell : ByteArray := prog_10_method_5_code
def yX8_cell : MethodName := ⟨RX8, "cell", "(II)I"⟩
abbrev cX8_put : ByteArray := prog_10_method_6_code
def yX8_put : MethodName := ⟨RX8, "put", "(III)V"⟩
abbrev cX8_add : ByteArray := prog_10_method_7_code
def yX8_add : MethodName := ⟨RX8, "add", "(IIII)V"⟩
abbrev cX8_dropLast : ByteArray := prog_10_method_8_code
def yX8_dropLast : MethodName := ⟨RX8, "dropLast", "()V"⟩
abbrev cX8_clear : ByteArray := prog_10_method_9_code
def yX8_clear : MethodName := ⟨RX8, "clear", "()V"⟩
abbrev cX8_copyFrom : ByteArray := prog_10_method_10_code
def yX8_copyFrom : MethodName := ⟨RX8, "copyFrom", "(LHoopCabinet$Table;)V"⟩
def RX9 : String := "HoopCabinet"
def TX9 : u_T := fun k => match k with
  | 0 => ("HoopCabinet", "tape", "[B", true)
  | 1 => ("HoopCabinet", "tapeLength", "I", false)
  | 2 => ("HoopCabinet", "reader", "LHoopCabinet$Reader;", true)
  | 3 => ("HoopCabinet", "now", "LHoopCabinet$Ball;", true)
  | 4 => ("HoopCabinet", "draft", "LHoopCabinet$Ball;", true)
  | 5 => ("HoopCabinet", "images", "[LHoopCabinet$Ball;", true)
  | 6 => ("HoopCabinet", "kept", "[Z", true)
  | 7 => ("HoopCabinet", "slots", "[LHoopCabinet$Slot;", true)
  | 8 => ("HoopCabinet", "floor", "LHoopCabinet$Floor;", true)
  | 9 => ("HoopCabinet", "trial", "LHoopCabinet$Floor;", true)
  | 10 => ("HoopCabinet", "notes", "LHoopCabinet$Notes;", true)
  | 11 => ("HoopCabinet", "carrier", "LHoopCabinet$Carrier;", true)
  | 12 => ("HoopCabinet", "house", "LHoopCabinet$House;", true)
  | 13 => ("HoopCabinet", "music", "LHoopCabinet$Music;", true)
  | _ => ("HoopCabinet", "answers", "[I", true)
def tyX9 : Nat → FieldType := fun k => match k with
  | 0 => .array .byte
  | 1 => .int
  | 2 => .object "HoopCabinet$Reader"
  | 3 => .object "HoopCabinet$Ball"
  | 4 => .object "HoopCabinet$Ball"
  | 5 => .array (.object "HoopCabinet$Ball")
  | 6 => .array .boolean
  | 7 => .array (.object "HoopCabinet$Slot")
  | 8 => .object "HoopCabinet$Floor"
  | 9 => .object "HoopCabinet$Floor"
  | 10 => .object "HoopCabinet$Notes"
  | 11 => .object "HoopCabinet$Carrier"
  | 12 => .object "HoopCabinet$House"
  | 13 => .object "HoopCabinet$Music"
  | _ => .array .int
abbrev wsX90 : List Cond := u_ws RX9 TX9 15
theorem nmX9 : ∀ a, a < 15 → ∀ b, b < 15 → a ≠ b → (TX9 a).2.1 ≠ (TX9 b).2.1 := by decide +kernel
theorem tyX9_ok : ∀ k, k < 15 → parseFieldDescriptor (TX9 k).2.2.1 = some (tyX9 k) := by decide +kernel
abbrev cX9_init : ByteArray := prog_1_method_1_code
def yX9_init : MethodName := ⟨RX9, "<init>", "()V"⟩
abbrev cX9_feed : ByteArray := prog_1_method_2_code
def yX9_feed : MethodName := ⟨RX9, "feed", "(IIIII)I"⟩
abbrev cX9_appendFour : ByteArray := prog_1_method_3_code
def yX9_appendFour : MethodName := ⟨RX9, "appendFour", "(I)V"⟩
abbrev cX9_end : ByteArray := prog_1_method_4_code
def yX9_end : MethodName := ⟨RX9, "end", "(I)I"⟩
abbrev cX9_ball : ByteArray := prog_1_method_5_code
def yX9_ball : MethodName := ⟨RX9, "ball", "()I"⟩
abbrev cX9_fault : ByteArray := prog_1_method_6_code
def yX9_fault : MethodName := ⟨RX9, "fault", "(I)I"⟩
abbrev cX9_settle : ByteArray := prog_1_method_7_code
def yX9_settle : MethodName := ⟨RX9, "settle", "()V"⟩
abbrev cX9_door : ByteArray := prog_1_method_8_code
def yX9_door : MethodName := ⟨RX9, "door", "(II)I"⟩
abbrev cX9_lady : ByteArray := prog_1_method_9_code
def yX9_lady : MethodName := ⟨RX9, "lady", "(II)I"⟩
abbrev cX9_minister : ByteArray := prog_1_method_10_code
def yX9_minister : MethodName := ⟨RX9, "minister", "(II)I"⟩
abbrev cX9_way : ByteArray := prog_1_method_11_code
def yX9_way : MethodName := ⟨RX9, "way", "(III)I"⟩
abbrev cX9_reach : ByteArray := prog_1_method_12_code
def yX9_reach : MethodName := ⟨RX9, "reach", "(II)I"⟩
abbrev cX9_bidden : ByteArray := prog_1_method_13_code
def yX9_bidden : MethodName := ⟨RX9, "bidden", "(II)I"⟩
abbrev cX9_at : ByteArray := prog_1_method_14_code
def yX9_at : MethodName := ⟨RX9, "at", "(II)I"⟩
abbrev cX9_within : ByteArray := prog_1_method_15_code
def yX9_within : MethodName := ⟨RX9, "within", "(II)I"⟩
abbrev cX9_steps : ByteArray := prog_1_method_16_code
def yX9_steps : MethodName := ⟨RX9, "steps", "(I)I"⟩
abbrev cX9_sees : ByteArray := prog_1_method_17_code
def yX9_sees : MethodName := ⟨RX9, "sees", "(I)I"⟩
abbrev cX9_meets : ByteArray := prog_1_method_18_code
def yX9_meets : MethodName := ⟨RX9, "meets", "(II)I"⟩
abbrev cX9_often : ByteArray := prog_1_method_19_code
def yX9_often : MethodName := ⟨RX9, "often", "(II)I"⟩
abbrev cX9_friends : ByteArray := prog_1_method_20_code
def yX9_friends : MethodName := ⟨RX9, "friends", "(I)I"⟩
abbrev cX9_crush : ByteArray := prog_1_method_21_code
def yX9_crush : MethodName := ⟨RX9, "crush", "()I"⟩
abbrev cX9_crushed : ByteArray := prog_1_method_22_code
def yX9_crushed : MethodName := ⟨RX9, "crushed", "()I"⟩
abbrev cX9_fullest : ByteArray := prog_1_method_23_code
def yX9_fullest : MethodName := ⟨RX9, "fullest", "(I)I"⟩
abbrev cX9_likes : ByteArray := prog_1_method_24_code
def yX9_likes : MethodName := ⟨RX9, "likes", "(I)I"⟩
abbrev cX9_apart : ByteArray := prog_1_method_25_code
def yX9_apart : MethodName := ⟨RX9, "apart", "(III)I"⟩
abbrev cX9_alone : ByteArray := prog_1_method_26_code
def yX9_alone : MethodName := ⟨RX9, "alone", "(I)I"⟩
abbrev cX9_empty : ByteArray := prog_1_method_27_code
def yX9_empty : MethodName := ⟨RX9, "empty", "(I)I"⟩
abbrev cX9_late : ByteArray := prog_1_method_28_code
def yX9_late : MethodName := ⟨RX9, "late", "(I)I"⟩
abbrev cX9_waits : ByteArray := prog_1_method_29_code
def yX9_waits : MethodName := ⟨RX9, "waits", "(I)I"⟩
abbrev cX9_mate : ByteArray := prog_1_method_30_code
def yX9_mate : MethodName := ⟨RX9, "mate", "(I)I"⟩
abbrev cX9_passAsTold : ByteArray := prog_1_method_31_code
def yX9_passAsTold : MethodName := ⟨RX9, "passAsTold", "()V"⟩
abbrev cX9_inTheEnd : ByteArray := prog_1_method_32_code
def yX9_inTheEnd : MethodName := ⟨RX9, "inTheEnd", "(LHoopCabinet$Floor;I)I"⟩
abbrev cX9_hears : ByteArray := prog_1_method_33_code
def yX9_hears : MethodName := ⟨RX9, "hears", "(I)I"⟩
abbrev cX9_hands : ByteArray := prog_1_method_34_code
def yX9_hands : MethodName := ⟨RX9, "hands", "(II)I"⟩
abbrev cX9_have : ByteArray := prog_1_method_35_code
def yX9_have : MethodName := ⟨RX9, "have", "(II)I"⟩
abbrev cX9_gets : ByteArray := prog_1_method_36_code
def yX9_gets : MethodName := ⟨RX9, "gets", "(II)I"⟩
abbrev cX9_from : ByteArray := prog_1_method_37_code
def yX9_from : MethodName := ⟨RX9, "from", "(II)I"⟩
abbrev cX9_all : ByteArray := prog_1_method_38_code
def yX9_all : MethodName := ⟨RX9, "all", "(I)I"⟩
abbrev cX9_best : ByteArray := prog_1_method_39_code
def yX9_best : MethodName := ⟨RX9, "best", "()I"⟩
abbrev cX9_lasts : ByteArray := prog_1_method_40_code
def yX9_lasts : MethodName := ⟨RX9, "lasts", "(I)I"⟩
abbrev cX9_needed : ByteArray := prog_1_method_41_code
def yX9_needed : MethodName := ⟨RX9, "needed", "(I)I"⟩
abbrev cX9_by : ByteArray := prog_1_method_42_code
def yX9_by : MethodName := ⟨RX9, "by", "(II)I"⟩
abbrev cX9_carry : ByteArray := prog_1_method_43_code
def yX9_carry : MethodName := ⟨RX9, "carry", "(III)I"⟩
abbrev cX9_walk : ByteArray := prog_1_method_44_code
def yX9_walk : MethodName := ⟨RX9, "walk", "(IIII)I"⟩
abbrev cX9_widen : ByteArray := prog_1_method_45_code
def yX9_widen : MethodName := ⟨RX9, "widen", "(II)I"⟩
abbrev cX9_shut : ByteArray := prog_1_method_46_code
def yX9_shut : MethodName := ⟨RX9, "shut", "(II)I"⟩
abbrev cX9_bars : ByteArray := prog_1_method_47_code
def yX9_bars : MethodName := ⟨RX9, "bars", "(III)I"⟩
abbrev cX9_firsts : ByteArray := prog_1_method_48_code
def yX9_firsts : MethodName := ⟨RX9, "firsts", "(I)I"⟩
abbrev cX9_ask : ByteArray := prog_1_method_49_code
def yX9_ask : MethodName := ⟨RX9, "ask", "(I)I"⟩
abbrev cX9_leaves : ByteArray := prog_1_method_50_code
def yX9_leaves : MethodName := ⟨RX9, "leaves", "(I)I"⟩
abbrev cX9_seenFault : ByteArray := prog_1_method_51_code
def yX9_seenFault : MethodName := ⟨RX9, "seenFault", "(I)I"⟩
abbrev cX9_isSighting : ByteArray := prog_1_method_52_code
def yX9_isSighting : MethodName := ⟨RX9, "isSighting", "(JJJ)Z"⟩
abbrev cX9_possibleFirsts : ByteArray := prog_1_method_53_code
def yX9_possibleFirsts : MethodName := ⟨RX9, "possibleFirsts", "(LHoopCabinet$Slot;)I"⟩
abbrev cX9_agrees : ByteArray := prog_1_method_54_code
def yX9_agrees : MethodName := ⟨RX9, "agrees", "(LHoopCabinet$Slot;)Z"⟩
abbrev cX9_bestAsked : ByteArray := prog_1_method_55_code
def yX9_bestAsked : MethodName := ⟨RX9, "bestAsked", "(I)I"⟩
abbrev cX9_leftAtWorst : ByteArray := prog_1_method_56_code
def yX9_leftAtWorst : MethodName := ⟨RX9, "leftAtWorst", "(II)I"⟩
abbrev cX9_seats : ByteArray := prog_1_method_57_code
def yX9_seats : MethodName := ⟨RX9, "seats", "(I)I"⟩
abbrev cX9_under : ByteArray := prog_1_method_58_code
def yX9_under : MethodName := ⟨RX9, "under", "(I)I"⟩
abbrev cX9_holds : ByteArray := prog_1_method_59_code
def yX9_holds : MethodName := ⟨RX9, "holds", "(I)I"⟩
abbrev cX9_blocks : ByteArray := prog_1_method_60_code
def yX9_blocks : MethodName := ⟨RX9, "blocks", "(I)I"⟩
abbrev cX9_power : ByteArray := prog_1_method_61_code
def yX9_power : MethodName := ⟨RX9, "power", "(I)I"⟩
abbrev cX9_dummies : ByteArray := prog_1_method_62_code
def yX9_dummies : MethodName := ⟨RX9, "dummies", "()I"⟩
abbrev cX9_strongest : ByteArray := prog_1_method_63_code
def yX9_strongest : MethodName := ⟨RX9, "strongest", "()I"⟩
abbrev cX9_part : ByteArray := prog_1_method_64_code
def yX9_part : MethodName := ⟨RX9, "part", "(II)I"⟩
abbrev cX9_cabinet : ByteArray := prog_1_method_65_code
def yX9_cabinet : MethodName := ⟨RX9, "cabinet", "()I"⟩
abbrev cX9_cabinets : ByteArray := prog_1_method_66_code
def yX9_cabinets : MethodName := ⟨RX9, "cabinets", "()I"⟩
abbrev cX9_kingmaker : ByteArray := prog_1_method_67_code
def yX9_kingmaker : MethodName := ⟨RX9, "kingmaker", "()I"⟩
abbrev cX9_makesOneHold : ByteArray := prog_1_method_68_code
def yX9_makesOneHold : MethodName := ⟨RX9, "makesOneHold", "(I)Z"⟩
abbrev cX9_rests : ByteArray := prog_1_method_69_code
def yX9_rests : MethodName := ⟨RX9, "rests", "(II)I"⟩
abbrev cX9_gains : ByteArray := prog_1_method_70_code
def yX9_gains : MethodName := ⟨RX9, "gains", "(IIII)I"⟩
abbrev cX9_isContent : ByteArray := prog_1_method_71_code
def yX9_isContent : MethodName := ⟨RX9, "isContent", "(IIII)Z"⟩
abbrev cX9_gainOf : ByteArray := prog_1_method_72_code
def yX9_gainOf : MethodName := ⟨RX9, "gainOf", "(IIII)I"⟩
abbrev cX9_chance : ByteArray := prog_1_method_73_code
def yX9_chance : MethodName := ⟨RX9, "chance", "(IIII)J"⟩
abbrev cX9_mean : ByteArray := prog_1_method_74_code
def yX9_mean : MethodName := ⟨RX9, "mean", "(III)J"⟩
abbrev cX9_isChanceDance : ByteArray := prog_1_method_75_code
def yX9_isChanceDance : MethodName := ⟨RX9, "isChanceDance", "(I)Z"⟩
abbrev cX9_drawn : ByteArray := prog_1_method_76_code
def yX9_drawn : MethodName := ⟨RX9, "drawn", "(III)I"⟩
abbrev cX9_luck : ByteArray := prog_1_method_77_code
def yX9_luck : MethodName := ⟨RX9, "luck", "(IIII)I"⟩
abbrev cX9_drawnHolders : ByteArray := prog_1_method_78_code
def yX9_drawnHolders : MethodName := ⟨RX9, "drawnHolders", "(II)I"⟩
abbrev cX9_loudDances : ByteArray := prog_1_method_79_code
def yX9_loudDances : MethodName := ⟨RX9, "loudDances", "(I)I"⟩
abbrev cX9_bid : ByteArray := prog_1_method_80_code
def yX9_bid : MethodName := ⟨RX9, "bid", "(III)I"⟩
abbrev cX9_move : ByteArray := prog_1_method_81_code
def yX9_move : MethodName := ⟨RX9, "move", "(II)I"⟩
abbrev cX9_undo : ByteArray := prog_1_method_82_code
def yX9_undo : MethodName := ⟨RX9, "undo", "()I"⟩
abbrev cX9_anew : ByteArray := prog_1_method_83_code
def yX9_anew : MethodName := ⟨RX9, "anew", "()I"⟩
abbrev cX9_hang : ByteArray := prog_1_method_84_code
def yX9_hang : MethodName := ⟨RX9, "hang", "(II)I"⟩
abbrev cX9_count : ByteArray := prog_1_method_85_code
def yX9_count : MethodName := ⟨RX9, "count", "(I)I"⟩
abbrev cX9_slotsWithRow : ByteArray := prog_1_method_86_code
def yX9_slotsWithRow : MethodName := ⟨RX9, "slotsWithRow", "()I"⟩
abbrev cX9_image : ByteArray := prog_1_method_87_code
def yX9_image : MethodName := ⟨RX9, "image", "(I)I"⟩
abbrev cX9_back : ByteArray := prog_1_method_88_code
def yX9_back : MethodName := ⟨RX9, "back", "(I)I"⟩
abbrev cX9_row : ByteArray := prog_1_method_89_code
def yX9_row : MethodName := ⟨RX9, "row", "(III)I"⟩
abbrev cX9_write : ByteArray := prog_1_method_90_code
def yX9_write : MethodName := ⟨RX9, "write", "(IIJ)I"⟩
abbrev cX9_paste : ByteArray := prog_1_method_91_code
def yX9_paste : MethodName := ⟨RX9, "paste", "(IIIII)I"⟩
abbrev cX9_isSlot : ByteArray := prog_1_method_92_code
def yX9_isSlot : MethodName := ⟨RX9, "isSlot", "(I)Z"⟩
abbrev cX9_isSeed : ByteArray := prog_1_method_93_code
def yX9_isSeed : MethodName := ⟨RX9, "isSeed", "(I)Z"⟩
abbrev cX9_isPart : ByteArray := prog_1_method_94_code
def yX9_isPart : MethodName := ⟨RX9, "isPart", "(I)Z"⟩
abbrev cX9_hasBit : ByteArray := prog_1_method_95_code
def yX9_hasBit : MethodName := ⟨RX9, "hasBit", "(II)Z"⟩
abbrev cX9_lowest : ByteArray := prog_1_method_96_code
def yX9_lowest : MethodName := ⟨RX9, "lowest", "(I)I"⟩
abbrev cX9_lowestTerms : ByteArray := prog_1_method_97_code
def yX9_lowestTerms : MethodName := ⟨RX9, "lowestTerms", "(JJI)J"⟩
def RX10 : String := "HoopCabinetModel"
def TX10 : u_T := fun k => match k with
  | 0 => ("HoopCabinetModel", "thrown", "I", false)
  | 1 => ("HoopCabinetModel", "world", "[I", true)
  | 2 => ("HoopCabinetModel", "images", "[I", true)
  | 3 => ("HoopCabinetModel", "hasImage", "[Z", true)
  | 4 => ("HoopCabinetModel", "tape", "[B", true)
  | 5 => ("HoopCabinetModel", "taped", "I", false)
  | 6 => ("HoopCabinetModel", "five", "[I", true)
  | 7 => ("HoopCabinetModel", "size", "I", false)
  | 8 => ("HoopCabinetModel", "at", "I", false)
  | 9 => ("HoopCabinetModel", "from", "I", false)
  | 10 => ("HoopCabinetModel", "token", "I", false)
  | 11 => ("HoopCabinetModel", "value", "I", false)
  | 12 => ("HoopCabinetModel", "faultKind", "I", false)
  | 13 => ("HoopCabinetModel", "faultPlace", "I", false)
  | 14 => ("HoopCabinetModel", "fresh", "[I", true)
  | 15 => ("HoopCabinetModel", "ways", "[I", true)
  | 16 => ("HoopCabinetModel", "oddDoor", "I", false)
  | 17 => ("HoopCabinetModel", "oddWide", "I", false)
  | 18 => ("HoopCabinetModel", "atBy", "[I", true)
  | 19 => ("HoopCabinetModel", "underOf", "[I", true)
  | 20 => ("HoopCabinetModel", "seatsOf", "[I", true)
  | 21 => ("HoopCabinetModel", "gone", "I", false)
  | 22 => ("HoopCabinetModel", "stayers", "I", false)
  | 23 => ("HoopCabinetModel", "lawNow", "I", false)
  | 24 => ("HoopCabinetModel", "loudSet", "I", false)
  | 25 => ("HoopCabinetModel", "crushMost", "I", false)
  | 26 => ("HoopCabinetModel", "haveAt", "[I", true)
  | 27 => ("HoopCabinetModel", "getsAt", "[I", true)
  | 28 => ("HoopCabinetModel", "giverOf", "[I", true)
  | 29 => ("HoopCabinetModel", "canGive", "[Z", true)
  | 30 => ("HoopCabinetModel", "walkRow", "[I", true)
  | 31 => ("HoopCabinetModel", "getsBy", "[I", true)
  | 32 => ("HoopCabinetModel", "askWorst", "I", false)
  | 33 => ("HoopCabinetModel", "oftenAll", "J", false)
  | 34 => ("HoopCabinetModel", "oftenHas", "J", false)
  | 35 => ("HoopCabinetModel", "oftenMany", "J", false)
  | 36 => ("HoopCabinetModel", "many", "[I", true)
  | 37 => ("HoopCabinetModel", "width", "[I", true)
  | 38 => ("HoopCabinetModel", "numbers", "[J", true)
  | _ => ("HoopCabinetModel", "moving", "[J", true)
def tyX10 : Nat → FieldType := fun k => match k with
  | 0 => .int
  | 1 => .array .int
  | 2 => .array .int
  | 3 => .array .boolean
  | 4 => .array .byte
  | 5 => .int
  | 6 => .array .int
  | 7 => .int
  | 8 => .int
  | 9 => .int
  | 10 => .int
  | 11 => .int
  | 12 => .int
  | 13 => .int
  | 14 => .array .int
  | 15 => .array .int
  | 16 => .int
  | 17 => .int
  | 18 => .array .int
  | 19 => .array .int
  | 20 => .array .int
  | 21 => .int
  | 22 => .int
  | 23 => .int
  | 24 => .int
  | 25 => .int
  | 26 => .array .int
  | 27 => .array .int
  | 28 => .array .int
  | 29 => .array .boolean
  | 30 => .array .int
  | 31 => .array .int
  | 32 => .int
  | 33 => .long
  | 34 => .long
  | 35 => .long
  | 36 => .array .int
  | 37 => .array .int
  | 38 => .array .long
  | _ => .array .long
abbrev wsX100 : List Cond := u_ws RX10 TX10 40
theorem nmX10 : ∀ a, a < 40 → ∀ b, b < 40 → a ≠ b → (TX10 a).2.1 ≠ (TX10 b).2.1 := by decide +kernel
theorem tyX10_ok : ∀ k, k < 40 → parseFieldDescriptor (TX10 k).2.2.1 = some (tyX10 k) := by decide +kernel
abbrev cX10_init : ByteArray := prog_12_method_1_code
def yX10_init : MethodName := ⟨RX10, "<init>", "()V"⟩
abbrev cX10_in : ByteArray := prog_12_method_3_code
def yX10_in : MethodName := ⟨RX10, "in", "(JJJ)Z"⟩
abbrev cX10_bits : ByteArray := prog_12_method_4_code
def yX10_bits : MethodName := ⟨RX10, "bits", "(I)I"⟩
abbrev cX10_bit : ByteArray := prog_12_method_5_code
def yX10_bit : MethodName := ⟨RX10, "bit", "(II)I"⟩
abbrev cX10_image : ByteArray := prog_12_method_6_code
def yX10_image : MethodName := ⟨RX10, "image", "(I)I"⟩
abbrev cX10_back : ByteArray := prog_12_method_7_code
def yX10_back : MethodName := ⟨RX10, "back", "(I)I"⟩
abbrev cX10_isBall : ByteArray := prog_12_method_8_code
def yX10_isBall : MethodName := ⟨RX10, "isBall", "()Z"⟩
abbrev cX10_isRoom : ByteArray := prog_12_method_9_code
def yX10_isRoom : MethodName := ⟨RX10, "isRoom", "(I)Z"⟩
abbrev cX10_isDance : ByteArray := prog_12_method_10_code
def yX10_isDance : MethodName := ⟨RX10, "isDance", "(J)Z"⟩
abbrev cX10_isDoor : ByteArray := prog_12_method_11_code
def yX10_isDoor : MethodName := ⟨RX10, "isDoor", "(I)Z"⟩
abbrev cX10_isLady : ByteArray := prog_12_method_12_code
def yX10_isLady : MethodName := ⟨RX10, "isLady", "(J)Z"⟩
abbrev cX10_isMinister : ByteArray := prog_12_method_13_code
def yX10_isMinister : MethodName := ⟨RX10, "isMinister", "(I)Z"⟩
abbrev cX10_isSet : ByteArray := prog_12_method_14_code
def yX10_isSet : MethodName := ⟨RX10, "isSet", "(I)Z"⟩
abbrev cX10_dances : ByteArray := prog_12_method_15_code
def yX10_dances : MethodName := ⟨RX10, "dances", "()I"⟩
abbrev cX10_ladies : ByteArray := prog_12_method_16_code
def yX10_ladies : MethodName := ⟨RX10, "ladies", "()I"⟩
abbrev cX10_wideOf : ByteArray := prog_12_method_17_code
def yX10_wideOf : MethodName := ⟨RX10, "wideOf", "(I)I"⟩
abbrev cX10_feed : ByteArray := prog_12_method_18_code
def yX10_feed : MethodName := ⟨RX10, "feed", "(IIIII)I"⟩
abbrev cX10_end : ByteArray := prog_12_method_19_code
def yX10_end : MethodName := ⟨RX10, "end", "(I)I"⟩
abbrev cX10_see : ByteArray := prog_12_method_20_code
def yX10_see : MethodName := ⟨RX10, "see", "(I)I"⟩
abbrev cX10_advance : ByteArray := prog_12_method_21_code
def yX10_advance : MethodName := ⟨RX10, "advance", "()V"⟩
abbrev cX10_good : ByteArray := prog_12_method_22_code
def yX10_good : MethodName := ⟨RX10, "good", "()Z"⟩
abbrev cX10_errs : ByteArray := prog_12_method_23_code
def yX10_errs : MethodName := ⟨RX10, "errs", "(I)V"⟩
abbrev cX10_is : ByteArray := prog_12_method_24_code
def yX10_is : MethodName := ⟨RX10, "is", "(Ljava/lang/String;)Z"⟩
abbrev cX10_takes : ByteArray := prog_12_method_25_code
def yX10_takes : MethodName := ⟨RX10, "takes", "(Ljava/lang/String;)Z"⟩
abbrev cX10_needs : ByteArray := prog_12_method_26_code
def yX10_needs : MethodName := ⟨RX10, "needs", "(Ljava/lang/String;)V"⟩
abbrev cX10_number : ByteArray := prog_12_method_27_code
def yX10_number : MethodName := ⟨RX10, "number", "(II)I"⟩
abbrev cX10_told : ByteArray := prog_12_method_28_code
def yX10_told : MethodName := ⟨RX10, "told", "(Ljava/lang/String;II)I"⟩
abbrev cX10_fault : ByteArray := prog_12_method_29_code
def yX10_fault : MethodName := ⟨RX10, "fault", "(I)I"⟩
abbrev cX10_freshRoom : ByteArray := prog_12_method_30_code
def yX10_freshRoom : MethodName := ⟨RX10, "freshRoom", "(Ljava/lang/String;)I"⟩
abbrev cX10_readFirst : ByteArray := prog_12_method_31_code
def yX10_readFirst : MethodName := ⟨RX10, "readFirst", "()V"⟩
abbrev cX10_readDoor : ByteArray := prog_12_method_32_code
def yX10_readDoor : MethodName := ⟨RX10, "readDoor", "()V"⟩
abbrev cX10_readBid : ByteArray := prog_12_method_33_code
def yX10_readBid : MethodName := ⟨RX10, "readBid", "()V"⟩
abbrev cX10_isFull : ByteArray := prog_12_method_34_code
def yX10_isFull : MethodName := ⟨RX10, "isFull", "()Z"⟩
abbrev cX10_readNext : ByteArray := prog_12_method_35_code
def yX10_readNext : MethodName := ⟨RX10, "readNext", "()V"⟩
abbrev cX10_readLine : ByteArray := prog_12_method_36_code
def yX10_readLine : MethodName := ⟨RX10, "readLine", "()V"⟩
abbrev cX10_ball : ByteArray := prog_12_method_37_code
def yX10_ball : MethodName := ⟨RX10, "ball", "()I"⟩
abbrev cX10_door : ByteArray := prog_12_method_38_code
def yX10_door : MethodName := ⟨RX10, "door", "(II)I"⟩
abbrev cX10_lady : ByteArray := prog_12_method_39_code
def yX10_lady : MethodName := ⟨RX10, "lady", "(II)I"⟩
abbrev cX10_wayOf : ByteArray := prog_12_method_40_code
def yX10_wayOf : MethodName := ⟨RX10, "wayOf", "(III)I"⟩
abbrev cX10_layWays : ByteArray := prog_12_method_41_code
def yX10_layWays : MethodName := ⟨RX10, "layWays", "()V"⟩
abbrev cX10_atOf : ByteArray := prog_12_method_42_code
def yX10_atOf : MethodName := ⟨RX10, "atOf", "(II)I"⟩
abbrev cX10_biddenOf : ByteArray := prog_12_method_43_code
def yX10_biddenOf : MethodName := ⟨RX10, "biddenOf", "(II)I"⟩
abbrev cX10_nextRoom : ByteArray := prog_12_method_44_code
def yX10_nextRoom : MethodName := ⟨RX10, "nextRoom", "(III)I"⟩
abbrev cX10_layPlaces : ByteArray := prog_12_method_45_code
def yX10_layPlaces : MethodName := ⟨RX10, "layPlaces", "()V"⟩
abbrev cX10_layMinisters : ByteArray := prog_12_method_46_code
def yX10_layMinisters : MethodName := ⟨RX10, "layMinisters", "()V"⟩
abbrev cX10_asItIs : ByteArray := prog_12_method_47_code
def yX10_asItIs : MethodName := ⟨RX10, "asItIs", "()V"⟩
abbrev cX10_asksBall : ByteArray := prog_12_method_48_code
def yX10_asksBall : MethodName := ⟨RX10, "asksBall", "()Z"⟩
abbrev cX10_asksLady : ByteArray := prog_12_method_49_code
def yX10_asksLady : MethodName := ⟨RX10, "asksLady", "(I)Z"⟩
abbrev cX10_asksDance : ByteArray := prog_12_method_50_code
def yX10_asksDance : MethodName := ⟨RX10, "asksDance", "(I)Z"⟩
abbrev cX10_doMeet : ByteArray := prog_12_method_51_code
def yX10_doMeet : MethodName := ⟨RX10, "doMeet", "(III)Z"⟩
abbrev cX10_minister : ByteArray := prog_12_method_52_code
def yX10_minister : MethodName := ⟨RX10, "minister", "(II)I"⟩
abbrev cX10_way : ByteArray := prog_12_method_53_code
def yX10_way : MethodName := ⟨RX10, "way", "(III)I"⟩
abbrev cX10_reach : ByteArray := prog_12_method_54_code
def yX10_reach : MethodName := ⟨RX10, "reach", "(II)I"⟩
abbrev cX10_bidden : ByteArray := prog_12_method_55_code
def yX10_bidden : MethodName := ⟨RX10, "bidden", "(II)I"⟩
abbrev cX10_at : ByteArray := prog_12_method_56_code
def yX10_at : MethodName := ⟨RX10, "at", "(II)I"⟩
abbrev cX10_withinOf : ByteArray := prog_12_method_57_code
def yX10_withinOf : MethodName := ⟨RX10, "withinOf", "(II)I"⟩
abbrev cX10_within : ByteArray := prog_12_method_58_code
def yX10_within : MethodName := ⟨RX10, "within", "(II)I"⟩
abbrev cX10_stepsOf : ByteArray := prog_12_method_59_code
def yX10_stepsOf : MethodName := ⟨RX10, "stepsOf", "(I)I"⟩
abbrev cX10_steps : ByteArray := prog_12_method_60_code
def yX10_steps : MethodName := ⟨RX10, "steps", "(I)I"⟩
abbrev cX10_sees : ByteArray := prog_12_method_61_code
def yX10_sees : MethodName := ⟨RX10, "sees", "(I)I"⟩
abbrev cX10_firstMeet : ByteArray := prog_12_method_62_code
def yX10_firstMeet : MethodName := ⟨RX10, "firstMeet", "(II)I"⟩
abbrev cX10_meets : ByteArray := prog_12_method_63_code
def yX10_meets : MethodName := ⟨RX10, "meets", "(II)I"⟩
abbrev cX10_oftenMeet : ByteArray := prog_12_method_64_code
def yX10_oftenMeet : MethodName := ⟨RX10, "oftenMeet", "(II)I"⟩
abbrev cX10_often : ByteArray := prog_12_method_65_code
def yX10_often : MethodName := ⟨RX10, "often", "(II)I"⟩
abbrev cX10_friendsOf : ByteArray := prog_12_method_66_code
def yX10_friendsOf : MethodName := ⟨RX10, "friendsOf", "(I)I"⟩
abbrev cX10_friends : ByteArray := prog_12_method_67_code
def yX10_friends : MethodName := ⟨RX10, "friends", "(I)I"⟩
abbrev cX10_crushOf : ByteArray := prog_12_method_68_code
def yX10_crushOf : MethodName := ⟨RX10, "crushOf", "()I"⟩
abbrev cX10_crush : ByteArray := prog_12_method_69_code
def yX10_crush : MethodName := ⟨RX10, "crush", "()I"⟩
abbrev cX10_crushed : ByteArray := prog_12_method_70_code
def yX10_crushed : MethodName := ⟨RX10, "crushed", "()I"⟩
abbrev cX10_likes : ByteArray := prog_12_method_71_code
def yX10_likes : MethodName := ⟨RX10, "likes", "(I)I"⟩
abbrev cX10_apart : ByteArray := prog_12_method_72_code
def yX10_apart : MethodName := ⟨RX10, "apart", "(III)I"⟩
abbrev cX10_alone : ByteArray := prog_12_method_73_code
def yX10_alone : MethodName := ⟨RX10, "alone", "(I)I"⟩
abbrev cX10_empty : ByteArray := prog_12_method_74_code
def yX10_empty : MethodName := ⟨RX10, "empty", "(I)I"⟩
abbrev cX10_late : ByteArray := prog_12_method_75_code
def yX10_late : MethodName := ⟨RX10, "late", "(I)I"⟩
abbrev cX10_waits : ByteArray := prog_12_method_76_code
def yX10_waits : MethodName := ⟨RX10, "waits", "(I)I"⟩
abbrev cX10_mate : ByteArray := prog_12_method_77_code
def yX10_mate : MethodName := ⟨RX10, "mate", "(I)I"⟩
abbrev cX10_doesGive : ByteArray := prog_12_method_78_code
def yX10_doesGive : MethodName := ⟨RX10, "doesGive", "(II)Z"⟩
abbrev cX10_giverTo : ByteArray := prog_12_method_79_code
def yX10_giverTo : MethodName := ⟨RX10, "giverTo", "(III)I"⟩
abbrev cX10_goNote : ByteArray := prog_12_method_80_code
def yX10_goNote : MethodName := ⟨RX10, "goNote", "(II)I"⟩
abbrev cX10_goNote_ : ByteArray := prog_12_method_81_code
def yX10_goNote_ : MethodName := ⟨RX10, "goNote", "(I)I"⟩
abbrev cX10_have : ByteArray := prog_12_method_82_code
def yX10_have : MethodName := ⟨RX10, "have", "(II)I"⟩
abbrev cX10_asksNote : ByteArray := prog_12_method_83_code
def yX10_asksNote : MethodName := ⟨RX10, "asksNote", "(II)Z"⟩
abbrev cX10_gets : ByteArray := prog_12_method_84_code
def yX10_gets : MethodName := ⟨RX10, "gets", "(II)I"⟩
abbrev cX10_from : ByteArray := prog_12_method_85_code
def yX10_from : MethodName := ⟨RX10, "from", "(II)I"⟩
abbrev cX10_hands : ByteArray := prog_12_method_86_code
def yX10_hands : MethodName := ⟨RX10, "hands", "(II)I"⟩
abbrev cX10_all : ByteArray := prog_12_method_87_code
def yX10_all : MethodName := ⟨RX10, "all", "(I)I"⟩
abbrev cX10_best : ByteArray := prog_12_method_88_code
def yX10_best : MethodName := ⟨RX10, "best", "()I"⟩
abbrev cX10_lasts : ByteArray := prog_12_method_89_code
def yX10_lasts : MethodName := ⟨RX10, "lasts", "(I)I"⟩
abbrev cX10_needed : ByteArray := prog_12_method_90_code
def yX10_needed : MethodName := ⟨RX10, "needed", "(I)I"⟩
abbrev cX10_by : ByteArray := prog_12_method_91_code
def yX10_by : MethodName := ⟨RX10, "by", "(II)I"⟩
abbrev cX10_hears : ByteArray := prog_12_method_92_code
def yX10_hears : MethodName := ⟨RX10, "hears", "(I)I"⟩
abbrev cX10_carryState : ByteArray := prog_12_method_93_code
def yX10_carryState : MethodName := ⟨RX10, "carryState", "(III)I"⟩
abbrev cX10_takesIn : ByteArray := prog_12_method_94_code
def yX10_takesIn : MethodName := ⟨RX10, "takesIn", "(IIII)Z"⟩
abbrev cX10_isBeside : ByteArray := prog_12_method_95_code
def yX10_isBeside : MethodName := ⟨RX10, "isBeside", "(III)Z"⟩
abbrev cX10_layCarry : ByteArray := prog_12_method_96_code
def yX10_layCarry : MethodName := ⟨RX10, "layCarry", "(IIII)V"⟩
abbrev cX10_layWalk : ByteArray := prog_12_method_97_code
def yX10_layWalk : MethodName := ⟨RX10, "layWalk", "(III)I"⟩
abbrev cX10_asksCarry : ByteArray := prog_12_method_98_code
def yX10_asksCarry : MethodName := ⟨RX10, "asksCarry", "(III)Z"⟩
abbrev cX10_carry : ByteArray := prog_12_method_99_code
def yX10_carry : MethodName := ⟨RX10, "carry", "(III)I"⟩
abbrev cX10_walk : ByteArray := prog_12_method_100_code
def yX10_walk : MethodName := ⟨RX10, "walk", "(IIII)I"⟩
abbrev cX10_haveWith : ByteArray := prog_12_method_101_code
def yX10_haveWith : MethodName := ⟨RX10, "haveWith", "(III)I"⟩
abbrev cX10_widen : ByteArray := prog_12_method_102_code
def yX10_widen : MethodName := ⟨RX10, "widen", "(II)I"⟩
abbrev cX10_shut : ByteArray := prog_12_method_103_code
def yX10_shut : MethodName := ⟨RX10, "shut", "(II)I"⟩
abbrev cX10_bars : ByteArray := prog_12_method_104_code
def yX10_bars : MethodName := ⟨RX10, "bars", "(III)I"⟩
abbrev cX10_numberAt : ByteArray := prog_12_method_105_code
def yX10_numberAt : MethodName := ⟨RX10, "numberAt", "(II)J"⟩
abbrev cX10_isThree : ByteArray := prog_12_method_106_code
def yX10_isThree : MethodName := ⟨RX10, "isThree", "(II)Z"⟩
abbrev cX10_layFirsts : ByteArray := prog_12_method_107_code
def yX10_layFirsts : MethodName := ⟨RX10, "layFirsts", "(I)I"⟩
abbrev cX10_firsts : ByteArray := prog_12_method_108_code
def yX10_firsts : MethodName := ⟨RX10, "firsts", "(I)I"⟩
abbrev cX10_askOf : ByteArray := prog_12_method_109_code
def yX10_askOf : MethodName := ⟨RX10, "askOf", "(I)I"⟩
abbrev cX10_ask : ByteArray := prog_12_method_110_code
def yX10_ask : MethodName := ⟨RX10, "ask", "(I)I"⟩
abbrev cX10_leaves : ByteArray := prog_12_method_111_code
def yX10_leaves : MethodName := ⟨RX10, "leaves", "(I)I"⟩
abbrev cX10_seatsIn : ByteArray := prog_12_method_112_code
def yX10_seatsIn : MethodName := ⟨RX10, "seatsIn", "(I)I"⟩
abbrev cX10_allLadies : ByteArray := prog_12_method_113_code
def yX10_allLadies : MethodName := ⟨RX10, "allLadies", "()I"⟩
abbrev cX10_doesHold : ByteArray := prog_12_method_114_code
def yX10_doesHold : MethodName := ⟨RX10, "doesHold", "(I)Z"⟩
abbrev cX10_powerOf : ByteArray := prog_12_method_115_code
def yX10_powerOf : MethodName := ⟨RX10, "powerOf", "(I)I"⟩
abbrev cX10_seats : ByteArray := prog_12_method_116_code
def yX10_seats : MethodName := ⟨RX10, "seats", "(I)I"⟩
abbrev cX10_under : ByteArray := prog_12_method_117_code
def yX10_under : MethodName := ⟨RX10, "under", "(I)I"⟩
abbrev cX10_holds : ByteArray := prog_12_method_118_code
def yX10_holds : MethodName := ⟨RX10, "holds", "(I)I"⟩
abbrev cX10_blocks : ByteArray := prog_12_method_119_code
def yX10_blocks : MethodName := ⟨RX10, "blocks", "(I)I"⟩
abbrev cX10_power : ByteArray := prog_12_method_120_code
def yX10_power : MethodName := ⟨RX10, "power", "(I)I"⟩
abbrev cX10_divisor : ByteArray := prog_12_method_121_code
def yX10_divisor : MethodName := ⟨RX10, "divisor", "(JJ)J"⟩
abbrev cX10_lowest : ByteArray := prog_12_method_122_code
def yX10_lowest : MethodName := ⟨RX10, "lowest", "(JJI)J"⟩
abbrev cX10_part : ByteArray := prog_12_method_123_code
def yX10_part : MethodName := ⟨RX10, "part", "(II)I"⟩
abbrev cX10_dummies : ByteArray := prog_12_method_124_code
def yX10_dummies : MethodName := ⟨RX10, "dummies", "()I"⟩
abbrev cX10_strongest : ByteArray := prog_12_method_125_code
def yX10_strongest : MethodName := ⟨RX10, "strongest", "()I"⟩
abbrev cX10_cabinet : ByteArray := prog_12_method_126_code
def yX10_cabinet : MethodName := ⟨RX10, "cabinet", "()I"⟩
abbrev cX10_isLeast : ByteArray := prog_12_method_127_code
def yX10_isLeast : MethodName := ⟨RX10, "isLeast", "(I)Z"⟩
abbrev cX10_cabinets : ByteArray := prog_12_method_128_code
def yX10_cabinets : MethodName := ⟨RX10, "cabinets", "()I"⟩
abbrev cX10_kingmaker : ByteArray := prog_12_method_129_code
def yX10_kingmaker : MethodName := ⟨RX10, "kingmaker", "()I"⟩
abbrev cX10_gainsBy : ByteArray := prog_12_method_130_code
def yX10_gainsBy : MethodName := ⟨RX10, "gainsBy", "(IIIII)I"⟩
abbrev cX10_areTwo : ByteArray := prog_12_method_131_code
def yX10_areTwo : MethodName := ⟨RX10, "areTwo", "(II)Z"⟩
abbrev cX10_rests : ByteArray := prog_12_method_132_code
def yX10_rests : MethodName := ⟨RX10, "rests", "(II)I"⟩
abbrev cX10_gains : ByteArray := prog_12_method_133_code
def yX10_gains : MethodName := ⟨RX10, "gains", "(IIII)I"⟩
abbrev cX10_layMusic : ByteArray := prog_12_method_134_code
def yX10_layMusic : MethodName := ⟨RX10, "layMusic", "(III)V"⟩
abbrev cX10_asksMusic : ByteArray := prog_12_method_135_code
def yX10_asksMusic : MethodName := ⟨RX10, "asksMusic", "(III)Z"⟩
abbrev cX10_chance : ByteArray := prog_12_method_136_code
def yX10_chance : MethodName := ⟨RX10, "chance", "(IIII)J"⟩
abbrev cX10_mean : ByteArray := prog_12_method_137_code
def yX10_mean : MethodName := ⟨RX10, "mean", "(III)J"⟩
abbrev cX10_keepAct : ByteArray := prog_12_method_138_code
def yX10_keepAct : MethodName := ⟨RX10, "keepAct", "(I)I"⟩
abbrev cX10_bid : ByteArray := prog_12_method_139_code
def yX10_bid : MethodName := ⟨RX10, "bid", "(III)I"⟩
abbrev cX10_move : ByteArray := prog_12_method_140_code
def yX10_move : MethodName := ⟨RX10, "move", "(II)I"⟩
abbrev cX10_undo : ByteArray := prog_12_method_141_code
def yX10_undo : MethodName := ⟨RX10, "undo", "()I"⟩
abbrev cX10_anew : ByteArray := prog_12_method_142_code
def yX10_anew : MethodName := ⟨RX10, "anew", "()I"⟩
abbrev cX10_goDrawn : ByteArray := prog_12_method_143_code
def yX10_goDrawn : MethodName := ⟨RX10, "goDrawn", "(JI)I"⟩
abbrev cX10_isSeed : ByteArray := prog_12_method_144_code
def yX10_isSeed : MethodName := ⟨RX10, "isSeed", "(I)Z"⟩
abbrev cX10_drawn : ByteArray := prog_12_method_145_code
def yX10_drawn : MethodName := ⟨RX10, "drawn", "(III)I"⟩
abbrev cX10_luck : ByteArray := prog_12_method_146_code
def yX10_luck : MethodName := ⟨RX10, "luck", "(IIII)I"⟩
abbrev cX10_hang : ByteArray := prog_12_method_147_code
def yX10_hang : MethodName := ⟨RX10, "hang", "(II)I"⟩
abbrev cX10_count : ByteArray := prog_12_method_148_code
def yX10_count : MethodName := ⟨RX10, "count", "(I)I"⟩
abbrev cX10_isSlot : ByteArray := prog_12_method_149_code
def yX10_isSlot : MethodName := ⟨RX10, "isSlot", "(I)Z"⟩
abbrev cX10_cut : ByteArray := prog_12_method_150_code
def yX10_cut : MethodName := ⟨RX10, "cut", "(JI)J"⟩
abbrev cX10_row : ByteArray := prog_12_method_151_code
def yX10_row : MethodName := ⟨RX10, "row", "(III)I"⟩
abbrev cX10_write : ByteArray := prog_12_method_152_code
def yX10_write : MethodName := ⟨RX10, "write", "(IIJ)I"⟩
abbrev cX10_paste : ByteArray := prog_12_method_153_code
def yX10_paste : MethodName := ⟨RX10, "paste", "(IIIII)I"⟩
def RJx145de : String := "java/io/Serializable"
def TJx145de : u_T := fun k => match k with
  | _ => ("", "", "", false)
def tyJx145de : Nat → FieldType := fun k => match k with
  | _ => .int
abbrev wsJx145de0 : List Cond := u_ws RJx145de TJx145de 0
theorem nmJx145de : ∀ a, a < 0 → ∀ b, b < 0 → a ≠ b → (TJx145de a).2.1 ≠ (TJx145de b).2.1 := by decide +kernel
theorem tyJx145de_ok : ∀ k, k < 0 → parseFieldDescriptor (TJx145de k).2.2.1 = some (tyJx145de k) := by decide +kernel
def RJx9f9b0 : String := "java/lang/CharSequence"
def TJx9f9b0 : u_T := fun k => match k with
  | _ => ("", "", "", false)
def tyJx9f9b0 : Nat → FieldType := fun k => match k with
  | _ => .int
abbrev wsJx9f9b00 : List Cond := u_ws RJx9f9b0 TJx9f9b0 0
theorem nmJx9f9b0 : ∀ a, a < 0 → ∀ b, b < 0 → a ≠ b → (TJx9f9b0 a).2.1 ≠ (TJx9f9b0 b).2.1 := by decide +kernel
theorem tyJx9f9b0_ok : ∀ k, k < 0 → parseFieldDescriptor (TJx9f9b0 k).2.2.1 = some (tyJx9f9b0 k) := by decide +kernel
def RJxb160c : String := "java/lang/Comparable"
def TJxb160c : u_T := fun k => match k with
  | _ => ("", "", "", false)
def tyJxb160c : Nat → FieldType := fun k => match k with
  | _ => .int
abbrev wsJxb160c0 : List Cond := u_ws RJxb160c TJxb160c 0
theorem nmJxb160c : ∀ a, a < 0 → ∀ b, b < 0 → a ≠ b → (TJxb160c a).2.1 ≠ (TJxb160c b).2.1 := by decide +kernel
theorem tyJxb160c_ok : ∀ k, k < 0 → parseFieldDescriptor (TJxb160c k).2.2.1 = some (tyJxb160c k) := by decide +kernel
def RJ6 : String := "java/lang/Integer"
def TJ6 : u_T := fun k => match k with
  | _ => ("", "", "", false)
def tyJ6 : Nat → FieldType := fun k => match k with
  | _ => .int
abbrev wsJ60 : List Cond := u_ws RJ6 TJ6 0
theorem nmJ6 : ∀ a, a < 0 → ∀ b, b < 0 → a ≠ b → (TJ6 a).2.1 ≠ (TJ6 b).2.1 := by decide +kernel
theorem tyJ6_ok : ∀ k, k < 0 → parseFieldDescriptor (TJ6 k).2.2.1 = some (tyJ6 k) := by decide +kernel
abbrev cJ6_bitCount_0f7a4 : ByteArray := prog_13_method_49_code
def yJ6_bitCount_0f7a4 : MethodName := ⟨RJ6, "bitCount", "(I)I"⟩
def RJ9 : String := "java/lang/Math"
def TJ9 : u_T := fun k => match k with
  | _ => ("", "", "", false)
def tyJ9 : Nat → FieldType := fun k => match k with
  | _ => .int
abbrev wsJ90 : List Cond := u_ws RJ9 TJ9 0
theorem nmJ9 : ∀ a, a < 0 → ∀ b, b < 0 → a ≠ b → (TJ9 a).2.1 ≠ (TJ9 b).2.1 := by decide +kernel
theorem tyJ9_ok : ∀ k, k < 0 → parseFieldDescriptor (TJ9 k).2.2.1 = some (tyJ9 k) := by decide +kernel
abbrev cJ9_max_7cf53 : ByteArray := prog_14_method_65_code
def yJ9_max_7cf53 : MethodName := ⟨RJ9, "max", "(II)I"⟩
abbrev cJ9_min_7cf53 : ByteArray := prog_14_method_69_code
def yJ9_min_7cf53 : MethodName := ⟨RJ9, "min", "(II)I"⟩
def RJ0 : String := "java/lang/String"
def TJ0 : u_T := fun k => match k with
  | _ => ("", "", "", false)
def tyJ0 : Nat → FieldType := fun k => match k with
  | _ => .int
abbrev wsJ00 : List Cond := u_ws RJ0 TJ0 0
theorem nmJ0 : ∀ a, a < 0 → ∀ b, b < 0 → a ≠ b → (TJ0 a).2.1 ≠ (TJ0 b).2.1 := by decide +kernel
theorem tyJ0_ok : ∀ k, k < 0 → parseFieldDescriptor (TJ0 k).2.2.1 = some (tyJ0 k) := by decide +kernel
abbrev cJ0_length_8abf5 : ByteArray := prog_15_method_54_code
def yJ0_length_8abf5 : MethodName := ⟨RJ0, "length", "()I"⟩
abbrev cJ0_charAt_5068e : ByteArray := prog_15_method_56_code
def yJ0_charAt_5068e : MethodName := ⟨RJ0, "charAt", "(I)C"⟩
abbrev cJ0_coder_7d493 : ByteArray := prog_15_method_152_code
def yJ0_coder_7d493 : MethodName := ⟨RJ0, "coder", "()B"⟩
abbrev cJ0_isLatin1_aae02 : ByteArray := prog_15_method_154_code
def yJ0_isLatin1_aae02 : MethodName := ⟨RJ0, "isLatin1", "()Z"⟩
abbrev cJ0_checkIndex_df160 : ByteArray := prog_15_method_155_code
def yJ0_checkIndex_df160 : MethodName := ⟨RJ0, "checkIndex", "(II)V"⟩
def RJ1 : String := "java/lang/StringLatin1"
def TJ1 : u_T := fun k => match k with
  | _ => ("", "", "", false)
def tyJ1 : Nat → FieldType := fun k => match k with
  | _ => .int
abbrev wsJ10 : List Cond := u_ws RJ1 TJ1 0
theorem nmJ1 : ∀ a, a < 0 → ∀ b, b < 0 → a ≠ b → (TJ1 a).2.1 ≠ (TJ1 b).2.1 := by decide +kernel
theorem tyJ1_ok : ∀ k, k < 0 → parseFieldDescriptor (TJ1 k).2.2.1 = some (tyJ1 k) := by decide +kernel
abbrev cJ1_charAt_3b067 : ByteArray := prog_16_method_2_code
def yJ1_charAt_3b067 : MethodName := ⟨RJ1, "charAt", "([BI)C"⟩
def RJ2 : String := "java/lang/StringUTF16"
def TJ2 : u_T := fun k => match k with
  | _ => ("", "", "", false)
def tyJ2 : Nat → FieldType := fun k => match k with
  | _ => .int
abbrev wsJ20 : List Cond := u_ws RJ2 TJ2 0
theorem nmJ2 : ∀ a, a < 0 → ∀ b, b < 0 → a ≠ b → (TJ2 a).2.1 ≠ (TJ2 b).2.1 := by decide +kernel
theorem tyJ2_ok : ∀ k, k < 0 → parseFieldDescriptor (TJ2 k).2.2.1 = some (tyJ2 k) := by decide +kernel
abbrev cJ2_getChar_3b067 : ByteArray := prog_17_method_5_code
def yJ2_getChar_3b067 : MethodName := ⟨RJ2, "getChar", "([BI)C"⟩
abbrev cJ2_length_9d52b : ByteArray := prog_17_method_6_code
def yJ2_length_9d52b : MethodName := ⟨RJ2, "length", "([B)I"⟩
abbrev cJ2_charAt_3b067 : ByteArray := prog_17_method_83_code
def yJ2_charAt_3b067 : MethodName := ⟨RJ2, "charAt", "([BI)C"⟩
abbrev cJ2_checkIndex_2214a : ByteArray := prog_17_method_91_code
def yJ2_checkIndex_2214a : MethodName := ⟨RJ2, "checkIndex", "(I[B)V"⟩
def RJ10 : String := "java/lang/System"
def TJ10 : u_T := fun k => match k with
  | _ => ("", "", "", false)
def tyJ10 : Nat → FieldType := fun k => match k with
  | _ => .int
abbrev wsJ100 : List Cond := u_ws RJ10 TJ10 0
theorem nmJ10 : ∀ a, a < 0 → ∀ b, b < 0 → a ≠ b → (TJ10 a).2.1 ≠ (TJ10 b).2.1 := by decide +kernel
theorem tyJ10_ok : ∀ k, k < 0 → parseFieldDescriptor (TJ10 k).2.2.1 = some (tyJ10 k) := by decide +kernel
def RJxfd54e : String := "java/lang/constant/Constable"
def TJxfd54e : u_T := fun k => match k with
  | _ => ("", "", "", false)
def tyJxfd54e : Nat → FieldType := fun k => match k with
  | _ => .int
abbrev wsJxfd54e0 : List Cond := u_ws RJxfd54e TJxfd54e 0
theorem nmJxfd54e : ∀ a, a < 0 → ∀ b, b < 0 → a ≠ b → (TJxfd54e a).2.1 ≠ (TJxfd54e b).2.1 := by decide +kernel
theorem tyJxfd54e_ok : ∀ k, k < 0 → parseFieldDescriptor (TJxfd54e k).2.2.1 = some (tyJxfd54e k) := by decide +kernel
def RJx3cf43 : String := "java/lang/constant/ConstantDesc"
def TJx3cf43 : u_T := fun k => match k with
  | _ => ("", "", "", false)
def tyJx3cf43 : Nat → FieldType := fun k => match k with
  | _ => .int
abbrev wsJx3cf430 : List Cond := u_ws RJx3cf43 TJx3cf43 0
theorem nmJx3cf43 : ∀ a, a < 0 → ∀ b, b < 0 → a ≠ b → (TJx3cf43 a).2.1 ≠ (TJx3cf43 b).2.1 := by decide +kernel
theorem tyJx3cf43_ok : ∀ k, k < 0 → parseFieldDescriptor (TJx3cf43 k).2.2.1 = some (tyJx3cf43 k) := by decide +kernel
def RJ7 : String := "java/util/Arrays"
def TJ7 : u_T := fun k => match k with
  | _ => ("", "", "", false)
def tyJ7 : Nat → FieldType := fun k => match k with
  | _ => .int
abbrev wsJ70 : List Cond := u_ws RJ7 TJ7 0
theorem nmJ7 : ∀ a, a < 0 → ∀ b, b < 0 → a ≠ b → (TJ7 a).2.1 ≠ (TJ7 b).2.1 := by decide +kernel
theorem tyJ7_ok : ∀ k, k < 0 → parseFieldDescriptor (TJ7 k).2.2.1 = some (tyJ7 k) := by decide +kernel
abbrev cJ7_fill_d0a16 : ByteArray := prog_19_method_101_code
def yJ7_fill_d0a16 : MethodName := ⟨RJ7, "fill", "([JJ)V"⟩
abbrev cJ7_fill_53178 : ByteArray := prog_19_method_103_code
def yJ7_fill_53178 : MethodName := ⟨RJ7, "fill", "([II)V"⟩
def RJ3 : String := "jdk/internal/util/Preconditions"
def TJ3 : u_T := fun k => match k with
  | _ => ("", "", "", false)
def tyJ3 : Nat → FieldType := fun k => match k with
  | _ => .int
abbrev wsJ30 : List Cond := u_ws RJ3 TJ3 0
theorem nmJ3 : ∀ a, a < 0 → ∀ b, b < 0 → a ≠ b → (TJ3 a).2.1 ≠ (TJ3 b).2.1 := by decide +kernel
theorem tyJ3_ok : ∀ k, k < 0 → parseFieldDescriptor (TJ3 k).2.2.1 = some (tyJ3 k) := by decide +kernel
abbrev cJ3_checkIndex_8e157 : ByteArray := prog_20_method_11_code
def yJ3_checkIndex_8e157 : MethodName := ⟨RJ3, "checkIndex", "(IILjava/util/function/BiFunction;)I"⟩
def RL : String := "HoopCabinetLaw"
abbrev cL_law : ByteArray := code
def yL_law : MethodName := ⟨RL, "law", "([I)Z"⟩
abbrev vwCl : List vw_C := [(RX0, TX0, 10), (RX1, TX1, 8), (RX2, TX2, 8), (RX3, TX3, 3), (RX4, TX4, 3), (RX5, TX5, 6), (RX6, TX6, 8), (RX7, TX7, 3), (RX8, TX8, 4), (RX9, TX9, 15), (RX10, TX10, 40)]
end
section
def xSl : List (Nat × Nat) := [(9, 15), (102, 1000), (0, 10), (8, 4), (100, 36), (8, 4), (100, 12), (8, 4), (100, 16), (8, 4), (100, 30), (8, 4), (100, 120), (0, 10), (8, 4), (100, 36), (8, 4), (100, 12), (8, 4), (100, 16), (8, 4), (100, 30), (8, 4), (100, 120), (6, 8), (104, 3), (103, 3), (0, 10), (8, 4), (100, 36), (8, 4), (100, 12), (8, 4), (100, 16), (8, 4), (100, 30), (8, 4), (100, 120), (0, 10), (8, 4), (100, 36), (8, 4), (100, 12), (8, 4), (100, 16), (8, 4), (100, 30), (8, 4), (100, 120), (0, 10), (8, 4), (100, 36), (8, 4), (100, 12), (8, 4), (100, 16), (8, 4), (100, 30), (8, 4), (100, 120), (105, 4), (7, 3), (101, 60), (7, 3), (101, 60), (7, 3), (101, 60), (7, 3), (101, 60), (2, 8), (100, 48), (100, 90), (100, 90), (100, 90), (100, 90), (2, 8), (100, 48), (100, 90), (100, 90), (100, 90), (100, 90), (5, 6), (100, 6), (100, 6), (100, 15), (1, 8), (100, 15), (100, 15), (100, 15), (3, 3), (100, 6), (4, 3), (101, 64), (101, 64), (100, 16), (10, 40), (100, 134), (100, 402), (103, 3), (102, 1000), (100, 5), (100, 134), (100, 640), (100, 90), (100, 8), (100, 6), (100, 15), (100, 6), (100, 6), (103, 256), (100, 15), (100, 36), (100, 4), (100, 4), (101, 240), (101, 60)]
def xS (c : Nat) : Nat × Nat := xSl.getD c (999, 0)
def xT (ci : Nat) : Nat → FieldType := match ci with
  | 0 => tyX0
  | 1 => tyX1
  | 2 => tyX2
  | 3 => tyX3
  | 4 => tyX4
  | 5 => tyX5
  | 6 => tyX6
  | 7 => tyX7
  | 8 => tyX8
  | 9 => tyX9
  | _ => tyX10
/-- a class of the worlds: its number, name, fields, how many; its fields' words are among the tables' -/
def CI (ci : Nat) (C : String) (T : u_T) (N : Nat) : Prop := vwCl[ci]? = some (C, T, N) ∧ ci < 100 ∧ (∀ w ∈ u_ws C T N, w ∈ lw_tbl ∧ goodWord w = true) ∧ (∀ k, k < N → parseFieldDescriptor (T k).2.2.1 = some (xT ci k)) ∧ (∀ a, a < N → ∀ b, b < N → a ≠ b → (T a).2.1 ≠ (T b).2.1)
theorem CI0 : CI 0 RX0 TX0 10 := ⟨rfl, by decide, by decide +kernel, tyX0_ok, nmX0⟩
theorem CI1 : CI 1 RX1 TX1 8 := ⟨rfl, by decide, by decide +kernel, tyX1_ok, nmX1⟩
theorem CI2 : CI 2 RX2 TX2 8 := ⟨rfl, by decide, by decide +kernel, tyX2_ok, nmX2⟩
theorem CI3 : CI 3 RX3 TX3 3 := ⟨rfl, by decide, by decide +kernel, tyX3_ok, nmX3⟩
theorem CI4 : CI 4 RX4 TX4 3 := ⟨rfl, by decide, by decide +kernel, tyX4_ok, nmX4⟩
theorem CI5 : CI 5 RX5 TX5 6 := ⟨rfl, by decide, by decide +kernel, tyX5_ok, nmX5⟩
theorem CI6 : CI 6 RX6 TX6 8 := ⟨rfl, by decide, by decide +kernel, tyX6_ok, nmX6⟩
theorem CI7 : CI 7 RX7 TX7 3 := ⟨rfl, by decide, by decide +kernel, tyX7_ok, nmX7⟩
theorem CI8 : CI 8 RX8 TX8 4 := ⟨rfl, by decide, by decide +kernel, tyX8_ok, nmX8⟩
theorem CI9 : CI 9 RX9 TX9 15 := ⟨rfl, by decide, by decide +kernel, tyX9_ok, nmX9⟩
theorem CI10 : CI 10 RX10 TX10 40 := ⟨rfl, by decide, by decide +kernel, tyX10_ok, nmX10⟩
end
section
/-! ===== the calculus: worlds by number =====
A world w = (n, refs, ints, longs): n cells at the addresses b, b + 1, ..; cell c has the shape xS c; what it holds: refs (0 null, q + 1 the cell q), ints, longs. A value on the stack: AI an int, AL a long, AR a cell, AX an address outside. -/
abbrev XW : Type := Nat × (Nat → Nat → Nat) × (Nat → Nat → Int32) × (Nat → Nat → Int64)
abbrev AV : Type := Int32 ⊕ Int64 ⊕ Nat ⊕ Nat
abbrev AI (x : Int32) : AV := .inl x
abbrev AL (x : Int64) : AV := .inr (.inl x)
abbrev AR (c : Nat) : AV := .inr (.inr (.inl c))
abbrev AX (a : Nat) : AV := .inr (.inr (.inr a))
def cv (b : Nat) : AV → Value
  | .inl x => .int x
  | .inr (.inl x) => .long x
  | .inr (.inr (.inl c)) => .ref (b + c)
  | .inr (.inr (.inr a)) => .ref a
def rv (b : Nat) : Nat → Option Nat
  | 0 => none
  | q + 1 => some (b + q)
def isI : FieldType → Bool
  | .long => false
  | .object _ => false
  | .array _ => false
  | _ => true
def isRf : FieldType → Bool
  | .object _ => true
  | .array _ => true
  | _ => false
def xF (b : Nat) (w : XW) (c : Nat) (t : FieldType) (k : Nat) : Value := match t with
  | .long => .long (w.2.2.2 c k)
  | .object _ => va_rf (rv b (w.2.1 c k))
  | .array _ => va_rf (rv b (w.2.1 c k))
  | _ => .int (w.2.2.1 c k)
def xE (aC : Nat → ClassId) (b : Nat) (w : XW) (c : Nat) : va_E :=
  if (xS c).1 < 100 then .inr ((xS c).1, (List.range (xS c).2).map (fun k => xF b w c (xT (xS c).1 k) k))
  else .inl (aC (xS c).1, (xS c).2, if (xS c).1 = 101 then .inr (.inl (w.2.2.2 c)) else if (xS c).1 < 104 then .inl (w.2.2.1 c) else .inr (.inr (.inr (.inr (fun j => rv b (w.2.1 c j))))))
def xL (aC : Nat → ClassId) (b : Nat) (w : XW) : va_W := (List.range w.1).map (fun c => (b + c, xE aC b w c))
def xTys (aC : Nat → ClassId) : List (ClassId × FieldType) := [(aC 100, .int), (aC 101, .long), (aC 102, .byte), (aC 103, .boolean), (aC 104, .object "HoopCabinet$Ball"), (aC 105, .object "HoopCabinet$Slot")]
abbrev xA (b : Nat) : Nat → Prop := fun q => b ≤ q
theorem xL_at {aC : Nat → ClassId} {b : Nat} {w : XW} {c : Nat} (h : c < w.1) : (xL aC b w)[c]? = some (b + c, xE aC b w c) := by
  simp [xL, h]
theorem xL_lt {aC : Nat → ClassId} {b : Nat} {w : XW} {c : Nat} {q : Nat × va_E} (h : (xL aC b w)[c]? = some q) : c < w.1 ∧ q = (b + c, xE aC b w c) := by
  have hl : c < (xL aC b w).length := (List.getElem?_eq_some_iff.mp h).1
  have hl2 : c < w.1 := by simpa [xL] using hl
  rw [xL_at hl2] at h
  exact ⟨hl2, (Option.some.inj h).symm⟩
theorem xL_D {aC : Nat → ClassId} {b : Nat} {w : XW} : va_D (xA b) (xL aC b w) := by
  refine ⟨fun i j p q hi hj hpq => ?_, fun k q hk => ?_⟩
  · obtain ⟨-, rfl⟩ := xL_lt hi
    obtain ⟨-, rfl⟩ := xL_lt hj
    exact Nat.add_left_cancel hpq
  · obtain ⟨-, rfl⟩ := xL_lt hk
    exact Nat.le_add_right b k
theorem xL_set {aC : Nat → ClassId} {b : Nat} {w w' : XW} {c : Nat} {e : va_E} (hE : xE aC b w' c = e) (hn : w'.1 = w.1) (ho : ∀ j, j ≠ c → xE aC b w' j = xE aC b w j) : (xL aC b w).set c (b + c, e) = xL aC b w' := by
  apply List.ext_getElem?
  intro j
  by_cases hj : j < w.1
  · rw [xL_at (w := w') (by rw [hn]; exact hj)]
    by_cases hc : c = j
    · subst hc
      rw [List.getElem?_set_self (by simpa [xL] using hj), hE]
    · rw [List.getElem?_set_ne hc, xL_at hj, ho j (fun z => hc z.symm)]
  · rw [List.getElem?_eq_none (by simp [xL]; omega), List.getElem?_eq_none (by simp [xL, hn]; omega)]
def upI (w : XW) (c k : Nat) (x : Int32) : XW := (w.1, w.2.1, va_up w.2.2.1 c (upd (w.2.2.1 c) k x), w.2.2.2)
def upL (w : XW) (c k : Nat) (x : Int64) : XW := (w.1, w.2.1, w.2.2.1, va_up w.2.2.2 c (vp_updL (w.2.2.2 c) k x))
def upR (w : XW) (c k : Nat) (x : Nat) : XW := (w.1, va_up w.2.1 c (va_up (w.2.1 c) k x), w.2.2.1, w.2.2.2)
def stI (w : XW) (c : Nat) (f : Nat → Int32) : XW := (w.1, w.2.1, va_up w.2.2.1 c f, w.2.2.2)
def stL (w : XW) (c : Nat) (f : Nat → Int64) : XW := (w.1, w.2.1, w.2.2.1, va_up w.2.2.2 c f)
theorem xE_obj {aC : Nat → ClassId} {b : Nat} {w : XW} {c ci N : Nat} (h : xS c = (ci, N)) (hc : ci < 100) : xE aC b w c = .inr (ci, (List.range N).map (fun k => xF b w c (xT ci k) k)) := by
  unfold xE; rw [h]; exact if_pos hc
theorem xE_ai {aC : Nat → ClassId} {b : Nat} {w : XW} {c kd N : Nat} (h : xS c = (kd, N)) (hk : kd = 100 ∨ kd = 102 ∨ kd = 103) : xE aC b w c = .inl (aC kd, N, .inl (w.2.2.1 c)) := by
  unfold xE; rw [h]
  show (if kd < 100 then _ else _) = _
  rw [if_neg (by omega)]
  show Sum.inl (aC kd, N, if kd = 101 then _ else if kd < 104 then _ else _) = _
  rw [if_neg (by omega), if_pos (by omega)]
theorem xE_al {aC : Nat → ClassId} {b : Nat} {w : XW} {c N : Nat} (h : xS c = (101, N)) : xE aC b w c = .inl (aC 101, N, .inr (.inl (w.2.2.2 c))) := by
  unfold xE; rw [h]; rfl
theorem xE_ar {aC : Nat → ClassId} {b : Nat} {w : XW} {c kd N : Nat} (h : xS c = (kd, N)) (hk : kd = 104 ∨ kd = 105) : xE aC b w c = .inl (aC kd, N, .inr (.inr (.inr (.inr (fun j => rv b (w.2.1 c j)))))) := by
  unfold xE; rw [h]
  show (if kd < 100 then _ else _) = _
  rw [if_neg (by omega)]
  show Sum.inl (aC kd, N, if kd = 101 then _ else if kd < 104 then _ else _) = _
  rw [if_neg (by omega), if_neg (by omega)]
theorem xE_other {aC : Nat → ClassId} {b : Nat} {w w' : XW} {j : Nat} (hr : w'.2.1 j = w.2.1 j) (hi : w'.2.2.1 j = w.2.2.1 j) (hl : w'.2.2.2 j = w.2.2.2 j) : xE aC b w' j = xE aC b w j := by
  have hF : ∀ (t : FieldType) (k : Nat), xF b w' j t k = xF b w j t k := by
    intro t k
    unfold xF
    rw [hr, hi, hl]
  unfold xE
  simp only [hF, hr, hi, hl]
theorem xF_int {b : Nat} {w : XW} {c : Nat} {t : FieldType} {k : Nat} (h : isI t = true) : xF b w c t k = .int (w.2.2.1 c k) := by
  unfold xF
  split <;> first | rfl | (simp [isI] at h)
theorem xF_long {b : Nat} {w : XW} {c : Nat} {k : Nat} : xF b w c .long k = .long (w.2.2.2 c k) := rfl
theorem xF_ref {b : Nat} {w : XW} {c : Nat} {t : FieldType} {k : Nat} (h : isRf t = true) : xF b w c t k = va_rf (rv b (w.2.1 c k)) := by
  unfold xF
  split <;> first | rfl | (simp [isRf] at h)
/-- the world at a heap, at a state -/
def xH (D : va_G) (aC : Nat → ClassId) (b : Nat) (w : XW) (H : Heap) : Prop := va_P D vwCl (xL aC b w) H ∧ H.size = b + w.1
def isNest : Cond → Bool
  | .fieldLinkNest _ _ _ _ _ _ => true
  | .methodLinkNest _ _ _ _ => true
  | .arrayOver (.object _) => true
  | _ => false
def okW (w : Cond) : Bool := goodWord w || isNest w
/-- the tables' words, at a state -/
def Gl (U : State) : Prop := ∀ w ∈ lw_tbl, okW w = true → ∀ A : Array Value, w.before A U = true
theorem Gl.warm {s U : State} (hW : s.WarmedH U.vm) (h : Gl s) : Gl U := by
  intro w hw ho A
  unfold okW at ho
  cases hg : goodWord w with
  | true => exact word_at hW (good_of_word hg) (h w hw (by unfold okW; rw [hg]; rfl) #[])
  | false =>
    rw [hg] at ho
    have hn : isNest w = true := by simpa using ho
    have h0 := h w hw (by unfold okW; rw [hn]; simp) #[]
    match w, hn, h0 with
    | .fieldLinkNest _ _ _ _ _ _, _, h0 => exact va_Nw.use rfl (va_Nw.warmF hW (va_Nw.of rfl h0))
    | .methodLinkNest _ _ _ _, _, h0 => exact va_Nw.use rfl (va_Nw.warmM hW (va_Nw.of rfl h0))
    | .arrayOver (.object _), _, h0 => exact va_AO.use (va_AO.moved hW.alike (va_AO.of h0))
def xU (D : va_G) (aC : Nat → ClassId) (b : Nat) (w : XW) (U : State) : Prop := xH D aC b w U.heap ∧ va_K D vwCl (xTys aC) U ∧ Gl U
theorem xU.blind {D : va_G} {aC : Nat → ClassId} {b : Nat} {w : XW} {U : State} (g : JFrame) (mk : MethodId) (a : Array Value) (h : xU D aC b w U) : xU D aC b w (U.calling g mk a) :=
  ⟨h.1, va_K.moved (u := U) (U := U.calling g mk a) (Vm.Alike.refl U.vm) h.2.1, Gl.warm (s := U) (U := U.calling g mk a) (State.WarmedH.refl U) h.2.2⟩
/-- locals: by their places -/
def lvl (b : Nat) : Nat → List (Option AV) → List (Nat × Value)
  | _, [] => []
  | i, none :: r => lvl b (i + 1) r
  | i, some v :: r => (i, cv b v) :: lvl b (i + 1) r
theorem lvl_mem {b : Nat} {q : Nat × Value} : ∀ {L : List (Option AV)} {i : Nat}, q ∈ lvl b i L ↔ ∃ (j : Nat) (v : AV), L[j]? = some (some v) ∧ q = (i + j, cv b v)
  | [], i => by simp [lvl]
  | none :: r, i => by
    rw [lvl, lvl_mem (L := r) (i := i + 1)]
    constructor
    · rintro ⟨j, v, h1, h2⟩
      exact ⟨j + 1, v, by simpa using h1, by rw [h2]; congr 1; omega⟩
    · rintro ⟨j, v, h1, h2⟩
      cases j with
      | zero => simp at h1
      | succ j => exact ⟨j, v, by simpa using h1, by rw [h2]; congr 1; omega⟩
  | some u :: r, i => by
    rw [lvl, List.mem_cons, lvl_mem (L := r) (i := i + 1)]
    constructor
    · rintro (h | ⟨j, v, h1, h2⟩)
      · exact ⟨0, u, by simp, by rw [h]; rfl⟩
      · exact ⟨j + 1, v, by simpa using h1, by rw [h2]; congr 1; omega⟩
    · rintro ⟨j, v, h1, h2⟩
      cases j with
      | zero =>
        left
        simp at h1
        rw [h2, h1]; rfl
      | succ j => exact Or.inr ⟨j, v, by simpa using h1, by rw [h2]; congr 1; omega⟩
def xl (b : Nat) (ls : Array Slot) (nL : Nat) (L : List (Option AV)) : Prop := lv_has ls nL (lvl b 0 L)
theorem xl_at {b : Nat} {ls : Array Slot} {nL : Nat} {L : List (Option AV)} (h : xl b ls nL L) {i : Nat} {v : AV} (hi : L[i]? = some (some v)) : ls[i]? = some (.val (cv b v)) :=
  h.2.2 (i, cv b v) (lvl_mem.mpr ⟨i, v, hi, by rw [Nat.zero_add]⟩)
def isLg : Option (Option AV) → Bool
  | some (some (.inr (.inl _))) => true
  | _ => false
def st0 (L : List (Option AV)) (i : Nat) : List (Option AV) := match isLg L[i - 1]? with
  | true => L.set (i - 1) none
  | false => L
def st1 (L : List (Option AV)) (i : Nat) (v : AV) : List (Option AV) := (st0 L i).set i (some v)
def st2 (L : List (Option AV)) (i : Nat) (v : AV) : List (Option AV) := ((st0 L i).set i (some v)).set (i + 1) none
theorem st0_get {L : List (Option AV)} {i j : Nat} {u : AV} (h : (st0 L i)[j]? = some (some u)) : L[j]? = some (some u) ∧ ¬ (j + 1 = i ∧ ∃ x, u = AL x) := by
  unfold st0 at h
  cases hg : isLg L[i - 1]? with
  | true =>
    rw [hg] at h
    have h : (L.set (i - 1) none)[j]? = some (some u) := h
    by_cases hj : i - 1 = j
    · subst hj
      rw [List.getElem?_set] at h
      simp at h
    · rw [List.getElem?_set_ne hj] at h
      exact ⟨h, fun ⟨h1, _⟩ => hj (by omega)⟩
  | false =>
    rw [hg] at h
    have h : L[j]? = some (some u) := h
    refine ⟨h, fun ⟨h1, x, h2⟩ => ?_⟩
    subst h1
    rw [Nat.add_sub_cancel, h, h2] at hg
    simp [isLg] at hg
theorem cv_cat2 {b : Nat} {u : AV} (h : (cv b u).category = 2) : ∃ x, u = AL x := by
  match u, h with
  | .inl x, h => simp [cv, Value.category] at h
  | .inr (.inl x), _ => exact ⟨x, rfl⟩
  | .inr (.inr (.inl x)), h => simp [cv, Value.category] at h
  | .inr (.inr (.inr x)), h => simp [cv, Value.category] at h
theorem xl_st1 {b : Nat} {ls : Array Slot} {nL : Nat} {L : List (Option AV)} {i : Nat} {v : AV} (h : lv_has ls nL ((i, cv b v) :: (lvl b 0 L).filter (fun q => !(q.1 == i) && !(q.1 + 1 == i && q.2.category == 2)))) : xl b ls nL (st1 L i v) := by
  refine ⟨h.1, h.2.1, fun q hq => h.2.2 q ?_⟩
  obtain ⟨j, u, hj, rfl⟩ := lvl_mem.mp hq
  rw [Nat.zero_add]
  by_cases hji : i = j
  · subst hji
    unfold st1 at hj
    rw [List.getElem?_set] at hj
    simp at hj
    rw [hj.2]
    exact List.mem_cons_self
  · unfold st1 at hj
    rw [List.getElem?_set_ne hji] at hj
    obtain ⟨h1, h2⟩ := st0_get hj
    refine List.mem_cons_of_mem _ (List.mem_filter.mpr ⟨lvl_mem.mpr ⟨j, u, h1, by rw [Nat.zero_add]⟩, ?_⟩)
    by_cases h3 : j + 1 = i ∧ (cv b u).category = 2
    · exact absurd ⟨h3.1, cv_cat2 h3.2⟩ h2
    · by_cases h4 : j + 1 = i
      · have h5 : ¬ (cv b u).category = 2 := fun z => h3 ⟨h4, z⟩
        simp [h5, Ne.symm hji]
      · simp [h4, Ne.symm hji]
theorem xl_st2 {b : Nat} {ls : Array Slot} {nL : Nat} {L : List (Option AV)} {i : Nat} {v : AV} (h : lv_has ls nL ((i, cv b v) :: (lvl b 0 L).filter (fun q => !(q.1 == i) && (!(q.1 == i + 1) && !(q.1 + 1 == i && q.2.category == 2))))) : xl b ls nL (st2 L i v) := by
  refine ⟨h.1, h.2.1, fun q hq => h.2.2 q ?_⟩
  obtain ⟨j, u, hj, rfl⟩ := lvl_mem.mp hq
  rw [Nat.zero_add]
  unfold st2 at hj
  by_cases hj2 : i + 1 = j
  · subst hj2
    rw [List.getElem?_set] at hj
    simp at hj
  · rw [List.getElem?_set_ne hj2] at hj
    by_cases hji : i = j
    · subst hji
      rw [List.getElem?_set] at hj
      simp at hj
      rw [hj.2]
      exact List.mem_cons_self
    · rw [List.getElem?_set_ne hji] at hj
      obtain ⟨h1, h2⟩ := st0_get hj
      refine List.mem_cons_of_mem _ (List.mem_filter.mpr ⟨lvl_mem.mpr ⟨j, u, h1, by rw [Nat.zero_add]⟩, ?_⟩)
      by_cases h3 : j + 1 = i ∧ (cv b u).category = 2
      · exact absurd ⟨h3.1, cv_cat2 h3.2⟩ h2
      · by_cases h4 : j + 1 = i
        · have h5 : ¬ (cv b u).category = 2 := fun z => h3 ⟨h4, z⟩
          simp [h5, Ne.symm hji, Ne.symm hj2]
        · simp [h4, Ne.symm hji, Ne.symm hj2]
def entL : List AV → List (Option AV)
  | [] => []
  | .inr (.inl x) :: r => some (AL x) :: none :: entL r
  | v :: r => some v :: entL r
theorem lvl_none {b : Nat} : ∀ (n i : Nat), lvl b i (List.replicate n none) = []
  | 0, i => rfl
  | n + 1, i => by rw [List.replicate_succ, lvl]; exact lvl_none n (i + 1)
theorem lvl_ent {b n : Nat} : ∀ (A : List AV) (i : Nat), lvl b i (entL A ++ List.replicate n none) = lv_args i (A.map (cv b))
  | [], i => by simp [entL, lv_args, lvl_none]
  | .inl x :: r, i => by
    show (i, cv b (AI x)) :: lvl b (i + 1) (entL r ++ List.replicate n none) = _
    rw [lvl_ent r (i + 1)]; rfl
  | .inr (.inl x) :: r, i => by
    show (i, cv b (AL x)) :: lvl b (i + 1 + 1) (entL r ++ List.replicate n none) = _
    rw [lvl_ent r (i + 1 + 1)]; rfl
  | .inr (.inr (.inl x)) :: r, i => by
    show (i, cv b (AR x)) :: lvl b (i + 1) (entL r ++ List.replicate n none) = _
    rw [lvl_ent r (i + 1)]; rfl
  | .inr (.inr (.inr x)) :: r, i => by
    show (i, cv b (AX x)) :: lvl b (i + 1) (entL r ++ List.replicate n none) = _
    rw [lvl_ent r (i + 1)]; rfl
theorem lg_ent {b : Nat} : ∀ (A : List AV), (lg_sl (A.map (cv b))).length = (entL A).length
  | [] => rfl
  | .inl x :: r => by
    show (lg_sl (r.map (cv b))).length + 1 = _
    rw [lg_ent r]; rfl
  | .inr (.inl x) :: r => by
    show (lg_sl (r.map (cv b))).length + 1 + 1 = _
    rw [lg_ent r]; rfl
  | .inr (.inr (.inl x)) :: r => by
    show (lg_sl (r.map (cv b))).length + 1 = _
    rw [lg_ent r]; rfl
  | .inr (.inr (.inr x)) :: r => by
    show (lg_sl (r.map (cv b))).length + 1 = _
    rw [lg_ent r]; rfl
end
section
section XR
variable {p : Program} {l : Launch} {e : Env} {R : Room} {s : State} {m : MethodId} {args : Array Value} {below : List Frame} {meth : Method} {c : Code} {Q : State → Prop}
variable {D : va_G} {aC : Nat → ClassId} {b nL : Nat} {cc : ByteArray} {own : String} {ret : Option FieldType}
variable {pc : Nat} {L : List (Option AV)} {S : List AV} {w : XW} {cs sl : Nat}
/-- what stands fast in a method's body -/
def EE (p : Program) (s : State) (m : MethodId) (meth : Method) (c : Code) (D : va_G) (aC : Nat → ClassId) (b nL : Nat) (cc : ByteArray) (own : String) (ret : Option FieldType) : Prop :=
  p.tables.exec = Jvm.exec ∧ c.code = cc ∧ c.maxLocals = nL ∧ s.vm.findClass own = some m.cls ∧ Gl s ∧ va_K D vwCl (xTys aC) s ∧ meth.sig.returnType = ret ∧ meth.locks = false ∧ b ≤ s.heap.size
/-- the machine at pc, with these locals, this stack, this world, comes to Q -/
def Wv (p : Program) (l : Launch) (e : Env) (R : Room) (s : State) (m : MethodId) (args : Array Value) (below : List Frame) (meth : Method) (c : Code) (Q : State → Prop) (D : va_G) (aC : Nat → ClassId) (b nL : Nat) (pc : Nat) (L : List (Option AV)) (S : List AV) (w : XW) (cs sl : Nat) : Prop :=
  ∀ (H : Heap) (locs : List Loc) (ls : Array Slot), xH D aC b w H → va_S (xA b) s.heap H locs → xl b ls nL L → W p l e R s m args below meth c H locs cs sl Q (F0 m pc ls (S.map (cv b)))
theorem EE.gl (E : EE p s m meth c D aC b nL cc own ret) {w : Cond} (h : w ∈ lw_tbl) (ho : okW w = true) : w.before args s = true := E.2.2.2.2.1 w h ho args
theorem EE.ci (E : EE p s m meth c D aC b nL cc own ret) {ci N : Nat} {C : String} {T : u_T} (h : CI ci C T N) : ∀ w ∈ u_ws C T N, w.before args s = true := fun w hw => E.2.2.2.2.1 w (h.2.2.1 w hw).1 (by unfold okW; rw [(h.2.2.1 w hw).2]; rfl) args
theorem EE.xU (E : EE p s m meth c D aC b nL cc own ret) {H : Heap} (h : xH D aC b w H) {t : State} (ht : t.heap = H) (hW : s.WarmedH t.vm) : xU D aC b w t := ⟨by rw [ht]; exact h, va_K.moved hW.alike E.2.2.2.2.2.1, Gl.warm hW E.2.2.2.2.1⟩
theorem s_iconst {n : Int} {v : Int32} (E : EE p s m meth c D aC b nL cc own ret) (d : decode cc pc = .ok (.iconst n, 1)) (hv : Int32.ofInt n = v) (k : Wv p l e R s m args below meth c Q D aC b nL (pc + 1) L (AI v :: S) w cs sl) : Wv p l e R s m args below meth c Q D aC b nL pc L (S) w cs sl := fun H locs ls h1 h2 h3 => lv_iconst E.1 E.2.1 d hv (k H locs ls h1 h2 h3)
theorem s_bipush {n : Int} {v : Int32} (E : EE p s m meth c D aC b nL cc own ret) (d : decode cc pc = .ok (.bipush n, 2)) (hv : (Int8.ofInt n).toInt32 = v) (k : Wv p l e R s m args below meth c Q D aC b nL (pc + 2) L (AI v :: S) w cs sl) : Wv p l e R s m args below meth c Q D aC b nL pc L (S) w cs sl := fun H locs ls h1 h2 h3 => lv_bipush E.1 E.2.1 d hv (k H locs ls h1 h2 h3)
theorem s_sipush {n : Int} {v : Int32} (E : EE p s m meth c D aC b nL cc own ret) (d : decode cc pc = .ok (.sipush n, 3)) (hv : (Int16.ofInt n).toInt32 = v) (k : Wv p l e R s m args below meth c Q D aC b nL (pc + 3) L (AI v :: S) w cs sl) : Wv p l e R s m args below meth c Q D aC b nL pc L (S) w cs sl := fun H locs ls h1 h2 h3 => lv_sipush E.1 E.2.1 d hv (k H locs ls h1 h2 h3)
theorem s_lconst {n : Fin 2} {v : Int64} (E : EE p s m meth c D aC b nL cc own ret) (d : decode cc pc = .ok (.lconst n, 1)) (hv : Int64.ofNat (n : Nat) = v) (k : Wv p l e R s m args below meth c Q D aC b nL (pc + 1) L (AL v :: S) w cs sl) : Wv p l e R s m args below meth c Q D aC b nL pc L (S) w cs sl := fun H locs ls h1 h2 h3 => lv_lconst E.1 E.2.1 d hv (k H locs ls h1 h2 h3)
theorem s_ldc {index : Nat} {v : Int32} (E : EE p s m meth c D aC b nL cc own ret) (hm : Cond.constant own index v ∈ lw_tbl) (ho : okW (Cond.constant own index v) = true) (d : decode cc pc = .ok (.ldc index, 2)) (k : Wv p l e R s m args below meth c Q D aC b nL (pc + 2) L (AI v :: S) w cs sl) : Wv p l e R s m args below meth c Q D aC b nL pc L S w cs sl := fun H locs ls h1 h2 h3 => lv_ldc E.1 E.2.1 E.2.2.2.1 (E.gl hm ho) d (k H locs ls h1 h2 h3)
theorem s_ldcw {index : Nat} {v : Int32} (E : EE p s m meth c D aC b nL cc own ret) (hm : Cond.constant own index v ∈ lw_tbl) (ho : okW (Cond.constant own index v) = true) (d : decode cc pc = .ok (.ldc_w index, 3)) (k : Wv p l e R s m args below meth c Q D aC b nL (pc + 3) L (AI v :: S) w cs sl) : Wv p l e R s m args below meth c Q D aC b nL pc L S w cs sl := fun H locs ls h1 h2 h3 => lv_ldcw E.1 E.2.1 E.2.2.2.1 (E.gl hm ho) d (k H locs ls h1 h2 h3)
theorem s_ldc2 {index : Nat} {v : Int64} (E : EE p s m meth c D aC b nL cc own ret) (hm : Cond.constantLong own index v ∈ lw_tbl) (ho : okW (Cond.constantLong own index v) = true) (d : decode cc pc = .ok (.ldc2_w index, 3)) (k : Wv p l e R s m args below meth c Q D aC b nL (pc + 3) L (AL v :: S) w cs sl) : Wv p l e R s m args below meth c Q D aC b nL pc L S w cs sl := fun H locs ls h1 h2 h3 => lv_ldc2 E.1 E.2.1 E.2.2.2.1 (E.gl hm ho) d (k H locs ls h1 h2 h3)
theorem s_iload_n {k : Fin 4} {i : Nat} {x : Int32} (E : EE p s m meth c D aC b nL cc own ret) (d : decode cc pc = .ok (.iload_n k, 1)) (hi : (k : Nat) = i) (hl : L[i]? = some (some (AI x))) (kk : Wv p l e R s m args below meth c Q D aC b nL (pc + 1) L (AI x :: S) w cs sl) : Wv p l e R s m args below meth c Q D aC b nL pc L S w cs sl := fun H locs ls h1 h2 h3 => lv_iload_n E.1 E.2.1 d hi (xl_at h3 hl) (kk H locs ls h1 h2 h3)
theorem s_iload {i : Nat} {x : Int32} (E : EE p s m meth c D aC b nL cc own ret) (d : decode cc pc = .ok (.iload i, 2)) (hl : L[i]? = some (some (AI x))) (kk : Wv p l e R s m args below meth c Q D aC b nL (pc + 2) L (AI x :: S) w cs sl) : Wv p l e R s m args below meth c Q D aC b nL pc L S w cs sl := fun H locs ls h1 h2 h3 => lv_iload E.1 E.2.1 d (xl_at h3 hl) (kk H locs ls h1 h2 h3)
theorem s_lload_n {k : Fin 4} {i : Nat} {x : Int64} (E : EE p s m meth c D aC b nL cc own ret) (d : decode cc pc = .ok (.lload_n k, 1)) (hi : (k : Nat) = i) (hl : L[i]? = some (some (AL x))) (kk : Wv p l e R s m args below meth c Q D aC b nL (pc + 1) L (AL x :: S) w cs sl) : Wv p l e R s m args below meth c Q D aC b nL pc L S w cs sl := fun H locs ls h1 h2 h3 => lv_lload_n E.1 E.2.1 d hi (xl_at h3 hl) (kk H locs ls h1 h2 h3)
theorem s_lload {i : Nat} {x : Int64} (E : EE p s m meth c D aC b nL cc own ret) (d : decode cc pc = .ok (.lload i, 2)) (hl : L[i]? = some (some (AL x))) (kk : Wv p l e R s m args below meth c Q D aC b nL (pc + 2) L (AL x :: S) w cs sl) : Wv p l e R s m args below meth c Q D aC b nL pc L S w cs sl := fun H locs ls h1 h2 h3 => lv_lload E.1 E.2.1 d (xl_at h3 hl) (kk H locs ls h1 h2 h3)
theorem s_aload_n {k : Fin 4} {i : Nat} {x : Nat} (E : EE p s m meth c D aC b nL cc own ret) (d : decode cc pc = .ok (.aload_n k, 1)) (hi : (k : Nat) = i) (hl : L[i]? = some (some (AR x))) (kk : Wv p l e R s m args below meth c Q D aC b nL (pc + 1) L (AR x :: S) w cs sl) : Wv p l e R s m args below meth c Q D aC b nL pc L S w cs sl := fun H locs ls h1 h2 h3 => lv_aload_n E.1 E.2.1 d hi (xl_at h3 hl) (kk H locs ls h1 h2 h3)
theorem s_aload {i : Nat} {x : Nat} (E : EE p s m meth c D aC b nL cc own ret) (d : decode cc pc = .ok (.aload i, 2)) (hl : L[i]? = some (some (AR x))) (kk : Wv p l e R s m args below meth c Q D aC b nL (pc + 2) L (AR x :: S) w cs sl) : Wv p l e R s m args below meth c Q D aC b nL pc L S w cs sl := fun H locs ls h1 h2 h3 => lv_aload E.1 E.2.1 d (xl_at h3 hl) (kk H locs ls h1 h2 h3)
theorem s_xload_n {k : Fin 4} {i : Nat} {x : Nat} (E : EE p s m meth c D aC b nL cc own ret) (d : decode cc pc = .ok (.aload_n k, 1)) (hi : (k : Nat) = i) (hl : L[i]? = some (some (AX x))) (kk : Wv p l e R s m args below meth c Q D aC b nL (pc + 1) L (AX x :: S) w cs sl) : Wv p l e R s m args below meth c Q D aC b nL pc L S w cs sl := fun H locs ls h1 h2 h3 => lv_aload_n E.1 E.2.1 d hi (xl_at h3 hl) (kk H locs ls h1 h2 h3)
theorem s_istore_n {k : Fin 4} {i : Nat} {x : Int32} {L2 : List (Option AV)} (E : EE p s m meth c D aC b nL cc own ret) (d : decode cc pc = .ok (.istore_n k, 1)) (hi : (k : Nat) = i) (hn : i < nL) (hl : st1 L i (AI x) = L2) (kk : Wv p l e R s m args below meth c Q D aC b nL (pc + 1) L2 S w cs sl) : Wv p l e R s m args below meth c Q D aC b nL pc L (AI x :: S) w cs sl := fun H locs ls h1 h2 h3 => lv_istore_n (x := x) E.1 E.2.1 d hi h3 hn rfl (fun ls2 hl2 => kk H locs ls2 h1 h2 (hl ▸ xl_st1 (v := AI x) hl2))
theorem s_istore {i : Nat} {x : Int32} {L2 : List (Option AV)} (E : EE p s m meth c D aC b nL cc own ret) (d : decode cc pc = .ok (.istore i, 2)) (hn : i < nL) (hl : st1 L i (AI x) = L2) (kk : Wv p l e R s m args below meth c Q D aC b nL (pc + 2) L2 S w cs sl) : Wv p l e R s m args below meth c Q D aC b nL pc L (AI x :: S) w cs sl := fun H locs ls h1 h2 h3 => lv_istore (x := x) E.1 E.2.1 d h3 hn rfl (fun ls2 hl2 => kk H locs ls2 h1 h2 (hl ▸ xl_st1 (v := AI x) hl2))
theorem s_lstore_n {k : Fin 4} {i : Nat} {x : Int64} {L2 : List (Option AV)} (E : EE p s m meth c D aC b nL cc own ret) (d : decode cc pc = .ok (.lstore_n k, 1)) (hi : (k : Nat) = i) (hn : i + 1 < nL) (hl : st2 L i (AL x) = L2) (kk : Wv p l e R s m args below meth c Q D aC b nL (pc + 1) L2 S w cs sl) : Wv p l e R s m args below meth c Q D aC b nL pc L (AL x :: S) w cs sl := fun H locs ls h1 h2 h3 => lv_lstore_n (x := x) E.1 E.2.1 d hi h3 hn rfl (fun ls2 hl2 => kk H locs ls2 h1 h2 (hl ▸ xl_st2 (v := AL x) hl2))
theorem s_lstore {i : Nat} {x : Int64} {L2 : List (Option AV)} (E : EE p s m meth c D aC b nL cc own ret) (d : decode cc pc = .ok (.lstore i, 2)) (hn : i + 1 < nL) (hl : st2 L i (AL x) = L2) (kk : Wv p l e R s m args below meth c Q D aC b nL (pc + 2) L2 S w cs sl) : Wv p l e R s m args below meth c Q D aC b nL pc L (AL x :: S) w cs sl := fun H locs ls h1 h2 h3 => lv_lstore (x := x) E.1 E.2.1 d h3 hn rfl (fun ls2 hl2 => kk H locs ls2 h1 h2 (hl ▸ xl_st2 (v := AL x) hl2))
theorem s_astore_n {k : Fin 4} {i : Nat} {x : Nat} {L2 : List (Option AV)} (E : EE p s m meth c D aC b nL cc own ret) (d : decode cc pc = .ok (.astore_n k, 1)) (hi : (k : Nat) = i) (hn : i < nL) (hl : st1 L i (AR x) = L2) (kk : Wv p l e R s m args below meth c Q D aC b nL (pc + 1) L2 S w cs sl) : Wv p l e R s m args below meth c Q D aC b nL pc L (AR x :: S) w cs sl := fun H locs ls h1 h2 h3 => lv_astore_n (x := b + x) E.1 E.2.1 d hi h3 hn rfl (fun ls2 hl2 => kk H locs ls2 h1 h2 (hl ▸ xl_st1 (v := AR x) hl2))
theorem s_astore {i : Nat} {x : Nat} {L2 : List (Option AV)} (E : EE p s m meth c D aC b nL cc own ret) (d : decode cc pc = .ok (.astore i, 2)) (hn : i < nL) (hl : st1 L i (AR x) = L2) (kk : Wv p l e R s m args below meth c Q D aC b nL (pc + 2) L2 S w cs sl) : Wv p l e R s m args below meth c Q D aC b nL pc L (AR x :: S) w cs sl := fun H locs ls h1 h2 h3 => lv_astore (x := b + x) E.1 E.2.1 d h3 hn rfl (fun ls2 hl2 => kk H locs ls2 h1 h2 (hl ▸ xl_st1 (v := AR x) hl2))
theorem s_iinc {i : Nat} {n : Int} {x v : Int32} {L2 : List (Option AV)} (E : EE p s m meth c D aC b nL cc own ret) (d : decode cc pc = .ok (.iinc i n, 3)) (hx : L[i]? = some (some (AI x))) (hv : x + Int32.ofInt n = v) (hn : i < nL) (hl : st1 L i (AI v) = L2) (kk : Wv p l e R s m args below meth c Q D aC b nL (pc + 3) L2 S w cs sl) : Wv p l e R s m args below meth c Q D aC b nL pc L S w cs sl := fun H locs ls h1 h2 h3 => by
  obtain ⟨q, hq⟩ := List.getElem?_of_mem (lvl_mem (b := b) (i := 0).mpr ⟨i, AI x, hx, rfl⟩)
  rw [Nat.zero_add] at hq
  exact lv_iinc (x := x) (v := v) E.1 E.2.1 d h3 hq hv hn rfl (fun ls2 hl2 => kk H locs ls2 h1 h2 (hl ▸ xl_st1 (v := AI v) hl2))
theorem s_iadd {x y : Int32} (E : EE p s m meth c D aC b nL cc own ret) (d : decode cc pc = .ok (.iadd, 1)) (k : Wv p l e R s m args below meth c Q D aC b nL (pc + 1) L (AI (x + y) :: S) w cs sl) : Wv p l e R s m args below meth c Q D aC b nL pc L (AI y :: AI x :: S) w cs sl := fun H locs ls h1 h2 h3 => lv_iadd E.1 E.2.1 d (k H locs ls h1 h2 h3)
theorem s_isub {x y : Int32} (E : EE p s m meth c D aC b nL cc own ret) (d : decode cc pc = .ok (.isub, 1)) (k : Wv p l e R s m args below meth c Q D aC b nL (pc + 1) L (AI (x - y) :: S) w cs sl) : Wv p l e R s m args below meth c Q D aC b nL pc L (AI y :: AI x :: S) w cs sl := fun H locs ls h1 h2 h3 => lv_isub E.1 E.2.1 d (k H locs ls h1 h2 h3)
theorem s_imul {x y : Int32} (E : EE p s m meth c D aC b nL cc own ret) (d : decode cc pc = .ok (.imul, 1)) (k : Wv p l e R s m args below meth c Q D aC b nL (pc + 1) L (AI (x * y) :: S) w cs sl) : Wv p l e R s m args below meth c Q D aC b nL pc L (AI y :: AI x :: S) w cs sl := fun H locs ls h1 h2 h3 => lv_imul E.1 E.2.1 d (k H locs ls h1 h2 h3)
theorem s_iand {x y : Int32} (E : EE p s m meth c D aC b nL cc own ret) (d : decode cc pc = .ok (.iand, 1)) (k : Wv p l e R s m args below meth c Q D aC b nL (pc + 1) L (AI (x &&& y) :: S) w cs sl) : Wv p l e R s m args below meth c Q D aC b nL pc L (AI y :: AI x :: S) w cs sl := fun H locs ls h1 h2 h3 => lv_iand E.1 E.2.1 d (k H locs ls h1 h2 h3)
theorem s_ior {x y : Int32} (E : EE p s m meth c D aC b nL cc own ret) (d : decode cc pc = .ok (.ior, 1)) (k : Wv p l e R s m args below meth c Q D aC b nL (pc + 1) L (AI (x ||| y) :: S) w cs sl) : Wv p l e R s m args below meth c Q D aC b nL pc L (AI y :: AI x :: S) w cs sl := fun H locs ls h1 h2 h3 => lv_ior E.1 E.2.1 d (k H locs ls h1 h2 h3)
theorem s_ixor {x y : Int32} (E : EE p s m meth c D aC b nL cc own ret) (d : decode cc pc = .ok (.ixor, 1)) (k : Wv p l e R s m args below meth c Q D aC b nL (pc + 1) L (AI (x ^^^ y) :: S) w cs sl) : Wv p l e R s m args below meth c Q D aC b nL pc L (AI y :: AI x :: S) w cs sl := fun H locs ls h1 h2 h3 => lv_ixor E.1 E.2.1 d (k H locs ls h1 h2 h3)
theorem s_ishl {x y : Int32} (E : EE p s m meth c D aC b nL cc own ret) (d : decode cc pc = .ok (.ishl, 1)) (k : Wv p l e R s m args below meth c Q D aC b nL (pc + 1) L (AI (x <<< (y &&& 31)) :: S) w cs sl) : Wv p l e R s m args below meth c Q D aC b nL pc L (AI y :: AI x :: S) w cs sl := fun H locs ls h1 h2 h3 => lv_ishl E.1 E.2.1 d (k H locs ls h1 h2 h3)
theorem s_ishr {x y : Int32} (E : EE p s m meth c D aC b nL cc own ret) (d : decode cc pc = .ok (.ishr, 1)) (k : Wv p l e R s m args below meth c Q D aC b nL (pc + 1) L (AI (x >>> (y &&& 31)) :: S) w cs sl) : Wv p l e R s m args below meth c Q D aC b nL pc L (AI y :: AI x :: S) w cs sl := fun H locs ls h1 h2 h3 => lv_ishr E.1 E.2.1 d (k H locs ls h1 h2 h3)
theorem s_idiv {x y : Int32} (E : EE p s m meth c D aC b nL cc own ret) (d : decode cc pc = .ok (.idiv, 1)) (hne : ¬ y = 0) (k : Wv p l e R s m args below meth c Q D aC b nL (pc + 1) L (AI (x / y) :: S) w cs sl) : Wv p l e R s m args below meth c Q D aC b nL pc L (AI y :: AI x :: S) w cs sl := fun H locs ls h1 h2 h3 => lv_idiv E.1 E.2.1 d hne (k H locs ls h1 h2 h3)
theorem s_irem {x y : Int32} (E : EE p s m meth c D aC b nL cc own ret) (d : decode cc pc = .ok (.irem, 1)) (hne : ¬ y = 0) (k : Wv p l e R s m args below meth c Q D aC b nL (pc + 1) L (AI (x - x / y * y) :: S) w cs sl) : Wv p l e R s m args below meth c Q D aC b nL pc L (AI y :: AI x :: S) w cs sl := fun H locs ls h1 h2 h3 => lv_irem E.1 E.2.1 d hne (k H locs ls h1 h2 h3)
theorem s_ineg {x : Int32} (E : EE p s m meth c D aC b nL cc own ret) (d : decode cc pc = .ok (.ineg, 1)) (k : Wv p l e R s m args below meth c Q D aC b nL (pc + 1) L (AI (-x) :: S) w cs sl) : Wv p l e R s m args below meth c Q D aC b nL pc L (AI x :: S) w cs sl := fun H locs ls h1 h2 h3 => lv_ineg E.1 E.2.1 d (k H locs ls h1 h2 h3)
theorem s_ladd {x y : Int64} (E : EE p s m meth c D aC b nL cc own ret) (d : decode cc pc = .ok (.ladd, 1)) (k : Wv p l e R s m args below meth c Q D aC b nL (pc + 1) L (AL (x + y) :: S) w cs sl) : Wv p l e R s m args below meth c Q D aC b nL pc L (AL y :: AL x :: S) w cs sl := fun H locs ls h1 h2 h3 => lv_ladd E.1 E.2.1 d (k H locs ls h1 h2 h3)
theorem s_lsub {x y : Int64} (E : EE p s m meth c D aC b nL cc own ret) (d : decode cc pc = .ok (.lsub, 1)) (k : Wv p l e R s m args below meth c Q D aC b nL (pc + 1) L (AL (x - y) :: S) w cs sl) : Wv p l e R s m args below meth c Q D aC b nL pc L (AL y :: AL x :: S) w cs sl := fun H locs ls h1 h2 h3 => lv_lsub E.1 E.2.1 d (k H locs ls h1 h2 h3)
theorem s_lmul {x y : Int64} (E : EE p s m meth c D aC b nL cc own ret) (d : decode cc pc = .ok (.lmul, 1)) (k : Wv p l e R s m args below meth c Q D aC b nL (pc + 1) L (AL (x * y) :: S) w cs sl) : Wv p l e R s m args below meth c Q D aC b nL pc L (AL y :: AL x :: S) w cs sl := fun H locs ls h1 h2 h3 => lv_lmul E.1 E.2.1 d (k H locs ls h1 h2 h3)
theorem s_land {x y : Int64} (E : EE p s m meth c D aC b nL cc own ret) (d : decode cc pc = .ok (.land, 1)) (k : Wv p l e R s m args below meth c Q D aC b nL (pc + 1) L (AL (x &&& y) :: S) w cs sl) : Wv p l e R s m args below meth c Q D aC b nL pc L (AL y :: AL x :: S) w cs sl := fun H locs ls h1 h2 h3 => lv_land E.1 E.2.1 d (k H locs ls h1 h2 h3)
theorem s_lor {x y : Int64} (E : EE p s m meth c D aC b nL cc own ret) (d : decode cc pc = .ok (.lor, 1)) (k : Wv p l e R s m args below meth c Q D aC b nL (pc + 1) L (AL (x ||| y) :: S) w cs sl) : Wv p l e R s m args below meth c Q D aC b nL pc L (AL y :: AL x :: S) w cs sl := fun H locs ls h1 h2 h3 => lv_lor E.1 E.2.1 d (k H locs ls h1 h2 h3)
theorem s_ldiv {x y : Int64} (E : EE p s m meth c D aC b nL cc own ret) (d : decode cc pc = .ok (.ldiv, 1)) (hne : ¬ y = 0) (k : Wv p l e R s m args below meth c Q D aC b nL (pc + 1) L (AL (x / y) :: S) w cs sl) : Wv p l e R s m args below meth c Q D aC b nL pc L (AL y :: AL x :: S) w cs sl := fun H locs ls h1 h2 h3 => lv_ldiv E.1 E.2.1 d hne (k H locs ls h1 h2 h3)
theorem s_lrem {x y : Int64} (E : EE p s m meth c D aC b nL cc own ret) (d : decode cc pc = .ok (.lrem, 1)) (hne : ¬ y = 0) (k : Wv p l e R s m args below meth c Q D aC b nL (pc + 1) L (AL (x - x / y * y) :: S) w cs sl) : Wv p l e R s m args below meth c Q D aC b nL pc L (AL y :: AL x :: S) w cs sl := fun H locs ls h1 h2 h3 => lv_lrem E.1 E.2.1 d hne (k H locs ls h1 h2 h3)
theorem s_iushr {x y : Int32} (E : EE p s m meth c D aC b nL cc own ret) (d : decode cc pc = .ok (.iushr, 1)) (k : Wv p l e R s m args below meth c Q D aC b nL (pc + 1) L (AI ((x.toUInt32 >>> (y.toUInt32 &&& Int32.toUInt32 31)).toInt32) :: S) w cs sl) : Wv p l e R s m args below meth c Q D aC b nL pc L (AI y :: AI x :: S) w cs sl := fun H locs ls h1 h2 h3 => lv_iushr E.1 E.2.1 d rfl (k H locs ls h1 h2 h3)
theorem s_lshl {x : Int64} {y : Int32} (E : EE p s m meth c D aC b nL cc own ret) (d : decode cc pc = .ok (.lshl, 1)) (k : Wv p l e R s m args below meth c Q D aC b nL (pc + 1) L (AL (x <<< (y.toInt64 &&& 63)) :: S) w cs sl) : Wv p l e R s m args below meth c Q D aC b nL pc L (AI y :: AL x :: S) w cs sl := fun H locs ls h1 h2 h3 => lv_lshl E.1 E.2.1 d rfl (k H locs ls h1 h2 h3)
theorem s_lshr {x : Int64} {y : Int32} (E : EE p s m meth c D aC b nL cc own ret) (d : decode cc pc = .ok (.lshr, 1)) (k : Wv p l e R s m args below meth c Q D aC b nL (pc + 1) L (AL (x >>> (y.toInt64 &&& 63)) :: S) w cs sl) : Wv p l e R s m args below meth c Q D aC b nL pc L (AI y :: AL x :: S) w cs sl := fun H locs ls h1 h2 h3 => lv_lshr E.1 E.2.1 d rfl (k H locs ls h1 h2 h3)
theorem s_i2l {x : Int32} (E : EE p s m meth c D aC b nL cc own ret) (d : decode cc pc = .ok (.i2l, 1)) (k : Wv p l e R s m args below meth c Q D aC b nL (pc + 1) L (AL x.toInt64 :: S) w cs sl) : Wv p l e R s m args below meth c Q D aC b nL pc L (AI x :: S) w cs sl := fun H locs ls h1 h2 h3 => lv_i2l E.1 E.2.1 d rfl (k H locs ls h1 h2 h3)
theorem s_l2i {x : Int64} (E : EE p s m meth c D aC b nL cc own ret) (d : decode cc pc = .ok (.l2i, 1)) (k : Wv p l e R s m args below meth c Q D aC b nL (pc + 1) L (AI x.toInt32 :: S) w cs sl) : Wv p l e R s m args below meth c Q D aC b nL pc L (AL x :: S) w cs sl := fun H locs ls h1 h2 h3 => lv_l2i E.1 E.2.1 d rfl (k H locs ls h1 h2 h3)
theorem s_i2b {x : Int32} (E : EE p s m meth c D aC b nL cc own ret) (d : decode cc pc = .ok (.i2b, 1)) (k : Wv p l e R s m args below meth c Q D aC b nL (pc + 1) L (AI x.toInt8.toInt32 :: S) w cs sl) : Wv p l e R s m args below meth c Q D aC b nL pc L (AI x :: S) w cs sl := fun H locs ls h1 h2 h3 => lv_i2b E.1 E.2.1 d rfl (k H locs ls h1 h2 h3)
theorem s_i2s {x : Int32} (E : EE p s m meth c D aC b nL cc own ret) (d : decode cc pc = .ok (.i2s, 1)) (k : Wv p l e R s m args below meth c Q D aC b nL (pc + 1) L (AI x.toInt16.toInt32 :: S) w cs sl) : Wv p l e R s m args below meth c Q D aC b nL pc L (AI x :: S) w cs sl := fun H locs ls h1 h2 h3 => lv_i2s E.1 E.2.1 d rfl (k H locs ls h1 h2 h3)
theorem s_lcmp {x y : Int64} (E : EE p s m meth c D aC b nL cc own ret) (d : decode cc pc = .ok (.lcmp, 1)) (k : Wv p l e R s m args below meth c Q D aC b nL (pc + 1) L (AI (lg_cmp x y) :: S) w cs sl) : Wv p l e R s m args below meth c Q D aC b nL pc L (AL y :: AL x :: S) w cs sl := fun H locs ls h1 h2 h3 => W.lcmp E.1 E.2.1 d (k H locs ls h1 h2 h3)
theorem s_dupI {x : Int32} (E : EE p s m meth c D aC b nL cc own ret) (d : decode cc pc = .ok (.dup, 1)) (k : Wv p l e R s m args below meth c Q D aC b nL (pc + 1) L (AI x :: AI x :: S) w cs sl) : Wv p l e R s m args below meth c Q D aC b nL pc L (AI x :: S) w cs sl := fun H locs ls h1 h2 h3 => lv_dup E.1 E.2.1 d rfl (k H locs ls h1 h2 h3)
theorem s_dupR {x : Nat} (E : EE p s m meth c D aC b nL cc own ret) (d : decode cc pc = .ok (.dup, 1)) (k : Wv p l e R s m args below meth c Q D aC b nL (pc + 1) L (AR x :: AR x :: S) w cs sl) : Wv p l e R s m args below meth c Q D aC b nL pc L (AR x :: S) w cs sl := fun H locs ls h1 h2 h3 => lv_dup E.1 E.2.1 d rfl (k H locs ls h1 h2 h3)
theorem s_popI {x : Int32} (E : EE p s m meth c D aC b nL cc own ret) (d : decode cc pc = .ok (.pop, 1)) (k : Wv p l e R s m args below meth c Q D aC b nL (pc + 1) L (S) w cs sl) : Wv p l e R s m args below meth c Q D aC b nL pc L (AI x :: S) w cs sl := fun H locs ls h1 h2 h3 => lv_pop E.1 E.2.1 d rfl (k H locs ls h1 h2 h3)
theorem s_dup2 {x : Nat} {y : Int32} (E : EE p s m meth c D aC b nL cc own ret) (d : decode cc pc = .ok (.dup2, 1)) (k : Wv p l e R s m args below meth c Q D aC b nL (pc + 1) L (AI y :: AR x :: AI y :: AR x :: S) w cs sl) : Wv p l e R s m args below meth c Q D aC b nL pc L (AI y :: AR x :: S) w cs sl := fun H locs ls h1 h2 h3 => lv_dup2_11 E.1 E.2.1 d rfl rfl (k H locs ls h1 h2 h3)
theorem s_if_eq {x : Int32} {off : Int} {tgt : Nat} (E : EE p s m meth c D aC b nL cc own ret) (d : decode cc pc = .ok (.ifCond .eq off, 3)) (ht : (pc : Int) + off = (tgt : Int)) (kt : x = 0 → Wv p l e R s m args below meth c Q D aC b nL tgt L S w cs sl) (kf : ¬ x = 0 → Wv p l e R s m args below meth c Q D aC b nL (pc + 3) L S w cs sl) : Wv p l e R s m args below meth c Q D aC b nL pc L (AI x :: S) w cs sl := fun H locs ls h1 h2 h3 => lv_if_eq E.1 E.2.1 d ht (fun h => kt h H locs ls h1 h2 h3) (fun h => kf h H locs ls h1 h2 h3)
theorem s_if_ne {x : Int32} {off : Int} {tgt : Nat} (E : EE p s m meth c D aC b nL cc own ret) (d : decode cc pc = .ok (.ifCond .ne off, 3)) (ht : (pc : Int) + off = (tgt : Int)) (kt : ¬ x = 0 → Wv p l e R s m args below meth c Q D aC b nL tgt L S w cs sl) (kf : x = 0 → Wv p l e R s m args below meth c Q D aC b nL (pc + 3) L S w cs sl) : Wv p l e R s m args below meth c Q D aC b nL pc L (AI x :: S) w cs sl := fun H locs ls h1 h2 h3 => lv_if_ne E.1 E.2.1 d ht (fun h => kt h H locs ls h1 h2 h3) (fun h => kf h H locs ls h1 h2 h3)
theorem s_if_lt {x : Int32} {off : Int} {tgt : Nat} (E : EE p s m meth c D aC b nL cc own ret) (d : decode cc pc = .ok (.ifCond .lt off, 3)) (ht : (pc : Int) + off = (tgt : Int)) (kt : x < 0 → Wv p l e R s m args below meth c Q D aC b nL tgt L S w cs sl) (kf : ¬ x < 0 → Wv p l e R s m args below meth c Q D aC b nL (pc + 3) L S w cs sl) : Wv p l e R s m args below meth c Q D aC b nL pc L (AI x :: S) w cs sl := fun H locs ls h1 h2 h3 => lv_if_lt E.1 E.2.1 d ht (fun h => kt h H locs ls h1 h2 h3) (fun h => kf h H locs ls h1 h2 h3)
theorem s_if_ge {x : Int32} {off : Int} {tgt : Nat} (E : EE p s m meth c D aC b nL cc own ret) (d : decode cc pc = .ok (.ifCond .ge off, 3)) (ht : (pc : Int) + off = (tgt : Int)) (kt : 0 ≤ x → Wv p l e R s m args below meth c Q D aC b nL tgt L S w cs sl) (kf : ¬ 0 ≤ x → Wv p l e R s m args below meth c Q D aC b nL (pc + 3) L S w cs sl) : Wv p l e R s m args below meth c Q D aC b nL pc L (AI x :: S) w cs sl := fun H locs ls h1 h2 h3 => lv_if_ge E.1 E.2.1 d ht (fun h => kt h H locs ls h1 h2 h3) (fun h => kf h H locs ls h1 h2 h3)
theorem s_if_gt {x : Int32} {off : Int} {tgt : Nat} (E : EE p s m meth c D aC b nL cc own ret) (d : decode cc pc = .ok (.ifCond .gt off, 3)) (ht : (pc : Int) + off = (tgt : Int)) (kt : 0 < x → Wv p l e R s m args below meth c Q D aC b nL tgt L S w cs sl) (kf : ¬ 0 < x → Wv p l e R s m args below meth c Q D aC b nL (pc + 3) L S w cs sl) : Wv p l e R s m args below meth c Q D aC b nL pc L (AI x :: S) w cs sl := fun H locs ls h1 h2 h3 => lv_if_gt E.1 E.2.1 d ht (fun h => kt h H locs ls h1 h2 h3) (fun h => kf h H locs ls h1 h2 h3)
theorem s_if_le {x : Int32} {off : Int} {tgt : Nat} (E : EE p s m meth c D aC b nL cc own ret) (d : decode cc pc = .ok (.ifCond .le off, 3)) (ht : (pc : Int) + off = (tgt : Int)) (kt : x ≤ 0 → Wv p l e R s m args below meth c Q D aC b nL tgt L S w cs sl) (kf : ¬ x ≤ 0 → Wv p l e R s m args below meth c Q D aC b nL (pc + 3) L S w cs sl) : Wv p l e R s m args below meth c Q D aC b nL pc L (AI x :: S) w cs sl := fun H locs ls h1 h2 h3 => lv_if_le E.1 E.2.1 d ht (fun h => kt h H locs ls h1 h2 h3) (fun h => kf h H locs ls h1 h2 h3)
theorem s_icmp_eq {x y : Int32} {off : Int} {tgt : Nat} (E : EE p s m meth c D aC b nL cc own ret) (d : decode cc pc = .ok (.if_icmp .eq off, 3)) (ht : (pc : Int) + off = (tgt : Int)) (kt : x = y → Wv p l e R s m args below meth c Q D aC b nL tgt L S w cs sl) (kf : ¬ x = y → Wv p l e R s m args below meth c Q D aC b nL (pc + 3) L S w cs sl) : Wv p l e R s m args below meth c Q D aC b nL pc L (AI y :: AI x :: S) w cs sl := fun H locs ls h1 h2 h3 => lv_icmp_eq E.1 E.2.1 d ht (fun h => kt h H locs ls h1 h2 h3) (fun h => kf h H locs ls h1 h2 h3)
theorem s_icmp_ne {x y : Int32} {off : Int} {tgt : Nat} (E : EE p s m meth c D aC b nL cc own ret) (d : decode cc pc = .ok (.if_icmp .ne off, 3)) (ht : (pc : Int) + off = (tgt : Int)) (kt : ¬ x = y → Wv p l e R s m args below meth c Q D aC b nL tgt L S w cs sl) (kf : x = y → Wv p l e R s m args below meth c Q D aC b nL (pc + 3) L S w cs sl) : Wv p l e R s m args below meth c Q D aC b nL pc L (AI y :: AI x :: S) w cs sl := fun H locs ls h1 h2 h3 => lv_icmp_ne E.1 E.2.1 d ht (fun h => kt h H locs ls h1 h2 h3) (fun h => kf h H locs ls h1 h2 h3)
theorem s_icmp_lt {x y : Int32} {off : Int} {tgt : Nat} (E : EE p s m meth c D aC b nL cc own ret) (d : decode cc pc = .ok (.if_icmp .lt off, 3)) (ht : (pc : Int) + off = (tgt : Int)) (kt : x < y → Wv p l e R s m args below meth c Q D aC b nL tgt L S w cs sl) (kf : ¬ x < y → Wv p l e R s m args below meth c Q D aC b nL (pc + 3) L S w cs sl) : Wv p l e R s m args below meth c Q D aC b nL pc L (AI y :: AI x :: S) w cs sl := fun H locs ls h1 h2 h3 => lv_icmp_lt E.1 E.2.1 d ht (fun h => kt h H locs ls h1 h2 h3) (fun h => kf h H locs ls h1 h2 h3)
theorem s_icmp_ge {x y : Int32} {off : Int} {tgt : Nat} (E : EE p s m meth c D aC b nL cc own ret) (d : decode cc pc = .ok (.if_icmp .ge off, 3)) (ht : (pc : Int) + off = (tgt : Int)) (kt : y ≤ x → Wv p l e R s m args below meth c Q D aC b nL tgt L S w cs sl) (kf : ¬ y ≤ x → Wv p l e R s m args below meth c Q D aC b nL (pc + 3) L S w cs sl) : Wv p l e R s m args below meth c Q D aC b nL pc L (AI y :: AI x :: S) w cs sl := fun H locs ls h1 h2 h3 => lv_icmp_ge E.1 E.2.1 d ht (fun h => kt h H locs ls h1 h2 h3) (fun h => kf h H locs ls h1 h2 h3)
theorem s_icmp_gt {x y : Int32} {off : Int} {tgt : Nat} (E : EE p s m meth c D aC b nL cc own ret) (d : decode cc pc = .ok (.if_icmp .gt off, 3)) (ht : (pc : Int) + off = (tgt : Int)) (kt : y < x → Wv p l e R s m args below meth c Q D aC b nL tgt L S w cs sl) (kf : ¬ y < x → Wv p l e R s m args below meth c Q D aC b nL (pc + 3) L S w cs sl) : Wv p l e R s m args below meth c Q D aC b nL pc L (AI y :: AI x :: S) w cs sl := fun H locs ls h1 h2 h3 => lv_icmp_gt E.1 E.2.1 d ht (fun h => kt h H locs ls h1 h2 h3) (fun h => kf h H locs ls h1 h2 h3)
theorem s_icmp_le {x y : Int32} {off : Int} {tgt : Nat} (E : EE p s m meth c D aC b nL cc own ret) (d : decode cc pc = .ok (.if_icmp .le off, 3)) (ht : (pc : Int) + off = (tgt : Int)) (kt : x ≤ y → Wv p l e R s m args below meth c Q D aC b nL tgt L S w cs sl) (kf : ¬ x ≤ y → Wv p l e R s m args below meth c Q D aC b nL (pc + 3) L S w cs sl) : Wv p l e R s m args below meth c Q D aC b nL pc L (AI y :: AI x :: S) w cs sl := fun H locs ls h1 h2 h3 => lv_icmp_le E.1 E.2.1 d ht (fun h => kt h H locs ls h1 h2 h3) (fun h => kf h H locs ls h1 h2 h3)
theorem s_goto {off : Int} {tgt : Nat} (E : EE p s m meth c D aC b nL cc own ret) (d : decode cc pc = .ok (.goto off, 3)) (ht : (pc : Int) + off = (tgt : Int)) (k : Wv p l e R s m args below meth c Q D aC b nL tgt L S w cs sl) : Wv p l e R s m args below meth c Q D aC b nL pc L S w cs sl := fun H locs ls h1 h2 h3 => lv_goto E.1 E.2.1 d ht (k H locs ls h1 h2 h3)
theorem s_tableOut {dflt lo hi : Int} {offs : Array Int} {len : Nat} {x : Int32} {tgt : Nat} (E : EE p s m meth c D aC b nL cc own ret) (d : decode cc pc = .ok (.tableswitch dflt lo hi offs, len)) (h : x.toInt < lo ∨ hi < x.toInt) (ht : (pc : Int) + dflt = (tgt : Int)) (k : Wv p l e R s m args below meth c Q D aC b nL tgt L S w cs sl) : Wv p l e R s m args below meth c Q D aC b nL pc L (AI x :: S) w cs sl := fun H locs ls h1 h2 h3 => lv_tableOut E.1 E.2.1 d h ht (k H locs ls h1 h2 h3)
theorem s_tableIn {dflt lo hi : Int} {offs : Array Int} {len : Nat} {x : Int32} {off : Int} {tgt : Nat} (E : EE p s m meth c D aC b nL cc own ret) (d : decode cc pc = .ok (.tableswitch dflt lo hi offs, len)) (g1 : ¬ x.toInt < lo) (g2 : ¬ hi < x.toInt) (ho : offs[(x.toInt - lo).toNat]? = some off) (ht : (pc : Int) + off = (tgt : Int)) (k : Wv p l e R s m args below meth c Q D aC b nL tgt L S w cs sl) : Wv p l e R s m args below meth c Q D aC b nL pc L (AI x :: S) w cs sl := fun H locs ls h1 h2 h3 => lv_tableIn E.1 E.2.1 d g1 g2 ho ht (k H locs ls h1 h2 h3)
theorem Wv.widen {cs2 sl2 : Nat} (g1 : cs ≤ cs2) (g2 : sl ≤ sl2) (k : Wv p l e R s m args below meth c Q D aC b nL pc L S w cs2 sl2) : Wv p l e R s m args below meth c Q D aC b nL pc L S w cs sl := fun H locs ls h1 h2 h3 => W.widen g1 g2 (k H locs ls h1 h2 h3)
theorem r_int {post : Int32 → XW → Prop} {x : Int32} (E : EE p s m meth c D aC b nL cc own (some .int)) (d : decode cc pc = .ok (.ireturn, 1)) (hp : post x w) : Wv p l e R s m args below meth c (MQ below (va_Qi post (xU D aC b) (xA b)) args s cs sl (xA b)) D aC b nL pc L [AI x] w cs sl := fun H locs ls h1 h2 h3 =>
  W.iret (v := x) E.1 E.2.1 E.2.2.2.2.2.2.1 (fun t ht hW => ⟨⟨x, w, rfl, hp, E.xU h1 ht hW⟩, h2.F ht⟩) h2.2.2 d E.2.2.2.2.2.2.2.1
theorem r_bool {post : Int32 → XW → Prop} {x : Int32} (E : EE p s m meth c D aC b nL cc own (some .boolean)) (d : decode cc pc = .ok (.ireturn, 1)) (hx : x = 0 ∨ x = 1) (hp : post x w) : Wv p l e R s m args below meth c (MQ below (va_Qi post (xU D aC b) (xA b)) args s cs sl (xA b)) D aC b nL pc L [AI x] w cs sl := fun H locs ls h1 h2 h3 =>
  W.zret (v := x) E.1 E.2.1 E.2.2.2.2.2.2.1 (by rcases hx with rfl | rfl <;> decide) (fun t ht hW => ⟨⟨x, w, rfl, hp, E.xU h1 ht hW⟩, h2.F ht⟩) h2.2.2 d E.2.2.2.2.2.2.2.1
theorem r_long {post : Int64 → XW → Prop} {x : Int64} (E : EE p s m meth c D aC b nL cc own (some .long)) (d : decode cc pc = .ok (.lreturn, 1)) (hp : post x w) : Wv p l e R s m args below meth c (MQ below (va_Ql post (xU D aC b) (xA b)) args s cs sl (xA b)) D aC b nL pc L [AL x] w cs sl := fun H locs ls h1 h2 h3 =>
  W.lret (v := x) E.1 E.2.1 E.2.2.2.2.2.2.1 (fun t ht hW => ⟨⟨x, w, rfl, hp, E.xU h1 ht hW⟩, h2.F ht⟩) h2.2.2 d E.2.2.2.2.2.2.2.1
theorem r_void {post : XW → Prop} (E : EE p s m meth c D aC b nL cc own none) (d : decode cc pc = .ok (.return_, 1)) (hp : post w) : Wv p l e R s m args below meth c (MQ below (va_Qv post (xU D aC b) (xA b)) args s cs sl (xA b)) D aC b nL pc L [] w cs sl := fun H locs ls h1 h2 h3 =>
  W.vret E.1 E.2.1 E.2.2.2.2.2.2.1 (fun t ht hW => ⟨⟨w, rfl, hp, E.xU h1 ht hW⟩, h2.F ht⟩) h2.2.2 d E.2.2.2.2.2.2.2.1
end XR
end
section
section XH
variable {p : Program} {l : Launch} {e : Env} {R : Room} {s : State} {m : MethodId} {args : Array Value} {below : List Frame} {meth : Method} {c : Code} {Q : State → Prop}
variable {D : va_G} {aC : Nat → ClassId} {b nL : Nat} {cc : ByteArray} {own : String} {ret : Option FieldType}
variable {pc : Nat} {L : List (Option AV)} {S : List AV} {w : XW} {cs sl : Nat}
theorem rg_get {α : Type} {f : Nat → α} {N k : Nat} (h : k < N) : ((List.range N).map f)[k]? = some (f k) := by simp [h]
theorem rg_set {α : Type} {f g : Nat → α} {N k : Nat} {v : α} (hv : g k = v) (ho : ∀ j, j ≠ k → g j = f j) : ((List.range N).map f).set k v = (List.range N).map g := by
  apply List.ext_getElem?
  intro j
  by_cases hj : k = j
  · subst hj
    by_cases hl : k < N
    · rw [List.getElem?_set_self (by simpa using hl), rg_get hl, hv]
    · rw [List.getElem?_eq_none (by simp; omega), List.getElem?_eq_none (by simp; omega)]
  · rw [List.getElem?_set_ne hj]
    by_cases hl : j < N
    · rw [rg_get hl, rg_get hl, ho j (fun z => hj z.symm)]
    · rw [List.getElem?_eq_none (by simp; omega), List.getElem?_eq_none (by simp; omega)]
/-- the world behind a write into one cell -/
theorem xH_set {w2 : XW} {H H1 : Heap} {q : Nat} {en : va_E} (h : xH D aC b w H) (hz : H1.size = H.size) (hq : q < w.1) (hn : w2.1 = w.1) (hE : xE aC b w2 q = en) (ho : ∀ j, j ≠ q → xE aC b w2 j = xE aC b w j) (hP : va_P D vwCl ((xL aC b w).set q (b + q, en)) H1) : xH D aC b w2 H1 :=
  ⟨by rw [← xL_set hE hn ho]; exact hP, by rw [hz, h.2, hn]⟩
theorem upI_o {j q k : Nat} {x : Int32} (h : j ≠ q) : xE aC b (upI w q k x) j = xE aC b w j := xE_other rfl (va_up_ne _ _ h) rfl
theorem upL_o {j q k : Nat} {x : Int64} (h : j ≠ q) : xE aC b (upL w q k x) j = xE aC b w j := xE_other rfl rfl (va_up_ne _ _ h)
theorem upR_o {j q k : Nat} {x : Nat} (h : j ≠ q) : xE aC b (upR w q k x) j = xE aC b w j := xE_other (va_up_ne _ _ h) rfl rfl
theorem xF_upI {q k j : Nat} {x : Int32} {t : FieldType} (h : j ≠ k) : xF b (upI w q k x) q t j = xF b w q t j := by
  unfold xF upI
  simp [va_up, upd, h]
theorem xF_upL {q k j : Nat} {x : Int64} {t : FieldType} (h : j ≠ k) : xF b (upL w q k x) q t j = xF b w q t j := by
  unfold xF upL
  simp [va_up, vp_updL, h]
theorem xF_upR {q k j : Nat} {x : Nat} {t : FieldType} (h : j ≠ k) : xF b (upR w q k x) q t j = xF b w q t j := by
  unfold xF upR
  simp [va_up, h]
theorem s_getI {q ci N index : Nat} {C : String} {T : u_T} (E : EE p s m meth c D aC b nL cc own ret) (hC : CI ci C T N) (k : Nat) (hk : k < N) (ht : isI (xT ci k) = true) (hm : Cond.fieldLink own index (T k).1 (T k).2.1 (T k).2.2.1 ∈ lw_tbl) (ho : okW (Cond.fieldLink own index (T k).1 (T k).2.1 (T k).2.2.1) = true) (hs : xS q = (ci, N)) (hq : q < w.1) (d : decode cc pc = .ok (.getfield index, 3)) (kk : Wv p l e R s m args below meth c Q D aC b nL (pc + 3) L (AI (w.2.2.1 q k) :: S) w cs sl) : Wv p l e R s m args below meth c Q D aC b nL pc L (AR q :: S) w cs sl := fun H locs ls h1 h2 h3 =>
  va_get E.1 E.2.1 (E.ci hC) (fun _ h => h) E.2.2.2.1 E.2.2.2.2.2.1 h1.1 q (by rw [xL_at hq, xE_obj hs hC.2.1]) hC.1 k hk (E.gl hm ho) (fun _ h => h) (by rw [rg_get hk, xF_int ht]; rfl) d (kk H locs ls h1 h2 h3)
theorem s_getL {q ci N index : Nat} {C : String} {T : u_T} (E : EE p s m meth c D aC b nL cc own ret) (hC : CI ci C T N) (k : Nat) (hk : k < N) (ht : xT ci k = .long) (hm : Cond.fieldLink own index (T k).1 (T k).2.1 (T k).2.2.1 ∈ lw_tbl) (ho : okW (Cond.fieldLink own index (T k).1 (T k).2.1 (T k).2.2.1) = true) (hs : xS q = (ci, N)) (hq : q < w.1) (d : decode cc pc = .ok (.getfield index, 3)) (kk : Wv p l e R s m args below meth c Q D aC b nL (pc + 3) L (AL (w.2.2.2 q k) :: S) w cs sl) : Wv p l e R s m args below meth c Q D aC b nL pc L (AR q :: S) w cs sl := fun H locs ls h1 h2 h3 =>
  va_get E.1 E.2.1 (E.ci hC) (fun _ h => h) E.2.2.2.1 E.2.2.2.2.2.1 h1.1 q (by rw [xL_at hq, xE_obj hs hC.2.1]) hC.1 k hk (E.gl hm ho) (fun _ h => h) (by rw [rg_get hk, show xF b w q (xT ci k) k = .long (w.2.2.2 q k) from (by rw [ht]; exact xF_long)]; rfl) d (kk H locs ls h1 h2 h3)
theorem s_getR {q r ci N index : Nat} {C : String} {T : u_T} (E : EE p s m meth c D aC b nL cc own ret) (hC : CI ci C T N) (k : Nat) (hk : k < N) (ht : isRf (xT ci k) = true) (hm : Cond.fieldLink own index (T k).1 (T k).2.1 (T k).2.2.1 ∈ lw_tbl) (ho : okW (Cond.fieldLink own index (T k).1 (T k).2.1 (T k).2.2.1) = true) (hs : xS q = (ci, N)) (hq : q < w.1) (hr : w.2.1 q k = r + 1) (d : decode cc pc = .ok (.getfield index, 3)) (kk : Wv p l e R s m args below meth c Q D aC b nL (pc + 3) L (AR r :: S) w cs sl) : Wv p l e R s m args below meth c Q D aC b nL pc L (AR q :: S) w cs sl := fun H locs ls h1 h2 h3 =>
  va_get E.1 E.2.1 (E.ci hC) (fun _ h => h) E.2.2.2.1 E.2.2.2.2.2.1 h1.1 q (by rw [xL_at hq, xE_obj hs hC.2.1]) hC.1 k hk (E.gl hm ho) (fun _ h => h) (by rw [rg_get hk, xF_ref ht, hr]; rfl) d (kk H locs ls h1 h2 h3)
theorem s_getIN {q ci N index : Nat} {host : String} {C : String} {T : u_T} (E : EE p s m meth c D aC b nL cc own ret) (hC : CI ci C T N) (k : Nat) (hk : k < N) (ht : isI (xT ci k) = true) (hm : Cond.fieldLinkNest own index (T k).1 (T k).2.1 (T k).2.2.1 host ∈ lw_tbl) (ho : okW (Cond.fieldLinkNest own index (T k).1 (T k).2.1 (T k).2.2.1 host) = true) (hs : xS q = (ci, N)) (hq : q < w.1) (d : decode cc pc = .ok (.getfield index, 3)) (kk : Wv p l e R s m args below meth c Q D aC b nL (pc + 3) L (AI (w.2.2.1 q k) :: S) w cs sl) : Wv p l e R s m args below meth c Q D aC b nL pc L (AR q :: S) w cs sl := fun H locs ls h1 h2 h3 =>
  va_getN E.1 E.2.1 (E.ci hC) (fun _ h => h) E.2.2.2.1 E.2.2.2.2.2.1 h1.1 q (by rw [xL_at hq, xE_obj hs hC.2.1]) hC.1 k hk (E.gl hm ho) (fun _ h => h) (by rw [rg_get hk, xF_int ht]; rfl) d (kk H locs ls h1 h2 h3)
theorem s_getLN {q ci N index : Nat} {host : String} {C : String} {T : u_T} (E : EE p s m meth c D aC b nL cc own ret) (hC : CI ci C T N) (k : Nat) (hk : k < N) (ht : xT ci k = .long) (hm : Cond.fieldLinkNest own index (T k).1 (T k).2.1 (T k).2.2.1 host ∈ lw_tbl) (ho : okW (Cond.fieldLinkNest own index (T k).1 (T k).2.1 (T k).2.2.1 host) = true) (hs : xS q = (ci, N)) (hq : q < w.1) (d : decode cc pc = .ok (.getfield index, 3)) (kk : Wv p l e R s m args below meth c Q D aC b nL (pc + 3) L (AL (w.2.2.2 q k) :: S) w cs sl) : Wv p l e R s m args below meth c Q D aC b nL pc L (AR q :: S) w cs sl := fun H locs ls h1 h2 h3 =>
  va_getN E.1 E.2.1 (E.ci hC) (fun _ h => h) E.2.2.2.1 E.2.2.2.2.2.1 h1.1 q (by rw [xL_at hq, xE_obj hs hC.2.1]) hC.1 k hk (E.gl hm ho) (fun _ h => h) (by rw [rg_get hk, show xF b w q (xT ci k) k = .long (w.2.2.2 q k) from (by rw [ht]; exact xF_long)]; rfl) d (kk H locs ls h1 h2 h3)
theorem s_getRN {q r ci N index : Nat} {host : String} {C : String} {T : u_T} (E : EE p s m meth c D aC b nL cc own ret) (hC : CI ci C T N) (k : Nat) (hk : k < N) (ht : isRf (xT ci k) = true) (hm : Cond.fieldLinkNest own index (T k).1 (T k).2.1 (T k).2.2.1 host ∈ lw_tbl) (ho : okW (Cond.fieldLinkNest own index (T k).1 (T k).2.1 (T k).2.2.1 host) = true) (hs : xS q = (ci, N)) (hq : q < w.1) (hr : w.2.1 q k = r + 1) (d : decode cc pc = .ok (.getfield index, 3)) (kk : Wv p l e R s m args below meth c Q D aC b nL (pc + 3) L (AR r :: S) w cs sl) : Wv p l e R s m args below meth c Q D aC b nL pc L (AR q :: S) w cs sl := fun H locs ls h1 h2 h3 =>
  va_getN E.1 E.2.1 (E.ci hC) (fun _ h => h) E.2.2.2.1 E.2.2.2.2.2.1 h1.1 q (by rw [xL_at hq, xE_obj hs hC.2.1]) hC.1 k hk (E.gl hm ho) (fun _ h => h) (by rw [rg_get hk, xF_ref ht, hr]; rfl) d (kk H locs ls h1 h2 h3)
theorem xp_ (hexec : p.tables.exec = Jvm.exec) (hb : c.code = cc) {C : String} {T : u_T} {N ci index : Nat} (hts : ∀ w ∈ u_ws C T N, w.before args s = true) (ty0 : Nat → FieldType) (hty : ∀ k, k < N → parseFieldDescriptor (T k).2.2.1 = some (ty0 k)) (hnm : ∀ a, a < N → ∀ b, b < N → a ≠ b → (T a).2.1 ≠ (T b).2.1) (hown : s.vm.findClass own = some m.cls) {tys : List (ClassId × FieldType)} (hK : va_K D vwCl tys s) {ws : va_W} {H : Heap} {locs : List Loc} {H0 : Heap} {A : Nat → Prop} (hP : va_P D vwCl ws H) (hD : va_D A ws) (hS0 : va_S A H0 H locs) (q0 : Nat) {a : Nat} {fs : List Value} (he : ws[q0]? = some (a, .inr (ci, fs))) (hc : vwCl[ci]? = some (C, T, N)) (k : Nat) (hk : k < N) (hlink : (Cond.fieldLink own index (T k).1 (T k).2.1 (T k).2.2.1).before args s = true) (hfin : (T k).2.2.2 = false) {v : Value} (hn : narrow (ty0 k) v = v) (hfit : fits (ty0 k) v = true) (hl : k < fs.length) {ls : Array Slot} {rest : List Value} (hdg : decode cc pc = .ok (.putfield index, 3)) (kk : ∀ (H1 : Heap) (locs1 : List Loc), H1.size = H.size → va_P D vwCl (ws.set q0 (a, .inr (ci, fs.set k v))) H1 → va_S A H0 H1 locs1 → W p l e R s m args below meth c H1 locs1 cs sl Q (F0 m (pc + 3) ls rest)) : W p l e R s m args below meth c H locs cs sl Q (F0 m pc ls (v :: .ref a :: rest)) := by
  have hd := hty k hk
  have hap := va_apart (own := own) hts (fun _ h => h) ty0 hty hnm hK hc
  obtain ⟨r, h1, cell, q1, q2, q3, q4⟩ := hP q0 _ he
  have hr : r = (C, T, N) := Option.some.inj (h1.symm.trans hc)
  subst hr
  obtain ⟨hS, hfc, kC, hkC, hkind⟩ := hK.1 ci _ hc
  obtain ⟨cf, kf, fi, f, hi, hsl⟩ := hS k hk
  have hlay := hts _ (u_in_lay hk)
  unfold u_lay at hlay
  rw [if_neg (by rw [hfin]; decide)] at hlay
  have hst := (u_facts hfc hkC (u_lays hts (fun _ h => h) hk) hi).1
  have h6 := u_store hfc hkC hkind hlay hi hd hn hfit
  refine W.putK hexec hb (f := f) ⟨hown, hlink, ⟨_, _, _, hi⟩, hst⟩ (by rw [q2]; exact h6) q1 q3 (by rw [hsl]; exact k2_hasslot (q4 k hk)) rfl rfl hdg fun H' e1 e2 e3 => ?_
  rw [hsl] at e1 ⊢
  exact kk H' _ e2 (hP.set hD he ⟨_, hc, t_OB.to (V := updV (vp_V fs) k v) ⟨_, e1, q2, q3, t_set q4 hap hk v⟩ (fun j _ => vp_updV_set hl v j)⟩ e3) (hS0.put e2 e3 (hD.2 q0 _ he))
theorem xp_N {host : String} (hexec : p.tables.exec = Jvm.exec) (hb : c.code = cc) {C : String} {T : u_T} {N ci index : Nat} (hts : ∀ w ∈ u_ws C T N, w.before args s = true) (ty0 : Nat → FieldType) (hty : ∀ k, k < N → parseFieldDescriptor (T k).2.2.1 = some (ty0 k)) (hnm : ∀ a, a < N → ∀ b, b < N → a ≠ b → (T a).2.1 ≠ (T b).2.1) (hown : s.vm.findClass own = some m.cls) {tys : List (ClassId × FieldType)} (hK : va_K D vwCl tys s) {ws : va_W} {H : Heap} {locs : List Loc} {H0 : Heap} {A : Nat → Prop} (hP : va_P D vwCl ws H) (hD : va_D A ws) (hS0 : va_S A H0 H locs) (q0 : Nat) {a : Nat} {fs : List Value} (he : ws[q0]? = some (a, .inr (ci, fs))) (hc : vwCl[ci]? = some (C, T, N)) (k : Nat) (hk : k < N) (hlink : (Cond.fieldLinkNest own index (T k).1 (T k).2.1 (T k).2.2.1 host).before args s = true) (hfin : (T k).2.2.2 = false) {v : Value} (hn : narrow (ty0 k) v = v) (hfit : fits (ty0 k) v = true) (hl : k < fs.length) {ls : Array Slot} {rest : List Value} (hdg : decode cc pc = .ok (.putfield index, 3)) (kk : ∀ (H1 : Heap) (locs1 : List Loc), H1.size = H.size → va_P D vwCl (ws.set q0 (a, .inr (ci, fs.set k v))) H1 → va_S A H0 H1 locs1 → W p l e R s m args below meth c H1 locs1 cs sl Q (F0 m (pc + 3) ls rest)) : W p l e R s m args below meth c H locs cs sl Q (F0 m pc ls (v :: .ref a :: rest)) := by
  have hd := hty k hk
  have hap := va_apart (own := own) hts (fun _ h => h) ty0 hty hnm hK hc
  obtain ⟨r, h1, cell, q1, q2, q3, q4⟩ := hP q0 _ he
  have hr : r = (C, T, N) := Option.some.inj (h1.symm.trans hc)
  subst hr
  obtain ⟨hS, hfc, kC, hkC, hkind⟩ := hK.1 ci _ hc
  obtain ⟨cf, kf, fi, f, hi, hsl⟩ := hS k hk
  have hlay := hts _ (u_in_lay hk)
  unfold u_lay at hlay
  rw [if_neg (by rw [hfin]; decide)] at hlay
  have hst := (u_facts hfc hkC (u_lays hts (fun _ h => h) hk) hi).1
  have h6 := u_store hfc hkC hkind hlay hi hd hn hfit
  refine va_WputK hexec hb (f := f) hown hlink hi hst (by rw [q2]; exact h6) q1 q3 (by rw [hsl]; exact k2_hasslot (q4 k hk)) rfl rfl hdg fun H' e1 e2 e3 => ?_
  rw [hsl] at e1 ⊢
  exact kk H' _ e2 (hP.set hD he ⟨_, hc, t_OB.to (V := updV (vp_V fs) k v) ⟨_, e1, q2, q3, t_set q4 hap hk v⟩ (fun j _ => vp_updV_set hl v j)⟩ e3) (hS0.put e2 e3 (hD.2 q0 _ he))
theorem xp_F (hexec : p.tables.exec = Jvm.exec) (hb : c.code = cc) {C : String} {T : u_T} {N ci index : Nat} (hts : ∀ w ∈ u_ws C T N, w.before args s = true) (ty0 : Nat → FieldType) (hty : ∀ k, k < N → parseFieldDescriptor (T k).2.2.1 = some (ty0 k)) (hnm : ∀ a, a < N → ∀ b, b < N → a ≠ b → (T a).2.1 ≠ (T b).2.1) (hown : s.vm.findClass own = some m.cls) {tys : List (ClassId × FieldType)} (hK : va_K D vwCl tys s) {ws : va_W} {H : Heap} {locs : List Loc} {H0 : Heap} {A : Nat → Prop} (hP : va_P D vwCl ws H) (hD : va_D A ws) (hS0 : va_S A H0 H locs) (q0 : Nat) {a : Nat} {fs : List Value} (he : ws[q0]? = some (a, .inr (ci, fs))) (hc : vwCl[ci]? = some (C, T, N)) (k : Nat) (hk : k < N) (hlink : (Cond.fieldLink own index (T k).1 (T k).2.1 (T k).2.2.1).before args s = true) (hfin : (T k).2.2.2 = true) (hin2 : meth.name = "<init>") (hdecl : (T k).1 = own) {v : Value} (hn : narrow (ty0 k) v = v) (hfit : fits (ty0 k) v = true) (hl : k < fs.length) {ls : Array Slot} {rest : List Value} (hdg : decode cc pc = .ok (.putfield index, 3)) (kk : ∀ (H1 : Heap) (locs1 : List Loc), H1.size = H.size → va_P D vwCl (ws.set q0 (a, .inr (ci, fs.set k v))) H1 → va_S A H0 H1 locs1 → W p l e R s m args below meth c H1 locs1 cs sl Q (F0 m (pc + 3) ls rest)) : W p l e R s m args below meth c H locs cs sl Q (F0 m pc ls (v :: .ref a :: rest)) := by
  have hd := hty k hk
  have hap := va_apart (own := own) hts (fun _ h => h) ty0 hty hnm hK hc
  obtain ⟨r, h1, cell, q1, q2, q3, q4⟩ := hP q0 _ he
  have hr : r = (C, T, N) := Option.some.inj (h1.symm.trans hc)
  subst hr
  obtain ⟨hS, hfc, kC, hkC, hkind⟩ := hK.1 ci _ hc
  obtain ⟨cf, kf, fi, f, hi, hsl⟩ := hS k hk
  have hlay := hts _ (u_in_lay hk)
  unfold u_lay at hlay
  rw [if_pos hfin] at hlay
  have hst := (u_facts hfc hkC (u_lays hts (fun _ h => h) hk) hi).1
  have hcf : m.cls = cf := by
    obtain ⟨_, _, c1, _, _, _, -, -, hf1, -, -, -, hown2, -⟩ := Cond.laysFinal_spec hlay
    have e1 : c1 = cf := by have := hi.symm.trans hf1; simp at this; exact this.1.symm
    rw [hdecl] at hown2
    rw [← e1]; exact Option.some.inj (hown.symm.trans hown2)
  have h6 := u_fits hfc hkC hkind (Or.inr hlay) hi hd hn hfit
  refine W.putFinK hexec hb hown hlink hi hst hcf hin2 (by rw [q2]; exact h6) q1 q3 (by rw [hsl]; exact k2_hasslot (q4 k hk)) rfl rfl hdg fun H' e1 e2 e3 => ?_
  rw [hsl] at e1 ⊢
  exact kk H' _ e2 (hP.set hD he ⟨_, hc, t_OB.to (V := updV (vp_V fs) k v) ⟨_, e1, q2, q3, t_set q4 hap hk v⟩ (fun j _ => vp_updV_set hl v j)⟩ e3) (hS0.put e2 e3 (hD.2 q0 _ he))
theorem s_putI {q ci N index : Nat} {x : Int32} {C : String} {T : u_T} (E : EE p s m meth c D aC b nL cc own ret) (hC : CI ci C T N) (k : Nat) (hk : k < N) (ht : isI (xT ci k) = true) (hm : Cond.fieldLink own index (T k).1 (T k).2.1 (T k).2.2.1 ∈ lw_tbl) (ho : okW (Cond.fieldLink own index (T k).1 (T k).2.1 (T k).2.2.1) = true) (hs : xS q = (ci, N)) (hq : q < w.1) (hf : (T k).2.2.2 = false) (hn : narrow (xT ci k) (.int x) = .int x) (hfi : fits (xT ci k) (.int x) = true) (d : decode cc pc = .ok (.putfield index, 3)) (kk : Wv p l e R s m args below meth c Q D aC b nL (pc + 3) L S (upI w q k x) cs sl) : Wv p l e R s m args below meth c Q D aC b nL pc L (AI x :: AR q :: S) w cs sl := fun H locs ls h1 h2 h3 => by
  have he : xE aC b w q = _ := xE_obj hs hC.2.1
  refine xp_ (v := .int x) E.1 E.2.1 (E.ci hC) (xT ci) hC.2.2.2.1 hC.2.2.2.2 E.2.2.2.1 E.2.2.2.2.2.1 h1.1 xL_D h2 q (by rw [xL_at hq, he]) hC.1 k hk (E.gl hm ho) hf hn hfi (by simpa using hk) d (fun H1 locs1 hz hP1 hS1 => kk H1 locs1 ls ?_ hS1 h3)
  exact xH_set h1 hz hq rfl (by rw [xE_obj hs hC.2.1, rg_set (g := fun k2 => xF b (upI w q k x) q (xT ci k2) k2) (by show xF b _ q (xT ci k) k = _; rw [xF_int ht]; simp [upI, va_up, upd]) (fun j hj => xF_upI hj)]) (fun j hj => upI_o hj) hP1
theorem s_putIN {q ci N index : Nat} {x : Int32} {host : String} {C : String} {T : u_T} (E : EE p s m meth c D aC b nL cc own ret) (hC : CI ci C T N) (k : Nat) (hk : k < N) (ht : isI (xT ci k) = true) (hm : Cond.fieldLinkNest own index (T k).1 (T k).2.1 (T k).2.2.1 host ∈ lw_tbl) (ho : okW (Cond.fieldLinkNest own index (T k).1 (T k).2.1 (T k).2.2.1 host) = true) (hs : xS q = (ci, N)) (hq : q < w.1) (hf : (T k).2.2.2 = false) (hn : narrow (xT ci k) (.int x) = .int x) (hfi : fits (xT ci k) (.int x) = true) (d : decode cc pc = .ok (.putfield index, 3)) (kk : Wv p l e R s m args below meth c Q D aC b nL (pc + 3) L S (upI w q k x) cs sl) : Wv p l e R s m args below meth c Q D aC b nL pc L (AI x :: AR q :: S) w cs sl := fun H locs ls h1 h2 h3 => by
  have he : xE aC b w q = _ := xE_obj hs hC.2.1
  refine xp_N (v := .int x) E.1 E.2.1 (E.ci hC) (xT ci) hC.2.2.2.1 hC.2.2.2.2 E.2.2.2.1 E.2.2.2.2.2.1 h1.1 xL_D h2 q (by rw [xL_at hq, he]) hC.1 k hk (E.gl hm ho) hf hn hfi (by simpa using hk) d (fun H1 locs1 hz hP1 hS1 => kk H1 locs1 ls ?_ hS1 h3)
  exact xH_set h1 hz hq rfl (by rw [xE_obj hs hC.2.1, rg_set (g := fun k2 => xF b (upI w q k x) q (xT ci k2) k2) (by show xF b _ q (xT ci k) k = _; rw [xF_int ht]; simp [upI, va_up, upd]) (fun j hj => xF_upI hj)]) (fun j hj => upI_o hj) hP1
theorem s_putIF {q ci N index : Nat} {x : Int32} {C : String} {T : u_T} (E : EE p s m meth c D aC b nL cc own ret) (hC : CI ci C T N) (k : Nat) (hk : k < N) (ht : isI (xT ci k) = true) (hm : Cond.fieldLink own index (T k).1 (T k).2.1 (T k).2.2.1 ∈ lw_tbl) (ho : okW (Cond.fieldLink own index (T k).1 (T k).2.1 (T k).2.2.1) = true) (hs : xS q = (ci, N)) (hq : q < w.1) (hf : (T k).2.2.2 = true) (hin : meth.name = "<init>") (hde : (T k).1 = own) (hn : narrow (xT ci k) (.int x) = .int x) (hfi : fits (xT ci k) (.int x) = true) (d : decode cc pc = .ok (.putfield index, 3)) (kk : Wv p l e R s m args below meth c Q D aC b nL (pc + 3) L S (upI w q k x) cs sl) : Wv p l e R s m args below meth c Q D aC b nL pc L (AI x :: AR q :: S) w cs sl := fun H locs ls h1 h2 h3 => by
  have he : xE aC b w q = _ := xE_obj hs hC.2.1
  refine xp_F (v := .int x) E.1 E.2.1 (E.ci hC) (xT ci) hC.2.2.2.1 hC.2.2.2.2 E.2.2.2.1 E.2.2.2.2.2.1 h1.1 xL_D h2 q (by rw [xL_at hq, he]) hC.1 k hk (E.gl hm ho) hf hin hde hn hfi (by simpa using hk) d (fun H1 locs1 hz hP1 hS1 => kk H1 locs1 ls ?_ hS1 h3)
  exact xH_set h1 hz hq rfl (by rw [xE_obj hs hC.2.1, rg_set (g := fun k2 => xF b (upI w q k x) q (xT ci k2) k2) (by show xF b _ q (xT ci k) k = _; rw [xF_int ht]; simp [upI, va_up, upd]) (fun j hj => xF_upI hj)]) (fun j hj => upI_o hj) hP1
theorem s_putL {q ci N index : Nat} {x : Int64} {C : String} {T : u_T} (E : EE p s m meth c D aC b nL cc own ret) (hC : CI ci C T N) (k : Nat) (hk : k < N) (ht : xT ci k = .long) (hm : Cond.fieldLink own index (T k).1 (T k).2.1 (T k).2.2.1 ∈ lw_tbl) (ho : okW (Cond.fieldLink own index (T k).1 (T k).2.1 (T k).2.2.1) = true) (hs : xS q = (ci, N)) (hq : q < w.1) (hf : (T k).2.2.2 = false) (d : decode cc pc = .ok (.putfield index, 3)) (kk : Wv p l e R s m args below meth c Q D aC b nL (pc + 3) L S (upL w q k x) cs sl) : Wv p l e R s m args below meth c Q D aC b nL pc L (AL x :: AR q :: S) w cs sl := fun H locs ls h1 h2 h3 => by
  have he : xE aC b w q = _ := xE_obj hs hC.2.1
  refine xp_ (v := .long x) E.1 E.2.1 (E.ci hC) (xT ci) hC.2.2.2.1 hC.2.2.2.2 E.2.2.2.1 E.2.2.2.2.2.1 h1.1 xL_D h2 q (by rw [xL_at hq, he]) hC.1 k hk (E.gl hm ho) hf (by rw [ht]; rfl) (by rw [ht]; rfl) (by simpa using hk) d (fun H1 locs1 hz hP1 hS1 => kk H1 locs1 ls ?_ hS1 h3)
  exact xH_set h1 hz hq rfl (by rw [xE_obj hs hC.2.1, rg_set (g := fun k2 => xF b (upL w q k x) q (xT ci k2) k2) (by show xF b _ q (xT ci k) k = _; rw [ht, xF_long]; simp [upL, va_up, vp_updL]) (fun j hj => xF_upL hj)]) (fun j hj => upL_o hj) hP1
theorem s_putLN {q ci N index : Nat} {x : Int64} {host : String} {C : String} {T : u_T} (E : EE p s m meth c D aC b nL cc own ret) (hC : CI ci C T N) (k : Nat) (hk : k < N) (ht : xT ci k = .long) (hm : Cond.fieldLinkNest own index (T k).1 (T k).2.1 (T k).2.2.1 host ∈ lw_tbl) (ho : okW (Cond.fieldLinkNest own index (T k).1 (T k).2.1 (T k).2.2.1 host) = true) (hs : xS q = (ci, N)) (hq : q < w.1) (hf : (T k).2.2.2 = false) (d : decode cc pc = .ok (.putfield index, 3)) (kk : Wv p l e R s m args below meth c Q D aC b nL (pc + 3) L S (upL w q k x) cs sl) : Wv p l e R s m args below meth c Q D aC b nL pc L (AL x :: AR q :: S) w cs sl := fun H locs ls h1 h2 h3 => by
  have he : xE aC b w q = _ := xE_obj hs hC.2.1
  refine xp_N (v := .long x) E.1 E.2.1 (E.ci hC) (xT ci) hC.2.2.2.1 hC.2.2.2.2 E.2.2.2.1 E.2.2.2.2.2.1 h1.1 xL_D h2 q (by rw [xL_at hq, he]) hC.1 k hk (E.gl hm ho) hf (by rw [ht]; rfl) (by rw [ht]; rfl) (by simpa using hk) d (fun H1 locs1 hz hP1 hS1 => kk H1 locs1 ls ?_ hS1 h3)
  exact xH_set h1 hz hq rfl (by rw [xE_obj hs hC.2.1, rg_set (g := fun k2 => xF b (upL w q k x) q (xT ci k2) k2) (by show xF b _ q (xT ci k) k = _; rw [ht, xF_long]; simp [upL, va_up, vp_updL]) (fun j hj => xF_upL hj)]) (fun j hj => upL_o hj) hP1
theorem s_putLF {q ci N index : Nat} {x : Int64} {C : String} {T : u_T} (E : EE p s m meth c D aC b nL cc own ret) (hC : CI ci C T N) (k : Nat) (hk : k < N) (ht : xT ci k = .long) (hm : Cond.fieldLink own index (T k).1 (T k).2.1 (T k).2.2.1 ∈ lw_tbl) (ho : okW (Cond.fieldLink own index (T k).1 (T k).2.1 (T k).2.2.1) = true) (hs : xS q = (ci, N)) (hq : q < w.1) (hf : (T k).2.2.2 = true) (hin : meth.name = "<init>") (hde : (T k).1 = own) (d : decode cc pc = .ok (.putfield index, 3)) (kk : Wv p l e R s m args below meth c Q D aC b nL (pc + 3) L S (upL w q k x) cs sl) : Wv p l e R s m args below meth c Q D aC b nL pc L (AL x :: AR q :: S) w cs sl := fun H locs ls h1 h2 h3 => by
  have he : xE aC b w q = _ := xE_obj hs hC.2.1
  refine xp_F (v := .long x) E.1 E.2.1 (E.ci hC) (xT ci) hC.2.2.2.1 hC.2.2.2.2 E.2.2.2.1 E.2.2.2.2.2.1 h1.1 xL_D h2 q (by rw [xL_at hq, he]) hC.1 k hk (E.gl hm ho) hf hin hde (by rw [ht]; rfl) (by rw [ht]; rfl) (by simpa using hk) d (fun H1 locs1 hz hP1 hS1 => kk H1 locs1 ls ?_ hS1 h3)
  exact xH_set h1 hz hq rfl (by rw [xE_obj hs hC.2.1, rg_set (g := fun k2 => xF b (upL w q k x) q (xT ci k2) k2) (by show xF b _ q (xT ci k) k = _; rw [ht, xF_long]; simp [upL, va_up, vp_updL]) (fun j hj => xF_upL hj)]) (fun j hj => upL_o hj) hP1
theorem s_putR {q ci N index : Nat} {x : Nat} {C : String} {T : u_T} (E : EE p s m meth c D aC b nL cc own ret) (hC : CI ci C T N) (k : Nat) (hk : k < N) (ht : isRf (xT ci k) = true) (hm : Cond.fieldLink own index (T k).1 (T k).2.1 (T k).2.2.1 ∈ lw_tbl) (ho : okW (Cond.fieldLink own index (T k).1 (T k).2.1 (T k).2.2.1) = true) (hs : xS q = (ci, N)) (hq : q < w.1) (hf : (T k).2.2.2 = false) (d : decode cc pc = .ok (.putfield index, 3)) (kk : Wv p l e R s m args below meth c Q D aC b nL (pc + 3) L S (upR w q k (x + 1)) cs sl) : Wv p l e R s m args below meth c Q D aC b nL pc L (AR x :: AR q :: S) w cs sl := fun H locs ls h1 h2 h3 => by
  have he : xE aC b w q = _ := xE_obj hs hC.2.1
  refine xp_ (v := .ref (b + x)) E.1 E.2.1 (E.ci hC) (xT ci) hC.2.2.2.1 hC.2.2.2.2 E.2.2.2.1 E.2.2.2.2.2.1 h1.1 xL_D h2 q (by rw [xL_at hq, he]) hC.1 k hk (E.gl hm ho) hf (by cases hty : xT ci k <;> rw [hty] at ht <;> first | rfl | (simp [isRf] at ht)) (by cases hty : xT ci k <;> rw [hty] at ht <;> first | rfl | (simp [isRf] at ht)) (by simpa using hk) d (fun H1 locs1 hz hP1 hS1 => kk H1 locs1 ls ?_ hS1 h3)
  exact xH_set h1 hz hq rfl (by rw [xE_obj hs hC.2.1, rg_set (g := fun k2 => xF b (upR w q k (x + 1)) q (xT ci k2) k2) (by show xF b _ q (xT ci k) k = _; rw [xF_ref ht]; simp [upR, va_up, rv, va_rf]) (fun j hj => xF_upR hj)]) (fun j hj => upR_o hj) hP1
theorem s_putRN {q ci N index : Nat} {x : Nat} {host : String} {C : String} {T : u_T} (E : EE p s m meth c D aC b nL cc own ret) (hC : CI ci C T N) (k : Nat) (hk : k < N) (ht : isRf (xT ci k) = true) (hm : Cond.fieldLinkNest own index (T k).1 (T k).2.1 (T k).2.2.1 host ∈ lw_tbl) (ho : okW (Cond.fieldLinkNest own index (T k).1 (T k).2.1 (T k).2.2.1 host) = true) (hs : xS q = (ci, N)) (hq : q < w.1) (hf : (T k).2.2.2 = false) (d : decode cc pc = .ok (.putfield index, 3)) (kk : Wv p l e R s m args below meth c Q D aC b nL (pc + 3) L S (upR w q k (x + 1)) cs sl) : Wv p l e R s m args below meth c Q D aC b nL pc L (AR x :: AR q :: S) w cs sl := fun H locs ls h1 h2 h3 => by
  have he : xE aC b w q = _ := xE_obj hs hC.2.1
  refine xp_N (v := .ref (b + x)) E.1 E.2.1 (E.ci hC) (xT ci) hC.2.2.2.1 hC.2.2.2.2 E.2.2.2.1 E.2.2.2.2.2.1 h1.1 xL_D h2 q (by rw [xL_at hq, he]) hC.1 k hk (E.gl hm ho) hf (by cases hty : xT ci k <;> rw [hty] at ht <;> first | rfl | (simp [isRf] at ht)) (by cases hty : xT ci k <;> rw [hty] at ht <;> first | rfl | (simp [isRf] at ht)) (by simpa using hk) d (fun H1 locs1 hz hP1 hS1 => kk H1 locs1 ls ?_ hS1 h3)
  exact xH_set h1 hz hq rfl (by rw [xE_obj hs hC.2.1, rg_set (g := fun k2 => xF b (upR w q k (x + 1)) q (xT ci k2) k2) (by show xF b _ q (xT ci k) k = _; rw [xF_ref ht]; simp [upR, va_up, rv, va_rf]) (fun j hj => xF_upR hj)]) (fun j hj => upR_o hj) hP1
theorem s_putRF {q ci N index : Nat} {x : Nat} {C : String} {T : u_T} (E : EE p s m meth c D aC b nL cc own ret) (hC : CI ci C T N) (k : Nat) (hk : k < N) (ht : isRf (xT ci k) = true) (hm : Cond.fieldLink own index (T k).1 (T k).2.1 (T k).2.2.1 ∈ lw_tbl) (ho : okW (Cond.fieldLink own index (T k).1 (T k).2.1 (T k).2.2.1) = true) (hs : xS q = (ci, N)) (hq : q < w.1) (hf : (T k).2.2.2 = true) (hin : meth.name = "<init>") (hde : (T k).1 = own) (d : decode cc pc = .ok (.putfield index, 3)) (kk : Wv p l e R s m args below meth c Q D aC b nL (pc + 3) L S (upR w q k (x + 1)) cs sl) : Wv p l e R s m args below meth c Q D aC b nL pc L (AR x :: AR q :: S) w cs sl := fun H locs ls h1 h2 h3 => by
  have he : xE aC b w q = _ := xE_obj hs hC.2.1
  refine xp_F (v := .ref (b + x)) E.1 E.2.1 (E.ci hC) (xT ci) hC.2.2.2.1 hC.2.2.2.2 E.2.2.2.1 E.2.2.2.2.2.1 h1.1 xL_D h2 q (by rw [xL_at hq, he]) hC.1 k hk (E.gl hm ho) hf hin hde (by cases hty : xT ci k <;> rw [hty] at ht <;> first | rfl | (simp [isRf] at ht)) (by cases hty : xT ci k <;> rw [hty] at ht <;> first | rfl | (simp [isRf] at ht)) (by simpa using hk) d (fun H1 locs1 hz hP1 hS1 => kk H1 locs1 ls ?_ hS1 h3)
  exact xH_set h1 hz hq rfl (by rw [xE_obj hs hC.2.1, rg_set (g := fun k2 => xF b (upR w q k (x + 1)) q (xT ci k2) k2) (by show xF b _ q (xT ci k) k = _; rw [xF_ref ht]; simp [upR, va_up, rv, va_rf]) (fun j hj => xF_upR hj)]) (fun j hj => upR_o hj) hP1
end XH
end
section
section XC
variable {p : Program} {l : Launch} {e : Env} {R : Room} {s : State} {m : MethodId} {args : Array Value} {below : List Frame} {meth : Method} {c : Code} {Q : State → Prop}
variable {D : va_G} {aC : Nat → ClassId} {b nL : Nat} {cc : ByteArray} {own : String} {ret : Option FieldType}
variable {pc : Nat} {L : List (Option AV)} {S : List AV} {w : XW} {cs sl : Nat}
/-- a field that an instruction names: read; written; written once -/
def FG (own : String) (ix ci k N : Nat) : Prop := ∃ (C : String) (T : u_T), CI ci C T N ∧ k < N ∧ (Cond.fieldLink own ix (T k).1 (T k).2.1 (T k).2.2.1 ∈ lw_tbl ∨ ∃ host, Cond.fieldLinkNest own ix (T k).1 (T k).2.1 (T k).2.2.1 host ∈ lw_tbl)
def FP (own : String) (ix ci k N : Nat) : Prop := ∃ (C : String) (T : u_T), CI ci C T N ∧ k < N ∧ (T k).2.2.2 = false ∧ (Cond.fieldLink own ix (T k).1 (T k).2.1 (T k).2.2.1 ∈ lw_tbl ∨ ∃ host, Cond.fieldLinkNest own ix (T k).1 (T k).2.1 (T k).2.2.1 host ∈ lw_tbl)
def FF (own : String) (ix ci k N : Nat) : Prop := ∃ (C : String) (T : u_T), CI ci C T N ∧ k < N ∧ (T k).2.2.2 = true ∧ (T k).1 = own ∧ Cond.fieldLink own ix (T k).1 (T k).2.1 (T k).2.2.1 ∈ lw_tbl
theorem s_gI {q ci k N ix : Nat} (E : EE p s m meth c D aC b nL cc own ret) (hF : FG own ix ci k N) (ht : isI (xT ci k) = true) (hs : xS q = (ci, N)) (hq : q < w.1) (d : decode cc pc = .ok (.getfield ix, 3)) (kk : Wv p l e R s m args below meth c Q D aC b nL (pc + 3) L (AI (w.2.2.1 q k) :: S) w cs sl) : Wv p l e R s m args below meth c Q D aC b nL pc L (AR q :: S) w cs sl := by
  obtain ⟨C, T, hC, hk, hm | ⟨host, hm⟩⟩ := hF
  · exact s_getI E hC k hk ht hm rfl hs hq d kk
  · exact s_getIN E hC k hk ht hm rfl hs hq d kk
theorem s_gL {q ci k N ix : Nat} (E : EE p s m meth c D aC b nL cc own ret) (hF : FG own ix ci k N) (ht : xT ci k = .long) (hs : xS q = (ci, N)) (hq : q < w.1) (d : decode cc pc = .ok (.getfield ix, 3)) (kk : Wv p l e R s m args below meth c Q D aC b nL (pc + 3) L (AL (w.2.2.2 q k) :: S) w cs sl) : Wv p l e R s m args below meth c Q D aC b nL pc L (AR q :: S) w cs sl := by
  obtain ⟨C, T, hC, hk, hm | ⟨host, hm⟩⟩ := hF
  · exact s_getL E hC k hk ht hm rfl hs hq d kk
  · exact s_getLN E hC k hk ht hm rfl hs hq d kk
theorem s_gR {q r ci k N ix : Nat} (E : EE p s m meth c D aC b nL cc own ret) (hF : FG own ix ci k N) (ht : isRf (xT ci k) = true) (hs : xS q = (ci, N)) (hq : q < w.1) (hr : w.2.1 q k = r + 1) (d : decode cc pc = .ok (.getfield ix, 3)) (kk : Wv p l e R s m args below meth c Q D aC b nL (pc + 3) L (AR r :: S) w cs sl) : Wv p l e R s m args below meth c Q D aC b nL pc L (AR q :: S) w cs sl := by
  obtain ⟨C, T, hC, hk, hm | ⟨host, hm⟩⟩ := hF
  · exact s_getR E hC k hk ht hm rfl hs hq hr d kk
  · exact s_getRN E hC k hk ht hm rfl hs hq hr d kk
theorem s_pI {q ci k N ix : Nat} {x : Int32} (E : EE p s m meth c D aC b nL cc own ret) (hF : FP own ix ci k N) (ht : xT ci k = .int ∨ xT ci k = .boolean ∧ (x = 0 ∨ x = 1)) (hs : xS q = (ci, N)) (hq : q < w.1) (d : decode cc pc = .ok (.putfield ix, 3)) (kk : Wv p l e R s m args below meth c Q D aC b nL (pc + 3) L S (upI w q k x) cs sl) : Wv p l e R s m args below meth c Q D aC b nL pc L (AI x :: AR q :: S) w cs sl := by
  obtain ⟨C, T, hC, hk, hf, hm⟩ := hF
  have h1 : isI (xT ci k) = true := by rcases ht with h | ⟨h, _⟩ <;> rw [h] <;> rfl
  have h2 : narrow (xT ci k) (.int x) = .int x := by
    rcases ht with h | ⟨g, h | h⟩
    · rw [h]; rfl
    · rw [g, h]; rfl
    · rw [g, h]; rfl
  have h3 : fits (xT ci k) (.int x) = true := by
    rcases ht with h | ⟨g, h | h⟩
    · rw [h]; rfl
    · rw [g, h]; rfl
    · rw [g, h]; rfl
  rcases hm with hm | ⟨host, hm⟩
  · exact s_putI E hC k hk h1 hm rfl hs hq hf h2 h3 d kk
  · exact s_putIN E hC k hk h1 hm rfl hs hq hf h2 h3 d kk
theorem s_pIF {q ci k N ix : Nat} {x : Int32} (E : EE p s m meth c D aC b nL cc own ret) (hin : meth.name = "<init>") (hF : FF own ix ci k N) (ht : xT ci k = .int) (hs : xS q = (ci, N)) (hq : q < w.1) (d : decode cc pc = .ok (.putfield ix, 3)) (kk : Wv p l e R s m args below meth c Q D aC b nL (pc + 3) L S (upI w q k x) cs sl) : Wv p l e R s m args below meth c Q D aC b nL pc L (AI x :: AR q :: S) w cs sl := by
  obtain ⟨C, T, hC, hk, hf, hd, hm⟩ := hF
  exact s_putIF E hC k hk (by rw [ht]; rfl) hm rfl hs hq hf hin hd (by rw [ht]; rfl) (by rw [ht]; rfl) d kk
theorem s_pL {q ci k N ix : Nat} {x : Int64} (E : EE p s m meth c D aC b nL cc own ret) (hF : FP own ix ci k N) (ht : xT ci k = .long) (hs : xS q = (ci, N)) (hq : q < w.1) (d : decode cc pc = .ok (.putfield ix, 3)) (kk : Wv p l e R s m args below meth c Q D aC b nL (pc + 3) L S (upL w q k x) cs sl) : Wv p l e R s m args below meth c Q D aC b nL pc L (AL x :: AR q :: S) w cs sl := by
  obtain ⟨C, T, hC, hk, hf, hm | ⟨host, hm⟩⟩ := hF
  · exact s_putL E hC k hk ht hm rfl hs hq hf d kk
  · exact s_putLN E hC k hk ht hm rfl hs hq hf d kk
theorem s_pR {q x ci k N ix : Nat} (E : EE p s m meth c D aC b nL cc own ret) (hF : FP own ix ci k N) (ht : isRf (xT ci k) = true) (hs : xS q = (ci, N)) (hq : q < w.1) (d : decode cc pc = .ok (.putfield ix, 3)) (kk : Wv p l e R s m args below meth c Q D aC b nL (pc + 3) L S (upR w q k (x + 1)) cs sl) : Wv p l e R s m args below meth c Q D aC b nL pc L (AR x :: AR q :: S) w cs sl := by
  obtain ⟨C, T, hC, hk, hf, hm | ⟨host, hm⟩⟩ := hF
  · exact s_putR E hC k hk ht hm rfl hs hq hf d kk
  · exact s_putRN E hC k hk ht hm rfl hs hq hf d kk
theorem s_pRF {q x ci k N ix : Nat} (E : EE p s m meth c D aC b nL cc own ret) (hin : meth.name = "<init>") (hF : FF own ix ci k N) (ht : isRf (xT ci k) = true) (hs : xS q = (ci, N)) (hq : q < w.1) (d : decode cc pc = .ok (.putfield ix, 3)) (kk : Wv p l e R s m args below meth c Q D aC b nL (pc + 3) L S (upR w q k (x + 1)) cs sl) : Wv p l e R s m args below meth c Q D aC b nL pc L (AR x :: AR q :: S) w cs sl := by
  obtain ⟨C, T, hC, hk, hf, hd, hm⟩ := hF
  exact s_putRF E hC k hk ht hm rfl hs hq hf hin hd d kk
theorem s_top {x y : Int32} (h : x = y) (kk : Wv p l e R s m args below meth c Q D aC b nL pc L (AI y :: S) w cs sl) : Wv p l e R s m args below meth c Q D aC b nL pc L (AI x :: S) w cs sl := h ▸ kk
theorem s_topL {x y : Int64} (h : x = y) (kk : Wv p l e R s m args below meth c Q D aC b nL pc L (AL y :: S) w cs sl) : Wv p l e R s m args below meth c Q D aC b nL pc L (AL x :: S) w cs sl := h ▸ kk
theorem s_loc {L2 : List (Option AV)} (h : L = L2) (kk : Wv p l e R s m args below meth c Q D aC b nL pc L2 S w cs sl) : Wv p l e R s m args below meth c Q D aC b nL pc L S w cs sl := h ▸ kk
theorem s_world {w2 : XW} (h : w = w2) (kk : Wv p l e R s m args below meth c Q D aC b nL pc L S w2 cs sl) : Wv p l e R s m args below meth c Q D aC b nL pc L S w cs sl := h ▸ kk
theorem s_iald {q N : Nat} {i : Int32} (E : EE p s m meth c D aC b nL cc own ret) (hs : xS q = (100, N)) (hq : q < w.1) (hin : vp_in i N) (d : decode cc pc = .ok (.iaload, 1)) (kk : Wv p l e R s m args below meth c Q D aC b nL (pc + 1) L (AI (w.2.2.1 q i.toNatClampNeg) :: S) w cs sl) : Wv p l e R s m args below meth c Q D aC b nL pc L (AI i :: AR q :: S) w cs sl := fun H locs ls h1 h2 h3 =>
  va_iald E.1 E.2.1 E.2.2.2.2.2.1 h1.1 q 0 (by rw [xL_at hq, xE_ai hs (Or.inl rfl)]) rfl hin d (kk H locs ls h1 h2 h3)
theorem s_bald {q N : Nat} {i : Int32} (E : EE p s m meth c D aC b nL cc own ret) (hs : xS q = (102, N)) (hq : q < w.1) (hin : vp_in i N) (d : decode cc pc = .ok (.baload, 1)) (kk : Wv p l e R s m args below meth c Q D aC b nL (pc + 1) L (AI (w.2.2.1 q i.toNatClampNeg) :: S) w cs sl) : Wv p l e R s m args below meth c Q D aC b nL pc L (AI i :: AR q :: S) w cs sl := fun H locs ls h1 h2 h3 =>
  va_bald E.1 E.2.1 E.2.2.2.2.2.1 h1.1 q 2 (by rw [xL_at hq, xE_ai hs (Or.inr (Or.inl rfl))]) rfl hin d (kk H locs ls h1 h2 h3)
theorem s_zald {q N : Nat} {i : Int32} (E : EE p s m meth c D aC b nL cc own ret) (hs : xS q = (103, N)) (hq : q < w.1) (hin : vp_in i N) (d : decode cc pc = .ok (.baload, 1)) (kk : Wv p l e R s m args below meth c Q D aC b nL (pc + 1) L (AI (w.2.2.1 q i.toNatClampNeg) :: S) w cs sl) : Wv p l e R s m args below meth c Q D aC b nL pc L (AI i :: AR q :: S) w cs sl := fun H locs ls h1 h2 h3 =>
  va_zald E.1 E.2.1 E.2.2.2.2.2.1 h1.1 q 3 (by rw [xL_at hq, xE_ai hs (Or.inr (Or.inr rfl))]) rfl hin d (kk H locs ls h1 h2 h3)
theorem s_lald {q N : Nat} {i : Int32} (E : EE p s m meth c D aC b nL cc own ret) (hs : xS q = (101, N)) (hq : q < w.1) (hin : vp_in i N) (d : decode cc pc = .ok (.laload, 1)) (kk : Wv p l e R s m args below meth c Q D aC b nL (pc + 1) L (AL (w.2.2.2 q i.toNatClampNeg) :: S) w cs sl) : Wv p l e R s m args below meth c Q D aC b nL pc L (AI i :: AR q :: S) w cs sl := fun H locs ls h1 h2 h3 =>
  va_lald E.1 E.2.1 E.2.2.2.2.2.1 h1.1 q 1 (by rw [xL_at hq, xE_al hs]) rfl hin d (kk H locs ls h1 h2 h3)
theorem s_aald104 {q r N : Nat} {i : Int32} (E : EE p s m meth c D aC b nL cc own ret) (hs : xS q = (104, N)) (hq : q < w.1) (hin : vp_in i N) (hr : w.2.1 q i.toNatClampNeg = r + 1) (d : decode cc pc = .ok (.aaload, 1)) (kk : Wv p l e R s m args below meth c Q D aC b nL (pc + 1) L (AR r :: S) w cs sl) : Wv p l e R s m args below meth c Q D aC b nL pc L (AI i :: AR q :: S) w cs sl := fun H locs ls h1 h2 h3 => by
  refine va_aldq E.1 E.2.1 E.2.2.2.2.2.1 h1.1 q 4 (by rw [xL_at hq, xE_ar hs (by omega)]) rfl hin d ?_
  rw [hr]
  exact kk H locs ls h1 h2 h3
theorem s_aald105 {q r N : Nat} {i : Int32} (E : EE p s m meth c D aC b nL cc own ret) (hs : xS q = (105, N)) (hq : q < w.1) (hin : vp_in i N) (hr : w.2.1 q i.toNatClampNeg = r + 1) (d : decode cc pc = .ok (.aaload, 1)) (kk : Wv p l e R s m args below meth c Q D aC b nL (pc + 1) L (AR r :: S) w cs sl) : Wv p l e R s m args below meth c Q D aC b nL pc L (AI i :: AR q :: S) w cs sl := fun H locs ls h1 h2 h3 => by
  refine va_aldq E.1 E.2.1 E.2.2.2.2.2.1 h1.1 q 5 (by rw [xL_at hq, xE_ar hs (by omega)]) rfl hin d ?_
  rw [hr]
  exact kk H locs ls h1 h2 h3
theorem s_alen {q kd N : Nat} {v : Int32} (E : EE p s m meth c D aC b nL cc own ret) (hs : xS q = (kd, N)) (hk : kd = 100 ∨ kd = 101 ∨ kd = 102 ∨ kd = 103) (hq : q < w.1) (hv : Int32.ofNat N = v) (d : decode cc pc = .ok (.arraylength, 1)) (kk : Wv p l e R s m args below meth c Q D aC b nL (pc + 1) L (AI v :: S) w cs sl) : Wv p l e R s m args below meth c Q D aC b nL pc L (AR q :: S) w cs sl := fun H locs ls h1 h2 h3 => by
  rcases hk with rfl | rfl | rfl | rfl
  · exact va_alen (x := (N, .inl (w.2.2.1 q))) E.1 E.2.1 E.2.2.2.2.2.1 h1.1 q 0 (by rw [xL_at hq, xE_ai hs (by omega)]) rfl hv d (kk H locs ls h1 h2 h3)
  · exact va_alen (x := (N, .inr (.inl (w.2.2.2 q)))) E.1 E.2.1 E.2.2.2.2.2.1 h1.1 q 1 (by rw [xL_at hq, xE_al hs]) rfl hv d (kk H locs ls h1 h2 h3)
  · exact va_alen (x := (N, .inl (w.2.2.1 q))) E.1 E.2.1 E.2.2.2.2.2.1 h1.1 q 2 (by rw [xL_at hq, xE_ai hs (by omega)]) rfl hv d (kk H locs ls h1 h2 h3)
  · exact va_alen (x := (N, .inl (w.2.2.1 q))) E.1 E.2.1 E.2.2.2.2.2.1 h1.1 q 3 (by rw [xL_at hq, xE_ai hs (by omega)]) rfl hv d (kk H locs ls h1 h2 h3)
theorem s_iast {q N : Nat} {i : Int32} {x : Int32} (E : EE p s m meth c D aC b nL cc own ret) (hs : xS q = (100, N)) (hq : q < w.1) (hin : vp_in i N) (d : decode cc pc = .ok (.iastore, 1)) (kk : Wv p l e R s m args below meth c Q D aC b nL (pc + 1) L S (upI w q i.toNatClampNeg x) cs sl) : Wv p l e R s m args below meth c Q D aC b nL pc L (AI x :: AI i :: AR q :: S) w cs sl := fun H locs ls h1 h2 h3 => by
  have he : (xL aC b w)[q]? = some (b + q, .inl (aC 100, N, (.inl (w.2.2.1 q)))) := by rw [xL_at hq, xE_ai hs (by omega)]
  refine W.iast E.1 E.2.1 (h1.1 q _ he) ((E.2.2.2.2.2.1.2 0 _ rfl).1 N (fun j => .int (w.2.2.1 q j))) (fun z => by cases z) (by show ¬ (i < 0 ∨ (arrV _ _ _).slots.size ≤ _); rw [arrV_size]; exact hin) rfl rfl d fun H1 ev z oq => ?_
  refine kk H1 _ ls (xH_set h1 z hq rfl (en := .inl (aC 100, N, (.inl (upd (w.2.2.1 q) i.toNatClampNeg x)))) ?_ (fun j hj => upI_o hj) (h1.1.set xL_D he ?_ oq)) (h2.put z oq (Nat.le_add_right b q)) h3
  · rw [xE_ai hs (by omega)]
    simp [upI, va_up]
  · show H1[b + q]? = some (vp_cell _ _)
    rw [ev, vp_cell_i, vp_cell_i, arrV_store]
    congr 2
    funext j
    by_cases hj : j = i.toNatClampNeg
    · subst hj
      simp [updV, upd, vp_nar, narrow]
    · simp [updV, upd, hj]
theorem s_bast {q N : Nat} {i : Int32} {x : Int32} (E : EE p s m meth c D aC b nL cc own ret) (hs : xS q = (102, N)) (hq : q < w.1) (hin : vp_in i N) (d : decode cc pc = .ok (.bastore, 1)) (kk : Wv p l e R s m args below meth c Q D aC b nL (pc + 1) L S (upI w q i.toNatClampNeg (vp_nar .byte x)) cs sl) : Wv p l e R s m args below meth c Q D aC b nL pc L (AI x :: AI i :: AR q :: S) w cs sl := fun H locs ls h1 h2 h3 => by
  have he : (xL aC b w)[q]? = some (b + q, .inl (aC 102, N, (.inl (w.2.2.1 q)))) := by rw [xL_at hq, xE_ai hs (by omega)]
  refine W.bast E.1 E.2.1 (h1.1 q _ he) ((E.2.2.2.2.2.1.2 2 _ rfl).1 N (fun j => .int (w.2.2.1 q j))) (fun z => by cases z) (by show ¬ (i < 0 ∨ (arrV _ _ _).slots.size ≤ _); rw [arrV_size]; exact hin) rfl rfl d fun H1 ev z oq => ?_
  refine kk H1 _ ls (xH_set h1 z hq rfl (en := .inl (aC 102, N, (.inl (upd (w.2.2.1 q) i.toNatClampNeg (vp_nar .byte x))))) ?_ (fun j hj => upI_o hj) (h1.1.set xL_D he ?_ oq)) (h2.put z oq (Nat.le_add_right b q)) h3
  · rw [xE_ai hs (by omega)]
    simp [upI, va_up]
  · show H1[b + q]? = some (vp_cell _ _)
    rw [ev, vp_cell_i, vp_cell_i, arrV_store]
    congr 2
    funext j
    by_cases hj : j = i.toNatClampNeg
    · subst hj
      simp [updV, upd, vp_nar, narrow]
    · simp [updV, upd, hj]
theorem s_zast {q N : Nat} {i : Int32} {x : Int32} (E : EE p s m meth c D aC b nL cc own ret) (hs : xS q = (103, N)) (hq : q < w.1) (hin : vp_in i N) (d : decode cc pc = .ok (.bastore, 1)) (kk : Wv p l e R s m args below meth c Q D aC b nL (pc + 1) L S (upI w q i.toNatClampNeg (vp_nar .boolean x)) cs sl) : Wv p l e R s m args below meth c Q D aC b nL pc L (AI x :: AI i :: AR q :: S) w cs sl := fun H locs ls h1 h2 h3 => by
  have he : (xL aC b w)[q]? = some (b + q, .inl (aC 103, N, (.inl (w.2.2.1 q)))) := by rw [xL_at hq, xE_ai hs (by omega)]
  refine W.zast E.1 E.2.1 (h1.1 q _ he) ((E.2.2.2.2.2.1.2 3 _ rfl).1 N (fun j => .int (w.2.2.1 q j))) (fun z => by cases z) (by show ¬ (i < 0 ∨ (arrV _ _ _).slots.size ≤ _); rw [arrV_size]; exact hin) rfl rfl d fun H1 ev z oq => ?_
  refine kk H1 _ ls (xH_set h1 z hq rfl (en := .inl (aC 103, N, (.inl (upd (w.2.2.1 q) i.toNatClampNeg (vp_nar .boolean x))))) ?_ (fun j hj => upI_o hj) (h1.1.set xL_D he ?_ oq)) (h2.put z oq (Nat.le_add_right b q)) h3
  · rw [xE_ai hs (by omega)]
    simp [upI, va_up]
  · show H1[b + q]? = some (vp_cell _ _)
    rw [ev, vp_cell_i, vp_cell_i, arrV_store]
    congr 2
    funext j
    by_cases hj : j = i.toNatClampNeg
    · subst hj
      simp [updV, upd, vp_nar, narrow]
    · simp [updV, upd, hj]
theorem s_last {q N : Nat} {i : Int32} {x : Int64} (E : EE p s m meth c D aC b nL cc own ret) (hs : xS q = (101, N)) (hq : q < w.1) (hin : vp_in i N) (d : decode cc pc = .ok (.lastore, 1)) (kk : Wv p l e R s m args below meth c Q D aC b nL (pc + 1) L S (upL w q i.toNatClampNeg x) cs sl) : Wv p l e R s m args below meth c Q D aC b nL pc L (AL x :: AI i :: AR q :: S) w cs sl := fun H locs ls h1 h2 h3 => by
  have he : (xL aC b w)[q]? = some (b + q, .inl (aC 101, N, .inr (.inl (w.2.2.2 q)))) := by rw [xL_at hq, xE_al hs]
  refine W.last E.1 E.2.1 (h1.1 q _ he) ((E.2.2.2.2.2.1.2 1 _ rfl).1 N (fun j => .long (w.2.2.2 q j))) (fun z => by cases z) (by show ¬ (i < 0 ∨ (arrV _ _ _).slots.size ≤ _); rw [arrV_size]; exact hin) rfl rfl d fun H1 ev z oq => ?_
  refine kk H1 _ ls (xH_set h1 z hq rfl (en := .inl (aC 101, N, .inr (.inl (vp_updL (w.2.2.2 q) i.toNatClampNeg x)))) ?_ (fun j hj => upL_o hj) (h1.1.set xL_D he ?_ oq)) (h2.put z oq (Nat.le_add_right b q)) h3
  · rw [xE_al hs]
    simp [upL, va_up]
  · show H1[b + q]? = some (vp_cell _ _)
    rw [ev, vp_cell_l, vp_cell_l, arrV_store]
    congr 2
    funext j
    by_cases hj : j = i.toNatClampNeg
    · subst hj
      simp [updV, vp_updL, vp_nar, narrow]
    · simp [updV, vp_updL, hj]
theorem s_aast104 {q r N n2 : Nat} {i : Int32} (E : EE p s m meth c D aC b nL cc own ret) (hs : xS q = (104, N)) (hq : q < w.1) (hin : vp_in i N) (hsr : xS r = (0, n2)) (hr : r < w.1) (d : decode cc pc = .ok (.aastore, 1)) (kk : Wv p l e R s m args below meth c Q D aC b nL (pc + 1) L S (upR w q i.toNatClampNeg (r + 1)) cs sl) : Wv p l e R s m args below meth c Q D aC b nL pc L (AR r :: AI i :: AR q :: S) w cs sl := fun H locs ls h1 h2 h3 => by
  have he : (xL aC b w)[q]? = some (b + q, .inl (aC 104, N, .inr (.inr (.inr (.inr (fun j => rv b (w.2.1 q j))))))) := by rw [xL_at hq, xE_ar hs (by omega)]
  have hv : (xL aC b w)[r]? = some (b + r, .inr (0, (List.range n2).map (fun k => xF b w r (xT 0 k) k))) := by rw [xL_at hr, xE_obj hsr (by omega)]
  have hlt : i.toNatClampNeg < N := Nat.not_le.mp fun z => hin (Or.inr z)
  have h0 : ¬ i < 0 := fun z => hin (Or.inl z)
  have K := E.2.2.2.2.2.1
  obtain ⟨r', hr', cellV, g1, g2, g3, -⟩ := h1.1 r _ hv
  have hcls := (K.1 0 _ CI0.1).2
  obtain ⟨kA, comp, k1, k2, k3, -⟩ := (K.2 4 _ rfl).2
  have hcomp : comp = D.1 0 := Option.some.inj (k3.symm.trans hcls.1)
  subst hcomp
  obtain ⟨kC, hkC, -⟩ := hcls.2
  refine W.aast E.1 E.2.1 (h1.1 q _ he) (fun z h => by cases h) (fun h => by cases h) k1 k2 rfl hkC ⟨h0, by show _ < (arrV _ _ _).slots.size; rw [arrV_size]; exact hlt⟩ g1 (fun z h => by rw [g3] at h; cases h) (by rw [g2]; exact hkC) (by rw [g2]; exact va_assign hcls) rfl rfl d fun H1 ev z oq => ?_
  refine kk H1 _ ls (xH_set h1 z hq rfl (en := .inl (aC 104, N, .inr (.inr (.inr (.inr (va_up (fun j => rv b (w.2.1 q j)) i.toNatClampNeg (some (b + r)))))))) ?_ (fun j hj => upR_o hj) (h1.1.set xL_D he ?_ oq)) (h2.put z oq (Nat.le_add_right b q)) h3
  · rw [xE_ar hs (by omega)]
    congr 7
    funext j
    by_cases hj : j = i.toNatClampNeg
    · simp [upR, va_up, hj, rv]
    · simp [upR, va_up, hj]
  · show H1[b + q]? = some (vp_cell _ _)
    rw [ev, vp_cell_q, vp_cell_q, arrV_store]
    congr 2
    funext j
    by_cases hj : j = i.toNatClampNeg
    · subst hj
      simp [updV, va_up, va_rf]
    · simp [updV, va_up, hj]
theorem s_aast105 {q r N n2 : Nat} {i : Int32} (E : EE p s m meth c D aC b nL cc own ret) (hs : xS q = (105, N)) (hq : q < w.1) (hin : vp_in i N) (hsr : xS r = (7, n2)) (hr : r < w.1) (d : decode cc pc = .ok (.aastore, 1)) (kk : Wv p l e R s m args below meth c Q D aC b nL (pc + 1) L S (upR w q i.toNatClampNeg (r + 1)) cs sl) : Wv p l e R s m args below meth c Q D aC b nL pc L (AR r :: AI i :: AR q :: S) w cs sl := fun H locs ls h1 h2 h3 => by
  have he : (xL aC b w)[q]? = some (b + q, .inl (aC 105, N, .inr (.inr (.inr (.inr (fun j => rv b (w.2.1 q j))))))) := by rw [xL_at hq, xE_ar hs (by omega)]
  have hv : (xL aC b w)[r]? = some (b + r, .inr (7, (List.range n2).map (fun k => xF b w r (xT 7 k) k))) := by rw [xL_at hr, xE_obj hsr (by omega)]
  have hlt : i.toNatClampNeg < N := Nat.not_le.mp fun z => hin (Or.inr z)
  have h0 : ¬ i < 0 := fun z => hin (Or.inl z)
  have K := E.2.2.2.2.2.1
  obtain ⟨r', hr', cellV, g1, g2, g3, -⟩ := h1.1 r _ hv
  have hcls := (K.1 7 _ CI7.1).2
  obtain ⟨kA, comp, k1, k2, k3, -⟩ := (K.2 5 _ rfl).2
  have hcomp : comp = D.1 7 := Option.some.inj (k3.symm.trans hcls.1)
  subst hcomp
  obtain ⟨kC, hkC, -⟩ := hcls.2
  refine W.aast E.1 E.2.1 (h1.1 q _ he) (fun z h => by cases h) (fun h => by cases h) k1 k2 rfl hkC ⟨h0, by show _ < (arrV _ _ _).slots.size; rw [arrV_size]; exact hlt⟩ g1 (fun z h => by rw [g3] at h; cases h) (by rw [g2]; exact hkC) (by rw [g2]; exact va_assign hcls) rfl rfl d fun H1 ev z oq => ?_
  refine kk H1 _ ls (xH_set h1 z hq rfl (en := .inl (aC 105, N, .inr (.inr (.inr (.inr (va_up (fun j => rv b (w.2.1 q j)) i.toNatClampNeg (some (b + r)))))))) ?_ (fun j hj => upR_o hj) (h1.1.set xL_D he ?_ oq)) (h2.put z oq (Nat.le_add_right b q)) h3
  · rw [xE_ar hs (by omega)]
    congr 7
    funext j
    by_cases hj : j = i.toNatClampNeg
    · simp [upR, va_up, hj, rv]
    · simp [upR, va_up, hj]
  · show H1[b + q]? = some (vp_cell _ _)
    rw [ev, vp_cell_q, vp_cell_q, arrV_store]
    congr 2
    funext j
    by_cases hj : j = i.toNatClampNeg
    · subst hj
      simp [updV, va_up, va_rf]
    · simp [updV, va_up, hj]
/-- one cell more, all 0 -/
def nwW (w : XW) : XW := (w.1 + 1, va_up w.2.1 w.1 (fun _ => 0), va_up w.2.2.1 w.1 (fun _ => 0), va_up w.2.2.2 w.1 (fun _ => 0))
theorem xL_nw : xL aC b (nwW w) = xL aC b w ++ [(b + w.1, xE aC b (nwW w) w.1)] := by
  show (List.range (w.1 + 1)).map _ = _
  rw [List.range_succ, List.map_append]
  congr 1
  refine List.map_congr_left (fun j hj => ?_)
  have hl : j ≠ w.1 := Nat.ne_of_lt (List.mem_range.mp hj)
  rw [xE_other (w := w) (w' := nwW w) (va_up_ne _ _ hl) (va_up_ne _ _ hl) (va_up_ne _ _ hl)]
theorem xH_nw {H H1 : Heap} (h : xH D aC b w H) (hz : H1.size = b + w.1 + 1) (ho : ∀ q : Nat, q < b + w.1 → H1[q]? = H[q]?) (ha : va_at D vwCl (b + w.1, xE aC b (nwW w) w.1) H1) : xH D aC b (nwW w) H1 := by
  refine ⟨?_, by rw [hz]; rfl⟩
  rw [xL_nw]
  refine (h.1.kept (fun k q hk => ?_)).app (fun k q hk => ?_)
  · obtain ⟨hl, rfl⟩ := xL_lt hk
    exact ho _ (Nat.add_lt_add_left hl b)
  · have hz : k < 1 := (List.getElem?_eq_some_iff.mp hk).1
    rw [show k = 0 by omega] at hk
    cases hk
    exact ha
theorem nw_S {H H1 : Heap} {locs : List Loc} (hS : va_S (xA b) s.heap H locs) (hb : b ≤ s.heap.size) (hz : H1.size = H.size + 1) (ho : ∀ q : Nat, q < H.size → H1[q]? = H[q]?) : va_S (xA b) s.heap H1 locs :=
  ⟨Nat.le_trans hS.1 (by omega), fun x h1 h2 => (ho x (Nat.lt_of_lt_of_le h1 hS.1)).trans (hS.2.1 x h1 h2), hS.2.2⟩
def xD (t : FieldType) : Value := match t with
  | .long => .long 0
  | .object _ => .null
  | .array _ => .null
  | _ => .int 0
theorem xF_nw (k : Nat) (t : FieldType) : xF b (nwW w) w.1 t k = xD t := by
  unfold xF xD nwW
  cases t <;> simp [va_up, rv, va_rf]
theorem s_new {ci N ix : Nat} {C : String} {T : u_T} (E : EE p s m meth c D aC b nL cc own ret) (hC : CI ci C T N) (hd : ∀ j, j < N → defaultValue (xT ci j) = xD (xT ci j)) (hcl : Cond.classLink own ix C ∈ lw_tbl) (hins : Cond.instantiable C N ∈ lw_tbl) (hini : Cond.initialized C ∈ lw_tbl) (hs : xS w.1 = (ci, N)) (hc1 : cs + 1 ≤ R.cells) (hc2 : sl + N ≤ R.slots) (d : decode cc pc = .ok (.new ix, 3)) (kk : Wv p l e R s m args below meth c Q D aC b nL (pc + 3) L (AR w.1 :: S) (nwW w) (cs + 1) (sl + N)) : Wv p l e R s m args below meth c Q D aC b nL pc L S w cs sl := fun H locs ls h1 h2 h3 => by
  have hKn := E.2.2.2.2.2.1.1 ci _ hC.1
  refine W.newcK E.1 E.2.1 E.2.2.2.1 (E.gl hcl rfl) (E.gl hins rfl) (E.gl hini rfl) rfl d hc1 hc2 hKn.2.1 h1.2 fun H1 kC hkC e1 z1 o1 => ?_
  refine kk H1 locs ls (xH_nw h1 z1 o1 ?_) (nw_S h2 E.2.2.2.2.2.2.2.2 (by rw [z1, h1.2]) (fun q hq => o1 q (by rw [← h1.2]; exact hq))) h3
  rw [xE_obj hs hC.2.1]
  refine ⟨_, hC.1, (u_born (xT ci) (E.ci (args := args) hC) (fun _ h => h) hKn hkC e1 hC.2.2.2.1).to (fun j hj => ?_)⟩
  rw [hd j hj]
  show _ = List.getD _ _ _
  rw [List.getD_eq_getElem?_getD, rg_get hj, xF_nw]
  rfl
theorem s_newa100 {N : Nat} {n : Int32} (E : EE p s m meth c D aC b nL cc own ret) (hw : Cond.arrayClass .int ∈ lw_tbl) (hs : xS w.1 = (100, N)) (hn : ¬ n < 0) (hN : n.toNatClampNeg = N) (hby : N * componentBytes .int ≤ 536870912) (hc1 : cs + 1 ≤ R.cells) (hc2 : sl + N ≤ R.slots) (d : decode cc pc = .ok (.newarray .int, 2)) (kk : Wv p l e R s m args below meth c Q D aC b nL (pc + 2) L (AR w.1 :: S) (nwW w) (cs + 1) (sl + N)) : Wv p l e R s m args below meth c Q D aC b nL pc L (AI n :: S) w cs sl := fun H locs ls h1 h2 h3 => by
  refine va_newaK (atype := .int) E.1 E.2.1 (E.gl hw rfl) rfl d rfl hn hN hby hc1 hc2 h1.2 fun H1 cA e1 z1 o1 _ hNm => ?_
  have hcA : cA = aC 100 := by
    have h := (E.2.2.2.2.2.1.2 0 _ rfl).2
    exact Option.some.inj (hNm.symm.trans h)
  subst hcA
  refine kk H1 locs ls (xH_nw h1 z1 o1 ?_) (nw_S h2 E.2.2.2.2.2.2.2.2 (by rw [z1, h1.2]) (fun q hq => o1 q (by rw [← h1.2]; exact hq))) h3
  rw [xE_ai hs (by omega)]
  show H1[b + w.1]? = some (vp_cell _ _)
  rw [e1]
  simp [nwW, va_up, vp_cell, defaultValue, newarray.typeOf]
theorem s_newa101 {N : Nat} {n : Int32} (E : EE p s m meth c D aC b nL cc own ret) (hw : Cond.arrayClass .long ∈ lw_tbl) (hs : xS w.1 = (101, N)) (hn : ¬ n < 0) (hN : n.toNatClampNeg = N) (hby : N * componentBytes .long ≤ 536870912) (hc1 : cs + 1 ≤ R.cells) (hc2 : sl + N ≤ R.slots) (d : decode cc pc = .ok (.newarray .long, 2)) (kk : Wv p l e R s m args below meth c Q D aC b nL (pc + 2) L (AR w.1 :: S) (nwW w) (cs + 1) (sl + N)) : Wv p l e R s m args below meth c Q D aC b nL pc L (AI n :: S) w cs sl := fun H locs ls h1 h2 h3 => by
  refine va_newaK (atype := .long) E.1 E.2.1 (E.gl hw rfl) rfl d rfl hn hN hby hc1 hc2 h1.2 fun H1 cA e1 z1 o1 _ hNm => ?_
  have hcA : cA = aC 101 := by
    have h := (E.2.2.2.2.2.1.2 1 _ rfl).2
    exact Option.some.inj (hNm.symm.trans h)
  subst hcA
  refine kk H1 locs ls (xH_nw h1 z1 o1 ?_) (nw_S h2 E.2.2.2.2.2.2.2.2 (by rw [z1, h1.2]) (fun q hq => o1 q (by rw [← h1.2]; exact hq))) h3
  rw [xE_al hs]
  show H1[b + w.1]? = some (vp_cell _ _)
  rw [e1]
  simp [nwW, va_up, vp_cell, defaultValue, newarray.typeOf]
theorem s_newa102 {N : Nat} {n : Int32} (E : EE p s m meth c D aC b nL cc own ret) (hw : Cond.arrayClass .byte ∈ lw_tbl) (hs : xS w.1 = (102, N)) (hn : ¬ n < 0) (hN : n.toNatClampNeg = N) (hby : N * componentBytes .byte ≤ 536870912) (hc1 : cs + 1 ≤ R.cells) (hc2 : sl + N ≤ R.slots) (d : decode cc pc = .ok (.newarray .byte, 2)) (kk : Wv p l e R s m args below meth c Q D aC b nL (pc + 2) L (AR w.1 :: S) (nwW w) (cs + 1) (sl + N)) : Wv p l e R s m args below meth c Q D aC b nL pc L (AI n :: S) w cs sl := fun H locs ls h1 h2 h3 => by
  refine va_newaK (atype := .byte) E.1 E.2.1 (E.gl hw rfl) rfl d rfl hn hN hby hc1 hc2 h1.2 fun H1 cA e1 z1 o1 _ hNm => ?_
  have hcA : cA = aC 102 := by
    have h := (E.2.2.2.2.2.1.2 2 _ rfl).2
    exact Option.some.inj (hNm.symm.trans h)
  subst hcA
  refine kk H1 locs ls (xH_nw h1 z1 o1 ?_) (nw_S h2 E.2.2.2.2.2.2.2.2 (by rw [z1, h1.2]) (fun q hq => o1 q (by rw [← h1.2]; exact hq))) h3
  rw [xE_ai hs (by omega)]
  show H1[b + w.1]? = some (vp_cell _ _)
  rw [e1]
  simp [nwW, va_up, vp_cell, defaultValue, newarray.typeOf]
theorem s_newa103 {N : Nat} {n : Int32} (E : EE p s m meth c D aC b nL cc own ret) (hw : Cond.arrayClass .boolean ∈ lw_tbl) (hs : xS w.1 = (103, N)) (hn : ¬ n < 0) (hN : n.toNatClampNeg = N) (hby : N * componentBytes .boolean ≤ 536870912) (hc1 : cs + 1 ≤ R.cells) (hc2 : sl + N ≤ R.slots) (d : decode cc pc = .ok (.newarray .boolean, 2)) (kk : Wv p l e R s m args below meth c Q D aC b nL (pc + 2) L (AR w.1 :: S) (nwW w) (cs + 1) (sl + N)) : Wv p l e R s m args below meth c Q D aC b nL pc L (AI n :: S) w cs sl := fun H locs ls h1 h2 h3 => by
  refine va_newaK (atype := .boolean) E.1 E.2.1 (E.gl hw rfl) rfl d rfl hn hN hby hc1 hc2 h1.2 fun H1 cA e1 z1 o1 _ hNm => ?_
  have hcA : cA = aC 103 := by
    have h := (E.2.2.2.2.2.1.2 3 _ rfl).2
    exact Option.some.inj (hNm.symm.trans h)
  subst hcA
  refine kk H1 locs ls (xH_nw h1 z1 o1 ?_) (nw_S h2 E.2.2.2.2.2.2.2.2 (by rw [z1, h1.2]) (fun q hq => o1 q (by rw [← h1.2]; exact hq))) h3
  rw [xE_ai hs (by omega)]
  show H1[b + w.1]? = some (vp_cell _ _)
  rw [e1]
  simp [nwW, va_up, vp_cell, defaultValue, newarray.typeOf]
theorem s_newr104 {N ix : Nat} {n : Int32} (E : EE p s m meth c D aC b nL cc own ret) (hcl : Cond.classLink own ix "HoopCabinet$Ball" ∈ lw_tbl) (hov : Cond.arrayOver (.object "HoopCabinet$Ball") ∈ lw_tbl) (hs : xS w.1 = (104, N)) (hn : ¬ n < 0) (hN : n.toNatClampNeg = N) (hby : n.toNatClampNeg * 4 ≤ 536870912) (hc1 : cs + 1 ≤ R.cells) (hc2 : sl + N ≤ R.slots) (d : decode cc pc = .ok (.anewarray ix, 3)) (kk : Wv p l e R s m args below meth c Q D aC b nL (pc + 3) L (AR w.1 :: S) (nwW w) (cs + 1) (sl + N)) : Wv p l e R s m args below meth c Q D aC b nL pc L (AI n :: S) w cs sl := fun H locs ls h1 h2 h3 => by
  subst hN
  refine W.anew E.1 E.2.1 E.2.2.2.1 (E.gl hcl rfl) (E.gl hov rfl) rfl d rfl hn hby hc1 hc2 fun cA kA comp f1 f2 f3 f4 => ?_
  have hcA : cA = aC 104 := by
    obtain ⟨kA2, comp2, -, -, -, h⟩ := (E.2.2.2.2.2.1.2 4 _ rfl).2
    exact Option.some.inj (f1.symm.trans h)
  subst hcA
  have hz := h1.2
  refine W.eq (g2 := F0 m (pc + 3) ls ((AR w.1 :: S).map (cv b))) (by rw [hz]; rfl) (kk _ locs ls (xH_nw h1 (by rw [Array.size_push, hz]) (fun q hq => by rw [Array.getElem?_push, if_neg (by rw [hz]; exact Nat.ne_of_lt hq)]) ?_) (nw_S h2 E.2.2.2.2.2.2.2.2 (by rw [Array.size_push]) (fun q hq => by rw [Array.getElem?_push, if_neg (Nat.ne_of_lt hq)])) h3)
  rw [xE_ar hs (by omega)]
  show (H.push _)[b + w.1]? = some (vp_cell _ _)
  rw [← hz, Array.getElem?_push_size, arrV_new]
  simp [nwW, va_up, vp_cell, rv, va_rf]
theorem s_newr105 {N ix : Nat} {n : Int32} (E : EE p s m meth c D aC b nL cc own ret) (hcl : Cond.classLink own ix "HoopCabinet$Slot" ∈ lw_tbl) (hov : Cond.arrayOver (.object "HoopCabinet$Slot") ∈ lw_tbl) (hs : xS w.1 = (105, N)) (hn : ¬ n < 0) (hN : n.toNatClampNeg = N) (hby : n.toNatClampNeg * 4 ≤ 536870912) (hc1 : cs + 1 ≤ R.cells) (hc2 : sl + N ≤ R.slots) (d : decode cc pc = .ok (.anewarray ix, 3)) (kk : Wv p l e R s m args below meth c Q D aC b nL (pc + 3) L (AR w.1 :: S) (nwW w) (cs + 1) (sl + N)) : Wv p l e R s m args below meth c Q D aC b nL pc L (AI n :: S) w cs sl := fun H locs ls h1 h2 h3 => by
  subst hN
  refine W.anew E.1 E.2.1 E.2.2.2.1 (E.gl hcl rfl) (E.gl hov rfl) rfl d rfl hn hby hc1 hc2 fun cA kA comp f1 f2 f3 f4 => ?_
  have hcA : cA = aC 105 := by
    obtain ⟨kA2, comp2, -, -, -, h⟩ := (E.2.2.2.2.2.1.2 5 _ rfl).2
    exact Option.some.inj (f1.symm.trans h)
  subst hcA
  have hz := h1.2
  refine W.eq (g2 := F0 m (pc + 3) ls ((AR w.1 :: S).map (cv b))) (by rw [hz]; rfl) (kk _ locs ls (xH_nw h1 (by rw [Array.size_push, hz]) (fun q hq => by rw [Array.getElem?_push, if_neg (by rw [hz]; exact Nat.ne_of_lt hq)]) ?_) (nw_S h2 E.2.2.2.2.2.2.2.2 (by rw [Array.size_push]) (fun q hq => by rw [Array.getElem?_push, if_neg (Nat.ne_of_lt hq)])) h3)
  rw [xE_ar hs (by omega)]
  show (H.push _)[b + w.1]? = some (vp_cell _ _)
  rw [← hz, Array.getElem?_push_size, arrV_new]
  simp [nwW, va_up, vp_cell, rv, va_rf]
end XC
end
section
section XK
variable {p : Program} {l : Launch} {e : Env} {R : Room} {s : State} {m : MethodId} {args : Array Value} {below : List Frame} {meth : Method} {c : Code} {Q : State → Prop}
variable {D : va_G} {aC : Nat → ClassId} {b nL : Nat} {cc : ByteArray} {own : String} {ret : Option FieldType}
variable {pc : Nat} {L : List (Option AV)} {S : List AV} {w : XW} {cs sl : Nat}
/-- a method: name, code, locals, kind of answer -/
abbrev Mt : Type := MethodName × ByteArray × Nat × Option FieldType
abbrev Mc (M : Mt) : Cond := .code M.1 M.2.1 M.2.2.1 M.2.2.2
abbrev rmF (fr lo mc ms : Nat) : Room := { frames := fr, cells := mc, slots := ms, locals := lo }
/-- contracts: from the world w, with the arguments A, the method returns, with answer and world as post says -/
def CnI (l : Launch) (D : va_G) (aC : Nat → ClassId) (b : Nat) (M : Mt) (fr lo mc ms : Nat) (A : List AV) (w : XW) (post : Int32 → XW → Prop) : Prop :=
  Met l M.1 [Mc M] (rmF fr lo mc ms) (va_Pc (A.map (cv b)) (fun U => xU D aC b w U)) (va_Qi post (xU D aC b) (xA b)) mc ms (xA b)
def CnL (l : Launch) (D : va_G) (aC : Nat → ClassId) (b : Nat) (M : Mt) (fr lo mc ms : Nat) (A : List AV) (w : XW) (post : Int64 → XW → Prop) : Prop :=
  Met l M.1 [Mc M] (rmF fr lo mc ms) (va_Pc (A.map (cv b)) (fun U => xU D aC b w U)) (va_Ql post (xU D aC b) (xA b)) mc ms (xA b)
def CnV (l : Launch) (D : va_G) (aC : Nat → ClassId) (b : Nat) (M : Mt) (fr lo mc ms : Nat) (A : List AV) (w : XW) (post : XW → Prop) : Prop :=
  Met l M.1 [Mc M] (rmF fr lo mc ms) (va_Pc (A.map (cv b)) (fun U => xU D aC b w U)) (va_Qv post (xU D aC b) (xA b)) mc ms (xA b)
theorem cn_body {M : Mt} {fr lo mc ms : Nat} {A : List AV} {Qc : Array Value → State → Outcome → State → Prop} {L0 : List (Option AV)} (hy : plainName M.1.cls = true) (hA : (entL A).length ≤ M.2.2.1) (hL : entL A ++ List.replicate (M.2.2.1 - (entL A).length) none = L0)
    (body : ∀ (p : Program) (e : Env) (s : State) (m : MethodId) (args : Array Value) (below : List Frame) (meth : Method) (c : Code), EE p s m meth c D aC b M.2.2.1 M.2.1 M.1.cls M.2.2.2 → meth.name = M.1.name → Wv p l e (rmF fr lo mc ms) s m args below meth c (MQ below Qc args s mc ms (xA b)) D aC b M.2.2.1 0 L0 [] w 0 0) :
    Met l M.1 [Mc M] (rmF fr lo mc ms) (va_Pc (A.map (cv b)) (fun U => xU D aC b w U)) Qc mc ms (xA b) := by
  refine Met.ofW (cc := M.2.1) (maxL := M.2.2.1) (ret := M.2.2.2) hy rfl ?_
  intro p e s m args below meth c s₁ B hml hv
  obtain ⟨rfl, hU⟩ := hv
  have hown : s.vm.findClass M.1.cls = some m.cls := findClass_of_methodNamed B.named
  have hin : meth.name = M.1.name := (name_of_methodNamed B.named B.method).1
  have E : EE p s m meth c D aC b M.2.2.1 M.2.1 M.1.cls M.2.2.2 := ⟨B.exec, B.bytes, hml, hown, hU.2.2, hU.2.1, B.returns, B.notSynchronized, by rw [hU.1.2]; exact Nat.le_add_right _ _⟩
  have hl := lv_entry (A.map (cv b)) (n := M.2.2.1) (by rw [lg_ent]; exact hA)
  rw [lg_entry_eq]
  generalize (lg_sl (A.map (cv b)) ++ List.replicate (M.2.2.1 - (lg_sl (A.map (cv b))).length) Slot.unset).toArray = ls at hl ⊢
  exact body p e s m _ below meth c E hin s.heap [] ls hU.1 va_S.rf (by unfold xl; rw [← hL, lvl_ent]; exact hl)
/-- what the tables say of a call -/
def CB (own : String) (ix : Nat) (M : Mt) (n : Nat) : Prop := Mc M ∈ lw_tbl ∧ Cond.initialized M.1.cls ∈ lw_tbl ∧ (M.1.cls ≠ "java/lang/invoke/MethodHandle" ∧ M.1.cls ≠ "java/lang/invoke/VarHandle" ∧ (parseMethodDescriptor M.1.desc).map (fun d => d.parameters.length) = some n) ∧ (Cond.methodLink own ix M.1 ∈ lw_tbl ∨ ∃ host, Cond.methodLinkNest own ix M.1 host ∈ lw_tbl)
def CVw (own : String) (ix : Nat) (M : Mt) (n ci N : Nat) : Prop := CB own ix M n ∧ Cond.instanceMethod M.1 ∈ lw_tbl ∧ Cond.selects M.1.cls M.1 M.1 ∈ lw_tbl ∧ ci < 100 ∧ ∃ T, vwCl[ci]? = some (M.1.cls, T, N)
def CSw (own : String) (ix : Nat) (M : Mt) (n : Nat) : Prop := CB own ix M n ∧ Cond.static M.1 ∈ lw_tbl
def CIw (own : String) (ix : Nat) (M : Mt) (n : Nat) : Prop := CB own ix M n ∧ M.1.name = "<init>" ∧ Cond.instanceMethod M.1 ∈ lw_tbl
theorem cb_parts {M : Mt} {ix n fr lo mc ms : Nat} (E : EE p s m meth c D aC b nL cc own ret) (h : CB own ix M n) (hfr : fr + 1 ≤ R.frames) (hlo : 8 + (M.2.2.1 + 11) + lo ≤ R.locals) :
    (∀ w ∈ [Mc M], ∀ (a' : Array Value) (U : State), s.WarmedH U.vm → w.before a' U = true) ∧ (Mc M).before args s = true ∧ (Cond.initialized M.1.cls).before args s = true ∧ (∀ sig, parseMethodDescriptor M.1.desc = some sig → n = sig.parameters.length) := by
  refine ⟨fun w hw a' U hW => ?_, E.gl h.1 rfl, E.gl h.2.1 rfl, fun sig hs => ?_⟩
  · have : w = Mc M := by simpa using hw
    subst this
    exact Gl.warm hW E.2.2.2.2.1 _ h.1 rfl a'
  · have h2 := h.2.2.1.2.2
    rw [hs] at h2
    exact (Option.some.inj h2).symm
theorem xU_blind {A : List AV} : FrameBlind (va_Pc (A.map (cv b)) (fun U => xU D aC b w U)) := fun _ _ _ _ h => ⟨h.1, xU.blind _ _ _ h.2⟩
/-- a call that is a run -/
theorem run_V {M : Mt} {ix n ci N q fr lo mc ms : Nat} {As : List AV} {st : List AV} {Qc : Array Value → State → Outcome → State → Prop} {H : Heap} {locs : List Loc} {ls : Array Slot} (E : EE p s m meth c D aC b nL cc own ret) (hM : Met l M.1 [Mc M] (rmF fr lo mc ms) (va_Pc ((AR q :: As).map (cv b)) (fun U => xU D aC b w U)) Qc mc ms (xA b)) (hc : CVw own ix M n ci N) (hst : st = As.reverse ++ AR q :: S) (hn : As.length = n) (hs : xS q = (ci, N)) (hq : q < w.1) (hfr : fr + 1 ≤ R.frames) (hlo : 8 + (M.2.2.1 + 11) + lo ≤ R.locals) (hf : cs + mc ≤ R.cells ∧ sl + ms ≤ R.slots) (hr : ((S.map (cv b)).map fun v => v.category).sum ≤ 8) (d : decode cc pc = .ok (.invokevirtual ix, 3)) (h1 : xH D aC b w H) (h3 : xl b ls nL L) :
    va_Run p l e R s m args below meth c H locs cs sl mc ms (F0 m pc ls (st.map (cv b))) (S.map (cv b)) (Qc ((AR q :: As).map (cv b)).toArray) (xA b) := by
  obtain ⟨hB, hi, hse, hci, T, hT⟩ := hc
  obtain ⟨k1, k2, k3, k4⟩ := cb_parts (R := R) (args := args) (fr := fr) (lo := lo) (mc := mc) (ms := ms) E hB hfr hlo
  have hrecv : ∃ cell : Cell, H[b + q]? = some cell ∧ cell.vm.isStatics = false ∧ s.vm.findClass M.1.cls = some cell.cls := va_recv (q0 := q) E.2.2.2.2.2.1 h1.1 hT (by rw [xL_at hq, xE_obj hs hci])
  have hpre : PreV s H M.1.cls (b + q) (va_Pc ((AR q :: As).map (cv b)) (fun U => xU D aC b w U)) (As.map (cv b)) := ⟨xU_blind, hrecv, fun U hU hW => ⟨rfl, by rw [hU]; exact h1, va_K.moved hW.alike E.2.2.2.2.2.1, Gl.warm hW E.2.2.2.2.1⟩⟩
  have hsk : (F0 m pc ls (st.map (cv b))).stack = (As.map (cv b)).reverse ++ .ref (b + q) :: S.map (cv b) := by
    show st.map (cv b) = _
    rw [hst, List.map_append, List.map_reverse]
    rfl
  rcases hB.2.2.2 with hl | ⟨host, hl⟩
  · exact va_runV (Ts := []) ⟨E.1, E.2.1, E.2.2.1, E.2.2.2.1, fun _ h => absurd h List.not_mem_nil⟩ hM ⟨⟨rfl, rfl, hfr, hlo, k1, List.mem_cons_self, k2, k3, ⟨hB.2.2.1.1, hB.2.2.1.2.1⟩, k4, E.gl hl rfl⟩, E.gl hi rfl, E.gl hse rfl⟩ hpre rfl (by rw [List.length_map]; exact hn) h3.1 hsk (lv_room hr) d hf
  · exact va_runVN (Ts := []) ⟨E.1, E.2.1, E.2.2.1, E.2.2.2.1, fun _ h => absurd h List.not_mem_nil⟩ hM ⟨⟨⟨rfl, rfl, hfr, hlo, k1, List.mem_cons_self⟩, k2, k3, ⟨hB.2.2.1.1, hB.2.2.1.2.1⟩, k4, E.gl hl rfl⟩, E.gl hi rfl, E.gl hse rfl⟩ hpre rfl (by rw [List.length_map]; exact hn) h3.1 hsk (lv_room hr) d hf
theorem run_S {M : Mt} {ix n fr lo mc ms : Nat} {As : List AV} {st : List AV} {Qc : Array Value → State → Outcome → State → Prop} {H : Heap} {locs : List Loc} {ls : Array Slot} (E : EE p s m meth c D aC b nL cc own ret) (hM : Met l M.1 [Mc M] (rmF fr lo mc ms) (va_Pc (As.map (cv b)) (fun U => xU D aC b w U)) Qc mc ms (xA b)) (hc : CSw own ix M n) (hst : st = As.reverse ++ S) (hn : As.length = n) (hfr : fr + 1 ≤ R.frames) (hlo : 8 + (M.2.2.1 + 11) + lo ≤ R.locals) (hf : cs + mc ≤ R.cells ∧ sl + ms ≤ R.slots) (hr : ((S.map (cv b)).map fun v => v.category).sum ≤ 8) (d : decode cc pc = .ok (.invokestatic ix, 3)) (h1 : xH D aC b w H) (h3 : xl b ls nL L) :
    va_Run p l e R s m args below meth c H locs cs sl mc ms (F0 m pc ls (st.map (cv b))) (S.map (cv b)) (Qc (As.map (cv b)).toArray) (xA b) := by
  obtain ⟨hB, hsta⟩ := hc
  obtain ⟨k1, k2, k3, k4⟩ := cb_parts (R := R) (args := args) (fr := fr) (lo := lo) (mc := mc) (ms := ms) E hB hfr hlo
  have hpre : PreS s H (va_Pc (As.map (cv b)) (fun U => xU D aC b w U)) (As.map (cv b)) := ⟨xU_blind, fun U hU hW => ⟨rfl, by rw [hU]; exact h1, va_K.moved hW.alike E.2.2.2.2.2.1, Gl.warm hW E.2.2.2.2.1⟩⟩
  have hsk : (F0 m pc ls (st.map (cv b))).stack = (As.map (cv b)).reverse ++ S.map (cv b) := by
    show st.map (cv b) = _
    rw [hst, List.map_append, List.map_reverse]
  rcases hB.2.2.2 with hl | ⟨host, hl⟩
  · exact va_runS (Ts := []) ⟨E.1, E.2.1, E.2.2.1, E.2.2.2.1, fun _ h => absurd h List.not_mem_nil⟩ hM ⟨⟨rfl, rfl, hfr, hlo, k1, List.mem_cons_self, k2, k3, ⟨hB.2.2.1.1, hB.2.2.1.2.1⟩, k4, E.gl hl rfl⟩, E.gl hsta rfl⟩ hpre rfl (by rw [List.length_map]; exact hn) h3.1 hsk (lv_room hr) d hf
  · exact va_runSN (Ts := []) ⟨E.1, E.2.1, E.2.2.1, E.2.2.2.1, fun _ h => absurd h List.not_mem_nil⟩ hM ⟨⟨⟨rfl, rfl, hfr, hlo, k1, List.mem_cons_self⟩, k2, k3, ⟨hB.2.2.1.1, hB.2.2.1.2.1⟩, k4, E.gl hl rfl⟩, E.gl hsta rfl, trivial⟩ hpre rfl (by rw [List.length_map]; exact hn) h3.1 hsk (lv_room hr) d hf
theorem run_I {y : MethodName} {cod : ByteArray} {mL : Nat} {ix n q fr lo mc ms : Nat} {As : List AV} {st : List AV} {Qc : Array Value → State → Outcome → State → Prop} {H : Heap} {locs : List Loc} {ls : Array Slot} (E : EE p s m meth c D aC b nL cc own ret) (hM : Met l y [Mc (y, cod, mL, none)] (rmF fr lo mc ms) (va_Pc ((AR q :: As).map (cv b)) (fun U => xU D aC b w U)) Qc mc ms (xA b)) (hc : CIw own ix (y, cod, mL, none) n) (hst : st = As.reverse ++ AR q :: S) (hn : As.length = n) (hfr : fr + 1 ≤ R.frames) (hlo : 8 + (mL + 11) + lo ≤ R.locals) (hf : cs + mc ≤ R.cells ∧ sl + ms ≤ R.slots) (hr : ((S.map (cv b)).map fun v => v.category).sum ≤ 8) (d : decode cc pc = .ok (.invokespecial ix, 3)) (h1 : xH D aC b w H) (h3 : xl b ls nL L) :
    va_Run p l e R s m args below meth c H locs cs sl mc ms (F0 m pc ls (st.map (cv b))) (S.map (cv b)) (Qc ((AR q :: As).map (cv b)).toArray) (xA b) := by
  obtain ⟨hB, hin, hi⟩ := hc
  obtain ⟨k1, k2, k3, k4⟩ := cb_parts (R := R) (args := args) (fr := fr) (lo := lo) (mc := mc) (ms := ms) E hB hfr hlo
  have hpre : PreS s H (va_Pc ((AR q :: As).map (cv b)) (fun U => xU D aC b w U)) (.ref (b + q) :: As.map (cv b)) := ⟨xU_blind, fun U hU hW => ⟨rfl, by rw [hU]; exact h1, va_K.moved hW.alike E.2.2.2.2.2.1, Gl.warm hW E.2.2.2.2.1⟩⟩
  have hsk : (F0 m pc ls (st.map (cv b))).stack = (As.map (cv b)).reverse ++ .ref (b + q) :: S.map (cv b) := by
    show st.map (cv b) = _
    rw [hst, List.map_append, List.map_reverse]
    rfl
  rcases hB.2.2.2 with hl | ⟨host, hl⟩
  · exact va_runI (Ts := []) ⟨E.1, E.2.1, E.2.2.1, E.2.2.2.1, fun _ h => absurd h List.not_mem_nil⟩ hM ⟨⟨rfl, rfl, hfr, hlo, k1, List.mem_cons_self, k2, k3, ⟨hB.2.2.1.1, hB.2.2.1.2.1⟩, k4, E.gl hl rfl⟩, hin, E.gl hi rfl⟩ hpre rfl (by rw [List.length_map]; exact hn) h3.1 hsk (lv_room hr) d hf
  · exact va_runIN (Ts := []) ⟨E.1, E.2.1, E.2.2.1, E.2.2.2.1, fun _ h => absurd h List.not_mem_nil⟩ hM ⟨⟨⟨rfl, rfl, hfr, hlo, k1, List.mem_cons_self⟩, k2, k3, ⟨hB.2.2.1.1, hB.2.2.1.2.1⟩, k4, E.gl hl rfl⟩, hin, E.gl hi rfl⟩ hpre rfl (by rw [List.length_map]; exact hn) h3.1 hsk (lv_room hr) d hf
theorem s_vI {M : Mt} {ix n ci N q fr lo mc ms : Nat} {As st : List AV} {post : Int32 → XW → Prop} (E : EE p s m meth c D aC b nL cc own ret) (hM : CnI l D aC b M fr lo mc ms (AR q :: As) w post) (hc : CVw own ix M n ci N) (hst : st = As.reverse ++ AR q :: S) (hn : As.length = n) (hs : xS q = (ci, N)) (hq : q < w.1) (hfr : fr + 1 ≤ R.frames) (hlo : 8 + (M.2.2.1 + 11) + lo ≤ R.locals) (hf : cs + mc ≤ R.cells ∧ sl + ms ≤ R.slots) (hr : ((S.map (cv b)).map fun v => v.category).sum ≤ 8) (d : decode cc pc = .ok (.invokevirtual ix, 3))
    (kk : ∀ (r : Int32) (u : XW), post r u → Wv p l e R s m args below meth c Q D aC b nL (pc + 3) L (AI r :: S) u (cs + mc) (sl + ms)) : Wv p l e R s m args below meth c Q D aC b nL pc L st w cs sl := fun H locs ls h1 h2 h3 =>
  va_calli (run_V E hM hc hst hn hs hq hfr hlo hf hr d h1 h3) h2 (fun _ _ h => h) (fun _ h => h) (fun r u t H1 locs1 ht _ hp hB _ _ hS => kk r u hp H1 locs1 ls (ht ▸ hB.1) hS h3)
theorem s_sI {M : Mt} {ix n fr lo mc ms : Nat} {As st : List AV} {post : Int32 → XW → Prop} (E : EE p s m meth c D aC b nL cc own ret) (hM : CnI l D aC b M fr lo mc ms As w post) (hc : CSw own ix M n) (hst : st = As.reverse ++ S) (hn : As.length = n) (hfr : fr + 1 ≤ R.frames) (hlo : 8 + (M.2.2.1 + 11) + lo ≤ R.locals) (hf : cs + mc ≤ R.cells ∧ sl + ms ≤ R.slots) (hr : ((S.map (cv b)).map fun v => v.category).sum ≤ 8) (d : decode cc pc = .ok (.invokestatic ix, 3))
    (kk : ∀ (r : Int32) (u : XW), post r u → Wv p l e R s m args below meth c Q D aC b nL (pc + 3) L (AI r :: S) u (cs + mc) (sl + ms)) : Wv p l e R s m args below meth c Q D aC b nL pc L st w cs sl := fun H locs ls h1 h2 h3 =>
  va_calli (run_S E hM hc hst hn hfr hlo hf hr d h1 h3) h2 (fun _ _ h => h) (fun _ h => h) (fun r u t H1 locs1 ht _ hp hB _ _ hS => kk r u hp H1 locs1 ls (ht ▸ hB.1) hS h3)
theorem s_vL {M : Mt} {ix n ci N q fr lo mc ms : Nat} {As st : List AV} {post : Int64 → XW → Prop} (E : EE p s m meth c D aC b nL cc own ret) (hM : CnL l D aC b M fr lo mc ms (AR q :: As) w post) (hc : CVw own ix M n ci N) (hst : st = As.reverse ++ AR q :: S) (hn : As.length = n) (hs : xS q = (ci, N)) (hq : q < w.1) (hfr : fr + 1 ≤ R.frames) (hlo : 8 + (M.2.2.1 + 11) + lo ≤ R.locals) (hf : cs + mc ≤ R.cells ∧ sl + ms ≤ R.slots) (hr : ((S.map (cv b)).map fun v => v.category).sum ≤ 8) (d : decode cc pc = .ok (.invokevirtual ix, 3))
    (kk : ∀ (r : Int64) (u : XW), post r u → Wv p l e R s m args below meth c Q D aC b nL (pc + 3) L (AL r :: S) u (cs + mc) (sl + ms)) : Wv p l e R s m args below meth c Q D aC b nL pc L st w cs sl := fun H locs ls h1 h2 h3 =>
  va_calll (run_V E hM hc hst hn hs hq hfr hlo hf hr d h1 h3) h2 (fun _ _ h => h) (fun _ h => h) (fun r u t H1 locs1 ht _ hp hB _ _ hS => kk r u hp H1 locs1 ls (ht ▸ hB.1) hS h3)
theorem s_sL {M : Mt} {ix n fr lo mc ms : Nat} {As st : List AV} {post : Int64 → XW → Prop} (E : EE p s m meth c D aC b nL cc own ret) (hM : CnL l D aC b M fr lo mc ms As w post) (hc : CSw own ix M n) (hst : st = As.reverse ++ S) (hn : As.length = n) (hfr : fr + 1 ≤ R.frames) (hlo : 8 + (M.2.2.1 + 11) + lo ≤ R.locals) (hf : cs + mc ≤ R.cells ∧ sl + ms ≤ R.slots) (hr : ((S.map (cv b)).map fun v => v.category).sum ≤ 8) (d : decode cc pc = .ok (.invokestatic ix, 3))
    (kk : ∀ (r : Int64) (u : XW), post r u → Wv p l e R s m args below meth c Q D aC b nL (pc + 3) L (AL r :: S) u (cs + mc) (sl + ms)) : Wv p l e R s m args below meth c Q D aC b nL pc L st w cs sl := fun H locs ls h1 h2 h3 =>
  va_calll (run_S E hM hc hst hn hfr hlo hf hr d h1 h3) h2 (fun _ _ h => h) (fun _ h => h) (fun r u t H1 locs1 ht _ hp hB _ _ hS => kk r u hp H1 locs1 ls (ht ▸ hB.1) hS h3)
theorem s_vV {M : Mt} {ix n ci N q fr lo mc ms : Nat} {As st : List AV} {post : XW → Prop} (E : EE p s m meth c D aC b nL cc own ret) (hM : CnV l D aC b M fr lo mc ms (AR q :: As) w post) (hc : CVw own ix M n ci N) (hst : st = As.reverse ++ AR q :: S) (hn : As.length = n) (hs : xS q = (ci, N)) (hq : q < w.1) (hfr : fr + 1 ≤ R.frames) (hlo : 8 + (M.2.2.1 + 11) + lo ≤ R.locals) (hf : cs + mc ≤ R.cells ∧ sl + ms ≤ R.slots) (hr : ((S.map (cv b)).map fun v => v.category).sum ≤ 8) (d : decode cc pc = .ok (.invokevirtual ix, 3))
    (kk : ∀ (u : XW), post u → Wv p l e R s m args below meth c Q D aC b nL (pc + 3) L (S) u (cs + mc) (sl + ms)) : Wv p l e R s m args below meth c Q D aC b nL pc L st w cs sl := fun H locs ls h1 h2 h3 =>
  va_callv (run_V E hM hc hst hn hs hq hfr hlo hf hr d h1 h3) h2 (fun _ _ h => h) (fun _ h => h) (fun u t H1 locs1 ht _ hp hB _ _ hS => kk u hp H1 locs1 ls (ht ▸ hB.1) hS h3)
theorem s_sV {M : Mt} {ix n fr lo mc ms : Nat} {As st : List AV} {post : XW → Prop} (E : EE p s m meth c D aC b nL cc own ret) (hM : CnV l D aC b M fr lo mc ms As w post) (hc : CSw own ix M n) (hst : st = As.reverse ++ S) (hn : As.length = n) (hfr : fr + 1 ≤ R.frames) (hlo : 8 + (M.2.2.1 + 11) + lo ≤ R.locals) (hf : cs + mc ≤ R.cells ∧ sl + ms ≤ R.slots) (hr : ((S.map (cv b)).map fun v => v.category).sum ≤ 8) (d : decode cc pc = .ok (.invokestatic ix, 3))
    (kk : ∀ (u : XW), post u → Wv p l e R s m args below meth c Q D aC b nL (pc + 3) L (S) u (cs + mc) (sl + ms)) : Wv p l e R s m args below meth c Q D aC b nL pc L st w cs sl := fun H locs ls h1 h2 h3 =>
  va_callv (run_S E hM hc hst hn hfr hlo hf hr d h1 h3) h2 (fun _ _ h => h) (fun _ h => h) (fun u t H1 locs1 ht _ hp hB _ _ hS => kk u hp H1 locs1 ls (ht ▸ hB.1) hS h3)
theorem s_init {y : MethodName} {cod : ByteArray} {mL : Nat} {ix n q fr lo mc ms : Nat} {As st : List AV} {post : XW → Prop} (E : EE p s m meth c D aC b nL cc own ret) (hM : CnV l D aC b (y, cod, mL, none) fr lo mc ms (AR q :: As) w post) (hc : CIw own ix (y, cod, mL, none) n) (hst : st = As.reverse ++ AR q :: S) (hn : As.length = n) (hfr : fr + 1 ≤ R.frames) (hlo : 8 + (mL + 11) + lo ≤ R.locals) (hf : cs + mc ≤ R.cells ∧ sl + ms ≤ R.slots) (hr : ((S.map (cv b)).map fun v => v.category).sum ≤ 8) (d : decode cc pc = .ok (.invokespecial ix, 3))
    (kk : ∀ (u : XW), post u → Wv p l e R s m args below meth c Q D aC b nL (pc + 3) L S u (cs + mc) (sl + ms)) : Wv p l e R s m args below meth c Q D aC b nL pc L st w cs sl := fun H locs ls h1 h2 h3 =>
  va_callv (run_I E hM hc hst hn hfr hlo hf hr d h1 h3) h2 (fun _ _ h => h) (fun _ h => h) (fun u t H1 locs1 ht _ hp hB _ _ hS => kk u hp H1 locs1 ls (ht ▸ hB.1) hS h3)
theorem s_obj {q ix : Nat} (E : EE p s m meth c D aC b nL cc own ret) (hl : Cond.methodLink own ix Lib.objectInit ∈ lw_tbl) (hi : Cond.instanceMethod Lib.objectInit ∈ lw_tbl) (hc : Cond.code Lib.objectInit ⟨#[0xb1]⟩ 1 none ∈ lw_tbl) (hfr : 1 ≤ R.frames) (hlo : ((S.map (cv b)).map fun v => v.category).sum + 12 ≤ R.locals) (d : decode cc pc = .ok (.invokespecial ix, 3)) (kk : Wv p l e R s m args below meth c Q D aC b nL (pc + 3) L S w cs sl) : Wv p l e R s m args below meth c Q D aC b nL pc L (AR q :: S) w cs sl := fun H locs ls h1 h2 h3 =>
  W.objInit E.1 E.2.1 E.2.2.2.1 (E.gl hl rfl) (E.gl hi rfl) (E.gl hc rfl) rfl (by rw [E.2.2.1]; exact h3.1) rfl d hfr (by show 2 * 0 + _ + 12 ≤ _; omega) (kk H locs ls h1 h2 h3)
theorem s_max {ix : Nat} {x y v : Int32} (E : EE p s m meth c D aC b nL cc own ret) (hw : Cond.methodLink own ix Lib.Math.max.name ∈ lw_tbl ∧ Cond.static Lib.Math.max.name ∈ lw_tbl ∧ Cond.initialized "java/lang/Math" ∈ lw_tbl ∧ Cond.code Lib.Math.max.name Lib.Math.max.code 2 (some .int) ∈ lw_tbl) (hfr : 1 ≤ R.frames) (hlo : ((S.map (cv b)).map fun v => v.category).sum + 13 ≤ R.locals) (hc : cs ≤ R.cells) (hs : sl ≤ R.slots) (d : decode cc pc = .ok (.invokestatic ix, 3)) (hv : (if x < y then y else x) = v) (kk : Wv p l e R s m args below meth c Q D aC b nL (pc + 3) L (AI v :: S) w cs sl) : Wv p l e R s m args below meth c Q D aC b nL pc L (AI y :: AI x :: S) w cs sl := fun H locs ls h1 h2 h3 =>
  va_mmax E.1 E.2.1 (by rw [E.2.2.1]; exact h3.1.symm) E.2.2.2.1 (E.gl hw.1 rfl) (E.gl hw.2.1 rfl) (E.gl hw.2.2.1 rfl) (E.gl hw.2.2.2 rfl) hfr hlo hc hs d (by rw [hv]; exact kk H locs ls h1 h2 h3)
theorem s_min {ix : Nat} {x y v : Int32} (E : EE p s m meth c D aC b nL cc own ret) (hw : Cond.methodLink own ix Lib.Math.min.name ∈ lw_tbl ∧ Cond.static Lib.Math.min.name ∈ lw_tbl ∧ Cond.initialized "java/lang/Math" ∈ lw_tbl ∧ Cond.code Lib.Math.min.name Lib.Math.min.code 2 (some .int) ∈ lw_tbl) (hfr : 1 ≤ R.frames) (hlo : ((S.map (cv b)).map fun v => v.category).sum + 13 ≤ R.locals) (hc : cs ≤ R.cells) (hs : sl ≤ R.slots) (d : decode cc pc = .ok (.invokestatic ix, 3)) (hv : (if y < x then y else x) = v) (kk : Wv p l e R s m args below meth c Q D aC b nL (pc + 3) L (AI v :: S) w cs sl) : Wv p l e R s m args below meth c Q D aC b nL pc L (AI y :: AI x :: S) w cs sl := fun H locs ls h1 h2 h3 =>
  va_mmin E.1 E.2.1 (by rw [E.2.2.1]; exact h3.1.symm) E.2.2.2.1 (E.gl hw.1 rfl) (E.gl hw.2.1 rfl) (E.gl hw.2.2.1 rfl) (E.gl hw.2.2.2 rfl) hfr hlo hc hs d (by rw [hv]; exact kk H locs ls h1 h2 h3)
end XK
end
section
section XS
variable {p : Program} {l : Launch} {e : Env} {R : Room} {s : State} {m : MethodId} {args : Array Value} {below : List Frame} {meth : Method} {c : Code} {Q : State → Prop}
variable {D : va_G} {aC : Nat → ClassId} {b nL : Nat} {cc : ByteArray} {own : String} {ret : Option FieldType}
variable {pc : Nat} {L : List (Option AV)} {S : List AV} {w : XW} {cs sl : Nat}
theorem s_topR {x y : Nat} (h : x = y) (kk : Wv p l e R s m args below meth c Q D aC b nL pc L (AR y :: S) w cs sl) : Wv p l e R s m args below meth c Q D aC b nL pc L (AR x :: S) w cs sl := h ▸ kk
theorem nI_mulc (a k : Nat) : nI a * nI k = nI (a * k) := (Int32.ofNat_mul a k).symm
theorem s_drop {i : Nat} {L2 : List (Option AV)} (h : L.set i none = L2) (kk : Wv p l e R s m args below meth c Q D aC b nL pc L2 S w cs sl) : Wv p l e R s m args below meth c Q D aC b nL pc L S w cs sl := fun H locs ls h1 h2 h3 => kk H locs ls h1 h2 ⟨h3.1, h3.2.1, fun q hq => h3.2.2 q (by
  obtain ⟨j, v, hj, rfl⟩ := lvl_mem.mp hq
  refine lvl_mem.mpr ⟨j, v, ?_, rfl⟩
  rw [← h, List.getElem?_set] at hj
  split at hj
  · split at hj <;> simp at hj
  · exact hj)⟩
theorem vp_c {i : Int32} {n : Nat} (h : ¬ (i < 0 ∨ n ≤ i.toNatClampNeg)) : vp_in i n := h
theorem ltn {n q : Nat} (hn : w.1 = n) (h : q < n) : q < w.1 := by rw [hn]; exact h
theorem cn_I {y : MethodName} {cod : ByteArray} {mL fr lo mc ms : Nat} {nm : String} {A : List AV} {L0 : List (Option AV)} {post : Int32 → XW → Prop} (hy : plainName y.cls = true) (ho : y.cls = own) (hn : y.name = nm) (hA : (entL A).length ≤ mL) (hL : entL A ++ List.replicate (mL - (entL A).length) none = L0)
    (body : ∀ (p : Program) (e : Env) (s : State) (m : MethodId) (args : Array Value) (below : List Frame) (meth : Method) (c : Code), EE p s m meth c D aC b mL cod own ret → meth.name = nm → Wv p l e (rmF fr lo mc ms) s m args below meth c (MQ below (va_Qi post (xU D aC b) (xA b)) args s mc ms (xA b)) D aC b mL 0 L0 [] w 0 0) : CnI l D aC b (y, cod, mL, ret) fr lo mc ms A w post := by
  subst ho; subst hn
  exact cn_body (M := (y, cod, mL, ret)) hy hA hL body
theorem cn_L {y : MethodName} {cod : ByteArray} {mL fr lo mc ms : Nat} {nm : String} {A : List AV} {L0 : List (Option AV)} {post : Int64 → XW → Prop} (hy : plainName y.cls = true) (ho : y.cls = own) (hn : y.name = nm) (hA : (entL A).length ≤ mL) (hL : entL A ++ List.replicate (mL - (entL A).length) none = L0)
    (body : ∀ (p : Program) (e : Env) (s : State) (m : MethodId) (args : Array Value) (below : List Frame) (meth : Method) (c : Code), EE p s m meth c D aC b mL cod own ret → meth.name = nm → Wv p l e (rmF fr lo mc ms) s m args below meth c (MQ below (va_Ql post (xU D aC b) (xA b)) args s mc ms (xA b)) D aC b mL 0 L0 [] w 0 0) : CnL l D aC b (y, cod, mL, ret) fr lo mc ms A w post := by
  subst ho; subst hn
  exact cn_body (M := (y, cod, mL, ret)) hy hA hL body
theorem cn_V {y : MethodName} {cod : ByteArray} {mL fr lo mc ms : Nat} {nm : String} {A : List AV} {L0 : List (Option AV)} {post : XW → Prop} (hy : plainName y.cls = true) (ho : y.cls = own) (hn : y.name = nm) (hA : (entL A).length ≤ mL) (hL : entL A ++ List.replicate (mL - (entL A).length) none = L0)
    (body : ∀ (p : Program) (e : Env) (s : State) (m : MethodId) (args : Array Value) (below : List Frame) (meth : Method) (c : Code), EE p s m meth c D aC b mL cod own ret → meth.name = nm → Wv p l e (rmF fr lo mc ms) s m args below meth c (MQ below (va_Qv post (xU D aC b) (xA b)) args s mc ms (xA b)) D aC b mL 0 L0 [] w 0 0) : CnV l D aC b (y, cod, mL, ret) fr lo mc ms A w post := by
  subst ho; subst hn
  exact cn_body (M := (y, cod, mL, ret)) hy hA hL body
theorem s_copy100 {src dst N1 N2 ix : Nat} {sp dp n : Int32} (E : EE p s m meth c D aC b nL cc own ret) (hl : Cond.methodLink own ix arraycopyName ∈ lw_tbl) (hna : Cond.native arraycopyName ∈ lw_tbl) (hst : Cond.static arraycopyName ∈ lw_tbl) (hini : Cond.initialized "java/lang/System" ∈ lw_tbl) (hs : xS src = (100, N1)) (hd : xS dst = (100, N2)) (hq1 : src < w.1) (hq2 : dst < w.1) (h1 : ¬ sp < 0) (h2 : ¬ dp < 0) (h3 : ¬ n < 0) (h4 : sp.toNatClampNeg + n.toNatClampNeg ≤ N1) (h5 : dp.toNatClampNeg + n.toNatClampNeg ≤ N2) (hfr : 1 ≤ R.frames) (hlo : ((S.map (cv b)).map fun v => v.category).sum + (nativeFrameWords "java/lang/System" "arraycopy" 5 + 11) ≤ R.locals) (d : decode cc pc = .ok (.invokestatic ix, 3))
    (kk : Wv p l e R s m args below meth c Q D aC b nL (pc + 3) L S (stI w dst (va_cpy (w.2.2.1 src) (w.2.2.1 dst) sp.toNatClampNeg dp.toNatClampNeg n.toNatClampNeg)) cs sl) : Wv p l e R s m args below meth c Q D aC b nL pc L (AI n :: AI dp :: AR dst :: AI sp :: AR src :: S) w cs sl := by
  intro H locs ls g1 g2 g3 T hT X
  have pos : ∀ z : Int32, ¬ z < 0 → z.toInt = (z.toNatClampNeg : Int) := fun z hz => by
    have a := Int32.le_iff_toInt_le.mp (Int32.not_lt.mp hz)
    have a0 : (0 : Int32).toInt = 0 := by decide
    rw [a0] at a
    exact (Int.toNat_of_nonneg a).symm
  have e0 : (xL aC b w)[src]? = some (b + src, .inl (aC 100, N1, .inl (w.2.2.1 src))) := by rw [xL_at hq1, xE_ai hs (by omega)]
  have e1 : (xL aC b w)[dst]? = some (b + dst, .inl (aC 100, N2, .inl (w.2.2.1 dst))) := by rw [xL_at hq2, xE_ai hd (by omega)]
  have c0 : H[b + src]? = some (arrV (aC 100) N1 (fun j => .int (w.2.2.1 src j))) := g1.1 src _ e0
  have c1 : H[b + dst]? = some (arrV (aC 100) N2 (fun j => .int (w.2.2.1 dst j))) := g1.1 dst _ e1
  obtain ⟨-, k0, hk0, m0, t0⟩ := (E.2.2.2.2.2.1.2 0 _ rfl).1 N1 (fun j => .int (w.2.2.1 src j))
  obtain ⟨-, k1, hk1, m1, t1⟩ := (E.2.2.2.2.2.1.2 0 _ rfl).1 N2 (fun j => .int (w.2.2.1 dst j))
  obtain ⟨vm, X2, go⟩ := X.arraycopy E.1 E.2.2.2.1 (E.gl hl rfl) (E.gl hna rfl) (E.gl hst rfl) (E.gl hini rfl) (src := b + src) (dst := b + dst) (srcPos := sp) (destPos := dp) (n := n) (by rw [hT]; exact c0) (by rw [hT]; exact c1) (fun _ h => by cases h) (fun _ h => by cases h) (fun h => by cases h) (fun h => by cases h) hk0 hk1 t0 t1 rfl h1 h2 h3
    (by rw [pos sp h1, pos n h3, arrV_size]; omega) (by rw [pos dp h2, pos n h3, arrV_size]; omega)
    (fun _ _ i hi => by
      rw [Array.getD_eq_getD_getElem?, arrV_read _ _ (by omega)]
      exact ⟨rfl, trivial⟩)
    (g := F0 m pc ls ((AI n :: AI dp :: AR dst :: AI sp :: AR src :: S).map (cv b))) rfl (by rw [E.2.2.1]; exact g3.1) (rest := S.map (cv b)) rfl (by rw [E.2.1]; exact d) hfr (by show 2 * 0 + _ + _ ≤ _; omega)
  have ec : copied (arrV (aC 100) N1 (fun j => .int (w.2.2.1 src j))) (arrV (aC 100) N2 (fun j => .int (w.2.2.1 dst j))) sp dp n = arrV (aC 100) N2 (fun j => .int (va_cpy (w.2.2.1 src) (w.2.2.1 dst) sp.toNatClampNeg dp.toNatClampNeg n.toNatClampNeg j)) := va_copied (fun z => .int z) (aC 100) (aC 100) (w.2.2.1 src) (w.2.2.1 dst) h4
  rw [ec] at X2 go
  have hlt : b + dst < H.size := (Array.getElem?_eq_some_iff.mp c1).1
  have other : ∀ q : Nat, q ≠ b + dst → (H.setIfInBounds (b + dst) (arrV (aC 100) N2 (fun j => .int (va_cpy (w.2.2.1 src) (w.2.2.1 dst) sp.toNatClampNeg dp.toNatClampNeg n.toNatClampNeg j))))[q]? = H[q]? := fun q hq => Array.getElem?_setIfInBounds_ne (Ne.symm hq)
  obtain ⟨t, a1, b1⟩ := kk (H.setIfInBounds (b + dst) (arrV (aC 100) N2 (fun j => .int (va_cpy (w.2.2.1 src) (w.2.2.1 dst) sp.toNatClampNeg dp.toNatClampNeg n.toNatClampNeg j)))) _ ls
    (xH_set g1 (by simp) hq2 rfl (en := .inl (aC 100, N2, .inl (va_cpy (w.2.2.1 src) (w.2.2.1 dst) sp.toNatClampNeg dp.toNatClampNeg n.toNatClampNeg))) (by rw [xE_ai hd (by omega)]; simp [stI, va_up]) (fun j hj => xE_other rfl (va_up_ne _ _ hj) rfl) (g1.1.set xL_D e1 (show _ = some _ by simp [hlt]; rfl) other))
    ⟨by simp; exact g2.1, fun q z1 z2 => by rw [other q (fun z => z2 (by rw [z]; exact Nat.le_add_right _ _))]; exact g2.2.1 q z1 z2, fun q hq => by
      rcases List.mem_append.mp hq with h | h
      · exact g2.2.2 q h
      · obtain ⟨z, -, hz⟩ := List.mem_map.mp h
        rw [← hz]
        exact Nat.le_add_right _ _⟩ g3 _ (by rw [← hT]; rfl) X2
  exact ⟨t, go t a1, b1⟩
theorem s_copy101 {src dst N1 N2 ix : Nat} {sp dp n : Int32} (E : EE p s m meth c D aC b nL cc own ret) (hl : Cond.methodLink own ix arraycopyName ∈ lw_tbl) (hna : Cond.native arraycopyName ∈ lw_tbl) (hst : Cond.static arraycopyName ∈ lw_tbl) (hini : Cond.initialized "java/lang/System" ∈ lw_tbl) (hs : xS src = (101, N1)) (hd : xS dst = (101, N2)) (hq1 : src < w.1) (hq2 : dst < w.1) (h1 : ¬ sp < 0) (h2 : ¬ dp < 0) (h3 : ¬ n < 0) (h4 : sp.toNatClampNeg + n.toNatClampNeg ≤ N1) (h5 : dp.toNatClampNeg + n.toNatClampNeg ≤ N2) (hfr : 1 ≤ R.frames) (hlo : ((S.map (cv b)).map fun v => v.category).sum + (nativeFrameWords "java/lang/System" "arraycopy" 5 + 11) ≤ R.locals) (d : decode cc pc = .ok (.invokestatic ix, 3))
    (kk : Wv p l e R s m args below meth c Q D aC b nL (pc + 3) L S (stL w dst (va_cpy (w.2.2.2 src) (w.2.2.2 dst) sp.toNatClampNeg dp.toNatClampNeg n.toNatClampNeg)) cs sl) : Wv p l e R s m args below meth c Q D aC b nL pc L (AI n :: AI dp :: AR dst :: AI sp :: AR src :: S) w cs sl := by
  intro H locs ls g1 g2 g3 T hT X
  have pos : ∀ z : Int32, ¬ z < 0 → z.toInt = (z.toNatClampNeg : Int) := fun z hz => by
    have a := Int32.le_iff_toInt_le.mp (Int32.not_lt.mp hz)
    have a0 : (0 : Int32).toInt = 0 := by decide
    rw [a0] at a
    exact (Int.toNat_of_nonneg a).symm
  have e0 : (xL aC b w)[src]? = some (b + src, .inl (aC 101, N1, .inr (.inl (w.2.2.2 src)))) := by rw [xL_at hq1, xE_al hs]
  have e1 : (xL aC b w)[dst]? = some (b + dst, .inl (aC 101, N2, .inr (.inl (w.2.2.2 dst)))) := by rw [xL_at hq2, xE_al hd]
  have c0 : H[b + src]? = some (arrV (aC 101) N1 (fun j => .long (w.2.2.2 src j))) := g1.1 src _ e0
  have c1 : H[b + dst]? = some (arrV (aC 101) N2 (fun j => .long (w.2.2.2 dst j))) := g1.1 dst _ e1
  obtain ⟨-, k0, hk0, m0, t0⟩ := (E.2.2.2.2.2.1.2 1 _ rfl).1 N1 (fun j => .long (w.2.2.2 src j))
  obtain ⟨-, k1, hk1, m1, t1⟩ := (E.2.2.2.2.2.1.2 1 _ rfl).1 N2 (fun j => .long (w.2.2.2 dst j))
  obtain ⟨vm, X2, go⟩ := X.arraycopy E.1 E.2.2.2.1 (E.gl hl rfl) (E.gl hna rfl) (E.gl hst rfl) (E.gl hini rfl) (src := b + src) (dst := b + dst) (srcPos := sp) (destPos := dp) (n := n) (by rw [hT]; exact c0) (by rw [hT]; exact c1) (fun _ h => by cases h) (fun _ h => by cases h) (fun h => by cases h) (fun h => by cases h) hk0 hk1 t0 t1 rfl h1 h2 h3
    (by rw [pos sp h1, pos n h3, arrV_size]; omega) (by rw [pos dp h2, pos n h3, arrV_size]; omega)
    (fun _ _ i hi => by
      rw [Array.getD_eq_getD_getElem?, arrV_read _ _ (by omega)]
      exact ⟨rfl, trivial⟩)
    (g := F0 m pc ls ((AI n :: AI dp :: AR dst :: AI sp :: AR src :: S).map (cv b))) rfl (by rw [E.2.2.1]; exact g3.1) (rest := S.map (cv b)) rfl (by rw [E.2.1]; exact d) hfr (by show 2 * 0 + _ + _ ≤ _; omega)
  have ec : copied (arrV (aC 101) N1 (fun j => .long (w.2.2.2 src j))) (arrV (aC 101) N2 (fun j => .long (w.2.2.2 dst j))) sp dp n = arrV (aC 101) N2 (fun j => .long (va_cpy (w.2.2.2 src) (w.2.2.2 dst) sp.toNatClampNeg dp.toNatClampNeg n.toNatClampNeg j)) := va_copied (fun z => .long z) (aC 101) (aC 101) (w.2.2.2 src) (w.2.2.2 dst) h4
  rw [ec] at X2 go
  have hlt : b + dst < H.size := (Array.getElem?_eq_some_iff.mp c1).1
  have other : ∀ q : Nat, q ≠ b + dst → (H.setIfInBounds (b + dst) (arrV (aC 101) N2 (fun j => .long (va_cpy (w.2.2.2 src) (w.2.2.2 dst) sp.toNatClampNeg dp.toNatClampNeg n.toNatClampNeg j))))[q]? = H[q]? := fun q hq => Array.getElem?_setIfInBounds_ne (Ne.symm hq)
  obtain ⟨t, a1, b1⟩ := kk (H.setIfInBounds (b + dst) (arrV (aC 101) N2 (fun j => .long (va_cpy (w.2.2.2 src) (w.2.2.2 dst) sp.toNatClampNeg dp.toNatClampNeg n.toNatClampNeg j)))) _ ls
    (xH_set g1 (by simp) hq2 rfl (en := .inl (aC 101, N2, .inr (.inl (va_cpy (w.2.2.2 src) (w.2.2.2 dst) sp.toNatClampNeg dp.toNatClampNeg n.toNatClampNeg)))) (by rw [xE_al hd]; simp [stL, va_up]) (fun j hj => xE_other rfl rfl (va_up_ne _ _ hj)) (g1.1.set xL_D e1 (show _ = some _ by simp [hlt]; rfl) other))
    ⟨by simp; exact g2.1, fun q z1 z2 => by rw [other q (fun z => z2 (by rw [z]; exact Nat.le_add_right _ _))]; exact g2.2.1 q z1 z2, fun q hq => by
      rcases List.mem_append.mp hq with h | h
      · exact g2.2.2 q h
      · obtain ⟨z, -, hz⟩ := List.mem_map.mp h
        rw [← hz]
        exact Nat.le_add_right _ _⟩ g3 _ (by rw [← hT]; rfl) X2
  exact ⟨t, go t a1, b1⟩
/-- what is known of a world: how many cells; references; ints; cells that are all 0 -/
def Fc (n : Nat) (rt : List (Nat × Nat × Nat)) (it : List (Nat × Nat × Int32)) (zt : List (Nat × Nat)) (w : XW) : Prop := w.1 = n ∧ (∀ q ∈ rt, w.2.1 q.1 q.2.1 = q.2.2) ∧ (∀ q ∈ it, w.2.2.1 q.1 q.2.1 = q.2.2) ∧ (∀ q ∈ zt, ∀ k, k < q.2 → w.2.2.1 q.1 k = 0)
variable {n : Nat} {rt : List (Nat × Nat × Nat)} {it : List (Nat × Nat × Int32)} {zt : List (Nat × Nat)}
theorem fc_r (h : Fc n rt it zt w) {c k v : Nat} (hm : (c, k, v) ∈ rt) : w.2.1 c k = v := h.2.1 _ hm
theorem fc_i (h : Fc n rt it zt w) {c k : Nat} {v : Int32} (hm : (c, k, v) ∈ it) : w.2.2.1 c k = v := h.2.2.1 _ hm
theorem fc_z (h : Fc n rt it zt w) {q : Nat × Nat} (hm : q ∈ zt) {k : Nat} (hk : k < q.2) : w.2.2.1 q.1 k = 0 := h.2.2.2 _ hm k hk
theorem fc_zi (h : Fc n rt it zt w) {c N : Nat} (hm : (c, N) ∈ zt) {i : Int32} (hin : vp_in i N) : w.2.2.1 c i.toNatClampNeg = 0 := h.2.2.2 _ hm _ (Nat.not_le.mp fun z => hin (Or.inr z))
theorem fc_one {n c k : Nat} {v : Int32} (hn : w.1 = n) (hv : w.2.2.1 c k = v) : Fc n [] [(c, k, v)] [] w := ⟨hn, fun _ h => absurd h List.not_mem_nil, fun q h => by rw [List.mem_singleton.mp h]; exact hv, fun _ h => absurd h List.not_mem_nil⟩
theorem fc_upI (h : Fc n rt it zt w) {c k : Nat} {x : Int32} (hk : (it.all (fun q => !(q.1 == c && q.2.1 == k)) && zt.all (fun q => q.1 != c)) = true) : Fc n rt it zt (upI w c k x) := by
  obtain ⟨h0, h1, h2, h3⟩ := h
  rw [Bool.and_eq_true, List.all_eq_true, List.all_eq_true] at hk
  refine ⟨h0, h1, fun q hq => ?_, fun q hq j hj => ?_⟩
  · have g := hk.1 q hq
    rw [← h2 q hq]
    show va_up w.2.2.1 c (upd (w.2.2.1 c) k x) q.1 q.2.1 = _
    by_cases e1 : q.1 = c
    · have e2 : ¬ q.2.1 = k := fun e2 => by simp [e1, e2] at g
      simp [va_up, upd, e1, e2]
    · simp [va_up, e1]
  · have g := hk.2 q hq
    have e1 : ¬ q.1 = c := by simpa using g
    rw [← h3 q hq j hj]
    show va_up w.2.2.1 c (upd (w.2.2.1 c) k x) q.1 j = _
    simp [va_up, e1]
theorem fc_stI (h : Fc n rt it zt w) {c : Nat} {f : Nat → Int32} (hk : (it.all (fun q => q.1 != c) && zt.all (fun q => q.1 != c)) = true) : Fc n rt it zt (stI w c f) := by
  obtain ⟨h0, h1, h2, h3⟩ := h
  rw [Bool.and_eq_true, List.all_eq_true, List.all_eq_true] at hk
  refine ⟨h0, h1, fun q hq => ?_, fun q hq j hj => ?_⟩
  · have e1 : ¬ q.1 = c := by simpa using hk.1 q hq
    rw [← h2 q hq]
    show va_up w.2.2.1 c f q.1 q.2.1 = _
    simp [va_up, e1]
  · have e1 : ¬ q.1 = c := by simpa using hk.2 q hq
    rw [← h3 q hq j hj]
    show va_up w.2.2.1 c f q.1 j = _
    simp [va_up, e1]
theorem fc_upC (h : Fc n rt it zt w) {c k : Nat} {x : Int32} (hk : (it.all (fun q => q.1 != c) && zt.all (fun q => q.1 != c)) = true) : Fc n rt it zt (upI w c k x) := fc_stI h hk
theorem fc_upZ (h : Fc n rt it zt w) {c k : Nat} (hk : it.all (fun q => q.1 != c) = true) : Fc n rt it zt (upI w c k 0) := by
  obtain ⟨h0, h1, h2, h3⟩ := h
  rw [List.all_eq_true] at hk
  refine ⟨h0, h1, fun q hq => ?_, fun q hq j hj => ?_⟩
  · have e1 : ¬ q.1 = c := by simpa using hk q hq
    rw [← h2 q hq]
    show va_up w.2.2.1 c _ q.1 q.2.1 = _
    simp [va_up, e1]
  · show va_up w.2.2.1 c (upd (w.2.2.1 c) k 0) q.1 j = 0
    by_cases e1 : q.1 = c
    · by_cases e2 : j = k
      · simp [va_up, upd, e1, e2]
      · have := h3 q hq j hj
        simp [va_up, upd, e1, e2]
        rw [← e1]; exact this
    · simp [va_up, e1]
      exact h3 q hq j hj
theorem fc_stL (h : Fc n rt it zt w) {c : Nat} {f : Nat → Int64} : Fc n rt it zt (stL w c f) := h
theorem fc_upL (h : Fc n rt it zt w) {c k : Nat} {x : Int64} : Fc n rt it zt (upL w c k x) := h
end XS
end
