-- ===== PART A: goes FIRST, ahead of the names: the tables' words, and 'selects' of the private methods out of them =====
/-- a private method of a class that the tables say can be made, by its rows of tables_1 -/
def lw_okq (q : MethodName × Nat) : Prop := (q.1.cls ≠ "java/lang/invoke/MethodHandle" ∧ q.1.cls ≠ "java/lang/invoke/VarHandle") ∧ Cond.instantiable q.1.cls q.2 ∈ tables_1 ∧ Cond.privateMethod q.1 ∈ tables_1 ∧ Cond.instanceMethod q.1 ∈ tables_1
theorem lw_p0 : lw_okq (⟨"HoopCabinet", "appendFour", "(I)V"⟩, 15) := ⟨⟨by decide +kernel, by decide +kernel⟩, List.mem_of_getElem? (i := 21) (by decide +kernel), List.mem_of_getElem? (i := 353) (by decide +kernel), List.mem_of_getElem? (i := 354) (by decide +kernel)⟩
theorem lw_p1 : lw_okq (⟨"HoopCabinet$Reader", "nextToken", "()V"⟩, 8) := ⟨⟨by decide +kernel, by decide +kernel⟩, List.mem_of_getElem? (i := 124) (by decide +kernel), List.mem_of_getElem? (i := 381) (by decide +kernel), List.mem_of_getElem? (i := 382) (by decide +kernel)⟩
theorem lw_p2 : lw_okq (⟨"HoopCabinet$Reader", "byteAt", "(I)I"⟩, 8) := ⟨⟨by decide +kernel, by decide +kernel⟩, List.mem_of_getElem? (i := 124) (by decide +kernel), List.mem_of_getElem? (i := 385) (by decide +kernel), List.mem_of_getElem? (i := 386) (by decide +kernel)⟩
theorem lw_p3 : lw_okq (⟨"HoopCabinet$Reader", "readLine", "()V"⟩, 8) := ⟨⟨by decide +kernel, by decide +kernel⟩, List.mem_of_getElem? (i := 124) (by decide +kernel), List.mem_of_getElem? (i := 395) (by decide +kernel), List.mem_of_getElem? (i := 396) (by decide +kernel)⟩
theorem lw_p4 : lw_okq (⟨"HoopCabinet$Reader", "readBall", "()V"⟩, 8) := ⟨⟨by decide +kernel, by decide +kernel⟩, List.mem_of_getElem? (i := 124) (by decide +kernel), List.mem_of_getElem? (i := 399) (by decide +kernel), List.mem_of_getElem? (i := 400) (by decide +kernel)⟩
theorem lw_p5 : lw_okq (⟨"HoopCabinet$Reader", "takeWord", "(Ljava/lang/String;)V"⟩, 8) := ⟨⟨by decide +kernel, by decide +kernel⟩, List.mem_of_getElem? (i := 124) (by decide +kernel), List.mem_of_getElem? (i := 404) (by decide +kernel), List.mem_of_getElem? (i := 405) (by decide +kernel)⟩
theorem lw_p6 : lw_okq (⟨"HoopCabinet$Reader", "isWord", "(Ljava/lang/String;)Z"⟩, 8) := ⟨⟨by decide +kernel, by decide +kernel⟩, List.mem_of_getElem? (i := 124) (by decide +kernel), List.mem_of_getElem? (i := 408) (by decide +kernel), List.mem_of_getElem? (i := 409) (by decide +kernel)⟩
theorem lw_p7 : lw_okq (⟨"HoopCabinet$Reader", "fail", "(I)V"⟩, 8) := ⟨⟨by decide +kernel, by decide +kernel⟩, List.mem_of_getElem? (i := 124) (by decide +kernel), List.mem_of_getElem? (i := 460) (by decide +kernel), List.mem_of_getElem? (i := 461) (by decide +kernel)⟩
theorem lw_p8 : lw_okq (⟨"HoopCabinet$Reader", "takeNumber", "(II)I"⟩, 8) := ⟨⟨by decide +kernel, by decide +kernel⟩, List.mem_of_getElem? (i := 124) (by decide +kernel), List.mem_of_getElem? (i := 465) (by decide +kernel), List.mem_of_getElem? (i := 466) (by decide +kernel)⟩
theorem lw_p9 : lw_okq (⟨"HoopCabinet$Reader", "digits", "()I"⟩, 8) := ⟨⟨by decide +kernel, by decide +kernel⟩, List.mem_of_getElem? (i := 124) (by decide +kernel), List.mem_of_getElem? (i := 469) (by decide +kernel), List.mem_of_getElem? (i := 470) (by decide +kernel)⟩
theorem lw_p10 : lw_okq (⟨"HoopCabinet$Reader", "takeSign", "()V"⟩, 8) := ⟨⟨by decide +kernel, by decide +kernel⟩, List.mem_of_getElem? (i := 124) (by decide +kernel), List.mem_of_getElem? (i := 477) (by decide +kernel), List.mem_of_getElem? (i := 478) (by decide +kernel)⟩
theorem lw_p11 : lw_okq (⟨"HoopCabinet$Reader", "readDoor", "()V"⟩, 8) := ⟨⟨by decide +kernel, by decide +kernel⟩, List.mem_of_getElem? (i := 124) (by decide +kernel), List.mem_of_getElem? (i := 482) (by decide +kernel), List.mem_of_getElem? (i := 483) (by decide +kernel)⟩
theorem lw_p12 : lw_okq (⟨"HoopCabinet$Reader", "startRow", "(LHoopCabinet$Table;)V"⟩, 8) := ⟨⟨by decide +kernel, by decide +kernel⟩, List.mem_of_getElem? (i := 124) (by decide +kernel), List.mem_of_getElem? (i := 486) (by decide +kernel), List.mem_of_getElem? (i := 487) (by decide +kernel)⟩
theorem lw_p13 : lw_okq (⟨"HoopCabinet$Reader", "readLady", "()V"⟩, 8) := ⟨⟨by decide +kernel, by decide +kernel⟩, List.mem_of_getElem? (i := 124) (by decide +kernel), List.mem_of_getElem? (i := 510) (by decide +kernel), List.mem_of_getElem? (i := 511) (by decide +kernel)⟩
theorem lw_p14 : lw_okq (⟨"HoopCabinet$Reader", "readMinister", "()V"⟩, 8) := ⟨⟨by decide +kernel, by decide +kernel⟩, List.mem_of_getElem? (i := 124) (by decide +kernel), List.mem_of_getElem? (i := 516) (by decide +kernel), List.mem_of_getElem? (i := 517) (by decide +kernel)⟩
theorem lw_p15 : lw_okq (⟨"HoopCabinet$Reader", "readBid", "()V"⟩, 8) := ⟨⟨by decide +kernel, by decide +kernel⟩, List.mem_of_getElem? (i := 124) (by decide +kernel), List.mem_of_getElem? (i := 523) (by decide +kernel), List.mem_of_getElem? (i := 524) (by decide +kernel)⟩
def lw_privs_1 : List (MethodName × Nat) := [(⟨"HoopCabinet", "appendFour", "(I)V"⟩, 15), (⟨"HoopCabinet$Reader", "nextToken", "()V"⟩, 8), (⟨"HoopCabinet$Reader", "byteAt", "(I)I"⟩, 8), (⟨"HoopCabinet$Reader", "readLine", "()V"⟩, 8), (⟨"HoopCabinet$Reader", "readBall", "()V"⟩, 8), (⟨"HoopCabinet$Reader", "takeWord", "(Ljava/lang/String;)V"⟩, 8), (⟨"HoopCabinet$Reader", "isWord", "(Ljava/lang/String;)Z"⟩, 8), (⟨"HoopCabinet$Reader", "fail", "(I)V"⟩, 8), (⟨"HoopCabinet$Reader", "takeNumber", "(II)I"⟩, 8), (⟨"HoopCabinet$Reader", "digits", "()I"⟩, 8), (⟨"HoopCabinet$Reader", "takeSign", "()V"⟩, 8), (⟨"HoopCabinet$Reader", "readDoor", "()V"⟩, 8), (⟨"HoopCabinet$Reader", "startRow", "(LHoopCabinet$Table;)V"⟩, 8), (⟨"HoopCabinet$Reader", "readLady", "()V"⟩, 8), (⟨"HoopCabinet$Reader", "readMinister", "()V"⟩, 8), (⟨"HoopCabinet$Reader", "readBid", "()V"⟩, 8)]
theorem lw_r1 : ∀ q ∈ lw_privs_1, lw_okq q := List.forall_mem_cons.mpr ⟨lw_p0, List.forall_mem_cons.mpr ⟨lw_p1, List.forall_mem_cons.mpr ⟨lw_p2, List.forall_mem_cons.mpr ⟨lw_p3, List.forall_mem_cons.mpr ⟨lw_p4, List.forall_mem_cons.mpr ⟨lw_p5, List.forall_mem_cons.mpr ⟨lw_p6, List.forall_mem_cons.mpr ⟨lw_p7, List.forall_mem_cons.mpr ⟨lw_p8, List.forall_mem_cons.mpr ⟨lw_p9, List.forall_mem_cons.mpr ⟨lw_p10, List.forall_mem_cons.mpr ⟨lw_p11, List.forall_mem_cons.mpr ⟨lw_p12, List.forall_mem_cons.mpr ⟨lw_p13, List.forall_mem_cons.mpr ⟨lw_p14, List.forall_mem_cons.mpr ⟨lw_p15, fun _ h => absurd h List.not_mem_nil⟩⟩⟩⟩⟩⟩⟩⟩⟩⟩⟩⟩⟩⟩⟩⟩
theorem lw_p16 : lw_okq (⟨"HoopCabinet", "settle", "()V"⟩, 15) := ⟨⟨by decide +kernel, by decide +kernel⟩, List.mem_of_getElem? (i := 21) (by decide +kernel), List.mem_of_getElem? (i := 540) (by decide +kernel), List.mem_of_getElem? (i := 541) (by decide +kernel)⟩
theorem lw_p17 : lw_okq (⟨"HoopCabinet$Floor", "openDoor", "(LHoopCabinet$Ball;II)V"⟩, 8) := ⟨⟨by decide +kernel, by decide +kernel⟩, List.mem_of_getElem? (i := 180) (by decide +kernel), List.mem_of_getElem? (i := 556) (by decide +kernel), List.mem_of_getElem? (i := 557) (by decide +kernel)⟩
theorem lw_p18 : lw_okq (⟨"HoopCabinet$Floor", "hearBids", "(LHoopCabinet$Ball;)V"⟩, 8) := ⟨⟨by decide +kernel, by decide +kernel⟩, List.mem_of_getElem? (i := 180) (by decide +kernel), List.mem_of_getElem? (i := 564) (by decide +kernel), List.mem_of_getElem? (i := 565) (by decide +kernel)⟩
theorem lw_p19 : lw_okq (⟨"HoopCabinet$Floor", "hearBid", "(III)V"⟩, 8) := ⟨⟨by decide +kernel, by decide +kernel⟩, List.mem_of_getElem? (i := 180) (by decide +kernel), List.mem_of_getElem? (i := 571) (by decide +kernel), List.mem_of_getElem? (i := 572) (by decide +kernel)⟩
theorem lw_p20 : lw_okq (⟨"HoopCabinet$Floor", "goAsBidden", "(II)V"⟩, 8) := ⟨⟨by decide +kernel, by decide +kernel⟩, List.mem_of_getElem? (i := 180) (by decide +kernel), List.mem_of_getElem? (i := 575) (by decide +kernel), List.mem_of_getElem? (i := 576) (by decide +kernel)⟩
theorem lw_p21 : lw_okq (⟨"HoopCabinet$Floor", "isHere", "(II)Z"⟩, 8) := ⟨⟨by decide +kernel, by decide +kernel⟩, List.mem_of_getElem? (i := 180) (by decide +kernel), List.mem_of_getElem? (i := 583) (by decide +kernel), List.mem_of_getElem? (i := 584) (by decide +kernel)⟩
theorem lw_p22 : lw_okq (⟨"HoopCabinet$Floor", "nextRoom", "(III)I"⟩, 8) := ⟨⟨by decide +kernel, by decide +kernel⟩, List.mem_of_getElem? (i := 180) (by decide +kernel), List.mem_of_getElem? (i := 587) (by decide +kernel), List.mem_of_getElem? (i := 588) (by decide +kernel)⟩
theorem lw_p23 : lw_okq (⟨"HoopCabinet", "fullest", "(I)I"⟩, 15) := ⟨⟨by decide +kernel, by decide +kernel⟩, List.mem_of_getElem? (i := 21) (by decide +kernel), List.mem_of_getElem? (i := 726) (by decide +kernel), List.mem_of_getElem? (i := 727) (by decide +kernel)⟩
theorem lw_p24 : lw_okq (⟨"HoopCabinet", "passAsTold", "()V"⟩, 15) := ⟨⟨by decide +kernel, by decide +kernel⟩, List.mem_of_getElem? (i := 21) (by decide +kernel), List.mem_of_getElem? (i := 778) (by decide +kernel), List.mem_of_getElem? (i := 779) (by decide +kernel)⟩
theorem lw_p25 : lw_okq (⟨"HoopCabinet$Notes", "mayGive", "(LHoopCabinet$Ball;III)Z"⟩, 6) := ⟨⟨by decide +kernel, by decide +kernel⟩, List.mem_of_getElem? (i := 211) (by decide +kernel), List.mem_of_getElem? (i := 791) (by decide +kernel), List.mem_of_getElem? (i := 792) (by decide +kernel)⟩
theorem lw_p26 : lw_okq (⟨"HoopCabinet", "inTheEnd", "(LHoopCabinet$Floor;I)I"⟩, 15) := ⟨⟨by decide +kernel, by decide +kernel⟩, List.mem_of_getElem? (i := 21) (by decide +kernel), List.mem_of_getElem? (i := 796) (by decide +kernel), List.mem_of_getElem? (i := 797) (by decide +kernel)⟩
theorem lw_p27 : lw_okq (⟨"HoopCabinet$Carrier", "lookBack", "(LHoopCabinet$Floor;I)V"⟩, 8) := ⟨⟨by decide +kernel, by decide +kernel⟩, List.mem_of_getElem? (i := 238) (by decide +kernel), List.mem_of_getElem? (i := 886) (by decide +kernel), List.mem_of_getElem? (i := 887) (by decide +kernel)⟩
theorem lw_p28 : lw_okq (⟨"HoopCabinet$Carrier", "goodWithout", "(II)I"⟩, 8) := ⟨⟨by decide +kernel, by decide +kernel⟩, List.mem_of_getElem? (i := 238) (by decide +kernel), List.mem_of_getElem? (i := 891) (by decide +kernel), List.mem_of_getElem? (i := 892) (by decide +kernel)⟩
theorem lw_p29 : lw_okq (⟨"HoopCabinet", "seenFault", "(I)I"⟩, 15) := ⟨⟨by decide +kernel, by decide +kernel⟩, List.mem_of_getElem? (i := 21) (by decide +kernel), List.mem_of_getElem? (i := 924) (by decide +kernel), List.mem_of_getElem? (i := 925) (by decide +kernel)⟩
theorem lw_p30 : lw_okq (⟨"HoopCabinet", "isSighting", "(JJJ)Z"⟩, 15) := ⟨⟨by decide +kernel, by decide +kernel⟩, List.mem_of_getElem? (i := 21) (by decide +kernel), List.mem_of_getElem? (i := 940) (by decide +kernel), List.mem_of_getElem? (i := 941) (by decide +kernel)⟩
theorem lw_p31 : lw_okq (⟨"HoopCabinet", "possibleFirsts", "(LHoopCabinet$Slot;)I"⟩, 15) := ⟨⟨by decide +kernel, by decide +kernel⟩, List.mem_of_getElem? (i := 21) (by decide +kernel), List.mem_of_getElem? (i := 944) (by decide +kernel), List.mem_of_getElem? (i := 945) (by decide +kernel)⟩
def lw_privs_2 : List (MethodName × Nat) := [(⟨"HoopCabinet", "settle", "()V"⟩, 15), (⟨"HoopCabinet$Floor", "openDoor", "(LHoopCabinet$Ball;II)V"⟩, 8), (⟨"HoopCabinet$Floor", "hearBids", "(LHoopCabinet$Ball;)V"⟩, 8), (⟨"HoopCabinet$Floor", "hearBid", "(III)V"⟩, 8), (⟨"HoopCabinet$Floor", "goAsBidden", "(II)V"⟩, 8), (⟨"HoopCabinet$Floor", "isHere", "(II)Z"⟩, 8), (⟨"HoopCabinet$Floor", "nextRoom", "(III)I"⟩, 8), (⟨"HoopCabinet", "fullest", "(I)I"⟩, 15), (⟨"HoopCabinet", "passAsTold", "()V"⟩, 15), (⟨"HoopCabinet$Notes", "mayGive", "(LHoopCabinet$Ball;III)Z"⟩, 6), (⟨"HoopCabinet", "inTheEnd", "(LHoopCabinet$Floor;I)I"⟩, 15), (⟨"HoopCabinet$Carrier", "lookBack", "(LHoopCabinet$Floor;I)V"⟩, 8), (⟨"HoopCabinet$Carrier", "goodWithout", "(II)I"⟩, 8), (⟨"HoopCabinet", "seenFault", "(I)I"⟩, 15), (⟨"HoopCabinet", "isSighting", "(JJJ)Z"⟩, 15), (⟨"HoopCabinet", "possibleFirsts", "(LHoopCabinet$Slot;)I"⟩, 15)]
theorem lw_r2 : ∀ q ∈ lw_privs_2, lw_okq q := List.forall_mem_cons.mpr ⟨lw_p16, List.forall_mem_cons.mpr ⟨lw_p17, List.forall_mem_cons.mpr ⟨lw_p18, List.forall_mem_cons.mpr ⟨lw_p19, List.forall_mem_cons.mpr ⟨lw_p20, List.forall_mem_cons.mpr ⟨lw_p21, List.forall_mem_cons.mpr ⟨lw_p22, List.forall_mem_cons.mpr ⟨lw_p23, List.forall_mem_cons.mpr ⟨lw_p24, List.forall_mem_cons.mpr ⟨lw_p25, List.forall_mem_cons.mpr ⟨lw_p26, List.forall_mem_cons.mpr ⟨lw_p27, List.forall_mem_cons.mpr ⟨lw_p28, List.forall_mem_cons.mpr ⟨lw_p29, List.forall_mem_cons.mpr ⟨lw_p30, List.forall_mem_cons.mpr ⟨lw_p31, fun _ h => absurd h List.not_mem_nil⟩⟩⟩⟩⟩⟩⟩⟩⟩⟩⟩⟩⟩⟩⟩⟩
theorem lw_p32 : lw_okq (⟨"HoopCabinet", "agrees", "(LHoopCabinet$Slot;)Z"⟩, 15) := ⟨⟨by decide +kernel, by decide +kernel⟩, List.mem_of_getElem? (i := 21) (by decide +kernel), List.mem_of_getElem? (i := 948) (by decide +kernel), List.mem_of_getElem? (i := 949) (by decide +kernel)⟩
theorem lw_p33 : lw_okq (⟨"HoopCabinet", "bestAsked", "(I)I"⟩, 15) := ⟨⟨by decide +kernel, by decide +kernel⟩, List.mem_of_getElem? (i := 21) (by decide +kernel), List.mem_of_getElem? (i := 956) (by decide +kernel), List.mem_of_getElem? (i := 957) (by decide +kernel)⟩
theorem lw_p34 : lw_okq (⟨"HoopCabinet", "leftAtWorst", "(II)I"⟩, 15) := ⟨⟨by decide +kernel, by decide +kernel⟩, List.mem_of_getElem? (i := 21) (by decide +kernel), List.mem_of_getElem? (i := 960) (by decide +kernel), List.mem_of_getElem? (i := 961) (by decide +kernel)⟩
theorem lw_p35 : lw_okq (⟨"HoopCabinet", "makesOneHold", "(I)Z"⟩, 15) := ⟨⟨by decide +kernel, by decide +kernel⟩, List.mem_of_getElem? (i := 21) (by decide +kernel), List.mem_of_getElem? (i := 1057) (by decide +kernel), List.mem_of_getElem? (i := 1058) (by decide +kernel)⟩
theorem lw_p36 : lw_okq (⟨"HoopCabinet", "isContent", "(IIII)Z"⟩, 15) := ⟨⟨by decide +kernel, by decide +kernel⟩, List.mem_of_getElem? (i := 21) (by decide +kernel), List.mem_of_getElem? (i := 1066) (by decide +kernel), List.mem_of_getElem? (i := 1067) (by decide +kernel)⟩
theorem lw_p37 : lw_okq (⟨"HoopCabinet", "gainOf", "(IIII)I"⟩, 15) := ⟨⟨by decide +kernel, by decide +kernel⟩, List.mem_of_getElem? (i := 21) (by decide +kernel), List.mem_of_getElem? (i := 1070) (by decide +kernel), List.mem_of_getElem? (i := 1071) (by decide +kernel)⟩
theorem lw_p38 : lw_okq (⟨"HoopCabinet", "isChanceDance", "(I)Z"⟩, 15) := ⟨⟨by decide +kernel, by decide +kernel⟩, List.mem_of_getElem? (i := 21) (by decide +kernel), List.mem_of_getElem? (i := 1092) (by decide +kernel), List.mem_of_getElem? (i := 1093) (by decide +kernel)⟩
theorem lw_p39 : lw_okq (⟨"HoopCabinet$Music", "playOne", "(LHoopCabinet$Floor;LHoopCabinet$Notes;II)V"⟩, 3) := ⟨⟨by decide +kernel, by decide +kernel⟩, List.mem_of_getElem? (i := 286) (by decide +kernel), List.mem_of_getElem? (i := 1104) (by decide +kernel), List.mem_of_getElem? (i := 1105) (by decide +kernel)⟩
theorem lw_p40 : lw_okq (⟨"HoopCabinet", "loudDances", "(I)I"⟩, 15) := ⟨⟨by decide +kernel, by decide +kernel⟩, List.mem_of_getElem? (i := 21) (by decide +kernel), List.mem_of_getElem? (i := 1132) (by decide +kernel), List.mem_of_getElem? (i := 1133) (by decide +kernel)⟩
theorem lw_p41 : lw_okq (⟨"HoopCabinet", "drawnHolders", "(II)I"⟩, 15) := ⟨⟨by decide +kernel, by decide +kernel⟩, List.mem_of_getElem? (i := 21) (by decide +kernel), List.mem_of_getElem? (i := 1141) (by decide +kernel), List.mem_of_getElem? (i := 1142) (by decide +kernel)⟩
theorem lw_p42 : lw_okq (⟨"HoopCabinet", "slotsWithRow", "()I"⟩, 15) := ⟨⟨by decide +kernel, by decide +kernel⟩, List.mem_of_getElem? (i := 21) (by decide +kernel), List.mem_of_getElem? (i := 1193) (by decide +kernel), List.mem_of_getElem? (i := 1194) (by decide +kernel)⟩
theorem lw_p43 : lw_okq (⟨"HoopCabinet$Slot", "cut", "(J)J"⟩, 3) := ⟨⟨by decide +kernel, by decide +kernel⟩, List.mem_of_getElem? (i := 159) (by decide +kernel), List.mem_of_getElem? (i := 1223) (by decide +kernel), List.mem_of_getElem? (i := 1224) (by decide +kernel)⟩
theorem lw_p44 : lw_okq (⟨"HoopCabinetModel", "advance", "()V"⟩, 40) := ⟨⟨by decide +kernel, by decide +kernel⟩, List.mem_of_getElem? (i := 1236) (by decide +kernel), List.mem_of_getElem? (i := 1390) (by decide +kernel), List.mem_of_getElem? (i := 1391) (by decide +kernel)⟩
theorem lw_p45 : lw_okq (⟨"HoopCabinetModel", "see", "(I)I"⟩, 40) := ⟨⟨by decide +kernel, by decide +kernel⟩, List.mem_of_getElem? (i := 1236) (by decide +kernel), List.mem_of_getElem? (i := 1394) (by decide +kernel), List.mem_of_getElem? (i := 1395) (by decide +kernel)⟩
theorem lw_p46 : lw_okq (⟨"HoopCabinetModel", "good", "()Z"⟩, 40) := ⟨⟨by decide +kernel, by decide +kernel⟩, List.mem_of_getElem? (i := 1236) (by decide +kernel), List.mem_of_getElem? (i := 1404) (by decide +kernel), List.mem_of_getElem? (i := 1405) (by decide +kernel)⟩
theorem lw_p47 : lw_okq (⟨"HoopCabinetModel", "readLine", "()V"⟩, 40) := ⟨⟨by decide +kernel, by decide +kernel⟩, List.mem_of_getElem? (i := 1236) (by decide +kernel), List.mem_of_getElem? (i := 1408) (by decide +kernel), List.mem_of_getElem? (i := 1409) (by decide +kernel)⟩
def lw_privs_3 : List (MethodName × Nat) := [(⟨"HoopCabinet", "agrees", "(LHoopCabinet$Slot;)Z"⟩, 15), (⟨"HoopCabinet", "bestAsked", "(I)I"⟩, 15), (⟨"HoopCabinet", "leftAtWorst", "(II)I"⟩, 15), (⟨"HoopCabinet", "makesOneHold", "(I)Z"⟩, 15), (⟨"HoopCabinet", "isContent", "(IIII)Z"⟩, 15), (⟨"HoopCabinet", "gainOf", "(IIII)I"⟩, 15), (⟨"HoopCabinet", "isChanceDance", "(I)Z"⟩, 15), (⟨"HoopCabinet$Music", "playOne", "(LHoopCabinet$Floor;LHoopCabinet$Notes;II)V"⟩, 3), (⟨"HoopCabinet", "loudDances", "(I)I"⟩, 15), (⟨"HoopCabinet", "drawnHolders", "(II)I"⟩, 15), (⟨"HoopCabinet", "slotsWithRow", "()I"⟩, 15), (⟨"HoopCabinet$Slot", "cut", "(J)J"⟩, 3), (⟨"HoopCabinetModel", "advance", "()V"⟩, 40), (⟨"HoopCabinetModel", "see", "(I)I"⟩, 40), (⟨"HoopCabinetModel", "good", "()Z"⟩, 40), (⟨"HoopCabinetModel", "readLine", "()V"⟩, 40)]
theorem lw_r3 : ∀ q ∈ lw_privs_3, lw_okq q := List.forall_mem_cons.mpr ⟨lw_p32, List.forall_mem_cons.mpr ⟨lw_p33, List.forall_mem_cons.mpr ⟨lw_p34, List.forall_mem_cons.mpr ⟨lw_p35, List.forall_mem_cons.mpr ⟨lw_p36, List.forall_mem_cons.mpr ⟨lw_p37, List.forall_mem_cons.mpr ⟨lw_p38, List.forall_mem_cons.mpr ⟨lw_p39, List.forall_mem_cons.mpr ⟨lw_p40, List.forall_mem_cons.mpr ⟨lw_p41, List.forall_mem_cons.mpr ⟨lw_p42, List.forall_mem_cons.mpr ⟨lw_p43, List.forall_mem_cons.mpr ⟨lw_p44, List.forall_mem_cons.mpr ⟨lw_p45, List.forall_mem_cons.mpr ⟨lw_p46, List.forall_mem_cons.mpr ⟨lw_p47, fun _ h => absurd h List.not_mem_nil⟩⟩⟩⟩⟩⟩⟩⟩⟩⟩⟩⟩⟩⟩⟩⟩
theorem lw_p48 : lw_okq (⟨"HoopCabinetModel", "readFirst", "()V"⟩, 40) := ⟨⟨by decide +kernel, by decide +kernel⟩, List.mem_of_getElem? (i := 1236) (by decide +kernel), List.mem_of_getElem? (i := 1412) (by decide +kernel), List.mem_of_getElem? (i := 1413) (by decide +kernel)⟩
theorem lw_p49 : lw_okq (⟨"HoopCabinetModel", "needs", "(Ljava/lang/String;)V"⟩, 40) := ⟨⟨by decide +kernel, by decide +kernel⟩, List.mem_of_getElem? (i := 1236) (by decide +kernel), List.mem_of_getElem? (i := 1417) (by decide +kernel), List.mem_of_getElem? (i := 1418) (by decide +kernel)⟩
theorem lw_p50 : lw_okq (⟨"HoopCabinetModel", "takes", "(Ljava/lang/String;)Z"⟩, 40) := ⟨⟨by decide +kernel, by decide +kernel⟩, List.mem_of_getElem? (i := 1236) (by decide +kernel), List.mem_of_getElem? (i := 1421) (by decide +kernel), List.mem_of_getElem? (i := 1422) (by decide +kernel)⟩
theorem lw_p51 : lw_okq (⟨"HoopCabinetModel", "is", "(Ljava/lang/String;)Z"⟩, 40) := ⟨⟨by decide +kernel, by decide +kernel⟩, List.mem_of_getElem? (i := 1236) (by decide +kernel), List.mem_of_getElem? (i := 1425) (by decide +kernel), List.mem_of_getElem? (i := 1426) (by decide +kernel)⟩
theorem lw_p52 : lw_okq (⟨"HoopCabinetModel", "errs", "(I)V"⟩, 40) := ⟨⟨by decide +kernel, by decide +kernel⟩, List.mem_of_getElem? (i := 1236) (by decide +kernel), List.mem_of_getElem? (i := 1431) (by decide +kernel), List.mem_of_getElem? (i := 1432) (by decide +kernel)⟩
theorem lw_p53 : lw_okq (⟨"HoopCabinetModel", "told", "(Ljava/lang/String;II)I"⟩, 40) := ⟨⟨by decide +kernel, by decide +kernel⟩, List.mem_of_getElem? (i := 1236) (by decide +kernel), List.mem_of_getElem? (i := 1436) (by decide +kernel), List.mem_of_getElem? (i := 1437) (by decide +kernel)⟩
theorem lw_p54 : lw_okq (⟨"HoopCabinetModel", "number", "(II)I"⟩, 40) := ⟨⟨by decide +kernel, by decide +kernel⟩, List.mem_of_getElem? (i := 1236) (by decide +kernel), List.mem_of_getElem? (i := 1440) (by decide +kernel), List.mem_of_getElem? (i := 1441) (by decide +kernel)⟩
theorem lw_p55 : lw_okq (⟨"HoopCabinetModel", "readNext", "()V"⟩, 40) := ⟨⟨by decide +kernel, by decide +kernel⟩, List.mem_of_getElem? (i := 1236) (by decide +kernel), List.mem_of_getElem? (i := 1447) (by decide +kernel), List.mem_of_getElem? (i := 1448) (by decide +kernel)⟩
theorem lw_p56 : lw_okq (⟨"HoopCabinetModel", "isFull", "()Z"⟩, 40) := ⟨⟨by decide +kernel, by decide +kernel⟩, List.mem_of_getElem? (i := 1236) (by decide +kernel), List.mem_of_getElem? (i := 1455) (by decide +kernel), List.mem_of_getElem? (i := 1456) (by decide +kernel)⟩
theorem lw_p57 : lw_okq (⟨"HoopCabinetModel", "readDoor", "()V"⟩, 40) := ⟨⟨by decide +kernel, by decide +kernel⟩, List.mem_of_getElem? (i := 1236) (by decide +kernel), List.mem_of_getElem? (i := 1459) (by decide +kernel), List.mem_of_getElem? (i := 1460) (by decide +kernel)⟩
theorem lw_p58 : lw_okq (⟨"HoopCabinetModel", "freshRoom", "(Ljava/lang/String;)I"⟩, 40) := ⟨⟨by decide +kernel, by decide +kernel⟩, List.mem_of_getElem? (i := 1236) (by decide +kernel), List.mem_of_getElem? (i := 1466) (by decide +kernel), List.mem_of_getElem? (i := 1467) (by decide +kernel)⟩
theorem lw_p59 : lw_okq (⟨"HoopCabinetModel", "readBid", "()V"⟩, 40) := ⟨⟨by decide +kernel, by decide +kernel⟩, List.mem_of_getElem? (i := 1236) (by decide +kernel), List.mem_of_getElem? (i := 1472) (by decide +kernel), List.mem_of_getElem? (i := 1473) (by decide +kernel)⟩
theorem lw_p60 : lw_okq (⟨"HoopCabinetModel", "isDoor", "(I)Z"⟩, 40) := ⟨⟨by decide +kernel, by decide +kernel⟩, List.mem_of_getElem? (i := 1236) (by decide +kernel), List.mem_of_getElem? (i := 1481) (by decide +kernel), List.mem_of_getElem? (i := 1482) (by decide +kernel)⟩
theorem lw_p61 : lw_okq (⟨"HoopCabinetModel", "isLady", "(J)Z"⟩, 40) := ⟨⟨by decide +kernel, by decide +kernel⟩, List.mem_of_getElem? (i := 1236) (by decide +kernel), List.mem_of_getElem? (i := 1489) (by decide +kernel), List.mem_of_getElem? (i := 1490) (by decide +kernel)⟩
theorem lw_p62 : lw_okq (⟨"HoopCabinetModel", "asItIs", "()V"⟩, 40) := ⟨⟨by decide +kernel, by decide +kernel⟩, List.mem_of_getElem? (i := 1236) (by decide +kernel), List.mem_of_getElem? (i := 1497) (by decide +kernel), List.mem_of_getElem? (i := 1498) (by decide +kernel)⟩
theorem lw_p63 : lw_okq (⟨"HoopCabinetModel", "layMinisters", "()V"⟩, 40) := ⟨⟨by decide +kernel, by decide +kernel⟩, List.mem_of_getElem? (i := 1236) (by decide +kernel), List.mem_of_getElem? (i := 1501) (by decide +kernel), List.mem_of_getElem? (i := 1502) (by decide +kernel)⟩
def lw_privs_4 : List (MethodName × Nat) := [(⟨"HoopCabinetModel", "readFirst", "()V"⟩, 40), (⟨"HoopCabinetModel", "needs", "(Ljava/lang/String;)V"⟩, 40), (⟨"HoopCabinetModel", "takes", "(Ljava/lang/String;)Z"⟩, 40), (⟨"HoopCabinetModel", "is", "(Ljava/lang/String;)Z"⟩, 40), (⟨"HoopCabinetModel", "errs", "(I)V"⟩, 40), (⟨"HoopCabinetModel", "told", "(Ljava/lang/String;II)I"⟩, 40), (⟨"HoopCabinetModel", "number", "(II)I"⟩, 40), (⟨"HoopCabinetModel", "readNext", "()V"⟩, 40), (⟨"HoopCabinetModel", "isFull", "()Z"⟩, 40), (⟨"HoopCabinetModel", "readDoor", "()V"⟩, 40), (⟨"HoopCabinetModel", "freshRoom", "(Ljava/lang/String;)I"⟩, 40), (⟨"HoopCabinetModel", "readBid", "()V"⟩, 40), (⟨"HoopCabinetModel", "isDoor", "(I)Z"⟩, 40), (⟨"HoopCabinetModel", "isLady", "(J)Z"⟩, 40), (⟨"HoopCabinetModel", "asItIs", "()V"⟩, 40), (⟨"HoopCabinetModel", "layMinisters", "()V"⟩, 40)]
theorem lw_r4 : ∀ q ∈ lw_privs_4, lw_okq q := List.forall_mem_cons.mpr ⟨lw_p48, List.forall_mem_cons.mpr ⟨lw_p49, List.forall_mem_cons.mpr ⟨lw_p50, List.forall_mem_cons.mpr ⟨lw_p51, List.forall_mem_cons.mpr ⟨lw_p52, List.forall_mem_cons.mpr ⟨lw_p53, List.forall_mem_cons.mpr ⟨lw_p54, List.forall_mem_cons.mpr ⟨lw_p55, List.forall_mem_cons.mpr ⟨lw_p56, List.forall_mem_cons.mpr ⟨lw_p57, List.forall_mem_cons.mpr ⟨lw_p58, List.forall_mem_cons.mpr ⟨lw_p59, List.forall_mem_cons.mpr ⟨lw_p60, List.forall_mem_cons.mpr ⟨lw_p61, List.forall_mem_cons.mpr ⟨lw_p62, List.forall_mem_cons.mpr ⟨lw_p63, fun _ h => absurd h List.not_mem_nil⟩⟩⟩⟩⟩⟩⟩⟩⟩⟩⟩⟩⟩⟩⟩⟩
theorem lw_p64 : lw_okq (⟨"HoopCabinetModel", "layPlaces", "()V"⟩, 40) := ⟨⟨by decide +kernel, by decide +kernel⟩, List.mem_of_getElem? (i := 1236) (by decide +kernel), List.mem_of_getElem? (i := 1506) (by decide +kernel), List.mem_of_getElem? (i := 1507) (by decide +kernel)⟩
theorem lw_p65 : lw_okq (⟨"HoopCabinetModel", "layWays", "()V"⟩, 40) := ⟨⟨by decide +kernel, by decide +kernel⟩, List.mem_of_getElem? (i := 1236) (by decide +kernel), List.mem_of_getElem? (i := 1510) (by decide +kernel), List.mem_of_getElem? (i := 1511) (by decide +kernel)⟩
theorem lw_p66 : lw_okq (⟨"HoopCabinetModel", "wayOf", "(III)I"⟩, 40) := ⟨⟨by decide +kernel, by decide +kernel⟩, List.mem_of_getElem? (i := 1236) (by decide +kernel), List.mem_of_getElem? (i := 1515) (by decide +kernel), List.mem_of_getElem? (i := 1516) (by decide +kernel)⟩
theorem lw_p67 : lw_okq (⟨"HoopCabinetModel", "ladies", "()I"⟩, 40) := ⟨⟨by decide +kernel, by decide +kernel⟩, List.mem_of_getElem? (i := 1236) (by decide +kernel), List.mem_of_getElem? (i := 1519) (by decide +kernel), List.mem_of_getElem? (i := 1520) (by decide +kernel)⟩
theorem lw_p68 : lw_okq (⟨"HoopCabinetModel", "dances", "()I"⟩, 40) := ⟨⟨by decide +kernel, by decide +kernel⟩, List.mem_of_getElem? (i := 1236) (by decide +kernel), List.mem_of_getElem? (i := 1523) (by decide +kernel), List.mem_of_getElem? (i := 1524) (by decide +kernel)⟩
theorem lw_p69 : lw_okq (⟨"HoopCabinetModel", "atOf", "(II)I"⟩, 40) := ⟨⟨by decide +kernel, by decide +kernel⟩, List.mem_of_getElem? (i := 1236) (by decide +kernel), List.mem_of_getElem? (i := 1530) (by decide +kernel), List.mem_of_getElem? (i := 1531) (by decide +kernel)⟩
theorem lw_p70 : lw_okq (⟨"HoopCabinetModel", "biddenOf", "(II)I"⟩, 40) := ⟨⟨by decide +kernel, by decide +kernel⟩, List.mem_of_getElem? (i := 1236) (by decide +kernel), List.mem_of_getElem? (i := 1534) (by decide +kernel), List.mem_of_getElem? (i := 1535) (by decide +kernel)⟩
theorem lw_p71 : lw_okq (⟨"HoopCabinetModel", "nextRoom", "(III)I"⟩, 40) := ⟨⟨by decide +kernel, by decide +kernel⟩, List.mem_of_getElem? (i := 1236) (by decide +kernel), List.mem_of_getElem? (i := 1538) (by decide +kernel), List.mem_of_getElem? (i := 1539) (by decide +kernel)⟩
theorem lw_p72 : lw_okq (⟨"HoopCabinetModel", "wideOf", "(I)I"⟩, 40) := ⟨⟨by decide +kernel, by decide +kernel⟩, List.mem_of_getElem? (i := 1236) (by decide +kernel), List.mem_of_getElem? (i := 1542) (by decide +kernel), List.mem_of_getElem? (i := 1543) (by decide +kernel)⟩
theorem lw_p73 : lw_okq (⟨"HoopCabinetModel", "isMinister", "(I)Z"⟩, 40) := ⟨⟨by decide +kernel, by decide +kernel⟩, List.mem_of_getElem? (i := 1236) (by decide +kernel), List.mem_of_getElem? (i := 1546) (by decide +kernel), List.mem_of_getElem? (i := 1547) (by decide +kernel)⟩
theorem lw_p74 : lw_okq (⟨"HoopCabinetModel", "asksLady", "(I)Z"⟩, 40) := ⟨⟨by decide +kernel, by decide +kernel⟩, List.mem_of_getElem? (i := 1236) (by decide +kernel), List.mem_of_getElem? (i := 1554) (by decide +kernel), List.mem_of_getElem? (i := 1555) (by decide +kernel)⟩
theorem lw_p75 : lw_okq (⟨"HoopCabinetModel", "isRoom", "(I)Z"⟩, 40) := ⟨⟨by decide +kernel, by decide +kernel⟩, List.mem_of_getElem? (i := 1236) (by decide +kernel), List.mem_of_getElem? (i := 1558) (by decide +kernel), List.mem_of_getElem? (i := 1559) (by decide +kernel)⟩
theorem lw_p76 : lw_okq (⟨"HoopCabinetModel", "isDance", "(J)Z"⟩, 40) := ⟨⟨by decide +kernel, by decide +kernel⟩, List.mem_of_getElem? (i := 1236) (by decide +kernel), List.mem_of_getElem? (i := 1570) (by decide +kernel), List.mem_of_getElem? (i := 1571) (by decide +kernel)⟩
theorem lw_p77 : lw_okq (⟨"HoopCabinetModel", "isBall", "()Z"⟩, 40) := ⟨⟨by decide +kernel, by decide +kernel⟩, List.mem_of_getElem? (i := 1236) (by decide +kernel), List.mem_of_getElem? (i := 1574) (by decide +kernel), List.mem_of_getElem? (i := 1575) (by decide +kernel)⟩
theorem lw_p78 : lw_okq (⟨"HoopCabinetModel", "asksDance", "(I)Z"⟩, 40) := ⟨⟨by decide +kernel, by decide +kernel⟩, List.mem_of_getElem? (i := 1236) (by decide +kernel), List.mem_of_getElem? (i := 1582) (by decide +kernel), List.mem_of_getElem? (i := 1583) (by decide +kernel)⟩
theorem lw_p79 : lw_okq (⟨"HoopCabinetModel", "withinOf", "(II)I"⟩, 40) := ⟨⟨by decide +kernel, by decide +kernel⟩, List.mem_of_getElem? (i := 1236) (by decide +kernel), List.mem_of_getElem? (i := 1590) (by decide +kernel), List.mem_of_getElem? (i := 1591) (by decide +kernel)⟩
def lw_privs_5 : List (MethodName × Nat) := [(⟨"HoopCabinetModel", "layPlaces", "()V"⟩, 40), (⟨"HoopCabinetModel", "layWays", "()V"⟩, 40), (⟨"HoopCabinetModel", "wayOf", "(III)I"⟩, 40), (⟨"HoopCabinetModel", "ladies", "()I"⟩, 40), (⟨"HoopCabinetModel", "dances", "()I"⟩, 40), (⟨"HoopCabinetModel", "atOf", "(II)I"⟩, 40), (⟨"HoopCabinetModel", "biddenOf", "(II)I"⟩, 40), (⟨"HoopCabinetModel", "nextRoom", "(III)I"⟩, 40), (⟨"HoopCabinetModel", "wideOf", "(I)I"⟩, 40), (⟨"HoopCabinetModel", "isMinister", "(I)Z"⟩, 40), (⟨"HoopCabinetModel", "asksLady", "(I)Z"⟩, 40), (⟨"HoopCabinetModel", "isRoom", "(I)Z"⟩, 40), (⟨"HoopCabinetModel", "isDance", "(J)Z"⟩, 40), (⟨"HoopCabinetModel", "isBall", "()Z"⟩, 40), (⟨"HoopCabinetModel", "asksDance", "(I)Z"⟩, 40), (⟨"HoopCabinetModel", "withinOf", "(II)I"⟩, 40)]
theorem lw_r5 : ∀ q ∈ lw_privs_5, lw_okq q := List.forall_mem_cons.mpr ⟨lw_p64, List.forall_mem_cons.mpr ⟨lw_p65, List.forall_mem_cons.mpr ⟨lw_p66, List.forall_mem_cons.mpr ⟨lw_p67, List.forall_mem_cons.mpr ⟨lw_p68, List.forall_mem_cons.mpr ⟨lw_p69, List.forall_mem_cons.mpr ⟨lw_p70, List.forall_mem_cons.mpr ⟨lw_p71, List.forall_mem_cons.mpr ⟨lw_p72, List.forall_mem_cons.mpr ⟨lw_p73, List.forall_mem_cons.mpr ⟨lw_p74, List.forall_mem_cons.mpr ⟨lw_p75, List.forall_mem_cons.mpr ⟨lw_p76, List.forall_mem_cons.mpr ⟨lw_p77, List.forall_mem_cons.mpr ⟨lw_p78, List.forall_mem_cons.mpr ⟨lw_p79, fun _ h => absurd h List.not_mem_nil⟩⟩⟩⟩⟩⟩⟩⟩⟩⟩⟩⟩⟩⟩⟩⟩
theorem lw_p80 : lw_okq (⟨"HoopCabinetModel", "stepsOf", "(I)I"⟩, 40) := ⟨⟨by decide +kernel, by decide +kernel⟩, List.mem_of_getElem? (i := 1236) (by decide +kernel), List.mem_of_getElem? (i := 1598) (by decide +kernel), List.mem_of_getElem? (i := 1599) (by decide +kernel)⟩
theorem lw_p81 : lw_okq (⟨"HoopCabinetModel", "firstMeet", "(II)I"⟩, 40) := ⟨⟨by decide +kernel, by decide +kernel⟩, List.mem_of_getElem? (i := 1236) (by decide +kernel), List.mem_of_getElem? (i := 1610) (by decide +kernel), List.mem_of_getElem? (i := 1611) (by decide +kernel)⟩
theorem lw_p82 : lw_okq (⟨"HoopCabinetModel", "doMeet", "(III)Z"⟩, 40) := ⟨⟨by decide +kernel, by decide +kernel⟩, List.mem_of_getElem? (i := 1236) (by decide +kernel), List.mem_of_getElem? (i := 1614) (by decide +kernel), List.mem_of_getElem? (i := 1615) (by decide +kernel)⟩
theorem lw_p83 : lw_okq (⟨"HoopCabinetModel", "oftenMeet", "(II)I"⟩, 40) := ⟨⟨by decide +kernel, by decide +kernel⟩, List.mem_of_getElem? (i := 1236) (by decide +kernel), List.mem_of_getElem? (i := 1622) (by decide +kernel), List.mem_of_getElem? (i := 1623) (by decide +kernel)⟩
theorem lw_p84 : lw_okq (⟨"HoopCabinetModel", "friendsOf", "(I)I"⟩, 40) := ⟨⟨by decide +kernel, by decide +kernel⟩, List.mem_of_getElem? (i := 1236) (by decide +kernel), List.mem_of_getElem? (i := 1630) (by decide +kernel), List.mem_of_getElem? (i := 1631) (by decide +kernel)⟩
theorem lw_p85 : lw_okq (⟨"HoopCabinetModel", "asksBall", "()Z"⟩, 40) := ⟨⟨by decide +kernel, by decide +kernel⟩, List.mem_of_getElem? (i := 1236) (by decide +kernel), List.mem_of_getElem? (i := 1638) (by decide +kernel), List.mem_of_getElem? (i := 1639) (by decide +kernel)⟩
theorem lw_p86 : lw_okq (⟨"HoopCabinetModel", "crushOf", "()I"⟩, 40) := ⟨⟨by decide +kernel, by decide +kernel⟩, List.mem_of_getElem? (i := 1236) (by decide +kernel), List.mem_of_getElem? (i := 1642) (by decide +kernel), List.mem_of_getElem? (i := 1643) (by decide +kernel)⟩
theorem lw_p87 : lw_okq (⟨"HoopCabinetModel", "goNote", "(II)I"⟩, 40) := ⟨⟨by decide +kernel, by decide +kernel⟩, List.mem_of_getElem? (i := 1236) (by decide +kernel), List.mem_of_getElem? (i := 1685) (by decide +kernel), List.mem_of_getElem? (i := 1686) (by decide +kernel)⟩
theorem lw_p88 : lw_okq (⟨"HoopCabinetModel", "giverTo", "(III)I"⟩, 40) := ⟨⟨by decide +kernel, by decide +kernel⟩, List.mem_of_getElem? (i := 1236) (by decide +kernel), List.mem_of_getElem? (i := 1689) (by decide +kernel), List.mem_of_getElem? (i := 1690) (by decide +kernel)⟩
theorem lw_p89 : lw_okq (⟨"HoopCabinetModel", "doesGive", "(II)Z"⟩, 40) := ⟨⟨by decide +kernel, by decide +kernel⟩, List.mem_of_getElem? (i := 1236) (by decide +kernel), List.mem_of_getElem? (i := 1693) (by decide +kernel), List.mem_of_getElem? (i := 1694) (by decide +kernel)⟩
theorem lw_p90 : lw_okq (⟨"HoopCabinetModel", "asksNote", "(II)Z"⟩, 40) := ⟨⟨by decide +kernel, by decide +kernel⟩, List.mem_of_getElem? (i := 1236) (by decide +kernel), List.mem_of_getElem? (i := 1701) (by decide +kernel), List.mem_of_getElem? (i := 1702) (by decide +kernel)⟩
theorem lw_p91 : lw_okq (⟨"HoopCabinetModel", "goNote", "(I)I"⟩, 40) := ⟨⟨by decide +kernel, by decide +kernel⟩, List.mem_of_getElem? (i := 1236) (by decide +kernel), List.mem_of_getElem? (i := 1705) (by decide +kernel), List.mem_of_getElem? (i := 1706) (by decide +kernel)⟩
theorem lw_p92 : lw_okq (⟨"HoopCabinetModel", "asksCarry", "(III)Z"⟩, 40) := ⟨⟨by decide +kernel, by decide +kernel⟩, List.mem_of_getElem? (i := 1236) (by decide +kernel), List.mem_of_getElem? (i := 1747) (by decide +kernel), List.mem_of_getElem? (i := 1748) (by decide +kernel)⟩
theorem lw_p93 : lw_okq (⟨"HoopCabinetModel", "layWalk", "(III)I"⟩, 40) := ⟨⟨by decide +kernel, by decide +kernel⟩, List.mem_of_getElem? (i := 1236) (by decide +kernel), List.mem_of_getElem? (i := 1751) (by decide +kernel), List.mem_of_getElem? (i := 1752) (by decide +kernel)⟩
theorem lw_p94 : lw_okq (⟨"HoopCabinetModel", "layCarry", "(IIII)V"⟩, 40) := ⟨⟨by decide +kernel, by decide +kernel⟩, List.mem_of_getElem? (i := 1236) (by decide +kernel), List.mem_of_getElem? (i := 1755) (by decide +kernel), List.mem_of_getElem? (i := 1756) (by decide +kernel)⟩
theorem lw_p95 : lw_okq (⟨"HoopCabinetModel", "takesIn", "(IIII)Z"⟩, 40) := ⟨⟨by decide +kernel, by decide +kernel⟩, List.mem_of_getElem? (i := 1236) (by decide +kernel), List.mem_of_getElem? (i := 1759) (by decide +kernel), List.mem_of_getElem? (i := 1760) (by decide +kernel)⟩
def lw_privs_6 : List (MethodName × Nat) := [(⟨"HoopCabinetModel", "stepsOf", "(I)I"⟩, 40), (⟨"HoopCabinetModel", "firstMeet", "(II)I"⟩, 40), (⟨"HoopCabinetModel", "doMeet", "(III)Z"⟩, 40), (⟨"HoopCabinetModel", "oftenMeet", "(II)I"⟩, 40), (⟨"HoopCabinetModel", "friendsOf", "(I)I"⟩, 40), (⟨"HoopCabinetModel", "asksBall", "()Z"⟩, 40), (⟨"HoopCabinetModel", "crushOf", "()I"⟩, 40), (⟨"HoopCabinetModel", "goNote", "(II)I"⟩, 40), (⟨"HoopCabinetModel", "giverTo", "(III)I"⟩, 40), (⟨"HoopCabinetModel", "doesGive", "(II)Z"⟩, 40), (⟨"HoopCabinetModel", "asksNote", "(II)Z"⟩, 40), (⟨"HoopCabinetModel", "goNote", "(I)I"⟩, 40), (⟨"HoopCabinetModel", "asksCarry", "(III)Z"⟩, 40), (⟨"HoopCabinetModel", "layWalk", "(III)I"⟩, 40), (⟨"HoopCabinetModel", "layCarry", "(IIII)V"⟩, 40), (⟨"HoopCabinetModel", "takesIn", "(IIII)Z"⟩, 40)]
theorem lw_r6 : ∀ q ∈ lw_privs_6, lw_okq q := List.forall_mem_cons.mpr ⟨lw_p80, List.forall_mem_cons.mpr ⟨lw_p81, List.forall_mem_cons.mpr ⟨lw_p82, List.forall_mem_cons.mpr ⟨lw_p83, List.forall_mem_cons.mpr ⟨lw_p84, List.forall_mem_cons.mpr ⟨lw_p85, List.forall_mem_cons.mpr ⟨lw_p86, List.forall_mem_cons.mpr ⟨lw_p87, List.forall_mem_cons.mpr ⟨lw_p88, List.forall_mem_cons.mpr ⟨lw_p89, List.forall_mem_cons.mpr ⟨lw_p90, List.forall_mem_cons.mpr ⟨lw_p91, List.forall_mem_cons.mpr ⟨lw_p92, List.forall_mem_cons.mpr ⟨lw_p93, List.forall_mem_cons.mpr ⟨lw_p94, List.forall_mem_cons.mpr ⟨lw_p95, fun _ h => absurd h List.not_mem_nil⟩⟩⟩⟩⟩⟩⟩⟩⟩⟩⟩⟩⟩⟩⟩⟩
theorem lw_p96 : lw_okq (⟨"HoopCabinetModel", "isBeside", "(III)Z"⟩, 40) := ⟨⟨by decide +kernel, by decide +kernel⟩, List.mem_of_getElem? (i := 1236) (by decide +kernel), List.mem_of_getElem? (i := 1763) (by decide +kernel), List.mem_of_getElem? (i := 1764) (by decide +kernel)⟩
theorem lw_p97 : lw_okq (⟨"HoopCabinetModel", "haveWith", "(III)I"⟩, 40) := ⟨⟨by decide +kernel, by decide +kernel⟩, List.mem_of_getElem? (i := 1236) (by decide +kernel), List.mem_of_getElem? (i := 1778) (by decide +kernel), List.mem_of_getElem? (i := 1779) (by decide +kernel)⟩
theorem lw_p98 : lw_okq (⟨"HoopCabinetModel", "layFirsts", "(I)I"⟩, 40) := ⟨⟨by decide +kernel, by decide +kernel⟩, List.mem_of_getElem? (i := 1236) (by decide +kernel), List.mem_of_getElem? (i := 1794) (by decide +kernel), List.mem_of_getElem? (i := 1795) (by decide +kernel)⟩
theorem lw_p99 : lw_okq (⟨"HoopCabinetModel", "isThree", "(II)Z"⟩, 40) := ⟨⟨by decide +kernel, by decide +kernel⟩, List.mem_of_getElem? (i := 1236) (by decide +kernel), List.mem_of_getElem? (i := 1801) (by decide +kernel), List.mem_of_getElem? (i := 1802) (by decide +kernel)⟩
theorem lw_p100 : lw_okq (⟨"HoopCabinetModel", "numberAt", "(II)J"⟩, 40) := ⟨⟨by decide +kernel, by decide +kernel⟩, List.mem_of_getElem? (i := 1236) (by decide +kernel), List.mem_of_getElem? (i := 1805) (by decide +kernel), List.mem_of_getElem? (i := 1806) (by decide +kernel)⟩
theorem lw_p101 : lw_okq (⟨"HoopCabinetModel", "askOf", "(I)I"⟩, 40) := ⟨⟨by decide +kernel, by decide +kernel⟩, List.mem_of_getElem? (i := 1236) (by decide +kernel), List.mem_of_getElem? (i := 1813) (by decide +kernel), List.mem_of_getElem? (i := 1814) (by decide +kernel)⟩
theorem lw_p102 : lw_okq (⟨"HoopCabinetModel", "isSet", "(I)Z"⟩, 40) := ⟨⟨by decide +kernel, by decide +kernel⟩, List.mem_of_getElem? (i := 1236) (by decide +kernel), List.mem_of_getElem? (i := 1833) (by decide +kernel), List.mem_of_getElem? (i := 1834) (by decide +kernel)⟩
theorem lw_p103 : lw_okq (⟨"HoopCabinetModel", "doesHold", "(I)Z"⟩, 40) := ⟨⟨by decide +kernel, by decide +kernel⟩, List.mem_of_getElem? (i := 1236) (by decide +kernel), List.mem_of_getElem? (i := 1837) (by decide +kernel), List.mem_of_getElem? (i := 1838) (by decide +kernel)⟩
theorem lw_p104 : lw_okq (⟨"HoopCabinetModel", "seatsIn", "(I)I"⟩, 40) := ⟨⟨by decide +kernel, by decide +kernel⟩, List.mem_of_getElem? (i := 1236) (by decide +kernel), List.mem_of_getElem? (i := 1841) (by decide +kernel), List.mem_of_getElem? (i := 1842) (by decide +kernel)⟩
theorem lw_p105 : lw_okq (⟨"HoopCabinetModel", "allLadies", "()I"⟩, 40) := ⟨⟨by decide +kernel, by decide +kernel⟩, List.mem_of_getElem? (i := 1236) (by decide +kernel), List.mem_of_getElem? (i := 1845) (by decide +kernel), List.mem_of_getElem? (i := 1846) (by decide +kernel)⟩
theorem lw_p106 : lw_okq (⟨"HoopCabinetModel", "powerOf", "(I)I"⟩, 40) := ⟨⟨by decide +kernel, by decide +kernel⟩, List.mem_of_getElem? (i := 1236) (by decide +kernel), List.mem_of_getElem? (i := 1857) (by decide +kernel), List.mem_of_getElem? (i := 1858) (by decide +kernel)⟩
theorem lw_p107 : lw_okq (⟨"HoopCabinetModel", "isLeast", "(I)Z"⟩, 40) := ⟨⟨by decide +kernel, by decide +kernel⟩, List.mem_of_getElem? (i := 1236) (by decide +kernel), List.mem_of_getElem? (i := 1887) (by decide +kernel), List.mem_of_getElem? (i := 1888) (by decide +kernel)⟩
theorem lw_p108 : lw_okq (⟨"HoopCabinetModel", "areTwo", "(II)Z"⟩, 40) := ⟨⟨by decide +kernel, by decide +kernel⟩, List.mem_of_getElem? (i := 1236) (by decide +kernel), List.mem_of_getElem? (i := 1899) (by decide +kernel), List.mem_of_getElem? (i := 1900) (by decide +kernel)⟩
theorem lw_p109 : lw_okq (⟨"HoopCabinetModel", "gainsBy", "(IIIII)I"⟩, 40) := ⟨⟨by decide +kernel, by decide +kernel⟩, List.mem_of_getElem? (i := 1236) (by decide +kernel), List.mem_of_getElem? (i := 1903) (by decide +kernel), List.mem_of_getElem? (i := 1904) (by decide +kernel)⟩
theorem lw_p110 : lw_okq (⟨"HoopCabinetModel", "asksMusic", "(III)Z"⟩, 40) := ⟨⟨by decide +kernel, by decide +kernel⟩, List.mem_of_getElem? (i := 1236) (by decide +kernel), List.mem_of_getElem? (i := 1915) (by decide +kernel), List.mem_of_getElem? (i := 1916) (by decide +kernel)⟩
theorem lw_p111 : lw_okq (⟨"HoopCabinetModel", "layMusic", "(III)V"⟩, 40) := ⟨⟨by decide +kernel, by decide +kernel⟩, List.mem_of_getElem? (i := 1236) (by decide +kernel), List.mem_of_getElem? (i := 1921) (by decide +kernel), List.mem_of_getElem? (i := 1922) (by decide +kernel)⟩
def lw_privs_7 : List (MethodName × Nat) := [(⟨"HoopCabinetModel", "isBeside", "(III)Z"⟩, 40), (⟨"HoopCabinetModel", "haveWith", "(III)I"⟩, 40), (⟨"HoopCabinetModel", "layFirsts", "(I)I"⟩, 40), (⟨"HoopCabinetModel", "isThree", "(II)Z"⟩, 40), (⟨"HoopCabinetModel", "numberAt", "(II)J"⟩, 40), (⟨"HoopCabinetModel", "askOf", "(I)I"⟩, 40), (⟨"HoopCabinetModel", "isSet", "(I)Z"⟩, 40), (⟨"HoopCabinetModel", "doesHold", "(I)Z"⟩, 40), (⟨"HoopCabinetModel", "seatsIn", "(I)I"⟩, 40), (⟨"HoopCabinetModel", "allLadies", "()I"⟩, 40), (⟨"HoopCabinetModel", "powerOf", "(I)I"⟩, 40), (⟨"HoopCabinetModel", "isLeast", "(I)Z"⟩, 40), (⟨"HoopCabinetModel", "areTwo", "(II)Z"⟩, 40), (⟨"HoopCabinetModel", "gainsBy", "(IIIII)I"⟩, 40), (⟨"HoopCabinetModel", "asksMusic", "(III)Z"⟩, 40), (⟨"HoopCabinetModel", "layMusic", "(III)V"⟩, 40)]
theorem lw_r7 : ∀ q ∈ lw_privs_7, lw_okq q := List.forall_mem_cons.mpr ⟨lw_p96, List.forall_mem_cons.mpr ⟨lw_p97, List.forall_mem_cons.mpr ⟨lw_p98, List.forall_mem_cons.mpr ⟨lw_p99, List.forall_mem_cons.mpr ⟨lw_p100, List.forall_mem_cons.mpr ⟨lw_p101, List.forall_mem_cons.mpr ⟨lw_p102, List.forall_mem_cons.mpr ⟨lw_p103, List.forall_mem_cons.mpr ⟨lw_p104, List.forall_mem_cons.mpr ⟨lw_p105, List.forall_mem_cons.mpr ⟨lw_p106, List.forall_mem_cons.mpr ⟨lw_p107, List.forall_mem_cons.mpr ⟨lw_p108, List.forall_mem_cons.mpr ⟨lw_p109, List.forall_mem_cons.mpr ⟨lw_p110, List.forall_mem_cons.mpr ⟨lw_p111, fun _ h => absurd h List.not_mem_nil⟩⟩⟩⟩⟩⟩⟩⟩⟩⟩⟩⟩⟩⟩⟩⟩
theorem lw_p112 : lw_okq (⟨"HoopCabinetModel", "keepAct", "(I)I"⟩, 40) := ⟨⟨by decide +kernel, by decide +kernel⟩, List.mem_of_getElem? (i := 1236) (by decide +kernel), List.mem_of_getElem? (i := 1934) (by decide +kernel), List.mem_of_getElem? (i := 1935) (by decide +kernel)⟩
theorem lw_p113 : lw_okq (⟨"HoopCabinetModel", "goDrawn", "(JI)I"⟩, 40) := ⟨⟨by decide +kernel, by decide +kernel⟩, List.mem_of_getElem? (i := 1236) (by decide +kernel), List.mem_of_getElem? (i := 1958) (by decide +kernel), List.mem_of_getElem? (i := 1959) (by decide +kernel)⟩
def lw_privs_8 : List (MethodName × Nat) := [(⟨"HoopCabinetModel", "keepAct", "(I)I"⟩, 40), (⟨"HoopCabinetModel", "goDrawn", "(JI)I"⟩, 40)]
theorem lw_r8 : ∀ q ∈ lw_privs_8, lw_okq q := List.forall_mem_cons.mpr ⟨lw_p112, List.forall_mem_cons.mpr ⟨lw_p113, fun _ h => absurd h List.not_mem_nil⟩⟩
def lw_privs : List (MethodName × Nat) := lw_privs_1 ++ (lw_privs_2 ++ (lw_privs_3 ++ (lw_privs_4 ++ (lw_privs_5 ++ (lw_privs_6 ++ (lw_privs_7 ++ (lw_privs_8)))))))
def lw_tbl : List Cond := k2_sels lw_privs ++ tables_1
theorem lw_privs_ok : ∀ q ∈ lw_privs, lw_okq q := by
  show ∀ q ∈ lw_privs_1 ++ (lw_privs_2 ++ (lw_privs_3 ++ (lw_privs_4 ++ (lw_privs_5 ++ (lw_privs_6 ++ (lw_privs_7 ++ (lw_privs_8))))))), lw_okq q
  exact List.forall_mem_append.mpr ⟨lw_r1, List.forall_mem_append.mpr ⟨lw_r2, List.forall_mem_append.mpr ⟨lw_r3, List.forall_mem_append.mpr ⟨lw_r4, List.forall_mem_append.mpr ⟨lw_r5, List.forall_mem_append.mpr ⟨lw_r6, List.forall_mem_append.mpr ⟨lw_r7, lw_r8⟩⟩⟩⟩⟩⟩⟩
def RX0 : String := "HoopCabinet$Ball"
def TX0 : u_T := fun k => match k with
  | 0 => ("HoopCabinet$Ball", "lines", "I", false)
  | 1 => ("HoopCabinet$Ball", "rooms", "I", false)
  | 2 => ("HoopCabinet$Ball", "dances", "I", false)
  | 3 => ("HoopCabinet$Ball", "law", "I", false)
  | 4 => ("HoopCabinet$Ball", "odds", "I", false)
  | 5 => ("HoopCabinet$Ball", "doors", "LHoopCabinet$Table;", true)
  | 6 => ("HoopCabinet$Ball", "ladies", "LHoopCabinet$Table;", true)
  | 7 => ("HoopCabinet$Ball", "ministers", "LHoopCabinet$Table;", true)
  | 8 => ("HoopCabinet$Ball", "bids", "LHoopCabinet$Table;", true)
  | _ => ("HoopCabinet$Ball", "acts", "LHoopCabinet$Table;", true)
def tyX0 : Nat → FieldType := fun k => match k with
  | 0 => .int
  | 1 => .int
  | 2 => .int
  | 3 => .int
  | 4 => .int
  | 5 => .object "HoopCabinet$Table"
  | 6 => .object "HoopCabinet$Table"
  | 7 => .object "HoopCabinet$Table"
  | 8 => .object "HoopCabinet$Table"
  | _ => .object "HoopCabinet$Table"
abbrev wsX00 : List Cond := u_ws RX0 TX0 10
theorem nmX0 : ∀ a, a < 10 → ∀ b, b < 10 → a ≠ b → (TX0 a).2.1 ≠ (TX0 b).2.1 := by decide +kernel
theorem tyX0_ok : ∀ k, k < 10 → parseFieldDescriptor (TX0 k).2.2.1 = some (tyX0 k) := by decide +kernel
abbrev cX0_init : ByteArray := prog_2_method_1_code
def yX0_init : MethodName := ⟨RX0, "<init>", "()V"⟩
abbrev cX0_clear : ByteArray := prog_2_method_2_code
def yX0_clear : MethodName := ⟨RX0, "clear", "()V"⟩
abbrev cX0_copyFrom : ByteArray := prog_2_method_3_code
def yX0_copyFrom : MethodName := ⟨RX0, "copyFrom", "(LHoopCabinet$Ball;)V"⟩
abbrev cX0_isTold : ByteArray := prog_2_method_4_code
def yX0_isTold : MethodName := ⟨RX0, "isTold", "()Z"⟩
abbrev cX0_hasLady : ByteArray := prog_2_method_5_code
def yX0_hasLady : MethodName := ⟨RX0, "hasLady", "(I)Z"⟩
abbrev cX0_hasRoom : ByteArray := prog_2_method_6_code
def yX0_hasRoom : MethodName := ⟨RX0, "hasRoom", "(I)Z"⟩
abbrev cX0_hasDance : ByteArray := prog_2_method_7_code
def yX0_hasDance : MethodName := ⟨RX0, "hasDance", "(I)Z"⟩
abbrev cX0_hasSet : ByteArray := prog_2_method_8_code
def yX0_hasSet : MethodName := ⟨RX0, "hasSet", "(I)Z"⟩
abbrev cX0_everybody : ByteArray := prog_2_method_9_code
def yX0_everybody : MethodName := ⟨RX0, "everybody", "()I"⟩
abbrev cX0_ministersUnder : ByteArray := prog_2_method_10_code
def yX0_ministersUnder : MethodName := ⟨RX0, "ministersUnder", "(I)I"⟩
abbrev cX0_seatsUnder : ByteArray := prog_2_method_11_code
def yX0_seatsUnder : MethodName := ⟨RX0, "seatsUnder", "(I)I"⟩
abbrev cX0_actBid : ByteArray := prog_2_method_12_code
def yX0_actBid : MethodName := ⟨RX0, "actBid", "(III)V"⟩
abbrev cX0_actMove : ByteArray := prog_2_method_13_code
def yX0_actMove : MethodName := ⟨RX0, "actMove", "(II)V"⟩
abbrev cX0_takeBack : ByteArray := prog_2_method_14_code
def yX0_takeBack : MethodName := ⟨RX0, "takeBack", "()V"⟩
def RX1 : String := "HoopCabinet$Carrier"
def TX1 : u_T := fun k => match k with
  | 0 => ("HoopCabinet$Carrier", "taking", "[I", true)
  | 1 => ("HoopCabinet$Carrier", "holding", "[I", true)
  | 2 => ("HoopCabinet$Carrier", "bare", "[I", true)
  | 3 => ("HoopCabinet$Carrier", "lady", "I", false)
  | 4 => ("HoopCabinet$Carrier", "other", "I", false)
  | 5 => ("HoopCabinet$Carrier", "dances", "I", false)
  | 6 => ("HoopCabinet$Carrier", "startsWithIt", "Z", false)
  | _ => ("HoopCabinet$Carrier", "givesAtOnce", "Z", false)
def tyX1 : Nat → FieldType := fun k => match k with
  | 0 => .array .int
  | 1 => .array .int
  | 2 => .array .int
  | 3 => .int
  | 4 => .int
  | 5 => .int
  | 6 => .boolean
  | _ => .boolean
abbrev wsX10 : List Cond := u_ws RX1 TX1 8
theorem nmX1 : ∀ a, a < 8 → ∀ b, b < 8 → a ≠ b → (TX1 a).2.1 ≠ (TX1 b).2.1 := by decide +kernel
theorem tyX1_ok : ∀ k, k < 8 → parseFieldDescriptor (TX1 k).2.2.1 = some (tyX1 k) := by decide +kernel
abbrev cX1_init : ByteArray := prog_3_method_1_code
def yX1_init : MethodName := ⟨RX1, "<init>", "()V"⟩
abbrev cX1_prepare : ByteArray := prog_3_method_2_code
def yX1_prepare : MethodName := ⟨RX1, "prepare", "(LHoopCabinet$Floor;LHoopCabinet$Notes;II)V"⟩
abbrev cX1_roomsOf : ByteArray := prog_3_method_3_code
def yX1_roomsOf : MethodName := ⟨RX1, "roomsOf", "(LHoopCabinet$Floor;II)I"⟩
abbrev cX1_soonest : ByteArray := prog_3_method_4_code
def yX1_soonest : MethodName := ⟨RX1, "soonest", "(LHoopCabinet$Floor;)I"⟩
abbrev cX1_lookBack : ByteArray := prog_3_method_5_code
def yX1_lookBack : MethodName := ⟨RX1, "lookBack", "(LHoopCabinet$Floor;I)V"⟩
abbrev cX1_goodWithout : ByteArray := prog_3_method_6_code
def yX1_goodWithout : MethodName := ⟨RX1, "goodWithout", "(II)I"⟩
abbrev cX1_roomAt : ByteArray := prog_3_method_7_code
def yX1_roomAt : MethodName := ⟨RX1, "roomAt", "(LHoopCabinet$Floor;II)I"⟩
def RX2 : String := "HoopCabinet$Floor"
def TX2 : u_T := fun k => match k with
  | 0 => ("HoopCabinet$Floor", "near", "[I", true)
  | 1 => ("HoopCabinet$Floor", "goals", "[I", true)
  | 2 => ("HoopCabinet$Floor", "since", "[I", true)
  | 3 => ("HoopCabinet$Floor", "places", "[I", true)
  | 4 => ("HoopCabinet$Floor", "company", "[I", true)
  | 5 => ("HoopCabinet$Floor", "ladies", "I", false)
  | 6 => ("HoopCabinet$Floor", "rooms", "I", false)
  | _ => ("HoopCabinet$Floor", "dances", "I", false)
def tyX2 : Nat → FieldType := fun k => match k with
  | 0 => .array .int
  | 1 => .array .int
  | 2 => .array .int
  | 3 => .array .int
  | 4 => .array .int
  | 5 => .int
  | 6 => .int
  | _ => .int
abbrev wsX20 : List Cond := u_ws RX2 TX2 8
theorem nmX2 : ∀ a, a < 8 → ∀ b, b < 8 → a ≠ b → (TX2 a).2.1 ≠ (TX2 b).2.1 := by decide +kernel
theorem tyX2_ok : ∀ k, k < 8 → parseFieldDescriptor (TX2 k).2.2.1 = some (tyX2 k) := by decide +kernel
abbrev cX2_init : ByteArray := prog_4_method_1_code
def yX2_init : MethodName := ⟨RX2, "<init>", "()V"⟩
abbrev cX2_settle : ByteArray := prog_4_method_2_code
def yX2_settle : MethodName := ⟨RX2, "settle", "(LHoopCabinet$Ball;II)V"⟩
abbrev cX2_openDoors : ByteArray := prog_4_method_3_code
def yX2_openDoors : MethodName := ⟨RX2, "openDoors", "(LHoopCabinet$Ball;II)V"⟩
abbrev cX2_openDoor : ByteArray := prog_4_method_4_code
def yX2_openDoor : MethodName := ⟨RX2, "openDoor", "(LHoopCabinet$Ball;II)V"⟩
abbrev cX2_hearBids : ByteArray := prog_4_method_5_code
def yX2_hearBids : MethodName := ⟨RX2, "hearBids", "(LHoopCabinet$Ball;)V"⟩
abbrev cX2_hearBid : ByteArray := prog_4_method_6_code
def yX2_hearBid : MethodName := ⟨RX2, "hearBid", "(III)V"⟩
abbrev cX2_goAsBidden : ByteArray := prog_4_method_7_code
def yX2_goAsBidden : MethodName := ⟨RX2, "goAsBidden", "(II)V"⟩
abbrev cX2_nextRoom : ByteArray := prog_4_method_8_code
def yX2_nextRoom : MethodName := ⟨RX2, "nextRoom", "(III)I"⟩
abbrev cX2_gather : ByteArray := prog_4_method_9_code
def yX2_gather : MethodName := ⟨RX2, "gather", "()V"⟩
abbrev cX2_keepStill : ByteArray := prog_4_method_10_code
def yX2_keepStill : MethodName := ⟨RX2, "keepStill", "(I)V"⟩
abbrev cX2_copyFrom : ByteArray := prog_4_method_11_code
def yX2_copyFrom : MethodName := ⟨RX2, "copyFrom", "(LHoopCabinet$Floor;)V"⟩
abbrev cX2_stepsFrom : ByteArray := prog_4_method_12_code
def yX2_stepsFrom : MethodName := ⟨RX2, "stepsFrom", "(II)I"⟩
abbrev cX2_spread : ByteArray := prog_4_method_13_code
def yX2_spread : MethodName := ⟨RX2, "spread", "(II)I"⟩
abbrev cX2_distance : ByteArray := prog_4_method_14_code
def yX2_distance : MethodName := ⟨RX2, "distance", "(III)I"⟩
abbrev cX2_reachable : ByteArray := prog_4_method_15_code
def yX2_reachable : MethodName := ⟨RX2, "reachable", "(II)I"⟩
abbrev cX2_isHere : ByteArray := prog_4_method_16_code
def yX2_isHere : MethodName := ⟨RX2, "isHere", "(II)Z"⟩
abbrev cX2_goalOf : ByteArray := prog_4_method_17_code
def yX2_goalOf : MethodName := ⟨RX2, "goalOf", "(II)I"⟩
abbrev cX2_placeOf : ByteArray := prog_4_method_18_code
def yX2_placeOf : MethodName := ⟨RX2, "placeOf", "(II)I"⟩
abbrev cX2_companyOf : ByteArray := prog_4_method_19_code
def yX2_companyOf : MethodName := ⟨RX2, "companyOf", "(II)I"⟩
abbrev cX2_ladiesIn : ByteArray := prog_4_method_20_code
def yX2_ladiesIn : MethodName := ⟨RX2, "ladiesIn", "(II)I"⟩
abbrev cX2_dancesIn : ByteArray := prog_4_method_21_code
def yX2_dancesIn : MethodName := ⟨RX2, "dancesIn", "(II)I"⟩
abbrev cX2_stepsOf : ByteArray := prog_4_method_22_code
def yX2_stepsOf : MethodName := ⟨RX2, "stepsOf", "(I)I"⟩
abbrev cX2_meetingsOf : ByteArray := prog_4_method_23_code
def yX2_meetingsOf : MethodName := ⟨RX2, "meetingsOf", "(II)I"⟩
abbrev cX2_friendsOf : ByteArray := prog_4_method_24_code
def yX2_friendsOf : MethodName := ⟨RX2, "friendsOf", "(I)I"⟩
def RX3 : String := "HoopCabinet$House"
def TX3 : u_T := fun k => match k with
  | 0 => ("HoopCabinet$House", "seatsUnder", "[I", true)
  | 1 => ("HoopCabinet$House", "ladies", "I", false)
  | _ => ("HoopCabinet$House", "total", "I", false)
def tyX3 : Nat → FieldType := fun k => match k with
  | 0 => .array .int
  | 1 => .int
  | _ => .int
abbrev wsX30 : List Cond := u_ws RX3 TX3 3
theorem nmX3 : ∀ a, a < 3 → ∀ b, b < 3 → a ≠ b → (TX3 a).2.1 ≠ (TX3 b).2.1 := by decide +kernel
theorem tyX3_ok : ∀ k, k < 3 → parseFieldDescriptor (TX3 k).2.2.1 = some (tyX3 k) := by decide +kernel
abbrev cX3_init : ByteArray := prog_5_method_1_code
def yX3_init : MethodName := ⟨RX3, "<init>", "()V"⟩
abbrev cX3_tally : ByteArray := prog_5_method_2_code
def yX3_tally : MethodName := ⟨RX3, "tally", "(LHoopCabinet$Ball;)V"⟩
abbrev cX3_seatsOf : ByteArray := prog_5_method_3_code
def yX3_seatsOf : MethodName := ⟨RX3, "seatsOf", "(I)I"⟩
abbrev cX3_isMoreThanHalf : ByteArray := prog_5_method_4_code
def yX3_isMoreThanHalf : MethodName := ⟨RX3, "isMoreThanHalf", "(I)Z"⟩
abbrev cX3_isMajority : ByteArray := prog_5_method_5_code
def yX3_isMajority : MethodName := ⟨RX3, "isMajority", "(I)Z"⟩
abbrev cX3_isLeastMajority : ByteArray := prog_5_method_6_code
def yX3_isLeastMajority : MethodName := ⟨RX3, "isLeastMajority", "(I)Z"⟩
abbrev cX3_powerOf : ByteArray := prog_5_method_7_code
def yX3_powerOf : MethodName := ⟨RX3, "powerOf", "(I)I"⟩
def RX4 : String := "HoopCabinet$Music"
def TX4 : u_T := fun k => match k with
  | 0 => ("HoopCabinet$Music", "weights", "[J", false)
  | 1 => ("HoopCabinet$Music", "later", "[J", false)
  | _ => ("HoopCabinet$Music", "total", "J", false)
def tyX4 : Nat → FieldType := fun k => match k with
  | 0 => .array .long
  | 1 => .array .long
  | _ => .long
abbrev wsX40 : List Cond := u_ws RX4 TX4 3
theorem nmX4 : ∀ a, a < 3 → ∀ b, b < 3 → a ≠ b → (TX4 a).2.1 ≠ (TX4 b).2.1 := by decide +kernel
theorem tyX4_ok : ∀ k, k < 3 → parseFieldDescriptor (TX4 k).2.2.1 = some (tyX4 k) := by decide +kernel
abbrev cX4_init : ByteArray := prog_6_method_1_code
def yX4_init : MethodName := ⟨RX4, "<init>", "()V"⟩
abbrev cX4_play : ByteArray := prog_6_method_2_code
def yX4_play : MethodName := ⟨RX4, "play", "(LHoopCabinet$Floor;LHoopCabinet$Notes;III)V"⟩
abbrev cX4_playOne : ByteArray := prog_6_method_3_code
def yX4_playOne : MethodName := ⟨RX4, "playOne", "(LHoopCabinet$Floor;LHoopCabinet$Notes;II)V"⟩
abbrev cX4_weightWith : ByteArray := prog_6_method_4_code
def yX4_weightWith : MethodName := ⟨RX4, "weightWith", "(I)J"⟩
abbrev cX4_weightOfHolders : ByteArray := prog_6_method_5_code
def yX4_weightOfHolders : MethodName := ⟨RX4, "weightOfHolders", "()J"⟩
def RX5 : String := "HoopCabinet$Notes"
def TX5 : u_T := fun k => match k with
  | 0 => ("HoopCabinet$Notes", "allowed", "[I", true)
  | 1 => ("HoopCabinet$Notes", "seatsUnder", "[I", true)
  | 2 => ("HoopCabinet$Notes", "holders", "[I", true)
  | 3 => ("HoopCabinet$Notes", "ladies", "I", false)
  | 4 => ("HoopCabinet$Notes", "dances", "I", false)
  | _ => ("HoopCabinet$Notes", "first", "I", false)
def tyX5 : Nat → FieldType := fun k => match k with
  | 0 => .array .int
  | 1 => .array .int
  | 2 => .array .int
  | 3 => .int
  | 4 => .int
  | _ => .int
abbrev wsX50 : List Cond := u_ws RX5 TX5 6
theorem nmX5 : ∀ a, a < 6 → ∀ b, b < 6 → a ≠ b → (TX5 a).2.1 ≠ (TX5 b).2.1 := by decide +kernel
theorem tyX5_ok : ∀ k, k < 6 → parseFieldDescriptor (TX5 k).2.2.1 = some (tyX5 k) := by decide +kernel
abbrev cX5_init : ByteArray := prog_7_method_1_code
def yX5_init : MethodName := ⟨RX5, "<init>", "()V"⟩
abbrev cX5_prepare : ByteArray := prog_7_method_2_code
def yX5_prepare : MethodName := ⟨RX5, "prepare", "(LHoopCabinet$Ball;II)V"⟩
abbrev cX5_mayGive : ByteArray := prog_7_method_3_code
def yX5_mayGive : MethodName := ⟨RX5, "mayGive", "(LHoopCabinet$Ball;III)Z"⟩
abbrev cX5_passed : ByteArray := prog_7_method_4_code
def yX5_passed : MethodName := ⟨RX5, "passed", "(LHoopCabinet$Floor;II)I"⟩
abbrev cX5_follow : ByteArray := prog_7_method_5_code
def yX5_follow : MethodName := ⟨RX5, "follow", "(LHoopCabinet$Floor;II)V"⟩
abbrev cX5_behind : ByteArray := prog_7_method_6_code
def yX5_behind : MethodName := ⟨RX5, "behind", "(I)I"⟩
abbrev cX5_ahead : ByteArray := prog_7_method_7_code
def yX5_ahead : MethodName := ⟨RX5, "ahead", "(I)I"⟩
abbrev cX5_gotAt : ByteArray := prog_7_method_8_code
def yX5_gotAt : MethodName := ⟨RX5, "gotAt", "(I)I"⟩
abbrev cX5_giverOf : ByteArray := prog_7_method_9_code
def yX5_giverOf : MethodName := ⟨RX5, "giverOf", "(LHoopCabinet$Floor;I)I"⟩
def RX6 : String := "HoopCabinet$Reader"
def TX6 : u_T := fun k => match k with
  | 0 => ("HoopCabinet$Reader", "tape", "[B", true)
  | 1 => ("HoopCabinet$Reader", "ball", "LHoopCabinet$Ball;", true)
  | 2 => ("HoopCabinet$Reader", "length", "I", false)
  | 3 => ("HoopCabinet$Reader", "kind", "I", false)
  | 4 => ("HoopCabinet$Reader", "place", "I", false)
  | 5 => ("HoopCabinet$Reader", "stop", "I", false)
  | 6 => ("HoopCabinet$Reader", "fault", "I", false)
  | _ => ("HoopCabinet$Reader", "faultPlace", "I", false)
def tyX6 : Nat → FieldType := fun k => match k with
  | 0 => .array .byte
  | 1 => .object "HoopCabinet$Ball"
  | 2 => .int
  | 3 => .int
  | 4 => .int
  | 5 => .int
  | 6 => .int
  | _ => .int
abbrev wsX60 : List Cond := u_ws RX6 TX6 8
theorem nmX6 : ∀ a, a < 8 → ∀ b, b < 8 → a ≠ b → (TX6 a).2.1 ≠ (TX6 b).2.1 := by decide +kernel
theorem tyX6_ok : ∀ k, k < 8 → parseFieldDescriptor (TX6 k).2.2.1 = some (tyX6 k) := by decide +kernel
abbrev cX6_init : ByteArray := prog_8_method_1_code
def yX6_init : MethodName := ⟨RX6, "<init>", "([BLHoopCabinet$Ball;)V"⟩
abbrev cX6_read : ByteArray := prog_8_method_2_code
def yX6_read : MethodName := ⟨RX6, "read", "(I)V"⟩
abbrev cX6_readLine : ByteArray := prog_8_method_3_code
def yX6_readLine : MethodName := ⟨RX6, "readLine", "()V"⟩
abbrev cX6_readBall : ByteArray := prog_8_method_4_code
def yX6_readBall : MethodName := ⟨RX6, "readBall", "()V"⟩
abbrev cX6_readDoor : ByteArray := prog_8_method_5_code
def yX6_readDoor : MethodName := ⟨RX6, "readDoor", "()V"⟩
abbrev cX6_readLady : ByteArray := prog_8_method_6_code
def yX6_readLady : MethodName := ⟨RX6, "readLady", "()V"⟩
abbrev cX6_readMinister : ByteArray := prog_8_method_7_code
def yX6_readMinister : MethodName := ⟨RX6, "readMinister", "()V"⟩
abbrev cX6_readBid : ByteArray := prog_8_method_8_code
def yX6_readBid : MethodName := ⟨RX6, "readBid", "()V"⟩
abbrev cX6_startRow : ByteArray := prog_8_method_9_code
def yX6_startRow : MethodName := ⟨RX6, "startRow", "(LHoopCabinet$Table;)V"⟩
abbrev cX6_fail : ByteArray := prog_8_method_10_code
def yX6_fail : MethodName := ⟨RX6, "fail", "(I)V"⟩
abbrev cX6_takeWord : ByteArray := prog_8_method_11_code
def yX6_takeWord : MethodName := ⟨RX6, "takeWord", "(Ljava/lang/String;)V"⟩
abbrev cX6_takeSign : ByteArray := prog_8_method_12_code
def yX6_takeSign : MethodName := ⟨RX6, "takeSign", "()V"⟩
abbrev cX6_takeNumber : ByteArray := prog_8_method_13_code
def yX6_takeNumber : MethodName := ⟨RX6, "takeNumber", "(II)I"⟩
abbrev cX6_isWord : ByteArray := prog_8_method_14_code
def yX6_isWord : MethodName := ⟨RX6, "isWord", "(Ljava/lang/String;)Z"⟩
abbrev cX6_nextToken : ByteArray := prog_8_method_15_code
def yX6_nextToken : MethodName := ⟨RX6, "nextToken", "()V"⟩
abbrev cX6_digits : ByteArray := prog_8_method_16_code
def yX6_digits : MethodName := ⟨RX6, "digits", "()I"⟩
abbrev cX6_byteAt : ByteArray := prog_8_method_17_code
def yX6_byteAt : MethodName := ⟨RX6, "byteAt", "(I)I"⟩
abbrev cX6_isBlank : ByteArray := prog_8_method_18_code
def yX6_isBlank : MethodName := ⟨RX6, "isBlank", "(I)Z"⟩
abbrev cX6_kindOf : ByteArray := prog_8_method_19_code
def yX6_kindOf : MethodName := ⟨RX6, "kindOf", "(I)I"⟩
def RX7 : String := "HoopCabinet$Slot"
def TX7 : u_T := fun k => match k with
  | 0 => ("HoopCabinet$Slot", "cells", "[J", true)
  | 1 => ("HoopCabinet$Slot", "width", "I", false)
  | _ => ("HoopCabinet$Slot", "size", "I", false)
def tyX7 : Nat → FieldType := fun k => match k with
  | 0 => .array .long
  | 1 => .int
  | _ => .int
abbrev wsX70 : List Cond := u_ws RX7 TX7 3
theorem nmX7 : ∀ a, a < 3 → ∀ b, b < 3 → a ≠ b → (TX7 a).2.1 ≠ (TX7 b).2.1 := by decide +kernel
theorem tyX7_ok : ∀ k, k < 3 → parseFieldDescriptor (TX7 k).2.2.1 = some (tyX7 k) := by decide +kernel
abbrev cX7_init : ByteArray := prog_9_method_1_code
def yX7_init : MethodName := ⟨RX7, "<init>", "()V"⟩
abbrev cX7_isBare : ByteArray := prog_9_method_2_code
def yX7_isBare : MethodName := ⟨RX7, "isBare", "()Z"⟩
abbrev cX7_start : ByteArray := prog_9_method_3_code
def yX7_start : MethodName := ⟨RX7, "start", "(II)V"⟩
abbrev cX7_cell : ByteArray := prog_9_method_4_code
def yX7_cell : MethodName := ⟨RX7, "cell", "(I)J"⟩
abbrev cX7_put : ByteArray := prog_9_method_5_code
def yX7_put : MethodName := ⟨RX7, "put", "(IJ)V"⟩
abbrev cX7_cut : ByteArray := prog_9_method_6_code
def yX7_cut : MethodName := ⟨RX7, "cut", "(J)J"⟩
abbrev cX7_hasStretch : ByteArray := prog_9_method_7_code
def yX7_hasStretch : MethodName := ⟨RX7, "hasStretch", "(II)Z"⟩
def RX8 : String := "HoopCabinet$Table"
def TX8 : u_T := fun k => match k with
  | 0 => ("HoopCabinet$Table", "cells", "[I", true)
  | 1 => ("HoopCabinet$Table", "limit", "I", true)
  | 2 => ("HoopCabinet$Table", "width", "I", true)
  | _ => ("HoopCabinet$Table", "rows", "I", false)
def tyX8 : Nat → FieldType := fun k => match k with
  | 0 => .array .int
  | 1 => .int
  | 2 => .int
  | _ => .int
abbrev wsX80 : List Cond := u_ws RX8 TX8 4
theorem nmX8 : ∀ a, a < 4 → ∀ b, b < 4 → a ≠ b → (TX8 a).2.1 ≠ (TX8 b).2.1 := by decide +kernel
theorem tyX8_ok : ∀ k, k < 4 → parseFieldDescriptor (TX8 k).2.2.1 = some (tyX8 k) := by decide +kernel
abbrev cX8_init : ByteArray := prog_10_method_1_code
def yX8_init : MethodName := ⟨RX8, "<init>", "(II)V"⟩
abbrev cX8_has : ByteArray := prog_10_method_2_code
def yX8_has : MethodName := ⟨RX8, "has", "(I)Z"⟩
abbrev cX8_hasCell : ByteArray := prog_10_method_3_code
def yX8_hasCell : MethodName := ⟨RX8, "hasCell", "(II)Z"⟩
abbrev cX8_isFull : ByteArray := prog_10_method_4_code
def yX8_isFull : MethodName := ⟨RX8, "isFull", "()Z"⟩
abbrev cX8_cell : ByteArray := prog_10_method_5_code
def yX8_cell : MethodName := ⟨RX8, "cell", "(II)I"⟩
abbrev cX8_put : ByteArray := prog_10_method_6_code
def yX8_put : MethodName := ⟨RX8, "put", "(III)V"⟩
abbrev cX8_add : ByteArray := prog_10_method_7_code
def yX8_add : MethodName := ⟨RX8, "add", "(IIII)V"⟩
abbrev cX8_dropLast : ByteArray := prog_10_method_8_code
def yX8_dropLast : MethodName := ⟨RX8, "dropLast", "()V"⟩
abbrev cX8_clear : ByteArray := prog_10_method_9_code
def yX8_clear : MethodName := ⟨RX8, "clear", "()V"⟩
abbrev cX8_copyFrom : ByteArray := prog_10_method_10_code
def yX8_copyFrom : MethodName := ⟨RX8, "copyFrom", "(LHoopCabinet$Table;)V"⟩
def RX9 : String := "HoopCabinet"
def TX9 : u_T := fun k => match k with
  | 0 => ("HoopCabinet", "tape", "[B", true)
  | 1 => ("HoopCabinet", "tapeLength", "I", false)
  | 2 => ("HoopCabinet", "reader", "LHoopCabinet$Reader;", true)
  | 3 => ("HoopCabinet", "now", "LHoopCabinet$Ball;", true)
  | 4 => ("HoopCabinet", "draft", "LHoopCabinet$Ball;", true)
  | 5 => ("HoopCabinet", "images", "[LHoopCabinet$Ball;", true)
  | 6 => ("HoopCabinet", "kept", "[Z", true)
  | 7 => ("HoopCabinet", "slots", "[LHoopCabinet$Slot;", true)
  | 8 => ("HoopCabinet", "floor", "LHoopCabinet$Floor;", true)
  | 9 => ("HoopCabinet", "trial", "LHoopCabinet$Floor;", true)
  | 10 => ("HoopCabinet", "notes", "LHoopCabinet$Notes;", true)
  | 11 => ("HoopCabinet", "carrier", "LHoopCabinet$Carrier;", true)
  | 12 => ("HoopCabinet", "house", "LHoopCabinet$House;", true)
  | 13 => ("HoopCabinet", "music", "LHoopCabinet$Music;", true)
  | _ => ("HoopCabinet", "answers", "[I", true)
def tyX9 : Nat → FieldType := fun k => match k with
  | 0 => .array .byte
  | 1 => .int
  | 2 => .object "HoopCabinet$Reader"
  | 3 => .object "HoopCabinet$Ball"
  | 4 => .object "HoopCabinet$Ball"
  | 5 => .array (.object "HoopCabinet$Ball")
  | 6 => .array .boolean
  | 7 => .array (.object "HoopCabinet$Slot")
  | 8 => .object "HoopCabinet$Floor"
  | 9 => .object "HoopCabinet$Floor"
  | 10 => .object "HoopCabinet$Notes"
  | 11 => .object "HoopCabinet$Carrier"
  | 12 => .object "HoopCabinet$House"
  | 13 => .object "HoopCabinet$Music"
  | _ => .array .int
abbrev wsX90 : List Cond := u_ws RX9 TX9 15
theorem nmX9 : ∀ a, a < 15 → ∀ b, b < 15 → a ≠ b → (TX9 a).2.1 ≠ (TX9 b).2.1 := by decide +kernel
theorem tyX9_ok : ∀ k, k < 15 → parseFieldDescriptor (TX9 k).2.2.1 = some (tyX9 k) := by decide +kernel
abbrev cX9_init : ByteArray := prog_1_method_1_code
def yX9_init : MethodName := ⟨RX9, "<init>", "()V"⟩
abbrev cX9_feed : ByteArray := prog_1_method_2_code
def yX9_feed : MethodName := ⟨RX9, "feed", "(IIIII)I"⟩
abbrev cX9_appendFour : ByteArray := prog_1_method_3_code
def yX9_appendFour : MethodName := ⟨RX9, "appendFour", "(I)V"⟩
abbrev cX9_end : ByteArray := prog_1_method_4_code
def yX9_end : MethodName := ⟨RX9, "end", "(I)I"⟩
abbrev cX9_ball : ByteArray := prog_1_method_5_code
def yX9_ball : MethodName := ⟨RX9, "ball", "()I"⟩
abbrev cX9_fault : ByteArray := prog_1_method_6_code
def yX9_fault : MethodName := ⟨RX9, "fault", "(I)I"⟩
abbrev cX9_settle : ByteArray := prog_1_method_7_code
def yX9_settle : MethodName := ⟨RX9, "settle", "()V"⟩
abbrev cX9_door : ByteArray := prog_1_method_8_code
def yX9_door : MethodName := ⟨RX9, "door", "(II)I"⟩
abbrev cX9_lady : ByteArray := prog_1_method_9_code
def yX9_lady : MethodName := ⟨RX9, "lady", "(II)I"⟩
abbrev cX9_minister : ByteArray := prog_1_method_10_code
def yX9_minister : MethodName := ⟨RX9, "minister", "(II)I"⟩
abbrev cX9_way : ByteArray := prog_1_method_11_code
def yX9_way : MethodName := ⟨RX9, "way", "(III)I"⟩
abbrev cX9_reach : ByteArray := prog_1_method_12_code
def yX9_reach : MethodName := ⟨RX9, "reach", "(II)I"⟩
abbrev cX9_bidden : ByteArray := prog_1_method_13_code
def yX9_bidden : MethodName := ⟨RX9, "bidden", "(II)I"⟩
abbrev cX9_at : ByteArray := prog_1_method_14_code
def yX9_at : MethodName := ⟨RX9, "at", "(II)I"⟩
abbrev cX9_within : ByteArray := prog_1_method_15_code
def yX9_within : MethodName := ⟨RX9, "within", "(II)I"⟩
abbrev cX9_steps : ByteArray := prog_1_method_16_code
def yX9_steps : MethodName := ⟨RX9, "steps", "(I)I"⟩
abbrev cX9_sees : ByteArray := prog_1_method_17_code
def yX9_sees : MethodName := ⟨RX9, "sees", "(I)I"⟩
abbrev cX9_meets : ByteArray := prog_1_method_18_code
def yX9_meets : MethodName := ⟨RX9, "meets", "(II)I"⟩
abbrev cX9_often : ByteArray := prog_1_method_19_code
def yX9_often : MethodName := ⟨RX9, "often", "(II)I"⟩
abbrev cX9_friends : ByteArray := prog_1_method_20_code
def yX9_friends : MethodName := ⟨RX9, "friends", "(I)I"⟩
abbrev cX9_crush : ByteArray := prog_1_method_21_code
def yX9_crush : MethodName := ⟨RX9, "crush", "()I"⟩
abbrev cX9_crushed : ByteArray := prog_1_method_22_code
def yX9_crushed : MethodName := ⟨RX9, "crushed", "()I"⟩
abbrev cX9_fullest : ByteArray := prog_1_method_23_code
def yX9_fullest : MethodName := ⟨RX9, "fullest", "(I)I"⟩
abbrev cX9_likes : ByteArray := prog_1_method_24_code
def yX9_likes : MethodName := ⟨RX9, "likes", "(I)I"⟩
abbrev cX9_apart : ByteArray := prog_1_method_25_code
def yX9_apart : MethodName := ⟨RX9, "apart", "(III)I"⟩
abbrev cX9_alone : ByteArray := prog_1_method_26_code
def yX9_alone : MethodName := ⟨RX9, "alone", "(I)I"⟩
abbrev cX9_empty : ByteArray := prog_1_method_27_code
def yX9_empty : MethodName := ⟨RX9, "empty", "(I)I"⟩
abbrev cX9_late : ByteArray := prog_1_method_28_code
def yX9_late : MethodName := ⟨RX9, "late", "(I)I"⟩
abbrev cX9_waits : ByteArray := prog_1_method_29_code
def yX9_waits : MethodName := ⟨RX9, "waits", "(I)I"⟩
abbrev cX9_mate : ByteArray := prog_1_method_30_code
def yX9_mate : MethodName := ⟨RX9, "mate", "(I)I"⟩
abbrev cX9_passAsTold : ByteArray := prog_1_method_31_code
def yX9_passAsTold : MethodName := ⟨RX9, "passAsTold", "()V"⟩
abbrev cX9_inTheEnd : ByteArray := prog_1_method_32_code
def yX9_inTheEnd : MethodName := ⟨RX9, "inTheEnd", "(LHoopCabinet$Floor;I)I"⟩
abbrev cX9_hears : ByteArray := prog_1_method_33_code
def yX9_hears : MethodName := ⟨RX9, "hears", "(I)I"⟩
abbrev cX9_hands : ByteArray := prog_1_method_34_code
def yX9_hands : MethodName := ⟨RX9, "hands", "(II)I"⟩
abbrev cX9_have : ByteArray := prog_1_method_35_code
def yX9_have : MethodName := ⟨RX9, "have", "(II)I"⟩
abbrev cX9_gets : ByteArray := prog_1_method_36_code
def yX9_gets : MethodName := ⟨RX9, "gets", "(II)I"⟩
abbrev cX9_from : ByteArray := prog_1_method_37_code
def yX9_from : MethodName := ⟨RX9, "from", "(II)I"⟩
abbrev cX9_all : ByteArray := prog_1_method_38_code
def yX9_all : MethodName := ⟨RX9, "all", "(I)I"⟩
abbrev cX9_best : ByteArray := prog_1_method_39_code
def yX9_best : MethodName := ⟨RX9, "best", "()I"⟩
abbrev cX9_lasts : ByteArray := prog_1_method_40_code
def yX9_lasts : MethodName := ⟨RX9, "lasts", "(I)I"⟩
abbrev cX9_needed : ByteArray := prog_1_method_41_code
def yX9_needed : MethodName := ⟨RX9, "needed", "(I)I"⟩
abbrev cX9_by : ByteArray := prog_1_method_42_code
def yX9_by : MethodName := ⟨RX9, "by", "(II)I"⟩
abbrev cX9_carry : ByteArray := prog_1_method_43_code
def yX9_carry : MethodName := ⟨RX9, "carry", "(III)I"⟩
abbrev cX9_walk : ByteArray := prog_1_method_44_code
def yX9_walk : MethodName := ⟨RX9, "walk", "(IIII)I"⟩
abbrev cX9_widen : ByteArray := prog_1_method_45_code
def yX9_widen : MethodName := ⟨RX9, "widen", "(II)I"⟩
abbrev cX9_shut : ByteArray := prog_1_method_46_code
def yX9_shut : MethodName := ⟨RX9, "shut", "(II)I"⟩
abbrev cX9_bars : ByteArray := prog_1_method_47_code
def yX9_bars : MethodName := ⟨RX9, "bars", "(III)I"⟩
abbrev cX9_firsts : ByteArray := prog_1_method_48_code
def yX9_firsts : MethodName := ⟨RX9, "firsts", "(I)I"⟩
abbrev cX9_ask : ByteArray := prog_1_method_49_code
def yX9_ask : MethodName := ⟨RX9, "ask", "(I)I"⟩
abbrev cX9_leaves : ByteArray := prog_1_method_50_code
def yX9_leaves : MethodName := ⟨RX9, "leaves", "(I)I"⟩
abbrev cX9_seenFault : ByteArray := prog_1_method_51_code
def yX9_seenFault : MethodName := ⟨RX9, "seenFault", "(I)I"⟩
abbrev cX9_isSighting : ByteArray := prog_1_method_52_code
def yX9_isSighting : MethodName := ⟨RX9, "isSighting", "(JJJ)Z"⟩
abbrev cX9_possibleFirsts : ByteArray := prog_1_method_53_code
def yX9_possibleFirsts : MethodName := ⟨RX9, "possibleFirsts", "(LHoopCabinet$Slot;)I"⟩
abbrev cX9_agrees : ByteArray := prog_1_method_54_code
def yX9_agrees : MethodName := ⟨RX9, "agrees", "(LHoopCabinet$Slot;)Z"⟩
abbrev cX9_bestAsked : ByteArray := prog_1_method_55_code
def yX9_bestAsked : MethodName := ⟨RX9, "bestAsked", "(I)I"⟩
abbrev cX9_leftAtWorst : ByteArray := prog_1_method_56_code
def yX9_leftAtWorst : MethodName := ⟨RX9, "leftAtWorst", "(II)I"⟩
abbrev cX9_seats : ByteArray := prog_1_method_57_code
def yX9_seats : MethodName := ⟨RX9, "seats", "(I)I"⟩
abbrev cX9_under : ByteArray := prog_1_method_58_code
def yX9_under : MethodName := ⟨RX9, "under", "(I)I"⟩
abbrev cX9_holds : ByteArray := prog_1_method_59_code
def yX9_holds : MethodName := ⟨RX9, "holds", "(I)I"⟩
abbrev cX9_blocks : ByteArray := prog_1_method_60_code
def yX9_blocks : MethodName := ⟨RX9, "blocks", "(I)I"⟩
abbrev cX9_power : ByteArray := prog_1_method_61_code
def yX9_power : MethodName := ⟨RX9, "power", "(I)I"⟩
abbrev cX9_dummies : ByteArray := prog_1_method_62_code
def yX9_dummies : MethodName := ⟨RX9, "dummies", "()I"⟩
abbrev cX9_strongest : ByteArray := prog_1_method_63_code
def yX9_strongest : MethodName := ⟨RX9, "strongest", "()I"⟩
abbrev cX9_part : ByteArray := prog_1_method_64_code
def yX9_part : MethodName := ⟨RX9, "part", "(II)I"⟩
abbrev cX9_cabinet : ByteArray := prog_1_method_65_code
def yX9_cabinet : MethodName := ⟨RX9, "cabinet", "()I"⟩
abbrev cX9_cabinets : ByteArray := prog_1_method_66_code
def yX9_cabinets : MethodName := ⟨RX9, "cabinets", "()I"⟩
abbrev cX9_kingmaker : ByteArray := prog_1_method_67_code
def yX9_kingmaker : MethodName := ⟨RX9, "kingmaker", "()I"⟩
abbrev cX9_makesOneHold : ByteArray := prog_1_method_68_code
def yX9_makesOneHold : MethodName := ⟨RX9, "makesOneHold", "(I)Z"⟩
abbrev cX9_rests : ByteArray := prog_1_method_69_code
def yX9_rests : MethodName := ⟨RX9, "rests", "(II)I"⟩
abbrev cX9_gains : ByteArray := prog_1_method_70_code
def yX9_gains : MethodName := ⟨RX9, "gains", "(IIII)I"⟩
abbrev cX9_isContent : ByteArray := prog_1_method_71_code
def yX9_isContent : MethodName := ⟨RX9, "isContent", "(IIII)Z"⟩
abbrev cX9_gainOf : ByteArray := prog_1_method_72_code
def yX9_gainOf : MethodName := ⟨RX9, "gainOf", "(IIII)I"⟩
abbrev cX9_chance : ByteArray := prog_1_method_73_code
def yX9_chance : MethodName := ⟨RX9, "chance", "(IIII)J"⟩
abbrev cX9_mean : ByteArray := prog_1_method_74_code
def yX9_mean : MethodName := ⟨RX9, "mean", "(III)J"⟩
abbrev cX9_isChanceDance : ByteArray := prog_1_method_75_code
def yX9_isChanceDance : MethodName := ⟨RX9, "isChanceDance", "(I)Z"⟩
abbrev cX9_drawn : ByteArray := prog_1_method_76_code
def yX9_drawn : MethodName := ⟨RX9, "drawn", "(III)I"⟩
abbrev cX9_luck : ByteArray := prog_1_method_77_code
def yX9_luck : MethodName := ⟨RX9, "luck", "(IIII)I"⟩
abbrev cX9_drawnHolders : ByteArray := prog_1_method_78_code
def yX9_drawnHolders : MethodName := ⟨RX9, "drawnHolders", "(II)I"⟩
abbrev cX9_loudDances : ByteArray := prog_1_method_79_code
def yX9_loudDances : MethodName := ⟨RX9, "loudDances", "(I)I"⟩
abbrev cX9_bid : ByteArray := prog_1_method_80_code
def yX9_bid : MethodName := ⟨RX9, "bid", "(III)I"⟩
abbrev cX9_move : ByteArray := prog_1_method_81_code
def yX9_move : MethodName := ⟨RX9, "move", "(II)I"⟩
abbrev cX9_undo : ByteArray := prog_1_method_82_code
def yX9_undo : MethodName := ⟨RX9, "undo", "()I"⟩
abbrev cX9_anew : ByteArray := prog_1_method_83_code
def yX9_anew : MethodName := ⟨RX9, "anew", "()I"⟩
abbrev cX9_hang : ByteArray := prog_1_method_84_code
def yX9_hang : MethodName := ⟨RX9, "hang", "(II)I"⟩
abbrev cX9_count : ByteArray := prog_1_method_85_code
def yX9_count : MethodName := ⟨RX9, "count", "(I)I"⟩
abbrev cX9_slotsWithRow : ByteArray := prog_1_method_86_code
def yX9_slotsWithRow : MethodName := ⟨RX9, "slotsWithRow", "()I"⟩
abbrev cX9_image : ByteArray := prog_1_method_87_code
def yX9_image : MethodName := ⟨RX9, "image", "(I)I"⟩
abbrev cX9_back : ByteArray := prog_1_method_88_code
def yX9_back : MethodName := ⟨RX9, "back", "(I)I"⟩
abbrev cX9_row : ByteArray := prog_1_method_89_code
def yX9_row : MethodName := ⟨RX9, "row", "(III)I"⟩
abbrev cX9_write : ByteArray := prog_1_method_90_code
def yX9_write : MethodName := ⟨RX9, "write", "(IIJ)I"⟩
abbrev cX9_paste : ByteArray := prog_1_method_91_code
def yX9_paste : MethodName := ⟨RX9, "paste", "(IIIII)I"⟩
abbrev cX9_isSlot : ByteArray := prog_1_method_92_code
def yX9_isSlot : MethodName := ⟨RX9, "isSlot", "(I)Z"⟩
abbrev cX9_isSeed : ByteArray := prog_1_method_93_code
def yX9_isSeed : MethodName := ⟨RX9, "isSeed", "(I)Z"⟩
abbrev cX9_isPart : ByteArray := prog_1_method_94_code
def yX9_isPart : MethodName := ⟨RX9, "isPart", "(I)Z"⟩
abbrev cX9_hasBit : ByteArray := prog_1_method_95_code
def yX9_hasBit : MethodName := ⟨RX9, "hasBit", "(II)Z"⟩
abbrev cX9_lowest : ByteArray := prog_1_method_96_code
def yX9_lowest : MethodName := ⟨RX9, "lowest", "(I)I"⟩
abbrev cX9_lowestTerms : ByteArray := prog_1_method_97_code
def yX9_lowestTerms : MethodName := ⟨RX9, "lowestTerms", "(JJI)J"⟩
def RX10 : String := "HoopCabinetModel"
def TX10 : u_T := fun k => match k with
  | 0 => ("HoopCabinetModel", "thrown", "I", false)
  | 1 => ("HoopCabinetModel", "world", "[I", true)
  | 2 => ("HoopCabinetModel", "images", "[I", true)
  | 3 => ("HoopCabinetModel", "hasImage", "[Z", true)
  | 4 => ("HoopCabinetModel", "tape", "[B", true)
  | 5 => ("HoopCabinetModel", "taped", "I", false)
  | 6 => ("HoopCabinetModel", "five", "[I", true)
  | 7 => ("HoopCabinetModel", "size", "I", false)
  | 8 => ("HoopCabinetModel", "at", "I", false)
  | 9 => ("HoopCabinetModel", "from", "I", false)
  | 10 => ("HoopCabinetModel", "token", "I", false)
  | 11 => ("HoopCabinetModel", "value", "I", false)
  | 12 => ("HoopCabinetModel", "faultKind", "I", false)
  | 13 => ("HoopCabinetModel", "faultPlace", "I", false)
  | 14 => ("HoopCabinetModel", "fresh", "[I", true)
  | 15 => ("HoopCabinetModel", "ways", "[I", true)
  | 16 => ("HoopCabinetModel", "oddDoor", "I", false)
  | 17 => ("HoopCabinetModel", "oddWide", "I", false)
  | 18 => ("HoopCabinetModel", "atBy", "[I", true)
  | 19 => ("HoopCabinetModel", "underOf", "[I", true)
  | 20 => ("HoopCabinetModel", "seatsOf", "[I", true)
  | 21 => ("HoopCabinetModel", "gone", "I", false)
  | 22 => ("HoopCabinetModel", "stayers", "I", false)
  | 23 => ("HoopCabinetModel", "lawNow", "I", false)
  | 24 => ("HoopCabinetModel", "loudSet", "I", false)
  | 25 => ("HoopCabinetModel", "crushMost", "I", false)
  | 26 => ("HoopCabinetModel", "haveAt", "[I", true)
  | 27 => ("HoopCabinetModel", "getsAt", "[I", true)
  | 28 => ("HoopCabinetModel", "giverOf", "[I", true)
  | 29 => ("HoopCabinetModel", "canGive", "[Z", true)
  | 30 => ("HoopCabinetModel", "walkRow", "[I", true)
  | 31 => ("HoopCabinetModel", "getsBy", "[I", true)
  | 32 => ("HoopCabinetModel", "askWorst", "I", false)
  | 33 => ("HoopCabinetModel", "oftenAll", "J", false)
  | 34 => ("HoopCabinetModel", "oftenHas", "J", false)
  | 35 => ("HoopCabinetModel", "oftenMany", "J", false)
  | 36 => ("HoopCabinetModel", "many", "[I", true)
  | 37 => ("HoopCabinetModel", "width", "[I", true)
  | 38 => ("HoopCabinetModel", "numbers", "[J", true)
  | _ => ("HoopCabinetModel", "moving", "[J", true)
def tyX10 : Nat → FieldType := fun k => match k with
  | 0 => .int
  | 1 => .array .int
  | 2 => .array .int
  | 3 => .array .boolean
  | 4 => .array .byte
  | 5 => .int
  | 6 => .array .int
  | 7 => .int
  | 8 => .int
  | 9 => .int
  | 10 => .int
  | 11 => .int
  | 12 => .int
  | 13 => .int
  | 14 => .array .int
  | 15 => .array .int
  | 16 => .int
  | 17 => .int
  | 18 => .array .int
  | 19 => .array .int
  | 20 => .array .int
  | 21 => .int
  | 22 => .int
  | 23 => .int
  | 24 => .int
  | 25 => .int
  | 26 => .array .int
  | 27 => .array .int
  | 28 => .array .int
  | 29 => .array .boolean
  | 30 => .array .int
  | 31 => .array .int
  | 32 => .int
  | 33 => .long
  | 34 => .long
  | 35 => .long
  | 36 => .array .int
  | 37 => .array .int
  | 38 => .array .long
  | _ => .array .long
abbrev wsX100 : List Cond := u_ws RX10 TX10 40
theorem nmX10 : ∀ a, a < 40 → ∀ b, b < 40 → a ≠ b → (TX10 a).2.1 ≠ (TX10 b).2.1 := by decide +kernel
theorem tyX10_ok : ∀ k, k < 40 → parseFieldDescriptor (TX10 k).2.2.1 = some (tyX10 k) := by decide +kernel
abbrev cX10_init : ByteArray := prog_12_method_1_code
def yX10_init : MethodName := ⟨RX10, "<init>", "()V"⟩
abbrev cX10_in : ByteArray := prog_12_method_3_code
def yX10_in : MethodName := ⟨RX10, "in", "(JJJ)Z"⟩
abbrev cX10_bits : ByteArray := prog_12_method_4_code
def yX10_bits : MethodName := ⟨RX10, "bits", "(I)I"⟩
abbrev cX10_bit : ByteArray := prog_12_method_5_code
def yX10_bit : MethodName := ⟨RX10, "bit", "(II)I"⟩
abbrev cX10_image : ByteArray := prog_12_method_6_code
def yX10_image : MethodName := ⟨RX10, "image", "(I)I"⟩
abbrev cX10_back : ByteArray := prog_12_method_7_code
def yX10_back : MethodName := ⟨RX10, "back", "(I)I"⟩
abbrev cX10_isBall : ByteArray := prog_12_method_8_code
def yX10_isBall : MethodName := ⟨RX10, "isBall", "()Z"⟩
abbrev cX10_isRoom : ByteArray := prog_12_method_9_code
def yX10_isRoom : MethodName := ⟨RX10, "isRoom", "(I)Z"⟩
abbrev cX10_isDance : ByteArray := prog_12_method_10_code
def yX10_isDance : MethodName := ⟨RX10, "isDance", "(J)Z"⟩
abbrev cX10_isDoor : ByteArray := prog_12_method_11_code
def yX10_isDoor : MethodName := ⟨RX10, "isDoor", "(I)Z"⟩
abbrev cX10_isLady : ByteArray := prog_12_method_12_code
def yX10_isLady : MethodName := ⟨RX10, "isLady", "(J)Z"⟩
abbrev cX10_isMinister : ByteArray := prog_12_method_13_code
def yX10_isMinister : MethodName := ⟨RX10, "isMinister", "(I)Z"⟩
abbrev cX10_isSet : ByteArray := prog_12_method_14_code
def yX10_isSet : MethodName := ⟨RX10, "isSet", "(I)Z"⟩
abbrev cX10_dances : ByteArray := prog_12_method_15_code
def yX10_dances : MethodName := ⟨RX10, "dances", "()I"⟩
abbrev cX10_ladies : ByteArray := prog_12_method_16_code
def yX10_ladies : MethodName := ⟨RX10, "ladies", "()I"⟩
abbrev cX10_wideOf : ByteArray := prog_12_method_17_code
def yX10_wideOf : MethodName := ⟨RX10, "wideOf", "(I)I"⟩
abbrev cX10_feed : ByteArray := prog_12_method_18_code
def yX10_feed : MethodName := ⟨RX10, "feed", "(IIIII)I"⟩
abbrev cX10_end : ByteArray := prog_12_method_19_code
def yX10_end : MethodName := ⟨RX10, "end", "(I)I"⟩
abbrev cX10_see : ByteArray := prog_12_method_20_code
def yX10_see : MethodName := ⟨RX10, "see", "(I)I"⟩
abbrev cX10_advance : ByteArray := prog_12_method_21_code
def yX10_advance : MethodName := ⟨RX10, "advance", "()V"⟩
abbrev cX10_good : ByteArray := prog_12_method_22_code
def yX10_good : MethodName := ⟨RX10, "good", "()Z"⟩
abbrev cX10_errs : ByteArray := prog_12_method_23_code
def yX10_errs : MethodName := ⟨RX10, "errs", "(I)V"⟩
abbrev cX10_is : ByteArray := prog_12_method_24_code
def yX10_is : MethodName := ⟨RX10, "is", "(Ljava/lang/String;)Z"⟩
abbrev cX10_takes : ByteArray := prog_12_method_25_code
def yX10_takes : MethodName := ⟨RX10, "takes", "(Ljava/lang/String;)Z"⟩
abbrev cX10_needs : ByteArray := prog_12_method_26_code
def yX10_needs : MethodName := ⟨RX10, "needs", "(Ljava/lang/String;)V"⟩
abbrev cX10_number : ByteArray := prog_12_method_27_code
def yX10_number : MethodName := ⟨RX10, "number", "(II)I"⟩
abbrev cX10_told : ByteArray := prog_12_method_28_code
def yX10_told : MethodName := ⟨RX10, "told", "(Ljava/lang/String;II)I"⟩
abbrev cX10_fault : ByteArray := prog_12_method_29_code
def yX10_fault : MethodName := ⟨RX10, "fault", "(I)I"⟩
abbrev cX10_freshRoom : ByteArray := prog_12_method_30_code
def yX10_freshRoom : MethodName := ⟨RX10, "freshRoom", "(Ljava/lang/String;)I"⟩
abbrev cX10_readFirst : ByteArray := prog_12_method_31_code
def yX10_readFirst : MethodName := ⟨RX10, "readFirst", "()V"⟩
abbrev cX10_readDoor : ByteArray := prog_12_method_32_code
def yX10_readDoor : MethodName := ⟨RX10, "readDoor", "()V"⟩
abbrev cX10_readBid : ByteArray := prog_12_method_33_code
def yX10_readBid : MethodName := ⟨RX10, "readBid", "()V"⟩
abbrev cX10_isFull : ByteArray := prog_12_method_34_code
def yX10_isFull : MethodName := ⟨RX10, "isFull", "()Z"⟩
abbrev cX10_readNext : ByteArray := prog_12_method_35_code
def yX10_readNext : MethodName := ⟨RX10, "readNext", "()V"⟩
abbrev cX10_readLine : ByteArray := prog_12_method_36_code
def yX10_readLine : MethodName := ⟨RX10, "readLine", "()V"⟩
abbrev cX10_ball : ByteArray := prog_12_method_37_code
def yX10_ball : MethodName := ⟨RX10, "ball", "()I"⟩
abbrev cX10_door : ByteArray := prog_12_method_38_code
def yX10_door : MethodName := ⟨RX10, "door", "(II)I"⟩
abbrev cX10_lady : ByteArray := prog_12_method_39_code
def yX10_lady : MethodName := ⟨RX10, "lady", "(II)I"⟩
abbrev cX10_wayOf : ByteArray := prog_12_method_40_code
def yX10_wayOf : MethodName := ⟨RX10, "wayOf", "(III)I"⟩
abbrev cX10_layWays : ByteArray := prog_12_method_41_code
def yX10_layWays : MethodName := ⟨RX10, "layWays", "()V"⟩
abbrev cX10_atOf : ByteArray := prog_12_method_42_code
def yX10_atOf : MethodName := ⟨RX10, "atOf", "(II)I"⟩
abbrev cX10_biddenOf : ByteArray := prog_12_method_43_code
def yX10_biddenOf : MethodName := ⟨RX10, "biddenOf", "(II)I"⟩
abbrev cX10_nextRoom : ByteArray := prog_12_method_44_code
def yX10_nextRoom : MethodName := ⟨RX10, "nextRoom", "(III)I"⟩
abbrev cX10_layPlaces : ByteArray := prog_12_method_45_code
def yX10_layPlaces : MethodName := ⟨RX10, "layPlaces", "()V"⟩
abbrev cX10_layMinisters : ByteArray := prog_12_method_46_code
def yX10_layMinisters : MethodName := ⟨RX10, "layMinisters", "()V"⟩
abbrev cX10_asItIs : ByteArray := prog_12_method_47_code
def yX10_asItIs : MethodName := ⟨RX10, "asItIs", "()V"⟩
abbrev cX10_asksBall : ByteArray := prog_12_method_48_code
def yX10_asksBall : MethodName := ⟨RX10, "asksBall", "()Z"⟩
abbrev cX10_asksLady : ByteArray := prog_12_method_49_code
def yX10_asksLady : MethodName := ⟨RX10, "asksLady", "(I)Z"⟩
abbrev cX10_asksDance : ByteArray := prog_12_method_50_code
def yX10_asksDance : MethodName := ⟨RX10, "asksDance", "(I)Z"⟩
abbrev cX10_doMeet : ByteArray := prog_12_method_51_code
def yX10_doMeet : MethodName := ⟨RX10, "doMeet", "(III)Z"⟩
abbrev cX10_minister : ByteArray := prog_12_method_52_code
def yX10_minister : MethodName := ⟨RX10, "minister", "(II)I"⟩
abbrev cX10_way : ByteArray := prog_12_method_53_code
def yX10_way : MethodName := ⟨RX10, "way", "(III)I"⟩
abbrev cX10_reach : ByteArray := prog_12_method_54_code
def yX10_reach : MethodName := ⟨RX10, "reach", "(II)I"⟩
abbrev cX10_bidden : ByteArray := prog_12_method_55_code
def yX10_bidden : MethodName := ⟨RX10, "bidden", "(II)I"⟩
abbrev cX10_at : ByteArray := prog_12_method_56_code
def yX10_at : MethodName := ⟨RX10, "at", "(II)I"⟩
abbrev cX10_withinOf : ByteArray := prog_12_method_57_code
def yX10_withinOf : MethodName := ⟨RX10, "withinOf", "(II)I"⟩
abbrev cX10_within : ByteArray := prog_12_method_58_code
def yX10_within : MethodName := ⟨RX10, "within", "(II)I"⟩
abbrev cX10_stepsOf : ByteArray := prog_12_method_59_code
def yX10_stepsOf : MethodName := ⟨RX10, "stepsOf", "(I)I"⟩
abbrev cX10_steps : ByteArray := prog_12_method_60_code
def yX10_steps : MethodName := ⟨RX10, "steps", "(I)I"⟩
abbrev cX10_sees : ByteArray := prog_12_method_61_code
def yX10_sees : MethodName := ⟨RX10, "sees", "(I)I"⟩
abbrev cX10_firstMeet : ByteArray := prog_12_method_62_code
def yX10_firstMeet : MethodName := ⟨RX10, "firstMeet", "(II)I"⟩
abbrev cX10_meets : ByteArray := prog_12_method_63_code
def yX10_meets : MethodName := ⟨RX10, "meets", "(II)I"⟩
abbrev cX10_oftenMeet : ByteArray := prog_12_method_64_code
def yX10_oftenMeet : MethodName := ⟨RX10, "oftenMeet", "(II)I"⟩
abbrev cX10_often : ByteArray := prog_12_method_65_code
def yX10_often : MethodName := ⟨RX10, "often", "(II)I"⟩
abbrev cX10_friendsOf : ByteArray := prog_12_method_66_code
def yX10_friendsOf : MethodName := ⟨RX10, "friendsOf", "(I)I"⟩
abbrev cX10_friends : ByteArray := prog_12_method_67_code
def yX10_friends : MethodName := ⟨RX10, "friends", "(I)I"⟩
abbrev cX10_crushOf : ByteArray := prog_12_method_68_code
def yX10_crushOf : MethodName := ⟨RX10, "crushOf", "()I"⟩
abbrev cX10_crush : ByteArray := prog_12_method_69_code
def yX10_crush : MethodName := ⟨RX10, "crush", "()I"⟩
abbrev cX10_crushed : ByteArray := prog_12_method_70_code
def yX10_crushed : MethodName := ⟨RX10, "crushed", "()I"⟩
abbrev cX10_likes : ByteArray := prog_12_method_71_code
def yX10_likes : MethodName := ⟨RX10, "likes", "(I)I"⟩
abbrev cX10_apart : ByteArray := prog_12_method_72_code
def yX10_apart : MethodName := ⟨RX10, "apart", "(III)I"⟩
abbrev cX10_alone : ByteArray := prog_12_method_73_code
def yX10_alone : MethodName := ⟨RX10, "alone", "(I)I"⟩
abbrev cX10_empty : ByteArray := prog_12_method_74_code
def yX10_empty : MethodName := ⟨RX10, "empty", "(I)I"⟩
abbrev cX10_late : ByteArray := prog_12_method_75_code
def yX10_late : MethodName := ⟨RX10, "late", "(I)I"⟩
abbrev cX10_waits : ByteArray := prog_12_method_76_code
def yX10_waits : MethodName := ⟨RX10, "waits", "(I)I"⟩
abbrev cX10_mate : ByteArray := prog_12_method_77_code
def yX10_mate : MethodName := ⟨RX10, "mate", "(I)I"⟩
abbrev cX10_doesGive : ByteArray := prog_12_method_78_code
def yX10_doesGive : MethodName := ⟨RX10, "doesGive", "(II)Z"⟩
abbrev cX10_giverTo : ByteArray := prog_12_method_79_code
def yX10_giverTo : MethodName := ⟨RX10, "giverTo", "(III)I"⟩
abbrev cX10_goNote : ByteArray := prog_12_method_80_code
def yX10_goNote : MethodName := ⟨RX10, "goNote", "(II)I"⟩
abbrev cX10_goNote_ : ByteArray := prog_12_method_81_code
def yX10_goNote_ : MethodName := ⟨RX10, "goNote", "(I)I"⟩
abbrev cX10_have : ByteArray := prog_12_method_82_code
def yX10_have : MethodName := ⟨RX10, "have", "(II)I"⟩
abbrev cX10_asksNote : ByteArray := prog_12_method_83_code
def yX10_asksNote : MethodName := ⟨RX10, "asksNote", "(II)Z"⟩
abbrev cX10_gets : ByteArray := prog_12_method_84_code
def yX10_gets : MethodName := ⟨RX10, "gets", "(II)I"⟩
abbrev cX10_from : ByteArray := prog_12_method_85_code
def yX10_from : MethodName := ⟨RX10, "from", "(II)I"⟩
abbrev cX10_hands : ByteArray := prog_12_method_86_code
def yX10_hands : MethodName := ⟨RX10, "hands", "(II)I"⟩
abbrev cX10_all : ByteArray := prog_12_method_87_code
def yX10_all : MethodName := ⟨RX10, "all", "(I)I"⟩
abbrev cX10_best : ByteArray := prog_12_method_88_code
def yX10_best : MethodName := ⟨RX10, "best", "()I"⟩
abbrev cX10_lasts : ByteArray := prog_12_method_89_code
def yX10_lasts : MethodName := ⟨RX10, "lasts", "(I)I"⟩
abbrev cX10_needed : ByteArray := prog_12_method_90_code
def yX10_needed : MethodName := ⟨RX10, "needed", "(I)I"⟩
abbrev cX10_by : ByteArray := prog_12_method_91_code
def yX10_by : MethodName := ⟨RX10, "by", "(II)I"⟩
abbrev cX10_hears : ByteArray := prog_12_method_92_code
def yX10_hears : MethodName := ⟨RX10, "hears", "(I)I"⟩
abbrev cX10_carryState : ByteArray := prog_12_method_93_code
def yX10_carryState : MethodName := ⟨RX10, "carryState", "(III)I"⟩
abbrev cX10_takesIn : ByteArray := prog_12_method_94_code
def yX10_takesIn : MethodName := ⟨RX10, "takesIn", "(IIII)Z"⟩
abbrev cX10_isBeside : ByteArray := prog_12_method_95_code
def yX10_isBeside : MethodName := ⟨RX10, "isBeside", "(III)Z"⟩
abbrev cX10_layCarry : ByteArray := prog_12_method_96_code
def yX10_layCarry : MethodName := ⟨RX10, "layCarry", "(IIII)V"⟩
abbrev cX10_layWalk : ByteArray := prog_12_method_97_code
def yX10_layWalk : MethodName := ⟨RX10, "layWalk", "(III)I"⟩
abbrev cX10_asksCarry : ByteArray := prog_12_method_98_code
def yX10_asksCarry : MethodName := ⟨RX10, "asksCarry", "(III)Z"⟩
abbrev cX10_carry : ByteArray := prog_12_method_99_code
def yX10_carry : MethodName := ⟨RX10, "carry", "(III)I"⟩
abbrev cX10_walk : ByteArray := prog_12_method_100_code
def yX10_walk : MethodName := ⟨RX10, "walk", "(IIII)I"⟩
abbrev cX10_haveWith : ByteArray := prog_12_method_101_code
def yX10_haveWith : MethodName := ⟨RX10, "haveWith", "(III)I"⟩
abbrev cX10_widen : ByteArray := prog_12_method_102_code
def yX10_widen : MethodName := ⟨RX10, "widen", "(II)I"⟩
abbrev cX10_shut : ByteArray := prog_12_method_103_code
def yX10_shut : MethodName := ⟨RX10, "shut", "(II)I"⟩
abbrev cX10_bars : ByteArray := prog_12_method_104_code
def yX10_bars : MethodName := ⟨RX10, "bars", "(III)I"⟩
abbrev cX10_numberAt : ByteArray := prog_12_method_105_code
def yX10_numberAt : MethodName := ⟨RX10, "numberAt", "(II)J"⟩
abbrev cX10_isThree : ByteArray := prog_12_method_106_code
def yX10_isThree : MethodName := ⟨RX10, "isThree", "(II)Z"⟩
abbrev cX10_layFirsts : ByteArray := prog_12_method_107_code
def yX10_layFirsts : MethodName := ⟨RX10, "layFirsts", "(I)I"⟩
abbrev cX10_firsts : ByteArray := prog_12_method_108_code
def yX10_firsts : MethodName := ⟨RX10, "firsts", "(I)I"⟩
abbrev cX10_askOf : ByteArray := prog_12_method_109_code
def yX10_askOf : MethodName := ⟨RX10, "askOf", "(I)I"⟩
abbrev cX10_ask : ByteArray := prog_12_method_110_code
def yX10_ask : MethodName := ⟨RX10, "ask", "(I)I"⟩
abbrev cX10_leaves : ByteArray := prog_12_method_111_code
def yX10_leaves : MethodName := ⟨RX10, "leaves", "(I)I"⟩
abbrev cX10_seatsIn : ByteArray := prog_12_method_112_code
def yX10_seatsIn : MethodName := ⟨RX10, "seatsIn", "(I)I"⟩
abbrev cX10_allLadies : ByteArray := prog_12_method_113_code
def yX10_allLadies : MethodName := ⟨RX10, "allLadies", "()I"⟩
abbrev cX10_doesHold : ByteArray := prog_12_method_114_code
def yX10_doesHold : MethodName := ⟨RX10, "doesHold", "(I)Z"⟩
abbrev cX10_powerOf : ByteArray := prog_12_method_115_code
def yX10_powerOf : MethodName := ⟨RX10, "powerOf", "(I)I"⟩
abbrev cX10_seats : ByteArray := prog_12_method_116_code
def yX10_seats : MethodName := ⟨RX10, "seats", "(I)I"⟩
abbrev cX10_under : ByteArray := prog_12_method_117_code
def yX10_under : MethodName := ⟨RX10, "under", "(I)I"⟩
abbrev cX10_holds : ByteArray := prog_12_method_118_code
def yX10_holds : MethodName := ⟨RX10, "holds", "(I)I"⟩
abbrev cX10_blocks : ByteArray := prog_12_method_119_code
def yX10_blocks : MethodName := ⟨RX10, "blocks", "(I)I"⟩
abbrev cX10_power : ByteArray := prog_12_method_120_code
def yX10_power : MethodName := ⟨RX10, "power", "(I)I"⟩
abbrev cX10_divisor : ByteArray := prog_12_method_121_code
def yX10_divisor : MethodName := ⟨RX10, "divisor", "(JJ)J"⟩
abbrev cX10_lowest : ByteArray := prog_12_method_122_code
def yX10_lowest : MethodName := ⟨RX10, "lowest", "(JJI)J"⟩
abbrev cX10_part : ByteArray := prog_12_method_123_code
def yX10_part : MethodName := ⟨RX10, "part", "(II)I"⟩
abbrev cX10_dummies : ByteArray := prog_12_method_124_code
def yX10_dummies : MethodName := ⟨RX10, "dummies", "()I"⟩
abbrev cX10_strongest : ByteArray := prog_12_method_125_code
def yX10_strongest : MethodName := ⟨RX10, "strongest", "()I"⟩
abbrev cX10_cabinet : ByteArray := prog_12_method_126_code
def yX10_cabinet : MethodName := ⟨RX10, "cabinet", "()I"⟩
abbrev cX10_isLeast : ByteArray := prog_12_method_127_code
def yX10_isLeast : MethodName := ⟨RX10, "isLeast", "(I)Z"⟩
abbrev cX10_cabinets : ByteArray := prog_12_method_128_code
def yX10_cabinets : MethodName := ⟨RX10, "cabinets", "()I"⟩
abbrev cX10_kingmaker : ByteArray := prog_12_method_129_code
def yX10_kingmaker : MethodName := ⟨RX10, "kingmaker", "()I"⟩
abbrev cX10_gainsBy : ByteArray := prog_12_method_130_code
def yX10_gainsBy : MethodName := ⟨RX10, "gainsBy", "(IIIII)I"⟩
abbrev cX10_areTwo : ByteArray := prog_12_method_131_code
def yX10_areTwo : MethodName := ⟨RX10, "areTwo", "(II)Z"⟩
abbrev cX10_rests : ByteArray := prog_12_method_132_code
def yX10_rests : MethodName := ⟨RX10, "rests", "(II)I"⟩
abbrev cX10_gains : ByteArray := prog_12_method_133_code
def yX10_gains : MethodName := ⟨RX10, "gains", "(IIII)I"⟩
abbrev cX10_layMusic : ByteArray := prog_12_method_134_code
def yX10_layMusic : MethodName := ⟨RX10, "layMusic", "(III)V"⟩
abbrev cX10_asksMusic : ByteArray := prog_12_method_135_code
def yX10_asksMusic : MethodName := ⟨RX10, "asksMusic", "(III)Z"⟩
abbrev cX10_chance : ByteArray := prog_12_method_136_code
def yX10_chance : MethodName := ⟨RX10, "chance", "(IIII)J"⟩
abbrev cX10_mean : ByteArray := prog_12_method_137_code
def yX10_mean : MethodName := ⟨RX10, "mean", "(III)J"⟩
abbrev cX10_keepAct : ByteArray := prog_12_method_138_code
def yX10_keepAct : MethodName := ⟨RX10, "keepAct", "(I)I"⟩
abbrev cX10_bid : ByteArray := prog_12_method_139_code
def yX10_bid : MethodName := ⟨RX10, "bid", "(III)I"⟩
abbrev cX10_move : ByteArray := prog_12_method_140_code
def yX10_move : MethodName := ⟨RX10, "move", "(II)I"⟩
abbrev cX10_undo : ByteArray := prog_12_method_141_code
def yX10_undo : MethodName := ⟨RX10, "undo", "()I"⟩
abbrev cX10_anew : ByteArray := prog_12_method_142_code
def yX10_anew : MethodName := ⟨RX10, "anew", "()I"⟩
abbrev cX10_goDrawn : ByteArray := prog_12_method_143_code
def yX10_goDrawn : MethodName := ⟨RX10, "goDrawn", "(JI)I"⟩
abbrev cX10_isSeed : ByteArray := prog_12_method_144_code
def yX10_isSeed : MethodName := ⟨RX10, "isSeed", "(I)Z"⟩
abbrev cX10_drawn : ByteArray := prog_12_method_145_code
def yX10_drawn : MethodName := ⟨RX10, "drawn", "(III)I"⟩
abbrev cX10_luck : ByteArray := prog_12_method_146_code
def yX10_luck : MethodName := ⟨RX10, "luck", "(IIII)I"⟩
abbrev cX10_hang : ByteArray := prog_12_method_147_code
def yX10_hang : MethodName := ⟨RX10, "hang", "(II)I"⟩
abbrev cX10_count : ByteArray := prog_12_method_148_code
def yX10_count : MethodName := ⟨RX10, "count", "(I)I"⟩
abbrev cX10_isSlot : ByteArray := prog_12_method_149_code
def yX10_isSlot : MethodName := ⟨RX10, "isSlot", "(I)Z"⟩
abbrev cX10_cut : ByteArray := prog_12_method_150_code
def yX10_cut : MethodName := ⟨RX10, "cut", "(JI)J"⟩
abbrev cX10_row : ByteArray := prog_12_method_151_code
def yX10_row : MethodName := ⟨RX10, "row", "(III)I"⟩
abbrev cX10_write : ByteArray := prog_12_method_152_code
def yX10_write : MethodName := ⟨RX10, "write", "(IIJ)I"⟩
abbrev cX10_paste : ByteArray := prog_12_method_153_code
def yX10_paste : MethodName := ⟨RX10, "paste", "(IIIII)I"⟩
def RJx145de : String := "java/io/Serializable"
def TJx145de : u_T := fun k => match k with
  | _ => ("", "", "", false)
def tyJx145de : Nat → FieldType := fun k => match k with
  | _ => .int
abbrev wsJx145de0 : List Cond := u_ws RJx145de TJx145de 0
theorem nmJx145de : ∀ a, a < 0 → ∀ b, b < 0 → a ≠ b → (TJx145de a).2.1 ≠ (TJx145de b).2.1 := by decide +kernel
theorem tyJx145de_ok : ∀ k, k < 0 → parseFieldDescriptor (TJx145de k).2.2.1 = some (tyJx145de k) := by decide +kernel
def RJx9f9b0 : String := "java/lang/CharSequence"
def TJx9f9b0 : u_T := fun k => match k with
  | _ => ("", "", "", false)
def tyJx9f9b0 : Nat → FieldType := fun k => match k with
  | _ => .int
abbrev wsJx9f9b00 : List Cond := u_ws RJx9f9b0 TJx9f9b0 0
theorem nmJx9f9b0 : ∀ a, a < 0 → ∀ b, b < 0 → a ≠ b → (TJx9f9b0 a).2.1 ≠ (TJx9f9b0 b).2.1 := by decide +kernel
theorem tyJx9f9b0_ok : ∀ k, k < 0 → parseFieldDescriptor (TJx9f9b0 k).2.2.1 = some (tyJx9f9b0 k) := by decide +kernel
def RJxb160c : String := "java/lang/Comparable"
def TJxb160c : u_T := fun k => match k with
  | _ => ("", "", "", false)
def tyJxb160c : Nat → FieldType := fun k => match k with
  | _ => .int
abbrev wsJxb160c0 : List Cond := u_ws RJxb160c TJxb160c 0
theorem nmJxb160c : ∀ a, a < 0 → ∀ b, b < 0 → a ≠ b → (TJxb160c a).2.1 ≠ (TJxb160c b).2.1 := by decide +kernel
theorem tyJxb160c_ok : ∀ k, k < 0 → parseFieldDescriptor (TJxb160c k).2.2.1 = some (tyJxb160c k) := by decide +kernel
def RJ6 : String := "java/lang/Integer"
def TJ6 : u_T := fun k => match k with
  | _ => ("", "", "", false)
def tyJ6 : Nat → FieldType := fun k => match k with
  | _ => .int
abbrev wsJ60 : List Cond := u_ws RJ6 TJ6 0
theorem nmJ6 : ∀ a, a < 0 → ∀ b, b < 0 → a ≠ b → (TJ6 a).2.1 ≠ (TJ6 b).2.1 := by decide +kernel
theorem tyJ6_ok : ∀ k, k < 0 → parseFieldDescriptor (TJ6 k).2.2.1 = some (tyJ6 k) := by decide +kernel
abbrev cJ6_bitCount_0f7a4 : ByteArray := prog_13_method_49_code
def yJ6_bitCount_0f7a4 : MethodName := ⟨RJ6, "bitCount", "(I)I"⟩
def RJ9 : String := "java/lang/Math"
def TJ9 : u_T := fun k => match k with
  | _ => ("", "", "", false)
def tyJ9 : Nat → FieldType := fun k => match k with
  | _ => .int
abbrev wsJ90 : List Cond := u_ws RJ9 TJ9 0
theorem nmJ9 : ∀ a, a < 0 → ∀ b, b < 0 → a ≠ b → (TJ9 a).2.1 ≠ (TJ9 b).2.1 := by decide +kernel
theorem tyJ9_ok : ∀ k, k < 0 → parseFieldDescriptor (TJ9 k).2.2.1 = some (tyJ9 k) := by decide +kernel
abbrev cJ9_max_7cf53 : ByteArray := prog_14_method_65_code
def yJ9_max_7cf53 : MethodName := ⟨RJ9, "max", "(II)I"⟩
abbrev cJ9_min_7cf53 : ByteArray := prog_14_method_69_code
def yJ9_min_7cf53 : MethodName := ⟨RJ9, "min", "(II)I"⟩
def RJ0 : String := "java/lang/String"
def TJ0 : u_T := fun k => match k with
  | _ => ("", "", "", false)
def tyJ0 : Nat → FieldType := fun k => match k with
  | _ => .int
abbrev wsJ00 : List Cond := u_ws RJ0 TJ0 0
theorem nmJ0 : ∀ a, a < 0 → ∀ b, b < 0 → a ≠ b → (TJ0 a).2.1 ≠ (TJ0 b).2.1 := by decide +kernel
theorem tyJ0_ok : ∀ k, k < 0 → parseFieldDescriptor (TJ0 k).2.2.1 = some (tyJ0 k) := by decide +kernel
abbrev cJ0_length_8abf5 : ByteArray := prog_15_method_54_code
def yJ0_length_8abf5 : MethodName := ⟨RJ0, "length", "()I"⟩
abbrev cJ0_charAt_5068e : ByteArray := prog_15_method_56_code
def yJ0_charAt_5068e : MethodName := ⟨RJ0, "charAt", "(I)C"⟩
abbrev cJ0_coder_7d493 : ByteArray := prog_15_method_152_code
def yJ0_coder_7d493 : MethodName := ⟨RJ0, "coder", "()B"⟩
abbrev cJ0_isLatin1_aae02 : ByteArray := prog_15_method_154_code
def yJ0_isLatin1_aae02 : MethodName := ⟨RJ0, "isLatin1", "()Z"⟩
abbrev cJ0_checkIndex_df160 : ByteArray := prog_15_method_155_code
def yJ0_checkIndex_df160 : MethodName := ⟨RJ0, "checkIndex", "(II)V"⟩
def RJ1 : String := "java/lang/StringLatin1"
def TJ1 : u_T := fun k => match k with
  | _ => ("", "", "", false)
def tyJ1 : Nat → FieldType := fun k => match k with
  | _ => .int
abbrev wsJ10 : List Cond := u_ws RJ1 TJ1 0
theorem nmJ1 : ∀ a, a < 0 → ∀ b, b < 0 → a ≠ b → (TJ1 a).2.1 ≠ (TJ1 b).2.1 := by decide +kernel
theorem tyJ1_ok : ∀ k, k < 0 → parseFieldDescriptor (TJ1 k).2.2.1 = some (tyJ1 k) := by decide +kernel
abbrev cJ1_charAt_3b067 : ByteArray := prog_16_method_2_code
def yJ1_charAt_3b067 : MethodName := ⟨RJ1, "charAt", "([BI)C"⟩
def RJ2 : String := "java/lang/StringUTF16"
def TJ2 : u_T := fun k => match k with
  | _ => ("", "", "", false)
def tyJ2 : Nat → FieldType := fun k => match k with
  | _ => .int
abbrev wsJ20 : List Cond := u_ws RJ2 TJ2 0
theorem nmJ2 : ∀ a, a < 0 → ∀ b, b < 0 → a ≠ b → (TJ2 a).2.1 ≠ (TJ2 b).2.1 := by decide +kernel
theorem tyJ2_ok : ∀ k, k < 0 → parseFieldDescriptor (TJ2 k).2.2.1 = some (tyJ2 k) := by decide +kernel
abbrev cJ2_getChar_3b067 : ByteArray := prog_17_method_5_code
def yJ2_getChar_3b067 : MethodName := ⟨RJ2, "getChar", "([BI)C"⟩
abbrev cJ2_length_9d52b : ByteArray := prog_17_method_6_code
def yJ2_length_9d52b : MethodName := ⟨RJ2, "length", "([B)I"⟩
abbrev cJ2_charAt_3b067 : ByteArray := prog_17_method_83_code
def yJ2_charAt_3b067 : MethodName := ⟨RJ2, "charAt", "([BI)C"⟩
abbrev cJ2_checkIndex_2214a : ByteArray := prog_17_method_91_code
def yJ2_checkIndex_2214a : MethodName := ⟨RJ2, "checkIndex", "(I[B)V"⟩
def RJ10 : String := "java/lang/System"
def TJ10 : u_T := fun k => match k with
  | _ => ("", "", "", false)
def tyJ10 : Nat → FieldType := fun k => match k with
  | _ => .int
abbrev wsJ100 : List Cond := u_ws RJ10 TJ10 0
theorem nmJ10 : ∀ a, a < 0 → ∀ b, b < 0 → a ≠ b → (TJ10 a).2.1 ≠ (TJ10 b).2.1 := by decide +kernel
theorem tyJ10_ok : ∀ k, k < 0 → parseFieldDescriptor (TJ10 k).2.2.1 = some (tyJ10 k) := by decide +kernel
def RJxfd54e : String := "java/lang/constant/Constable"
def TJxfd54e : u_T := fun k => match k with
  | _ => ("", "", "", false)
def tyJxfd54e : Nat → FieldType := fun k => match k with
  | _ => .int
abbrev wsJxfd54e0 : List Cond := u_ws RJxfd54e TJxfd54e 0
theorem nmJxfd54e : ∀ a, a < 0 → ∀ b, b < 0 → a ≠ b → (TJxfd54e a).2.1 ≠ (TJxfd54e b).2.1 := by decide +kernel
theorem tyJxfd54e_ok : ∀ k, k < 0 → parseFieldDescriptor (TJxfd54e k).2.2.1 = some (tyJxfd54e k) := by decide +kernel
def RJx3cf43 : String := "java/lang/constant/ConstantDesc"
def TJx3cf43 : u_T := fun k => match k with
  | _ => ("", "", "", false)
def tyJx3cf43 : Nat → FieldType := fun k => match k with
  | _ => .int
abbrev wsJx3cf430 : List Cond := u_ws RJx3cf43 TJx3cf43 0
theorem nmJx3cf43 : ∀ a, a < 0 → ∀ b, b < 0 → a ≠ b → (TJx3cf43 a).2.1 ≠ (TJx3cf43 b).2.1 := by decide +kernel
theorem tyJx3cf43_ok : ∀ k, k < 0 → parseFieldDescriptor (TJx3cf43 k).2.2.1 = some (tyJx3cf43 k) := by decide +kernel
def RJ7 : String := "java/util/Arrays"
def TJ7 : u_T := fun k => match k with
  | _ => ("", "", "", false)
def tyJ7 : Nat → FieldType := fun k => match k with
  | _ => .int
abbrev wsJ70 : List Cond := u_ws RJ7 TJ7 0
theorem nmJ7 : ∀ a, a < 0 → ∀ b, b < 0 → a ≠ b → (TJ7 a).2.1 ≠ (TJ7 b).2.1 := by decide +kernel
theorem tyJ7_ok : ∀ k, k < 0 → parseFieldDescriptor (TJ7 k).2.2.1 = some (tyJ7 k) := by decide +kernel
abbrev cJ7_fill_d0a16 : ByteArray := prog_19_method_101_code
def yJ7_fill_d0a16 : MethodName := ⟨RJ7, "fill", "([JJ)V"⟩
abbrev cJ7_fill_53178 : ByteArray := prog_19_method_103_code
def yJ7_fill_53178 : MethodName := ⟨RJ7, "fill", "([II)V"⟩
def RJ3 : String := "jdk/internal/util/Preconditions"
def TJ3 : u_T := fun k => match k with
  | _ => ("", "", "", false)
def tyJ3 : Nat → FieldType := fun k => match k with
  | _ => .int
abbrev wsJ30 : List Cond := u_ws RJ3 TJ3 0
theorem nmJ3 : ∀ a, a < 0 → ∀ b, b < 0 → a ≠ b → (TJ3 a).2.1 ≠ (TJ3 b).2.1 := by decide +kernel
theorem tyJ3_ok : ∀ k, k < 0 → parseFieldDescriptor (TJ3 k).2.2.1 = some (tyJ3 k) := by decide +kernel
abbrev cJ3_checkIndex_8e157 : ByteArray := prog_20_method_11_code
def yJ3_checkIndex_8e157 : MethodName := ⟨RJ3, "checkIndex", "(IILjava/util/function/BiFunction;)I"⟩
def RL : String := "HoopCabinetLaw"
abbrev cL_law : ByteArray := code
def yL_law : MethodName := ⟨RL, "law", "([I)Z"⟩
abbrev vwCl : List vw_C := [(RX0, TX0, 10), (RX1, TX1, 8), (RX2, TX2, 8), (RX3, TX3, 3), (RX4, TX4, 3), (RX5, TX5, 6), (RX6, TX6, 8), (RX7, TX7, 3), (RX8, TX8, 4), (RX9, TX9, 15), (RX10, TX10, 40)]
