section
-- ===== PART A: goes FIRST, ahead of the names: the tables' words, and 'selects' of the private methods out of them =====
/-- a private method of a class that the tables say can be made, by its rows of tables_1 -/
def lw_okq (q : MethodName × Nat) : Prop := (q.1.cls ≠ "java/lang/invoke/MethodHandle" ∧ q.1.cls ≠ "java/lang/invoke/VarHandle") ∧ Cond.instantiable q.1.cls q.2 ∈ tables_1 ∧ Cond.privateMethod q.1 ∈ tables_1 ∧ Cond.instanceMethod q.1 ∈ tables_1
theorem lw_p0 : lw_okq (⟨"SilkHouse$Skeins", "set", "(III)V"⟩, 3) := ⟨⟨by decide +kernel, by decide +kernel⟩, List.mem_of_getElem? (i := 30) (by decide +kernel), List.mem_of_getElem? (i := 418) (by decide +kernel), List.mem_of_getElem? (i := 419) (by decide +kernel)⟩
theorem lw_p1 : lw_okq (⟨"SilkHouse$Scales", "lastBy", "(II)I"⟩, 4) := ⟨⟨by decide +kernel, by decide +kernel⟩, List.mem_of_getElem? (i := 51) (by decide +kernel), List.mem_of_getElem? (i := 463) (by decide +kernel), List.mem_of_getElem? (i := 464) (by decide +kernel)⟩
theorem lw_p2 : lw_okq (⟨"SilkHouse$Scales", "firstAfter", "(II)I"⟩, 4) := ⟨⟨by decide +kernel, by decide +kernel⟩, List.mem_of_getElem? (i := 51) (by decide +kernel), List.mem_of_getElem? (i := 467) (by decide +kernel), List.mem_of_getElem? (i := 468) (by decide +kernel)⟩
theorem lw_p3 : lw_okq (⟨"SilkHouse$Scales", "driftOf", "(II)I"⟩, 4) := ⟨⟨by decide +kernel, by decide +kernel⟩, List.mem_of_getElem? (i := 51) (by decide +kernel), List.mem_of_getElem? (i := 471) (by decide +kernel), List.mem_of_getElem? (i := 472) (by decide +kernel)⟩
theorem lw_p4 : lw_okq (⟨"SilkHouse", "balesIn", "(I)I"⟩, 11) := ⟨⟨by decide +kernel, by decide +kernel⟩, List.mem_of_getElem? (i := 22) (by decide +kernel), List.mem_of_getElem? (i := 516) (by decide +kernel), List.mem_of_getElem? (i := 517) (by decide +kernel)⟩
theorem lw_p5 : lw_okq (⟨"SilkHouse$Book", "findCounting", "(I)V"⟩, 9) := ⟨⟨by decide +kernel, by decide +kernel⟩, List.mem_of_getElem? (i := 108) (by decide +kernel), List.mem_of_getElem? (i := 529) (by decide +kernel), List.mem_of_getElem? (i := 530) (by decide +kernel)⟩
theorem lw_p6 : lw_okq (⟨"SilkHouse$Book", "isStruck", "(I)Z"⟩, 9) := ⟨⟨by decide +kernel, by decide +kernel⟩, List.mem_of_getElem? (i := 108) (by decide +kernel), List.mem_of_getElem? (i := 533) (by decide +kernel), List.mem_of_getElem? (i := 534) (by decide +kernel)⟩
theorem lw_p7 : lw_okq (⟨"SilkHouse$Book", "strikes", "(II)Z"⟩, 9) := ⟨⟨by decide +kernel, by decide +kernel⟩, List.mem_of_getElem? (i := 108) (by decide +kernel), List.mem_of_getElem? (i := 537) (by decide +kernel), List.mem_of_getElem? (i := 538) (by decide +kernel)⟩
theorem lw_p8 : lw_okq (⟨"SilkHouse$Book", "lastOf", "(II)I"⟩, 9) := ⟨⟨by decide +kernel, by decide +kernel⟩, List.mem_of_getElem? (i := 108) (by decide +kernel), List.mem_of_getElem? (i := 543) (by decide +kernel), List.mem_of_getElem? (i := 544) (by decide +kernel)⟩
theorem lw_p9 : lw_okq (⟨"SilkHouse$Judge", "settle", "(II)I"⟩, 5) := ⟨⟨by decide +kernel, by decide +kernel⟩, List.mem_of_getElem? (i := 174) (by decide +kernel), List.mem_of_getElem? (i := 547) (by decide +kernel), List.mem_of_getElem? (i := 548) (by decide +kernel)⟩
theorem lw_p10 : lw_okq (⟨"SilkHouse$Judge", "settleByTwo", "(I)I"⟩, 5) := ⟨⟨by decide +kernel, by decide +kernel⟩, List.mem_of_getElem? (i := 174) (by decide +kernel), List.mem_of_getElem? (i := 559) (by decide +kernel), List.mem_of_getElem? (i := 560) (by decide +kernel)⟩
theorem lw_p11 : lw_okq (⟨"SilkHouse$Judge", "lesserOf", "(II)I"⟩, 5) := ⟨⟨by decide +kernel, by decide +kernel⟩, List.mem_of_getElem? (i := 174) (by decide +kernel), List.mem_of_getElem? (i := 563) (by decide +kernel), List.mem_of_getElem? (i := 564) (by decide +kernel)⟩
theorem lw_p12 : lw_okq (⟨"SilkHouse$Judge", "settleByThree", "(I)I"⟩, 5) := ⟨⟨by decide +kernel, by decide +kernel⟩, List.mem_of_getElem? (i := 174) (by decide +kernel), List.mem_of_getElem? (i := 567) (by decide +kernel), List.mem_of_getElem? (i := 568) (by decide +kernel)⟩
theorem lw_p13 : lw_okq (⟨"SilkHouse$Judge", "middleLook", "()I"⟩, 5) := ⟨⟨by decide +kernel, by decide +kernel⟩, List.mem_of_getElem? (i := 174) (by decide +kernel), List.mem_of_getElem? (i := 571) (by decide +kernel), List.mem_of_getElem? (i := 572) (by decide +kernel)⟩
theorem lw_p14 : lw_okq (⟨"SilkHouse$Judge", "settleByNearest", "()I"⟩, 5) := ⟨⟨by decide +kernel, by decide +kernel⟩, List.mem_of_getElem? (i := 174) (by decide +kernel), List.mem_of_getElem? (i := 575) (by decide +kernel), List.mem_of_getElem? (i := 576) (by decide +kernel)⟩
theorem lw_p15 : lw_okq (⟨"SilkHouse", "fees", "()I"⟩, 11) := ⟨⟨by decide +kernel, by decide +kernel⟩, List.mem_of_getElem? (i := 22) (by decide +kernel), List.mem_of_getElem? (i := 584) (by decide +kernel), List.mem_of_getElem? (i := 585) (by decide +kernel)⟩
def lw_privs_1 : List (MethodName × Nat) := [(⟨"SilkHouse$Skeins", "set", "(III)V"⟩, 3), (⟨"SilkHouse$Scales", "lastBy", "(II)I"⟩, 4), (⟨"SilkHouse$Scales", "firstAfter", "(II)I"⟩, 4), (⟨"SilkHouse$Scales", "driftOf", "(II)I"⟩, 4), (⟨"SilkHouse", "balesIn", "(I)I"⟩, 11), (⟨"SilkHouse$Book", "findCounting", "(I)V"⟩, 9), (⟨"SilkHouse$Book", "isStruck", "(I)Z"⟩, 9), (⟨"SilkHouse$Book", "strikes", "(II)Z"⟩, 9), (⟨"SilkHouse$Book", "lastOf", "(II)I"⟩, 9), (⟨"SilkHouse$Judge", "settle", "(II)I"⟩, 5), (⟨"SilkHouse$Judge", "settleByTwo", "(I)I"⟩, 5), (⟨"SilkHouse$Judge", "lesserOf", "(II)I"⟩, 5), (⟨"SilkHouse$Judge", "settleByThree", "(I)I"⟩, 5), (⟨"SilkHouse$Judge", "middleLook", "()I"⟩, 5), (⟨"SilkHouse$Judge", "settleByNearest", "()I"⟩, 5), (⟨"SilkHouse", "fees", "()I"⟩, 11)]
theorem lw_r1 : ∀ q ∈ lw_privs_1, lw_okq q := List.forall_mem_cons.mpr ⟨lw_p0, List.forall_mem_cons.mpr ⟨lw_p1, List.forall_mem_cons.mpr ⟨lw_p2, List.forall_mem_cons.mpr ⟨lw_p3, List.forall_mem_cons.mpr ⟨lw_p4, List.forall_mem_cons.mpr ⟨lw_p5, List.forall_mem_cons.mpr ⟨lw_p6, List.forall_mem_cons.mpr ⟨lw_p7, List.forall_mem_cons.mpr ⟨lw_p8, List.forall_mem_cons.mpr ⟨lw_p9, List.forall_mem_cons.mpr ⟨lw_p10, List.forall_mem_cons.mpr ⟨lw_p11, List.forall_mem_cons.mpr ⟨lw_p12, List.forall_mem_cons.mpr ⟨lw_p13, List.forall_mem_cons.mpr ⟨lw_p14, List.forall_mem_cons.mpr ⟨lw_p15, fun _ h => absurd h List.not_mem_nil⟩⟩⟩⟩⟩⟩⟩⟩⟩⟩⟩⟩⟩⟩⟩⟩
theorem lw_p16 : lw_okq (⟨"SilkHouse$Reader", "skipBlanks", "()Z"⟩, 6) := ⟨⟨by decide +kernel, by decide +kernel⟩, List.mem_of_getElem? (i := 147) (by decide +kernel), List.mem_of_getElem? (i := 613) (by decide +kernel), List.mem_of_getElem? (i := 614) (by decide +kernel)⟩
theorem lw_p17 : lw_okq (⟨"SilkHouse$Reader", "readClause", "()Z"⟩, 6) := ⟨⟨by decide +kernel, by decide +kernel⟩, List.mem_of_getElem? (i := 147) (by decide +kernel), List.mem_of_getElem? (i := 617) (by decide +kernel), List.mem_of_getElem? (i := 618) (by decide +kernel)⟩
theorem lw_p18 : lw_okq (⟨"SilkHouse$Reader", "readOneOf", "(Ljava/lang/String;)I"⟩, 6) := ⟨⟨by decide +kernel, by decide +kernel⟩, List.mem_of_getElem? (i := 147) (by decide +kernel), List.mem_of_getElem? (i := 622) (by decide +kernel), List.mem_of_getElem? (i := 623) (by decide +kernel)⟩
theorem lw_p19 : lw_okq (⟨"SilkHouse$Reader", "endOfRun", "(CC)I"⟩, 6) := ⟨⟨by decide +kernel, by decide +kernel⟩, List.mem_of_getElem? (i := 147) (by decide +kernel), List.mem_of_getElem? (i := 626) (by decide +kernel), List.mem_of_getElem? (i := 627) (by decide +kernel)⟩
theorem lw_p20 : lw_okq (⟨"SilkHouse$Reader", "isSame", "(Ljava/lang/String;III)Z"⟩, 6) := ⟨⟨by decide +kernel, by decide +kernel⟩, List.mem_of_getElem? (i := 147) (by decide +kernel), List.mem_of_getElem? (i := 678) (by decide +kernel), List.mem_of_getElem? (i := 679) (by decide +kernel)⟩
theorem lw_p21 : lw_okq (⟨"SilkHouse$Reader", "fail", "(II)Z"⟩, 6) := ⟨⟨by decide +kernel, by decide +kernel⟩, List.mem_of_getElem? (i := 147) (by decide +kernel), List.mem_of_getElem? (i := 682) (by decide +kernel), List.mem_of_getElem? (i := 683) (by decide +kernel)⟩
theorem lw_p22 : lw_okq (⟨"SilkHouse$Reader", "readLet", "()Z"⟩, 6) := ⟨⟨by decide +kernel, by decide +kernel⟩, List.mem_of_getElem? (i := 147) (by decide +kernel), List.mem_of_getElem? (i := 686) (by decide +kernel), List.mem_of_getElem? (i := 687) (by decide +kernel)⟩
theorem lw_p23 : lw_okq (⟨"SilkHouse$Reader", "readNumber", "(II)I"⟩, 6) := ⟨⟨by decide +kernel, by decide +kernel⟩, List.mem_of_getElem? (i := 147) (by decide +kernel), List.mem_of_getElem? (i := 695) (by decide +kernel), List.mem_of_getElem? (i := 696) (by decide +kernel)⟩
theorem lw_p24 : lw_okq (⟨"SilkHouse$Reader", "readStop", "()Z"⟩, 6) := ⟨⟨by decide +kernel, by decide +kernel⟩, List.mem_of_getElem? (i := 147) (by decide +kernel), List.mem_of_getElem? (i := 700) (by decide +kernel), List.mem_of_getElem? (i := 701) (by decide +kernel)⟩
theorem lw_p25 : lw_okq (⟨"SilkHouse$Reader", "readTake", "()Z"⟩, 6) := ⟨⟨by decide +kernel, by decide +kernel⟩, List.mem_of_getElem? (i := 147) (by decide +kernel), List.mem_of_getElem? (i := 708) (by decide +kernel), List.mem_of_getElem? (i := 709) (by decide +kernel)⟩
theorem lw_p26 : lw_okq (⟨"SilkHouse$Reader", "readName", "()Z"⟩, 6) := ⟨⟨by decide +kernel, by decide +kernel⟩, List.mem_of_getElem? (i := 147) (by decide +kernel), List.mem_of_getElem? (i := 713) (by decide +kernel), List.mem_of_getElem? (i := 714) (by decide +kernel)⟩
theorem lw_p27 : lw_okq (⟨"SilkHouse$Reader", "readWord", "()Z"⟩, 6) := ⟨⟨by decide +kernel, by decide +kernel⟩, List.mem_of_getElem? (i := 147) (by decide +kernel), List.mem_of_getElem? (i := 717) (by decide +kernel), List.mem_of_getElem? (i := 718) (by decide +kernel)⟩
theorem lw_p28 : lw_okq (⟨"SilkHouse$Reader", "readStrike", "()Z"⟩, 6) := ⟨⟨by decide +kernel, by decide +kernel⟩, List.mem_of_getElem? (i := 147) (by decide +kernel), List.mem_of_getElem? (i := 726) (by decide +kernel), List.mem_of_getElem? (i := 727) (by decide +kernel)⟩
theorem lw_p29 : lw_okq (⟨"SilkHouse", "moistened", "(II)J"⟩, 11) := ⟨⟨by decide +kernel, by decide +kernel⟩, List.mem_of_getElem? (i := 22) (by decide +kernel), List.mem_of_getElem? (i := 769) (by decide +kernel), List.mem_of_getElem? (i := 770) (by decide +kernel)⟩
theorem lw_p30 : lw_okq (⟨"SilkHouse", "errors", "(IZ)I"⟩, 11) := ⟨⟨by decide +kernel, by decide +kernel⟩, List.mem_of_getElem? (i := 22) (by decide +kernel), List.mem_of_getElem? (i := 783) (by decide +kernel), List.mem_of_getElem? (i := 784) (by decide +kernel)⟩
theorem lw_p31 : lw_okq (⟨"SilkHouse$Doubts", "gatherWithout", "(II)I"⟩, 8) := ⟨⟨by decide +kernel, by decide +kernel⟩, List.mem_of_getElem? (i := 221) (by decide +kernel), List.mem_of_getElem? (i := 803) (by decide +kernel), List.mem_of_getElem? (i := 804) (by decide +kernel)⟩
def lw_privs_2 : List (MethodName × Nat) := [(⟨"SilkHouse$Reader", "skipBlanks", "()Z"⟩, 6), (⟨"SilkHouse$Reader", "readClause", "()Z"⟩, 6), (⟨"SilkHouse$Reader", "readOneOf", "(Ljava/lang/String;)I"⟩, 6), (⟨"SilkHouse$Reader", "endOfRun", "(CC)I"⟩, 6), (⟨"SilkHouse$Reader", "isSame", "(Ljava/lang/String;III)Z"⟩, 6), (⟨"SilkHouse$Reader", "fail", "(II)Z"⟩, 6), (⟨"SilkHouse$Reader", "readLet", "()Z"⟩, 6), (⟨"SilkHouse$Reader", "readNumber", "(II)I"⟩, 6), (⟨"SilkHouse$Reader", "readStop", "()Z"⟩, 6), (⟨"SilkHouse$Reader", "readTake", "()Z"⟩, 6), (⟨"SilkHouse$Reader", "readName", "()Z"⟩, 6), (⟨"SilkHouse$Reader", "readWord", "()Z"⟩, 6), (⟨"SilkHouse$Reader", "readStrike", "()Z"⟩, 6), (⟨"SilkHouse", "moistened", "(II)J"⟩, 11), (⟨"SilkHouse", "errors", "(IZ)I"⟩, 11), (⟨"SilkHouse$Doubts", "gatherWithout", "(II)I"⟩, 8)]
theorem lw_r2 : ∀ q ∈ lw_privs_2, lw_okq q := List.forall_mem_cons.mpr ⟨lw_p16, List.forall_mem_cons.mpr ⟨lw_p17, List.forall_mem_cons.mpr ⟨lw_p18, List.forall_mem_cons.mpr ⟨lw_p19, List.forall_mem_cons.mpr ⟨lw_p20, List.forall_mem_cons.mpr ⟨lw_p21, List.forall_mem_cons.mpr ⟨lw_p22, List.forall_mem_cons.mpr ⟨lw_p23, List.forall_mem_cons.mpr ⟨lw_p24, List.forall_mem_cons.mpr ⟨lw_p25, List.forall_mem_cons.mpr ⟨lw_p26, List.forall_mem_cons.mpr ⟨lw_p27, List.forall_mem_cons.mpr ⟨lw_p28, List.forall_mem_cons.mpr ⟨lw_p29, List.forall_mem_cons.mpr ⟨lw_p30, List.forall_mem_cons.mpr ⟨lw_p31, fun _ h => absurd h List.not_mem_nil⟩⟩⟩⟩⟩⟩⟩⟩⟩⟩⟩⟩⟩⟩⟩⟩
theorem lw_p32 : lw_okq (⟨"SilkHouse$Doubts", "isInDoubt", "(I)Z"⟩, 8) := ⟨⟨by decide +kernel, by decide +kernel⟩, List.mem_of_getElem? (i := 221) (by decide +kernel), List.mem_of_getElem? (i := 808) (by decide +kernel), List.mem_of_getElem? (i := 809) (by decide +kernel)⟩
theorem lw_p33 : lw_okq (⟨"SilkHouse$Doubts", "heap", "(II)V"⟩, 8) := ⟨⟨by decide +kernel, by decide +kernel⟩, List.mem_of_getElem? (i := 221) (by decide +kernel), List.mem_of_getElem? (i := 815) (by decide +kernel), List.mem_of_getElem? (i := 816) (by decide +kernel)⟩
theorem lw_p34 : lw_okq (⟨"SilkHouse$Doubts", "bothLeft", "()Z"⟩, 8) := ⟨⟨by decide +kernel, by decide +kernel⟩, List.mem_of_getElem? (i := 221) (by decide +kernel), List.mem_of_getElem? (i := 820) (by decide +kernel), List.mem_of_getElem? (i := 821) (by decide +kernel)⟩
theorem lw_p35 : lw_okq (⟨"SilkHouse$Doubts", "isSuspect", "(I)Z"⟩, 8) := ⟨⟨by decide +kernel, by decide +kernel⟩, List.mem_of_getElem? (i := 221) (by decide +kernel), List.mem_of_getElem? (i := 829) (by decide +kernel), List.mem_of_getElem? (i := 830) (by decide +kernel)⟩
theorem lw_p36 : lw_okq (⟨"SilkHouse$Doubts", "agreeWithout", "(I)Z"⟩, 8) := ⟨⟨by decide +kernel, by decide +kernel⟩, List.mem_of_getElem? (i := 221) (by decide +kernel), List.mem_of_getElem? (i := 834) (by decide +kernel), List.mem_of_getElem? (i := 835) (by decide +kernel)⟩
theorem lw_p37 : lw_okq (⟨"SilkHouse$Doubts", "listLook", "(I)I"⟩, 8) := ⟨⟨by decide +kernel, by decide +kernel⟩, List.mem_of_getElem? (i := 221) (by decide +kernel), List.mem_of_getElem? (i := 846) (by decide +kernel), List.mem_of_getElem? (i := 847) (by decide +kernel)⟩
theorem lw_p38 : lw_okq (⟨"SilkHouse$Doubts", "takeSome", "(III)V"⟩, 8) := ⟨⟨by decide +kernel, by decide +kernel⟩, List.mem_of_getElem? (i := 221) (by decide +kernel), List.mem_of_getElem? (i := 858) (by decide +kernel), List.mem_of_getElem? (i := 859) (by decide +kernel)⟩
theorem lw_p39 : lw_okq (⟨"SilkHouse$Book", "lastNaming", "(III)I"⟩, 9) := ⟨⟨by decide +kernel, by decide +kernel⟩, List.mem_of_getElem? (i := 108) (by decide +kernel), List.mem_of_getElem? (i := 894) (by decide +kernel), List.mem_of_getElem? (i := 895) (by decide +kernel)⟩
theorem lw_p40 : lw_okq (⟨"SilkHouse", "loss", "(I)I"⟩, 11) := ⟨⟨by decide +kernel, by decide +kernel⟩, List.mem_of_getElem? (i := 22) (by decide +kernel), List.mem_of_getElem? (i := 922) (by decide +kernel), List.mem_of_getElem? (i := 923) (by decide +kernel)⟩
theorem lw_p41 : lw_okq (⟨"SilkHouse$Ovens", "place", "(III)V"⟩, 7) := ⟨⟨by decide +kernel, by decide +kernel⟩, List.mem_of_getElem? (i := 254) (by decide +kernel), List.mem_of_getElem? (i := 943) (by decide +kernel), List.mem_of_getElem? (i := 944) (by decide +kernel)⟩
theorem lw_p42 : lw_okq (⟨"SilkHouseModel", "noBale", "(I)Z"⟩, 75) := ⟨⟨by decide +kernel, by decide +kernel⟩, List.mem_of_getElem? (i := 1058) (by decide +kernel), List.mem_of_getElem? (i := 1310) (by decide +kernel), List.mem_of_getElem? (i := 1311) (by decide +kernel)⟩
theorem lw_p43 : lw_okq (⟨"SilkHouseModel", "noSkein", "(I)Z"⟩, 75) := ⟨⟨by decide +kernel, by decide +kernel⟩, List.mem_of_getElem? (i := 1058) (by decide +kernel), List.mem_of_getElem? (i := 1328) (by decide +kernel), List.mem_of_getElem? (i := 1329) (by decide +kernel)⟩
theorem lw_p44 : lw_okq (⟨"SilkHouseModel", "errorOf", "(IIZ)I"⟩, 75) := ⟨⟨by decide +kernel, by decide +kernel⟩, List.mem_of_getElem? (i := 1058) (by decide +kernel), List.mem_of_getElem? (i := 1351) (by decide +kernel), List.mem_of_getElem? (i := 1352) (by decide +kernel)⟩
theorem lw_p45 : lw_okq (⟨"SilkHouseModel", "sumUp", "(III)I"⟩, 75) := ⟨⟨by decide +kernel, by decide +kernel⟩, List.mem_of_getElem? (i := 1058) (by decide +kernel), List.mem_of_getElem? (i := 1359) (by decide +kernel), List.mem_of_getElem? (i := 1360) (by decide +kernel)⟩
theorem lw_p46 : lw_okq (⟨"SilkHouseModel", "isThere", "(II)Z"⟩, 75) := ⟨⟨by decide +kernel, by decide +kernel⟩, List.mem_of_getElem? (i := 1058) (by decide +kernel), List.mem_of_getElem? (i := 1363) (by decide +kernel), List.mem_of_getElem? (i := 1364) (by decide +kernel)⟩
theorem lw_p47 : lw_okq (⟨"SilkHouseModel", "here", "()I"⟩, 75) := ⟨⟨by decide +kernel, by decide +kernel⟩, List.mem_of_getElem? (i := 1058) (by decide +kernel), List.mem_of_getElem? (i := 1383) (by decide +kernel), List.mem_of_getElem? (i := 1384) (by decide +kernel)⟩
def lw_privs_3 : List (MethodName × Nat) := [(⟨"SilkHouse$Doubts", "isInDoubt", "(I)Z"⟩, 8), (⟨"SilkHouse$Doubts", "heap", "(II)V"⟩, 8), (⟨"SilkHouse$Doubts", "bothLeft", "()Z"⟩, 8), (⟨"SilkHouse$Doubts", "isSuspect", "(I)Z"⟩, 8), (⟨"SilkHouse$Doubts", "agreeWithout", "(I)Z"⟩, 8), (⟨"SilkHouse$Doubts", "listLook", "(I)I"⟩, 8), (⟨"SilkHouse$Doubts", "takeSome", "(III)V"⟩, 8), (⟨"SilkHouse$Book", "lastNaming", "(III)I"⟩, 9), (⟨"SilkHouse", "loss", "(I)I"⟩, 11), (⟨"SilkHouse$Ovens", "place", "(III)V"⟩, 7), (⟨"SilkHouseModel", "noBale", "(I)Z"⟩, 75), (⟨"SilkHouseModel", "noSkein", "(I)Z"⟩, 75), (⟨"SilkHouseModel", "errorOf", "(IIZ)I"⟩, 75), (⟨"SilkHouseModel", "sumUp", "(III)I"⟩, 75), (⟨"SilkHouseModel", "isThere", "(II)Z"⟩, 75), (⟨"SilkHouseModel", "here", "()I"⟩, 75)]
theorem lw_r3 : ∀ q ∈ lw_privs_3, lw_okq q := List.forall_mem_cons.mpr ⟨lw_p32, List.forall_mem_cons.mpr ⟨lw_p33, List.forall_mem_cons.mpr ⟨lw_p34, List.forall_mem_cons.mpr ⟨lw_p35, List.forall_mem_cons.mpr ⟨lw_p36, List.forall_mem_cons.mpr ⟨lw_p37, List.forall_mem_cons.mpr ⟨lw_p38, List.forall_mem_cons.mpr ⟨lw_p39, List.forall_mem_cons.mpr ⟨lw_p40, List.forall_mem_cons.mpr ⟨lw_p41, List.forall_mem_cons.mpr ⟨lw_p42, List.forall_mem_cons.mpr ⟨lw_p43, List.forall_mem_cons.mpr ⟨lw_p44, List.forall_mem_cons.mpr ⟨lw_p45, List.forall_mem_cons.mpr ⟨lw_p46, List.forall_mem_cons.mpr ⟨lw_p47, fun _ h => absurd h List.not_mem_nil⟩⟩⟩⟩⟩⟩⟩⟩⟩⟩⟩⟩⟩⟩⟩⟩
theorem lw_p48 : lw_okq (⟨"SilkHouseModel", "takeWord", "()V"⟩, 75) := ⟨⟨by decide +kernel, by decide +kernel⟩, List.mem_of_getElem? (i := 1058) (by decide +kernel), List.mem_of_getElem? (i := 1387) (by decide +kernel), List.mem_of_getElem? (i := 1388) (by decide +kernel)⟩
theorem lw_p49 : lw_okq (⟨"SilkHouseModel", "isWord", "(IIIIIII)Z"⟩, 75) := ⟨⟨by decide +kernel, by decide +kernel⟩, List.mem_of_getElem? (i := 1058) (by decide +kernel), List.mem_of_getElem? (i := 1393) (by decide +kernel), List.mem_of_getElem? (i := 1394) (by decide +kernel)⟩
theorem lw_p50 : lw_okq (⟨"SilkHouseModel", "want", "(ZII)Z"⟩, 75) := ⟨⟨by decide +kernel, by decide +kernel⟩, List.mem_of_getElem? (i := 1058) (by decide +kernel), List.mem_of_getElem? (i := 1397) (by decide +kernel), List.mem_of_getElem? (i := 1398) (by decide +kernel)⟩
theorem lw_p51 : lw_okq (⟨"SilkHouseModel", "readClause", "(II)V"⟩, 75) := ⟨⟨by decide +kernel, by decide +kernel⟩, List.mem_of_getElem? (i := 1058) (by decide +kernel), List.mem_of_getElem? (i := 1401) (by decide +kernel), List.mem_of_getElem? (i := 1402) (by decide +kernel)⟩
theorem lw_p52 : lw_okq (⟨"SilkHouseModel", "letOf", "()I"⟩, 75) := ⟨⟨by decide +kernel, by decide +kernel⟩, List.mem_of_getElem? (i := 1058) (by decide +kernel), List.mem_of_getElem? (i := 1405) (by decide +kernel), List.mem_of_getElem? (i := 1406) (by decide +kernel)⟩
theorem lw_p53 : lw_okq (⟨"SilkHouseModel", "takeNumber", "(II)I"⟩, 75) := ⟨⟨by decide +kernel, by decide +kernel⟩, List.mem_of_getElem? (i := 1058) (by decide +kernel), List.mem_of_getElem? (i := 1415) (by decide +kernel), List.mem_of_getElem? (i := 1416) (by decide +kernel)⟩
theorem lw_p54 : lw_okq (⟨"SilkHouseModel", "readName", "(I)V"⟩, 75) := ⟨⟨by decide +kernel, by decide +kernel⟩, List.mem_of_getElem? (i := 1058) (by decide +kernel), List.mem_of_getElem? (i := 1421) (by decide +kernel), List.mem_of_getElem? (i := 1422) (by decide +kernel)⟩
theorem lw_p55 : lw_okq (⟨"SilkHouseModel", "forceOf", "(II)I"⟩, 75) := ⟨⟨by decide +kernel, by decide +kernel⟩, List.mem_of_getElem? (i := 1058) (by decide +kernel), List.mem_of_getElem? (i := 1434) (by decide +kernel), List.mem_of_getElem? (i := 1435) (by decide +kernel)⟩
theorem lw_p56 : lw_okq (⟨"SilkHouseModel", "findRules", "(I)V"⟩, 75) := ⟨⟨by decide +kernel, by decide +kernel⟩, List.mem_of_getElem? (i := 1058) (by decide +kernel), List.mem_of_getElem? (i := 1438) (by decide +kernel), List.mem_of_getElem? (i := 1439) (by decide +kernel)⟩
theorem lw_p57 : lw_okq (⟨"SilkHouseModel", "isPast", "(I)Z"⟩, 75) := ⟨⟨by decide +kernel, by decide +kernel⟩, List.mem_of_getElem? (i := 1058) (by decide +kernel), List.mem_of_getElem? (i := 1453) (by decide +kernel), List.mem_of_getElem? (i := 1454) (by decide +kernel)⟩
theorem lw_p58 : lw_okq (⟨"SilkHouseModel", "stateOf", "(II)I"⟩, 75) := ⟨⟨by decide +kernel, by decide +kernel⟩, List.mem_of_getElem? (i := 1058) (by decide +kernel), List.mem_of_getElem? (i := 1457) (by decide +kernel), List.mem_of_getElem? (i := 1458) (by decide +kernel)⟩
theorem lw_p59 : lw_okq (⟨"SilkHouseModel", "only", "(I)V"⟩, 75) := ⟨⟨by decide +kernel, by decide +kernel⟩, List.mem_of_getElem? (i := 1058) (by decide +kernel), List.mem_of_getElem? (i := 1461) (by decide +kernel), List.mem_of_getElem? (i := 1462) (by decide +kernel)⟩
theorem lw_p60 : lw_okq (⟨"SilkHouseModel", "isLess", "(II)Z"⟩, 75) := ⟨⟨by decide +kernel, by decide +kernel⟩, List.mem_of_getElem? (i := 1058) (by decide +kernel), List.mem_of_getElem? (i := 1469) (by decide +kernel), List.mem_of_getElem? (i := 1470) (by decide +kernel)⟩
theorem lw_p61 : lw_okq (⟨"SilkHouseModel", "half", "(II)V"⟩, 75) := ⟨⟨by decide +kernel, by decide +kernel⟩, List.mem_of_getElem? (i := 1058) (by decide +kernel), List.mem_of_getElem? (i := 1473) (by decide +kernel), List.mem_of_getElem? (i := 1474) (by decide +kernel)⟩
theorem lw_p62 : lw_okq (⟨"SilkHouseModel", "settleThree", "(I)V"⟩, 75) := ⟨⟨by decide +kernel, by decide +kernel⟩, List.mem_of_getElem? (i := 1058) (by decide +kernel), List.mem_of_getElem? (i := 1477) (by decide +kernel), List.mem_of_getElem? (i := 1478) (by decide +kernel)⟩
theorem lw_p63 : lw_okq (⟨"SilkHouseModel", "findLawful", "(IJJI)V"⟩, 75) := ⟨⟨by decide +kernel, by decide +kernel⟩, List.mem_of_getElem? (i := 1058) (by decide +kernel), List.mem_of_getElem? (i := 1488) (by decide +kernel), List.mem_of_getElem? (i := 1489) (by decide +kernel)⟩
def lw_privs_4 : List (MethodName × Nat) := [(⟨"SilkHouseModel", "takeWord", "()V"⟩, 75), (⟨"SilkHouseModel", "isWord", "(IIIIIII)Z"⟩, 75), (⟨"SilkHouseModel", "want", "(ZII)Z"⟩, 75), (⟨"SilkHouseModel", "readClause", "(II)V"⟩, 75), (⟨"SilkHouseModel", "letOf", "()I"⟩, 75), (⟨"SilkHouseModel", "takeNumber", "(II)I"⟩, 75), (⟨"SilkHouseModel", "readName", "(I)V"⟩, 75), (⟨"SilkHouseModel", "forceOf", "(II)I"⟩, 75), (⟨"SilkHouseModel", "findRules", "(I)V"⟩, 75), (⟨"SilkHouseModel", "isPast", "(I)Z"⟩, 75), (⟨"SilkHouseModel", "stateOf", "(II)I"⟩, 75), (⟨"SilkHouseModel", "only", "(I)V"⟩, 75), (⟨"SilkHouseModel", "isLess", "(II)Z"⟩, 75), (⟨"SilkHouseModel", "half", "(II)V"⟩, 75), (⟨"SilkHouseModel", "settleThree", "(I)V"⟩, 75), (⟨"SilkHouseModel", "findLawful", "(IJJI)V"⟩, 75)]
theorem lw_r4 : ∀ q ∈ lw_privs_4, lw_okq q := List.forall_mem_cons.mpr ⟨lw_p48, List.forall_mem_cons.mpr ⟨lw_p49, List.forall_mem_cons.mpr ⟨lw_p50, List.forall_mem_cons.mpr ⟨lw_p51, List.forall_mem_cons.mpr ⟨lw_p52, List.forall_mem_cons.mpr ⟨lw_p53, List.forall_mem_cons.mpr ⟨lw_p54, List.forall_mem_cons.mpr ⟨lw_p55, List.forall_mem_cons.mpr ⟨lw_p56, List.forall_mem_cons.mpr ⟨lw_p57, List.forall_mem_cons.mpr ⟨lw_p58, List.forall_mem_cons.mpr ⟨lw_p59, List.forall_mem_cons.mpr ⟨lw_p60, List.forall_mem_cons.mpr ⟨lw_p61, List.forall_mem_cons.mpr ⟨lw_p62, List.forall_mem_cons.mpr ⟨lw_p63, fun _ h => absurd h List.not_mem_nil⟩⟩⟩⟩⟩⟩⟩⟩⟩⟩⟩⟩⟩⟩⟩⟩
theorem lw_p64 : lw_okq (⟨"SilkHouseModel", "haveBoth", "(I)Z"⟩, 75) := ⟨⟨by decide +kernel, by decide +kernel⟩, List.mem_of_getElem? (i := 1058) (by decide +kernel), List.mem_of_getElem? (i := 1503) (by decide +kernel), List.mem_of_getElem? (i := 1504) (by decide +kernel)⟩
theorem lw_p65 : lw_okq (⟨"SilkHouseModel", "doLooksPart", "(II)Z"⟩, 75) := ⟨⟨by decide +kernel, by decide +kernel⟩, List.mem_of_getElem? (i := 1058) (by decide +kernel), List.mem_of_getElem? (i := 1507) (by decide +kernel), List.mem_of_getElem? (i := 1508) (by decide +kernel)⟩
theorem lw_p66 : lw_okq (⟨"SilkHouseModel", "tryCause", "(IIIII)V"⟩, 75) := ⟨⟨by decide +kernel, by decide +kernel⟩, List.mem_of_getElem? (i := 1058) (by decide +kernel), List.mem_of_getElem? (i := 1511) (by decide +kernel), List.mem_of_getElem? (i := 1512) (by decide +kernel)⟩
theorem lw_p67 : lw_okq (⟨"SilkHouseModel", "leaveOut", "(III)V"⟩, 75) := ⟨⟨by decide +kernel, by decide +kernel⟩, List.mem_of_getElem? (i := 1058) (by decide +kernel), List.mem_of_getElem? (i := 1515) (by decide +kernel), List.mem_of_getElem? (i := 1516) (by decide +kernel)⟩
theorem lw_p68 : lw_okq (⟨"SilkHouseModel", "isEnough", "(IIII)Z"⟩, 75) := ⟨⟨by decide +kernel, by decide +kernel⟩, List.mem_of_getElem? (i := 1058) (by decide +kernel), List.mem_of_getElem? (i := 1527) (by decide +kernel), List.mem_of_getElem? (i := 1528) (by decide +kernel)⟩
theorem lw_p69 : lw_okq (⟨"SilkHouseModel", "findOrder", "(I)V"⟩, 75) := ⟨⟨by decide +kernel, by decide +kernel⟩, List.mem_of_getElem? (i := 1058) (by decide +kernel), List.mem_of_getElem? (i := 1570) (by decide +kernel), List.mem_of_getElem? (i := 1571) (by decide +kernel)⟩
theorem lw_p70 : lw_okq (⟨"SilkHouseModel", "ovenOf", "(III)I"⟩, 75) := ⟨⟨by decide +kernel, by decide +kernel⟩, List.mem_of_getElem? (i := 1058) (by decide +kernel), List.mem_of_getElem? (i := 1577) (by decide +kernel), List.mem_of_getElem? (i := 1578) (by decide +kernel)⟩
theorem lw_p71 : lw_okq (⟨"SilkHouseModel", "findSpan", "(I)Z"⟩, 75) := ⟨⟨by decide +kernel, by decide +kernel⟩, List.mem_of_getElem? (i := 1058) (by decide +kernel), List.mem_of_getElem? (i := 1593) (by decide +kernel), List.mem_of_getElem? (i := 1594) (by decide +kernel)⟩
theorem lw_p72 : lw_okq (⟨"SilkHouseModel", "add", "(IIJII)V"⟩, 75) := ⟨⟨by decide +kernel, by decide +kernel⟩, List.mem_of_getElem? (i := 1058) (by decide +kernel), List.mem_of_getElem? (i := 1601) (by decide +kernel), List.mem_of_getElem? (i := 1602) (by decide +kernel)⟩
theorem lw_p73 : lw_okq (⟨"SilkHouseModel", "noPaper", "(I)Z"⟩, 75) := ⟨⟨by decide +kernel, by decide +kernel⟩, List.mem_of_getElem? (i := 1058) (by decide +kernel), List.mem_of_getElem? (i := 1609) (by decide +kernel), List.mem_of_getElem? (i := 1610) (by decide +kernel)⟩
theorem lw_p74 : lw_okq (⟨"SilkHouseModel", "stands", "(I)Z"⟩, 75) := ⟨⟨by decide +kernel, by decide +kernel⟩, List.mem_of_getElem? (i := 1058) (by decide +kernel), List.mem_of_getElem? (i := 1613) (by decide +kernel), List.mem_of_getElem? (i := 1614) (by decide +kernel)⟩
theorem lw_p75 : lw_okq (⟨"SilkHouseModel", "balesIn", "(I)I"⟩, 75) := ⟨⟨by decide +kernel, by decide +kernel⟩, List.mem_of_getElem? (i := 1058) (by decide +kernel), List.mem_of_getElem? (i := 1637) (by decide +kernel), List.mem_of_getElem? (i := 1638) (by decide +kernel)⟩
def lw_privs_5 : List (MethodName × Nat) := [(⟨"SilkHouseModel", "haveBoth", "(I)Z"⟩, 75), (⟨"SilkHouseModel", "doLooksPart", "(II)Z"⟩, 75), (⟨"SilkHouseModel", "tryCause", "(IIIII)V"⟩, 75), (⟨"SilkHouseModel", "leaveOut", "(III)V"⟩, 75), (⟨"SilkHouseModel", "isEnough", "(IIII)Z"⟩, 75), (⟨"SilkHouseModel", "findOrder", "(I)V"⟩, 75), (⟨"SilkHouseModel", "ovenOf", "(III)I"⟩, 75), (⟨"SilkHouseModel", "findSpan", "(I)Z"⟩, 75), (⟨"SilkHouseModel", "add", "(IIJII)V"⟩, 75), (⟨"SilkHouseModel", "noPaper", "(I)Z"⟩, 75), (⟨"SilkHouseModel", "stands", "(I)Z"⟩, 75), (⟨"SilkHouseModel", "balesIn", "(I)I"⟩, 75)]
theorem lw_r5 : ∀ q ∈ lw_privs_5, lw_okq q := List.forall_mem_cons.mpr ⟨lw_p64, List.forall_mem_cons.mpr ⟨lw_p65, List.forall_mem_cons.mpr ⟨lw_p66, List.forall_mem_cons.mpr ⟨lw_p67, List.forall_mem_cons.mpr ⟨lw_p68, List.forall_mem_cons.mpr ⟨lw_p69, List.forall_mem_cons.mpr ⟨lw_p70, List.forall_mem_cons.mpr ⟨lw_p71, List.forall_mem_cons.mpr ⟨lw_p72, List.forall_mem_cons.mpr ⟨lw_p73, List.forall_mem_cons.mpr ⟨lw_p74, List.forall_mem_cons.mpr ⟨lw_p75, fun _ h => absurd h List.not_mem_nil⟩⟩⟩⟩⟩⟩⟩⟩⟩⟩⟩⟩
def lw_privs : List (MethodName × Nat) := lw_privs_1 ++ (lw_privs_2 ++ (lw_privs_3 ++ (lw_privs_4 ++ (lw_privs_5))))
def lw_tbl : List Cond := k2_sels lw_privs ++ tables_1
theorem lw_privs_ok : ∀ q ∈ lw_privs, lw_okq q := by
  show ∀ q ∈ lw_privs_1 ++ (lw_privs_2 ++ (lw_privs_3 ++ (lw_privs_4 ++ (lw_privs_5)))), lw_okq q
  exact List.forall_mem_append.mpr ⟨lw_r1, List.forall_mem_append.mpr ⟨lw_r2, List.forall_mem_append.mpr ⟨lw_r3, List.forall_mem_append.mpr ⟨lw_r4, lw_r5⟩⟩⟩⟩
end
section
/-! ===== BEGIN printed: names, fields, word lists, decode rows ===== -/
def RX0 : String := "SilkHouse$Bales"
def TX0 : u_T := fun k => match k with
  | 0 => ("SilkHouse$Bales", "gross", "[I", true)
  | 1 => ("SilkHouse$Bales", "threads", "[I", true)
  | 2 => ("SilkHouse$Bales", "twists", "[I", true)
  | 3 => ("SilkHouse$Bales", "gum", "[I", true)
  | 4 => ("SilkHouse$Bales", "ash", "[I", true)
  | 5 => ("SilkHouse$Bales", "sizes", "[I", true)
  | 6 => ("SilkHouse$Bales", "turnRows", "[I", true)
  | _ => ("SilkHouse$Bales", "number", "I", false)
def tyX0 : Nat → FieldType := fun k => match k with
  | 0 => .array .int
  | 1 => .array .int
  | 2 => .array .int
  | 3 => .array .int
  | 4 => .array .int
  | 5 => .array .int
  | 6 => .array .int
  | _ => .int
theorem nmX0 : ∀ a, a < 8 → ∀ b, b < 8 → a ≠ b → (TX0 a).2.1 ≠ (TX0 b).2.1 := by decide +kernel
theorem tyX0_ok : ∀ k, k < 8 → parseFieldDescriptor (TX0 k).2.2.1 = some (tyX0 k) := by decide +kernel
abbrev cX0_init : ByteArray := prog_2_method_1_code
def yX0_init : MethodName := ⟨RX0, "<init>", "()V"⟩
abbrev cX0_has : ByteArray := prog_2_method_2_code
def yX0_has : MethodName := ⟨RX0, "has", "(I)Z"⟩
abbrev cX0_bring : ByteArray := prog_2_method_3_code
def yX0_bring : MethodName := ⟨RX0, "bring", "(I)I"⟩
abbrev cX0_reel : ByteArray := prog_2_method_4_code
def yX0_reel : MethodName := ⟨RX0, "reel", "(II)I"⟩
abbrev cX0_allSizes : ByteArray := prog_2_method_5_code
def yX0_allSizes : MethodName := ⟨RX0, "allSizes", "(I)I"⟩
abbrev cX0_allSquares : ByteArray := prog_2_method_6_code
def yX0_allSquares : MethodName := ⟨RX0, "allSquares", "(I)J"⟩
abbrev cX0_untwist : ByteArray := prog_2_method_7_code
def yX0_untwist : MethodName := ⟨RX0, "untwist", "(II)I"⟩
abbrev cX0_middleTwist : ByteArray := prog_2_method_8_code
def yX0_middleTwist : MethodName := ⟨RX0, "middleTwist", "(I)I"⟩
def RX1 : String := "SilkHouse$Book"
def TX1 : u_T := fun k => match k with
  | 0 => ("SilkHouse$Book", "day", "[I", true)
  | 1 => ("SilkHouse$Book", "clauses", "[I", true)
  | 2 => ("SilkHouse$Book", "kind", "[I", true)
  | 3 => ("SilkHouse$Book", "first", "[I", true)
  | 4 => ("SilkHouse$Book", "second", "[I", true)
  | 5 => ("SilkHouse$Book", "letters", "[B", true)
  | 6 => ("SilkHouse$Book", "counting", "[Z", true)
  | 7 => ("SilkHouse$Book", "number", "I", false)
  | _ => ("SilkHouse$Book", "drafted", "I", false)
def tyX1 : Nat → FieldType := fun k => match k with
  | 0 => .array .int
  | 1 => .array .int
  | 2 => .array .int
  | 3 => .array .int
  | 4 => .array .int
  | 5 => .array .byte
  | 6 => .array .boolean
  | 7 => .int
  | _ => .int
theorem nmX1 : ∀ a, a < 9 → ∀ b, b < 9 → a ≠ b → (TX1 a).2.1 ≠ (TX1 b).2.1 := by decide +kernel
theorem tyX1_ok : ∀ k, k < 9 → parseFieldDescriptor (TX1 k).2.2.1 = some (tyX1 k) := by decide +kernel
abbrev cX1_init : ByteArray := prog_3_method_1_code
def yX1_init : MethodName := ⟨RX1, "<init>", "()V"⟩
abbrev cX1_startDraft : ByteArray := prog_3_method_2_code
def yX1_startDraft : MethodName := ⟨RX1, "startDraft", "()V"⟩
abbrev cX1_draft : ByteArray := prog_3_method_3_code
def yX1_draft : MethodName := ⟨RX1, "draft", "(III)V"⟩
abbrev cX1_draftWord : ByteArray := prog_3_method_4_code
def yX1_draftWord : MethodName := ⟨RX1, "draftWord", "([BII)V"⟩
abbrev cX1_enact : ByteArray := prog_3_method_5_code
def yX1_enact : MethodName := ⟨RX1, "enact", "(I)I"⟩
abbrev cX1_has : ByteArray := prog_3_method_6_code
def yX1_has : MethodName := ⟨RX1, "has", "(I)Z"⟩
abbrev cX1_letterOf : ByteArray := prog_3_method_7_code
def yX1_letterOf : MethodName := ⟨RX1, "letterOf", "(II)I"⟩
abbrev cX1_holding : ByteArray := prog_3_method_8_code
def yX1_holding : MethodName := ⟨RX1, "holding", "(II)I"⟩
abbrev cX1_lastOf : ByteArray := prog_3_method_9_code
def yX1_lastOf : MethodName := ⟨RX1, "lastOf", "(II)I"⟩
abbrev cX1_naming : ByteArray := prog_3_method_10_code
def yX1_naming : MethodName := ⟨RX1, "naming", "(III)I"⟩
abbrev cX1_lastNaming : ByteArray := prog_3_method_11_code
def yX1_lastNaming : MethodName := ⟨RX1, "lastNaming", "(III)I"⟩
abbrev cX1_findCounting : ByteArray := prog_3_method_12_code
def yX1_findCounting : MethodName := ⟨RX1, "findCounting", "(I)V"⟩
abbrev cX1_isStruck : ByteArray := prog_3_method_13_code
def yX1_isStruck : MethodName := ⟨RX1, "isStruck", "(I)Z"⟩
abbrev cX1_strikes : ByteArray := prog_3_method_14_code
def yX1_strikes : MethodName := ⟨RX1, "strikes", "(II)Z"⟩
def RX2 : String := "SilkHouse$Doubts"
def TX2 : u_T := fun k => match k with
  | 0 => ("SilkHouse$Doubts", "skeins", "LSilkHouse$Skeins;", true)
  | 1 => ("SilkHouse$Doubts", "piles", "LSilkHouse$Piles;", true)
  | 2 => ("SilkHouse$Doubts", "first", "[I", true)
  | 3 => ("SilkHouse$Doubts", "bale", "I", false)
  | 4 => ("SilkHouse$Doubts", "day", "I", false)
  | 5 => ("SilkHouse$Doubts", "part", "I", false)
  | 6 => ("SilkHouse$Doubts", "ways", "I", false)
  | _ => ("SilkHouse$Doubts", "far", "I", false)
def tyX2 : Nat → FieldType := fun k => match k with
  | 0 => .object "SilkHouse$Skeins"
  | 1 => .object "SilkHouse$Piles"
  | 2 => .array .int
  | 3 => .int
  | 4 => .int
  | 5 => .int
  | 6 => .int
  | _ => .int
theorem nmX2 : ∀ a, a < 8 → ∀ b, b < 8 → a ≠ b → (TX2 a).2.1 ≠ (TX2 b).2.1 := by decide +kernel
theorem tyX2_ok : ∀ k, k < 8 → parseFieldDescriptor (TX2 k).2.2.1 = some (tyX2 k) := by decide +kernel
abbrev cX2_init : ByteArray := prog_4_method_1_code
def yX2_init : MethodName := ⟨RX2, "<init>", "(LSilkHouse$Skeins;)V"⟩
abbrev cX2_lookAt : ByteArray := prog_4_method_2_code
def yX2_lookAt : MethodName := ⟨RX2, "lookAt", "(III)V"⟩
abbrev cX2_isParted : ByteArray := prog_4_method_3_code
def yX2_isParted : MethodName := ⟨RX2, "isParted", "()Z"⟩
abbrev cX2_bothLeft : ByteArray := prog_4_method_4_code
def yX2_bothLeft : MethodName := ⟨RX2, "bothLeft", "()Z"⟩
abbrev cX2_gatherWithout : ByteArray := prog_4_method_5_code
def yX2_gatherWithout : MethodName := ⟨RX2, "gatherWithout", "(II)I"⟩
abbrev cX2_isInDoubt : ByteArray := prog_4_method_6_code
def yX2_isInDoubt : MethodName := ⟨RX2, "isInDoubt", "(I)Z"⟩
abbrev cX2_heap : ByteArray := prog_4_method_7_code
def yX2_heap : MethodName := ⟨RX2, "heap", "(II)V"⟩
abbrev cX2_culprit : ByteArray := prog_4_method_8_code
def yX2_culprit : MethodName := ⟨RX2, "culprit", "(I)I"⟩
abbrev cX2_isSuspect : ByteArray := prog_4_method_9_code
def yX2_isSuspect : MethodName := ⟨RX2, "isSuspect", "(I)Z"⟩
abbrev cX2_agreeWithout : ByteArray := prog_4_method_10_code
def yX2_agreeWithout : MethodName := ⟨RX2, "agreeWithout", "(I)Z"⟩
abbrev cX2_oddPairs : ByteArray := prog_4_method_11_code
def yX2_oddPairs : MethodName := ⟨RX2, "oddPairs", "(I)I"⟩
abbrev cX2_listLook : ByteArray := prog_4_method_12_code
def yX2_listLook : MethodName := ⟨RX2, "listLook", "(I)I"⟩
abbrev cX2_fewest : ByteArray := prog_4_method_13_code
def yX2_fewest : MethodName := ⟨RX2, "fewest", "(I)I"⟩
abbrev cX2_takeSome : ByteArray := prog_4_method_14_code
def yX2_takeSome : MethodName := ⟨RX2, "takeSome", "(III)V"⟩
def RX3 : String := "SilkHouse$Judge"
def TX3 : u_T := fun k => match k with
  | 0 => ("SilkHouse$Judge", "skeins", "LSilkHouse$Skeins;", true)
  | 1 => ("SilkHouse$Judge", "book", "LSilkHouse$Book;", true)
  | 2 => ("SilkHouse$Judge", "piles", "LSilkHouse$Piles;", true)
  | 3 => ("SilkHouse$Judge", "one", "I", false)
  | _ => ("SilkHouse$Judge", "other", "I", false)
def tyX3 : Nat → FieldType := fun k => match k with
  | 0 => .object "SilkHouse$Skeins"
  | 1 => .object "SilkHouse$Book"
  | 2 => .object "SilkHouse$Piles"
  | 3 => .int
  | _ => .int
theorem nmX3 : ∀ a, a < 5 → ∀ b, b < 5 → a ≠ b → (TX3 a).2.1 ≠ (TX3 b).2.1 := by decide +kernel
theorem tyX3_ok : ∀ k, k < 5 → parseFieldDescriptor (TX3 k).2.2.1 = some (tyX3 k) := by decide +kernel
abbrev cX3_init : ByteArray := prog_5_method_1_code
def yX3_init : MethodName := ⟨RX3, "<init>", "(LSilkHouse$Skeins;LSilkHouse$Book;)V"⟩
abbrev cX3_gather : ByteArray := prog_5_method_2_code
def yX3_gather : MethodName := ⟨RX3, "gather", "(II)V"⟩
abbrev cX3_weighUp : ByteArray := prog_5_method_3_code
def yX3_weighUp : MethodName := ⟨RX3, "weighUp", "(II)I"⟩
abbrev cX3_settle : ByteArray := prog_5_method_4_code
def yX3_settle : MethodName := ⟨RX3, "settle", "(II)I"⟩
abbrev cX3_settleByTwo : ByteArray := prog_5_method_5_code
def yX3_settleByTwo : MethodName := ⟨RX3, "settleByTwo", "(I)I"⟩
abbrev cX3_settleByThree : ByteArray := prog_5_method_6_code
def yX3_settleByThree : MethodName := ⟨RX3, "settleByThree", "(I)I"⟩
abbrev cX3_settleByNearest : ByteArray := prog_5_method_7_code
def yX3_settleByNearest : MethodName := ⟨RX3, "settleByNearest", "()I"⟩
abbrev cX3_lesserOf : ByteArray := prog_5_method_8_code
def yX3_lesserOf : MethodName := ⟨RX3, "lesserOf", "(II)I"⟩
abbrev cX3_middleLook : ByteArray := prog_5_method_9_code
def yX3_middleLook : MethodName := ⟨RX3, "middleLook", "()I"⟩
abbrev cX3_upper : ByteArray := prog_5_method_10_code
def yX3_upper : MethodName := ⟨RX3, "upper", "()J"⟩
abbrev cX3_lower : ByteArray := prog_5_method_11_code
def yX3_lower : MethodName := ⟨RX3, "lower", "()J"⟩
def RX4 : String := "SilkHouse$Neighbours"
def TX4 : u_T := fun k => match k with
  | 0 => ("SilkHouse$Neighbours", "low", "[I", true)
  | 1 => ("SilkHouse$Neighbours", "high", "[I", true)
  | _ => ("SilkHouse$Neighbours", "number", "I", false)
def tyX4 : Nat → FieldType := fun k => match k with
  | 0 => .array .int
  | 1 => .array .int
  | _ => .int
theorem nmX4 : ∀ a, a < 3 → ∀ b, b < 3 → a ≠ b → (TX4 a).2.1 ≠ (TX4 b).2.1 := by decide +kernel
theorem tyX4_ok : ∀ k, k < 3 → parseFieldDescriptor (TX4 k).2.2.1 = some (tyX4 k) := by decide +kernel
abbrev cX4_init : ByteArray := prog_6_method_1_code
def yX4_init : MethodName := ⟨RX4, "<init>", "()V"⟩
abbrev cX4_compare : ByteArray := prog_6_method_2_code
def yX4_compare : MethodName := ⟨RX4, "compare", "(II)I"⟩
abbrev cX4_leastWithout : ByteArray := prog_6_method_3_code
def yX4_leastWithout : MethodName := ⟨RX4, "leastWithout", "(I)I"⟩
abbrev cX4_greatestWithout : ByteArray := prog_6_method_4_code
def yX4_greatestWithout : MethodName := ⟨RX4, "greatestWithout", "(I)I"⟩
abbrev cX4_leastLeftOut : ByteArray := prog_6_method_5_code
def yX4_leastLeftOut : MethodName := ⟨RX4, "leastLeftOut", "()I"⟩
def RX5 : String := "SilkHouse$Ovens"
def TX5 : u_T := fun k => match k with
  | 0 => ("SilkHouse$Ovens", "minutes", "[I", true)
  | 1 => ("SilkHouse$Ovens", "tried", "[I", true)
  | 2 => ("SilkHouse$Ovens", "ends", "[I", true)
  | 3 => ("SilkHouse$Ovens", "best", "[I", true)
  | 4 => ("SilkHouse$Ovens", "number", "I", false)
  | 5 => ("SilkHouse$Ovens", "bestEnd", "I", false)
  | _ => ("SilkHouse$Ovens", "arrangedFor", "I", false)
def tyX5 : Nat → FieldType := fun k => match k with
  | 0 => .array .int
  | 1 => .array .int
  | 2 => .array .int
  | 3 => .array .int
  | 4 => .int
  | 5 => .int
  | _ => .int
theorem nmX5 : ∀ a, a < 7 → ∀ b, b < 7 → a ≠ b → (TX5 a).2.1 ≠ (TX5 b).2.1 := by decide +kernel
theorem tyX5_ok : ∀ k, k < 7 → parseFieldDescriptor (TX5 k).2.2.1 = some (tyX5 k) := by decide +kernel
abbrev cX5_init : ByteArray := prog_7_method_1_code
def yX5_init : MethodName := ⟨RX5, "<init>", "()V"⟩
abbrev cX5_bring : ByteArray := prog_7_method_2_code
def yX5_bring : MethodName := ⟨RX5, "bring", "(I)I"⟩
abbrev cX5_clear : ByteArray := prog_7_method_3_code
def yX5_clear : MethodName := ⟨RX5, "clear", "()I"⟩
abbrev cX5_arrange : ByteArray := prog_7_method_4_code
def yX5_arrange : MethodName := ⟨RX5, "arrange", "(I)V"⟩
abbrev cX5_place : ByteArray := prog_7_method_5_code
def yX5_place : MethodName := ⟨RX5, "place", "(III)V"⟩
def RX6 : String := "SilkHouse$Papers"
def TX6 : u_T := fun k => match k with
  | 0 => ("SilkHouse$Papers", "kind", "[I", true)
  | 1 => ("SilkHouse$Papers", "bale", "[I", true)
  | 2 => ("SilkHouse$Papers", "amount", "[I", true)
  | 3 => ("SilkHouse$Papers", "on", "[I", true)
  | 4 => ("SilkHouse$Papers", "day", "[I", true)
  | 5 => ("SilkHouse$Papers", "undone", "[I", true)
  | 6 => ("SilkHouse$Papers", "falls", "[Z", true)
  | _ => ("SilkHouse$Papers", "number", "I", false)
def tyX6 : Nat → FieldType := fun k => match k with
  | 0 => .array .int
  | 1 => .array .int
  | 2 => .array .int
  | 3 => .array .int
  | 4 => .array .int
  | 5 => .array .int
  | 6 => .array .boolean
  | _ => .int
theorem nmX6 : ∀ a, a < 8 → ∀ b, b < 8 → a ≠ b → (TX6 a).2.1 ≠ (TX6 b).2.1 := by decide +kernel
theorem tyX6_ok : ∀ k, k < 8 → parseFieldDescriptor (TX6 k).2.2.1 = some (tyX6 k) := by decide +kernel
abbrev cX6_init : ByteArray := prog_8_method_1_code
def yX6_init : MethodName := ⟨RX6, "<init>", "()V"⟩
abbrev cX6_has : ByteArray := prog_8_method_2_code
def yX6_has : MethodName := ⟨RX6, "has", "(I)Z"⟩
abbrev cX6_hasRoom : ByteArray := prog_8_method_3_code
def yX6_hasRoom : MethodName := ⟨RX6, "hasRoom", "(I)Z"⟩
abbrev cX6_isCertificate : ByteArray := prog_8_method_4_code
def yX6_isCertificate : MethodName := ⟨RX6, "isCertificate", "(I)Z"⟩
abbrev cX6_isUndone : ByteArray := prog_8_method_5_code
def yX6_isUndone : MethodName := ⟨RX6, "isUndone", "(I)Z"⟩
abbrev cX6_write : ByteArray := prog_8_method_6_code
def yX6_write : MethodName := ⟨RX6, "write", "(IIIII)I"⟩
abbrev cX6_certified : ByteArray := prog_8_method_7_code
def yX6_certified : MethodName := ⟨RX6, "certified", "(I)Z"⟩
abbrev cX6_isBilled : ByteArray := prog_8_method_8_code
def yX6_isBilled : MethodName := ⟨RX6, "isBilled", "(I)Z"⟩
abbrev cX6_hanging : ByteArray := prog_8_method_9_code
def yX6_hanging : MethodName := ⟨RX6, "hanging", "(I)I"⟩
abbrev cX6_tear : ByteArray := prog_8_method_10_code
def yX6_tear : MethodName := ⟨RX6, "tear", "(II)I"⟩
abbrev cX6_standing : ByteArray := prog_8_method_11_code
def yX6_standing : MethodName := ⟨RX6, "standing", "(II)J"⟩
def RX7 : String := "SilkHouse$Piles"
def TX7 : u_T := fun k => match k with
  | 0 => ("SilkHouse$Piles", "raw", "[J", true)
  | 1 => ("SilkHouse$Piles", "dry", "[J", true)
  | _ => ("SilkHouse$Piles", "skeins", "[I", true)
def tyX7 : Nat → FieldType := fun k => match k with
  | 0 => .array .long
  | 1 => .array .long
  | _ => .array .int
theorem nmX7 : ∀ a, a < 3 → ∀ b, b < 3 → a ≠ b → (TX7 a).2.1 ≠ (TX7 b).2.1 := by decide +kernel
theorem tyX7_ok : ∀ k, k < 3 → parseFieldDescriptor (TX7 k).2.2.1 = some (tyX7 k) := by decide +kernel
abbrev cX7_init : ByteArray := prog_9_method_1_code
def yX7_init : MethodName := ⟨RX7, "<init>", "()V"⟩
abbrev cX7_clear : ByteArray := prog_9_method_2_code
def yX7_clear : MethodName := ⟨RX7, "clear", "()V"⟩
abbrev cX7_put : ByteArray := prog_9_method_3_code
def yX7_put : MethodName := ⟨RX7, "put", "(III)V"⟩
abbrev cX7_remove : ByteArray := prog_9_method_4_code
def yX7_remove : MethodName := ⟨RX7, "remove", "(III)V"⟩
abbrev cX7_differ : ByteArray := prog_9_method_5_code
def yX7_differ : MethodName := ⟨RX7, "differ", "(III)Z"⟩
abbrev cX7_level : ByteArray := prog_9_method_6_code
def yX7_level : MethodName := ⟨RX7, "level", "(I)J"⟩
def RX8 : String := "SilkHouse$Reader"
def TX8 : u_T := fun k => match k with
  | 0 => ("SilkHouse$Reader", "book", "LSilkHouse$Book;", true)
  | 1 => ("SilkHouse$Reader", "text", "[B", true)
  | 2 => ("SilkHouse$Reader", "length", "I", false)
  | 3 => ("SilkHouse$Reader", "faultByte", "I", false)
  | 4 => ("SilkHouse$Reader", "faultKind", "I", false)
  | _ => ("SilkHouse$Reader", "at", "I", false)
def tyX8 : Nat → FieldType := fun k => match k with
  | 0 => .object "SilkHouse$Book"
  | 1 => .array .byte
  | 2 => .int
  | 3 => .int
  | 4 => .int
  | _ => .int
theorem nmX8 : ∀ a, a < 6 → ∀ b, b < 6 → a ≠ b → (TX8 a).2.1 ≠ (TX8 b).2.1 := by decide +kernel
theorem tyX8_ok : ∀ k, k < 6 → parseFieldDescriptor (TX8 k).2.2.1 = some (tyX8 k) := by decide +kernel
abbrev cX8_init : ByteArray := prog_10_method_1_code
def yX8_init : MethodName := ⟨RX8, "<init>", "(LSilkHouse$Book;)V"⟩
abbrev cX8_take : ByteArray := prog_10_method_2_code
def yX8_take : MethodName := ⟨RX8, "take", "(IJ)I"⟩
abbrev cX8_read : ByteArray := prog_10_method_3_code
def yX8_read : MethodName := ⟨RX8, "read", "()I"⟩
abbrev cX8_fail : ByteArray := prog_10_method_4_code
def yX8_fail : MethodName := ⟨RX8, "fail", "(II)Z"⟩
abbrev cX8_skipBlanks : ByteArray := prog_10_method_5_code
def yX8_skipBlanks : MethodName := ⟨RX8, "skipBlanks", "()Z"⟩
abbrev cX8_readClause : ByteArray := prog_10_method_6_code
def yX8_readClause : MethodName := ⟨RX8, "readClause", "()Z"⟩
abbrev cX8_readLet : ByteArray := prog_10_method_7_code
def yX8_readLet : MethodName := ⟨RX8, "readLet", "()Z"⟩
abbrev cX8_readTake : ByteArray := prog_10_method_8_code
def yX8_readTake : MethodName := ⟨RX8, "readTake", "()Z"⟩
abbrev cX8_readName : ByteArray := prog_10_method_9_code
def yX8_readName : MethodName := ⟨RX8, "readName", "()Z"⟩
abbrev cX8_readStrike : ByteArray := prog_10_method_10_code
def yX8_readStrike : MethodName := ⟨RX8, "readStrike", "()Z"⟩
abbrev cX8_readStop : ByteArray := prog_10_method_11_code
def yX8_readStop : MethodName := ⟨RX8, "readStop", "()Z"⟩
abbrev cX8_readWord : ByteArray := prog_10_method_12_code
def yX8_readWord : MethodName := ⟨RX8, "readWord", "()Z"⟩
abbrev cX8_readOneOf : ByteArray := prog_10_method_13_code
def yX8_readOneOf : MethodName := ⟨RX8, "readOneOf", "(Ljava/lang/String;)I"⟩
abbrev cX8_isSame : ByteArray := prog_10_method_14_code
def yX8_isSame : MethodName := ⟨RX8, "isSame", "(Ljava/lang/String;III)Z"⟩
abbrev cX8_readNumber : ByteArray := prog_10_method_15_code
def yX8_readNumber : MethodName := ⟨RX8, "readNumber", "(II)I"⟩
abbrev cX8_endOfRun : ByteArray := prog_10_method_16_code
def yX8_endOfRun : MethodName := ⟨RX8, "endOfRun", "(CC)I"⟩
def RX9 : String := "SilkHouse$Scales"
def TX9 : u_T := fun k => match k with
  | 0 => ("SilkHouse$Scales", "scale", "[I", true)
  | 1 => ("SilkHouse$Scales", "day", "[I", true)
  | 2 => ("SilkHouse$Scales", "drift", "[I", true)
  | _ => ("SilkHouse$Scales", "number", "I", false)
def tyX9 : Nat → FieldType := fun k => match k with
  | 0 => .array .int
  | 1 => .array .int
  | 2 => .array .int
  | _ => .int
theorem nmX9 : ∀ a, a < 4 → ∀ b, b < 4 → a ≠ b → (TX9 a).2.1 ≠ (TX9 b).2.1 := by decide +kernel
theorem tyX9_ok : ∀ k, k < 4 → parseFieldDescriptor (TX9 k).2.2.1 = some (tyX9 k) := by decide +kernel
abbrev cX9_init : ByteArray := prog_11_method_1_code
def yX9_init : MethodName := ⟨RX9, "<init>", "()V"⟩
abbrev cX9_note : ByteArray := prog_11_method_2_code
def yX9_note : MethodName := ⟨RX9, "note", "(III)I"⟩
abbrev cX9_least : ByteArray := prog_11_method_3_code
def yX9_least : MethodName := ⟨RX9, "least", "(II)I"⟩
abbrev cX9_greatest : ByteArray := prog_11_method_4_code
def yX9_greatest : MethodName := ⟨RX9, "greatest", "(II)I"⟩
abbrev cX9_driftOf : ByteArray := prog_11_method_5_code
def yX9_driftOf : MethodName := ⟨RX9, "driftOf", "(II)I"⟩
abbrev cX9_lastBy : ByteArray := prog_11_method_6_code
def yX9_lastBy : MethodName := ⟨RX9, "lastBy", "(II)I"⟩
abbrev cX9_firstAfter : ByteArray := prog_11_method_7_code
def yX9_firstAfter : MethodName := ⟨RX9, "firstAfter", "(II)I"⟩
def RX10 : String := "SilkHouse$Skeins"
def TX10 : u_T := fun k => match k with
  | 0 => ("SilkHouse$Skeins", "rows", "[I", true)
  | 1 => ("SilkHouse$Skeins", "number", "I", false)
  | _ => ("SilkHouse$Skeins", "lost", "I", false)
def tyX10 : Nat → FieldType := fun k => match k with
  | 0 => .array .int
  | 1 => .int
  | _ => .int
theorem nmX10 : ∀ a, a < 3 → ∀ b, b < 3 → a ≠ b → (TX10 a).2.1 ≠ (TX10 b).2.1 := by decide +kernel
theorem tyX10_ok : ∀ k, k < 3 → parseFieldDescriptor (TX10 k).2.2.1 = some (tyX10 k) := by decide +kernel
abbrev cX10_init : ByteArray := prog_12_method_1_code
def yX10_init : MethodName := ⟨RX10, "<init>", "()V"⟩
abbrev cX10_has : ByteArray := prog_12_method_2_code
def yX10_has : MethodName := ⟨RX10, "has", "(I)Z"⟩
abbrev cX10_get : ByteArray := prog_12_method_3_code
def yX10_get : MethodName := ⟨RX10, "get", "(II)I"⟩
abbrev cX10_set : ByteArray := prog_12_method_4_code
def yX10_set : MethodName := ⟨RX10, "set", "(III)V"⟩
abbrev cX10_drawn : ByteArray := prog_12_method_5_code
def yX10_drawn : MethodName := ⟨RX10, "drawn", "(II)I"⟩
abbrev cX10_draw : ByteArray := prog_12_method_6_code
def yX10_draw : MethodName := ⟨RX10, "draw", "(III)I"⟩
abbrev cX10_weigh : ByteArray := prog_12_method_7_code
def yX10_weigh : MethodName := ⟨RX10, "weigh", "(IIII)V"⟩
abbrev cX10_dryIn : ByteArray := prog_12_method_8_code
def yX10_dryIn : MethodName := ⟨RX10, "dryIn", "(III)V"⟩
abbrev cX10_dropOut : ByteArray := prog_12_method_9_code
def yX10_dropOut : MethodName := ⟨RX10, "dropOut", "(II)V"⟩
abbrev cX10_isOf : ByteArray := prog_12_method_10_code
def yX10_isOf : MethodName := ⟨RX10, "isOf", "(III)Z"⟩
abbrev cX10_counts : ByteArray := prog_12_method_11_code
def yX10_counts : MethodName := ⟨RX10, "counts", "(II)Z"⟩
def RX11 : String := "SilkHouse"
def TX11 : u_T := fun k => match k with
  | 0 => ("SilkHouse", "skeins", "LSilkHouse$Skeins;", true)
  | 1 => ("SilkHouse", "scales", "LSilkHouse$Scales;", true)
  | 2 => ("SilkHouse", "bales", "LSilkHouse$Bales;", true)
  | 3 => ("SilkHouse", "book", "LSilkHouse$Book;", true)
  | 4 => ("SilkHouse", "reader", "LSilkHouse$Reader;", true)
  | 5 => ("SilkHouse", "judge", "LSilkHouse$Judge;", true)
  | 6 => ("SilkHouse", "doubts", "LSilkHouse$Doubts;", true)
  | 7 => ("SilkHouse", "ovens", "LSilkHouse$Ovens;", true)
  | 8 => ("SilkHouse", "neighbours", "LSilkHouse$Neighbours;", true)
  | 9 => ("SilkHouse", "papers", "LSilkHouse$Papers;", true)
  | _ => ("SilkHouse", "now", "I", false)
def tyX11 : Nat → FieldType := fun k => match k with
  | 0 => .object "SilkHouse$Skeins"
  | 1 => .object "SilkHouse$Scales"
  | 2 => .object "SilkHouse$Bales"
  | 3 => .object "SilkHouse$Book"
  | 4 => .object "SilkHouse$Reader"
  | 5 => .object "SilkHouse$Judge"
  | 6 => .object "SilkHouse$Doubts"
  | 7 => .object "SilkHouse$Ovens"
  | 8 => .object "SilkHouse$Neighbours"
  | 9 => .object "SilkHouse$Papers"
  | _ => .int
theorem nmX11 : ∀ a, a < 11 → ∀ b, b < 11 → a ≠ b → (TX11 a).2.1 ≠ (TX11 b).2.1 := by decide +kernel
theorem tyX11_ok : ∀ k, k < 11 → parseFieldDescriptor (TX11 k).2.2.1 = some (tyX11 k) := by decide +kernel
abbrev cX11_init : ByteArray := prog_1_method_1_code
def yX11_init : MethodName := ⟨RX11, "<init>", "()V"⟩
abbrev cX11_go : ByteArray := prog_1_method_2_code
def yX11_go : MethodName := ⟨RX11, "go", "(I)I"⟩
abbrev cX11_bale : ByteArray := prog_1_method_3_code
def yX11_bale : MethodName := ⟨RX11, "bale", "(I)I"⟩
abbrev cX11_skein : ByteArray := prog_1_method_4_code
def yX11_skein : MethodName := ⟨RX11, "skein", "(IIIIIII)I"⟩
abbrev cX11_lose : ByteArray := prog_1_method_5_code
def yX11_lose : MethodName := ⟨RX11, "lose", "(I)I"⟩
abbrev cX11_told : ByteArray := prog_1_method_6_code
def yX11_told : MethodName := ⟨RX11, "told", "(II)I"⟩
abbrev cX11_test : ByteArray := prog_1_method_7_code
def yX11_test : MethodName := ⟨RX11, "test", "(III)I"⟩
abbrev cX11_error : ByteArray := prog_1_method_8_code
def yX11_error : MethodName := ⟨RX11, "error", "(III)I"⟩
abbrev cX11_ratio : ByteArray := prog_1_method_9_code
def yX11_ratio : MethodName := ⟨RX11, "ratio", "(III)I"⟩
abbrev cX11_count : ByteArray := prog_1_method_10_code
def yX11_count : MethodName := ⟨RX11, "count", "(I)I"⟩
abbrev cX11_balesIn : ByteArray := prog_1_method_11_code
def yX11_balesIn : MethodName := ⟨RX11, "balesIn", "(I)I"⟩
abbrev cX11_fees : ByteArray := prog_1_method_12_code
def yX11_fees : MethodName := ⟨RX11, "fees", "()I"⟩
abbrev cX11_feed : ByteArray := prog_1_method_13_code
def yX11_feed : MethodName := ⟨RX11, "feed", "(IJ)I"⟩
abbrev cX11_rule : ByteArray := prog_1_method_14_code
def yX11_rule : MethodName := ⟨RX11, "rule", "(I)I"⟩
abbrev cX11_fault : ByteArray := prog_1_method_15_code
def yX11_fault : MethodName := ⟨RX11, "fault", "()I"⟩
abbrev cX11_force : ByteArray := prog_1_method_16_code
def yX11_force : MethodName := ⟨RX11, "force", "(II)I"⟩
abbrev cX11_letter : ByteArray := prog_1_method_17_code
def yX11_letter : MethodName := ⟨RX11, "letter", "(II)I"⟩
abbrev cX11_state : ByteArray := prog_1_method_18_code
def yX11_state : MethodName := ⟨RX11, "state", "(II)I"⟩
abbrev cX11_lawful : ByteArray := prog_1_method_19_code
def yX11_lawful : MethodName := ⟨RX11, "lawful", "(III)J"⟩
abbrev cX11_moistened : ByteArray := prog_1_method_20_code
def yX11_moistened : MethodName := ⟨RX11, "moistened", "(II)J"⟩
abbrev cX11_span : ByteArray := prog_1_method_21_code
def yX11_span : MethodName := ⟨RX11, "span", "(II)J"⟩
abbrev cX11_errors : ByteArray := prog_1_method_22_code
def yX11_errors : MethodName := ⟨RX11, "errors", "(IZ)I"⟩
abbrev cX11_cause : ByteArray := prog_1_method_23_code
def yX11_cause : MethodName := ⟨RX11, "cause", "(II)I"⟩
abbrev cX11_odd : ByteArray := prog_1_method_24_code
def yX11_odd : MethodName := ⟨RX11, "odd", "(II)I"⟩
abbrev cX11_needed : ByteArray := prog_1_method_25_code
def yX11_needed : MethodName := ⟨RX11, "needed", "(II)I"⟩
abbrev cX11_thread : ByteArray := prog_1_method_26_code
def yX11_thread : MethodName := ⟨RX11, "thread", "(II)I"⟩
abbrev cX11_size : ByteArray := prog_1_method_27_code
def yX11_size : MethodName := ⟨RX11, "size", "(II)I"⟩
abbrev cX11_named : ByteArray := prog_1_method_28_code
def yX11_named : MethodName := ⟨RX11, "named", "(II)I"⟩
abbrev cX11_turns : ByteArray := prog_1_method_29_code
def yX11_turns : MethodName := ⟨RX11, "turns", "(II)I"⟩
abbrev cX11_twist : ByteArray := prog_1_method_30_code
def yX11_twist : MethodName := ⟨RX11, "twist", "(I)I"⟩
abbrev cX11_burnt : ByteArray := prog_1_method_31_code
def yX11_burnt : MethodName := ⟨RX11, "burnt", "(IIII)I"⟩
abbrev cX11_cheat : ByteArray := prog_1_method_32_code
def yX11_cheat : MethodName := ⟨RX11, "cheat", "(IIII)I"⟩
abbrev cX11_loss : ByteArray := prog_1_method_33_code
def yX11_loss : MethodName := ⟨RX11, "loss", "(I)I"⟩
abbrev cX11_load : ByteArray := prog_1_method_34_code
def yX11_load : MethodName := ⟨RX11, "load", "(I)I"⟩
abbrev cX11_order : ByteArray := prog_1_method_35_code
def yX11_order : MethodName := ⟨RX11, "order", "(II)I"⟩
abbrev cX11_empty : ByteArray := prog_1_method_36_code
def yX11_empty : MethodName := ⟨RX11, "empty", "()I"⟩
abbrev cX11_shared : ByteArray := prog_1_method_37_code
def yX11_shared : MethodName := ⟨RX11, "shared", "(IIII)I"⟩
abbrev cX11_houses : ByteArray := prog_1_method_38_code
def yX11_houses : MethodName := ⟨RX11, "houses", "(I)I"⟩
abbrev cX11_certify : ByteArray := prog_1_method_39_code
def yX11_certify : MethodName := ⟨RX11, "certify", "(I)I"⟩
abbrev cX11_bill : ByteArray := prog_1_method_40_code
def yX11_bill : MethodName := ⟨RX11, "bill", "(II)I"⟩
abbrev cX11_cut : ByteArray := prog_1_method_41_code
def yX11_cut : MethodName := ⟨RX11, "cut", "(III)I"⟩
abbrev cX11_undo : ByteArray := prog_1_method_42_code
def yX11_undo : MethodName := ⟨RX11, "undo", "(I)I"⟩
abbrev cX11_paper : ByteArray := prog_1_method_43_code
def yX11_paper : MethodName := ⟨RX11, "paper", "(II)I"⟩
abbrev cX11_stood : ByteArray := prog_1_method_44_code
def yX11_stood : MethodName := ⟨RX11, "stood", "(II)J"⟩
abbrev cX11_within : ByteArray := prog_1_method_45_code
def yX11_within : MethodName := ⟨RX11, "within", "(III)Z"⟩
abbrev cX11_inLeastTerms : ByteArray := prog_1_method_46_code
def yX11_inLeastTerms : MethodName := ⟨RX11, "inLeastTerms", "(JJI)J"⟩
abbrev cX11_greatestDivisor : ByteArray := prog_1_method_47_code
def yX11_greatestDivisor : MethodName := ⟨RX11, "greatestDivisor", "(JJ)J"⟩
def RX12 : String := "SilkHouseModel"
def TX12 : u_T := fun k => match k with
  | 0 => ("SilkHouseModel", "now", "I", false)
  | 1 => ("SilkHouseModel", "bales", "I", false)
  | 2 => ("SilkHouseModel", "gross", "[I", true)
  | 3 => ("SilkHouseModel", "skeins", "I", false)
  | 4 => ("SilkHouseModel", "ofBale", "[I", true)
  | 5 => ("SilkHouseModel", "ofLook", "[I", true)
  | 6 => ("SilkHouseModel", "scaleOf", "[I", true)
  | 7 => ("SilkHouseModel", "raw", "[I", true)
  | 8 => ("SilkHouseModel", "dry", "[I", true)
  | 9 => ("SilkHouseModel", "oven", "[I", true)
  | 10 => ("SilkHouseModel", "hand", "[I", true)
  | 11 => ("SilkHouseModel", "dayOf", "[I", true)
  | 12 => ("SilkHouseModel", "lostOn", "[I", true)
  | 13 => ("SilkHouseModel", "tests", "I", false)
  | 14 => ("SilkHouseModel", "testScale", "[I", true)
  | 15 => ("SilkHouseModel", "testError", "[I", true)
  | 16 => ("SilkHouseModel", "testDay", "[I", true)
  | 17 => ("SilkHouseModel", "sumDry", "J", false)
  | 18 => ("SilkHouseModel", "sumRaw", "J", false)
  | 19 => ("SilkHouseModel", "counted", "I", false)
  | 20 => ("SilkHouseModel", "outOven", "I", false)
  | 21 => ("SilkHouseModel", "outHand", "I", false)
  | 22 => ("SilkHouseModel", "outSkein", "I", false)
  | 23 => ("SilkHouseModel", "rules", "I", false)
  | 24 => ("SilkHouseModel", "inForce", "[I", true)
  | 25 => ("SilkHouseModel", "clauses", "[I", true)
  | 26 => ("SilkHouseModel", "kindOf", "[I", true)
  | 27 => ("SilkHouseModel", "nameOf", "[I", true)
  | 28 => ("SilkHouseModel", "first", "[I", true)
  | 29 => ("SilkHouseModel", "second", "[I", true)
  | 30 => ("SilkHouseModel", "wordSize", "[I", true)
  | 31 => ("SilkHouseModel", "word", "[I", true)
  | 32 => ("SilkHouseModel", "text", "[I", true)
  | 33 => ("SilkHouseModel", "textSize", "I", false)
  | 34 => ("SilkHouseModel", "at", "I", false)
  | 35 => ("SilkHouseModel", "faultOf", "I", false)
  | 36 => ("SilkHouseModel", "place", "I", false)
  | 37 => ("SilkHouseModel", "from", "I", false)
  | 38 => ("SilkHouseModel", "letters", "I", false)
  | 39 => ("SilkHouseModel", "isOn", "[Z", true)
  | 40 => ("SilkHouseModel", "order", "[I", true)
  | 41 => ("SilkHouseModel", "ons", "I", false)
  | 42 => ("SilkHouseModel", "dryOf", "[J", true)
  | 43 => ("SilkHouseModel", "rawOf", "[J", true)
  | 44 => ("SilkHouseModel", "resultUp", "J", false)
  | 45 => ("SilkHouseModel", "resultDown", "J", false)
  | 46 => ("SilkHouseModel", "lawfulUp", "J", false)
  | 47 => ("SilkHouseModel", "lawfulDown", "J", false)
  | 48 => ("SilkHouseModel", "causes", "I", false)
  | 49 => ("SilkHouseModel", "causeOf", "[I", true)
  | 50 => ("SilkHouseModel", "own", "[I", true)
  | 51 => ("SilkHouseModel", "threads", "[I", true)
  | 52 => ("SilkHouseModel", "thread", "[I", true)
  | 53 => ("SilkHouseModel", "countMany", "[I", true)
  | 54 => ("SilkHouseModel", "turn", "[I", true)
  | 55 => ("SilkHouseModel", "gumLow", "[I", true)
  | 56 => ("SilkHouseModel", "ashLow", "[I", true)
  | 57 => ("SilkHouseModel", "loads", "I", false)
  | 58 => ("SilkHouseModel", "minutes", "[I", true)
  | 59 => ("SilkHouseModel", "ends", "[I", true)
  | 60 => ("SilkHouseModel", "bestWay", "I", false)
  | 61 => ("SilkHouseModel", "bestEnd", "I", false)
  | 62 => ("SilkHouseModel", "shared", "I", false)
  | 63 => ("SilkHouseModel", "apartLow", "[I", true)
  | 64 => ("SilkHouseModel", "apartHigh", "[I", true)
  | 65 => ("SilkHouseModel", "spanLow", "I", false)
  | 66 => ("SilkHouseModel", "spanHigh", "I", false)
  | 67 => ("SilkHouseModel", "papers", "I", false)
  | 68 => ("SilkHouseModel", "paperKind", "[I", true)
  | 69 => ("SilkHouseModel", "paperBale", "[I", true)
  | 70 => ("SilkHouseModel", "paperWorth", "[J", true)
  | 71 => ("SilkHouseModel", "hangsOn", "[I", true)
  | 72 => ("SilkHouseModel", "paperDay", "[I", true)
  | 73 => ("SilkHouseModel", "undoneOn", "[I", true)
  | _ => ("SilkHouseModel", "feeOf", "[I", true)
def tyX12 : Nat → FieldType := fun k => match k with
  | 0 => .int
  | 1 => .int
  | 2 => .array .int
  | 3 => .int
  | 4 => .array .int
  | 5 => .array .int
  | 6 => .array .int
  | 7 => .array .int
  | 8 => .array .int
  | 9 => .array .int
  | 10 => .array .int
  | 11 => .array .int
  | 12 => .array .int
  | 13 => .int
  | 14 => .array .int
  | 15 => .array .int
  | 16 => .array .int
  | 17 => .long
  | 18 => .long
  | 19 => .int
  | 20 => .int
  | 21 => .int
  | 22 => .int
  | 23 => .int
  | 24 => .array .int
  | 25 => .array .int
  | 26 => .array .int
  | 27 => .array .int
  | 28 => .array .int
  | 29 => .array .int
  | 30 => .array .int
  | 31 => .array .int
  | 32 => .array .int
  | 33 => .int
  | 34 => .int
  | 35 => .int
  | 36 => .int
  | 37 => .int
  | 38 => .int
  | 39 => .array .boolean
  | 40 => .array .int
  | 41 => .int
  | 42 => .array .long
  | 43 => .array .long
  | 44 => .long
  | 45 => .long
  | 46 => .long
  | 47 => .long
  | 48 => .int
  | 49 => .array .int
  | 50 => .array .int
  | 51 => .array .int
  | 52 => .array .int
  | 53 => .array .int
  | 54 => .array .int
  | 55 => .array .int
  | 56 => .array .int
  | 57 => .int
  | 58 => .array .int
  | 59 => .array .int
  | 60 => .int
  | 61 => .int
  | 62 => .int
  | 63 => .array .int
  | 64 => .array .int
  | 65 => .int
  | 66 => .int
  | 67 => .int
  | 68 => .array .int
  | 69 => .array .int
  | 70 => .array .long
  | 71 => .array .int
  | 72 => .array .int
  | 73 => .array .int
  | _ => .array .int
theorem nmX12 : ∀ a, a < 75 → ∀ b, b < 75 → a ≠ b → (TX12 a).2.1 ≠ (TX12 b).2.1 := by decide +kernel
theorem tyX12_ok : ∀ k, k < 75 → parseFieldDescriptor (TX12 k).2.2.1 = some (tyX12 k) := by decide +kernel
abbrev cX12_init : ByteArray := prog_14_method_1_code
def yX12_init : MethodName := ⟨RX12, "<init>", "()V"⟩
abbrev cX12_in : ByteArray := prog_14_method_3_code
def yX12_in : MethodName := ⟨RX12, "in", "(JJJ)Z"⟩
abbrev cX12_bit : ByteArray := prog_14_method_4_code
def yX12_bit : MethodName := ⟨RX12, "bit", "(Z)I"⟩
abbrev cX12_plain : ByteArray := prog_14_method_5_code
def yX12_plain : MethodName := ⟨RX12, "plain", "(J)J"⟩
abbrev cX12_gcd : ByteArray := prog_14_method_6_code
def yX12_gcd : MethodName := ⟨RX12, "gcd", "(JJ)J"⟩
abbrev cX12_noBale : ByteArray := prog_14_method_7_code
def yX12_noBale : MethodName := ⟨RX12, "noBale", "(I)Z"⟩
abbrev cX12_isPast : ByteArray := prog_14_method_8_code
def yX12_isPast : MethodName := ⟨RX12, "isPast", "(I)Z"⟩
abbrev cX12_isDay : ByteArray := prog_14_method_9_code
def yX12_isDay : MethodName := ⟨RX12, "isDay", "(I)Z"⟩
abbrev cX12_go : ByteArray := prog_14_method_10_code
def yX12_go : MethodName := ⟨RX12, "go", "(I)I"⟩
abbrev cX12_bale : ByteArray := prog_14_method_11_code
def yX12_bale : MethodName := ⟨RX12, "bale", "(I)I"⟩
abbrev cX12_skein : ByteArray := prog_14_method_12_code
def yX12_skein : MethodName := ⟨RX12, "skein", "(IIIIIII)I"⟩
abbrev cX12_noSkein : ByteArray := prog_14_method_13_code
def yX12_noSkein : MethodName := ⟨RX12, "noSkein", "(I)Z"⟩
abbrev cX12_lose : ByteArray := prog_14_method_14_code
def yX12_lose : MethodName := ⟨RX12, "lose", "(I)I"⟩
abbrev cX12_told : ByteArray := prog_14_method_15_code
def yX12_told : MethodName := ⟨RX12, "told", "(II)I"⟩
abbrev cX12_isWeight : ByteArray := prog_14_method_16_code
def yX12_isWeight : MethodName := ⟨RX12, "isWeight", "(I)Z"⟩
abbrev cX12_test : ByteArray := prog_14_method_17_code
def yX12_test : MethodName := ⟨RX12, "test", "(III)I"⟩
abbrev cX12_errorOf : ByteArray := prog_14_method_18_code
def yX12_errorOf : MethodName := ⟨RX12, "errorOf", "(IIZ)I"⟩
abbrev cX12_error : ByteArray := prog_14_method_19_code
def yX12_error : MethodName := ⟨RX12, "error", "(III)I"⟩
abbrev cX12_isThere : ByteArray := prog_14_method_20_code
def yX12_isThere : MethodName := ⟨RX12, "isThere", "(II)Z"⟩
abbrev cX12_sumUp : ByteArray := prog_14_method_21_code
def yX12_sumUp : MethodName := ⟨RX12, "sumUp", "(III)I"⟩
abbrev cX12_leaveOut : ByteArray := prog_14_method_22_code
def yX12_leaveOut : MethodName := ⟨RX12, "leaveOut", "(III)V"⟩
abbrev cX12_ratio : ByteArray := prog_14_method_23_code
def yX12_ratio : MethodName := ⟨RX12, "ratio", "(III)I"⟩
abbrev cX12_doPart : ByteArray := prog_14_method_24_code
def yX12_doPart : MethodName := ⟨RX12, "doPart", "(JJJJI)Z"⟩
abbrev cX12_feed : ByteArray := prog_14_method_25_code
def yX12_feed : MethodName := ⟨RX12, "feed", "(IJ)I"⟩
abbrev cX12_here : ByteArray := prog_14_method_26_code
def yX12_here : MethodName := ⟨RX12, "here", "()I"⟩
abbrev cX12_want : ByteArray := prog_14_method_27_code
def yX12_want : MethodName := ⟨RX12, "want", "(ZII)Z"⟩
abbrev cX12_takeWord : ByteArray := prog_14_method_28_code
def yX12_takeWord : MethodName := ⟨RX12, "takeWord", "()V"⟩
abbrev cX12_isWord : ByteArray := prog_14_method_29_code
def yX12_isWord : MethodName := ⟨RX12, "isWord", "(IIIIIII)Z"⟩
abbrev cX12_takeNumber : ByteArray := prog_14_method_30_code
def yX12_takeNumber : MethodName := ⟨RX12, "takeNumber", "(II)I"⟩
abbrev cX12_letOf : ByteArray := prog_14_method_31_code
def yX12_letOf : MethodName := ⟨RX12, "letOf", "()I"⟩
abbrev cX12_leastOf : ByteArray := prog_14_method_32_code
def yX12_leastOf : MethodName := ⟨RX12, "leastOf", "(I)I"⟩
abbrev cX12_mostOf : ByteArray := prog_14_method_33_code
def yX12_mostOf : MethodName := ⟨RX12, "mostOf", "(I)I"⟩
abbrev cX12_atFirst : ByteArray := prog_14_method_34_code
def yX12_atFirst : MethodName := ⟨RX12, "atFirst", "(I)I"⟩
abbrev cX12_readName : ByteArray := prog_14_method_35_code
def yX12_readName : MethodName := ⟨RX12, "readName", "(I)V"⟩
abbrev cX12_readClause : ByteArray := prog_14_method_36_code
def yX12_readClause : MethodName := ⟨RX12, "readClause", "(II)V"⟩
abbrev cX12_rule : ByteArray := prog_14_method_37_code
def yX12_rule : MethodName := ⟨RX12, "rule", "(I)I"⟩
abbrev cX12_fault : ByteArray := prog_14_method_38_code
def yX12_fault : MethodName := ⟨RX12, "fault", "()I"⟩
abbrev cX12_findRules : ByteArray := prog_14_method_39_code
def yX12_findRules : MethodName := ⟨RX12, "findRules", "(I)V"⟩
abbrev cX12_forceOf : ByteArray := prog_14_method_40_code
def yX12_forceOf : MethodName := ⟨RX12, "forceOf", "(II)I"⟩
abbrev cX12_force : ByteArray := prog_14_method_41_code
def yX12_force : MethodName := ⟨RX12, "force", "(II)I"⟩
abbrev cX12_letter : ByteArray := prog_14_method_42_code
def yX12_letter : MethodName := ⟨RX12, "letter", "(II)I"⟩
abbrev cX12_half : ByteArray := prog_14_method_43_code
def yX12_half : MethodName := ⟨RX12, "half", "(II)V"⟩
abbrev cX12_only : ByteArray := prog_14_method_44_code
def yX12_only : MethodName := ⟨RX12, "only", "(I)V"⟩
abbrev cX12_isLess : ByteArray := prog_14_method_45_code
def yX12_isLess : MethodName := ⟨RX12, "isLess", "(II)Z"⟩
abbrev cX12_settleThree : ByteArray := prog_14_method_46_code
def yX12_settleThree : MethodName := ⟨RX12, "settleThree", "(I)V"⟩
abbrev cX12_stateOf : ByteArray := prog_14_method_47_code
def yX12_stateOf : MethodName := ⟨RX12, "stateOf", "(II)I"⟩
abbrev cX12_state : ByteArray := prog_14_method_48_code
def yX12_state : MethodName := ⟨RX12, "state", "(II)I"⟩
abbrev cX12_findLawful : ByteArray := prog_14_method_49_code
def yX12_findLawful : MethodName := ⟨RX12, "findLawful", "(IJJI)V"⟩
abbrev cX12_lawful : ByteArray := prog_14_method_50_code
def yX12_lawful : MethodName := ⟨RX12, "lawful", "(III)J"⟩
abbrev cX12_held : ByteArray := prog_14_method_51_code
def yX12_held : MethodName := ⟨RX12, "held", "(I)I"⟩
abbrev cX12_span : ByteArray := prog_14_method_52_code
def yX12_span : MethodName := ⟨RX12, "span", "(II)J"⟩
abbrev cX12_doLooksPart : ByteArray := prog_14_method_53_code
def yX12_doLooksPart : MethodName := ⟨RX12, "doLooksPart", "(II)Z"⟩
abbrev cX12_haveBoth : ByteArray := prog_14_method_54_code
def yX12_haveBoth : MethodName := ⟨RX12, "haveBoth", "(I)Z"⟩
abbrev cX12_tryCause : ByteArray := prog_14_method_55_code
def yX12_tryCause : MethodName := ⟨RX12, "tryCause", "(IIIII)V"⟩
abbrev cX12_cause : ByteArray := prog_14_method_56_code
def yX12_cause : MethodName := ⟨RX12, "cause", "(II)I"⟩
abbrev cX12_odd : ByteArray := prog_14_method_57_code
def yX12_odd : MethodName := ⟨RX12, "odd", "(II)I"⟩
abbrev cX12_ones : ByteArray := prog_14_method_58_code
def yX12_ones : MethodName := ⟨RX12, "ones", "(I)I"⟩
abbrev cX12_isEnough : ByteArray := prog_14_method_59_code
def yX12_isEnough : MethodName := ⟨RX12, "isEnough", "(IIII)Z"⟩
abbrev cX12_needed : ByteArray := prog_14_method_60_code
def yX12_needed : MethodName := ⟨RX12, "needed", "(II)I"⟩
abbrev cX12_thread : ByteArray := prog_14_method_61_code
def yX12_thread : MethodName := ⟨RX12, "thread", "(II)I"⟩
abbrev cX12_size : ByteArray := prog_14_method_62_code
def yX12_size : MethodName := ⟨RX12, "size", "(II)I"⟩
abbrev cX12_named : ByteArray := prog_14_method_63_code
def yX12_named : MethodName := ⟨RX12, "named", "(II)I"⟩
abbrev cX12_turns : ByteArray := prog_14_method_64_code
def yX12_turns : MethodName := ⟨RX12, "turns", "(II)I"⟩
abbrev cX12_twist : ByteArray := prog_14_method_65_code
def yX12_twist : MethodName := ⟨RX12, "twist", "(I)I"⟩
abbrev cX12_burnt : ByteArray := prog_14_method_66_code
def yX12_burnt : MethodName := ⟨RX12, "burnt", "(IIII)I"⟩
abbrev cX12_cheat : ByteArray := prog_14_method_67_code
def yX12_cheat : MethodName := ⟨RX12, "cheat", "(IIII)I"⟩
abbrev cX12_load : ByteArray := prog_14_method_68_code
def yX12_load : MethodName := ⟨RX12, "load", "(I)I"⟩
abbrev cX12_power : ByteArray := prog_14_method_69_code
def yX12_power : MethodName := ⟨RX12, "power", "(II)I"⟩
abbrev cX12_ovenOf : ByteArray := prog_14_method_70_code
def yX12_ovenOf : MethodName := ⟨RX12, "ovenOf", "(III)I"⟩
abbrev cX12_findOrder : ByteArray := prog_14_method_71_code
def yX12_findOrder : MethodName := ⟨RX12, "findOrder", "(I)V"⟩
abbrev cX12_order : ByteArray := prog_14_method_72_code
def yX12_order : MethodName := ⟨RX12, "order", "(II)I"⟩
abbrev cX12_empty : ByteArray := prog_14_method_73_code
def yX12_empty : MethodName := ⟨RX12, "empty", "()I"⟩
abbrev cX12_shared : ByteArray := prog_14_method_74_code
def yX12_shared : MethodName := ⟨RX12, "shared", "(IIII)I"⟩
abbrev cX12_findSpan : ByteArray := prog_14_method_75_code
def yX12_findSpan : MethodName := ⟨RX12, "findSpan", "(I)Z"⟩
abbrev cX12_houses : ByteArray := prog_14_method_76_code
def yX12_houses : MethodName := ⟨RX12, "houses", "(I)I"⟩
abbrev cX12_add : ByteArray := prog_14_method_77_code
def yX12_add : MethodName := ⟨RX12, "add", "(IIJII)V"⟩
abbrev cX12_certify : ByteArray := prog_14_method_78_code
def yX12_certify : MethodName := ⟨RX12, "certify", "(I)I"⟩
abbrev cX12_noPaper : ByteArray := prog_14_method_79_code
def yX12_noPaper : MethodName := ⟨RX12, "noPaper", "(I)Z"⟩
abbrev cX12_stands : ByteArray := prog_14_method_80_code
def yX12_stands : MethodName := ⟨RX12, "stands", "(I)Z"⟩
abbrev cX12_bill : ByteArray := prog_14_method_81_code
def yX12_bill : MethodName := ⟨RX12, "bill", "(II)I"⟩
abbrev cX12_cut : ByteArray := prog_14_method_82_code
def yX12_cut : MethodName := ⟨RX12, "cut", "(III)I"⟩
abbrev cX12_undo : ByteArray := prog_14_method_83_code
def yX12_undo : MethodName := ⟨RX12, "undo", "(I)I"⟩
abbrev cX12_paper : ByteArray := prog_14_method_84_code
def yX12_paper : MethodName := ⟨RX12, "paper", "(II)I"⟩
abbrev cX12_stood : ByteArray := prog_14_method_85_code
def yX12_stood : MethodName := ⟨RX12, "stood", "(II)J"⟩
abbrev cX12_balesIn : ByteArray := prog_14_method_86_code
def yX12_balesIn : MethodName := ⟨RX12, "balesIn", "(I)I"⟩
abbrev cX12_count : ByteArray := prog_14_method_87_code
def yX12_count : MethodName := ⟨RX12, "count", "(I)I"⟩
def RL : String := "SilkHouseLaw"
abbrev cL_law : ByteArray := code
def yL_law : MethodName := ⟨RL, "law", "([I)Z"⟩
/-! ===== END ===== -/
abbrev classes : List vw_C := [(RX0, TX0, 8), (RX1, TX1, 9), (RX2, TX2, 8), (RX3, TX3, 5), (RX4, TX4, 3), (RX5, TX5, 7), (RX6, TX6, 8), (RX7, TX7, 3), (RX8, TX8, 6), (RX9, TX9, 4), (RX10, TX10, 3), (RX11, TX11, 11), (RX12, TX12, 75)]

/-! ===== the tables' good words as ONE list: every method's words are its own code and these ===== -/
def tb : List Cond := lw_tbl.filter goodWord
theorem tb_in {w : Cond} (i : Nat) (h : lw_tbl[i]? = some w) (hg : goodWord w = true) : w ∈ tb := List.mem_filter.mpr ⟨List.mem_of_getElem? h, hg⟩
theorem tb_of {args : Array Value} {s : State} (h : ∀ w ∈ lw_tbl, w.before args s = true) : ∀ w ∈ tb, w.before args s = true := fun w hw => h w (List.mem_filter.mp hw).1
theorem tb_self : GoodIn tb tb := fun w hw => ⟨hw, good_of_word (List.mem_filter.mp hw).2⟩
abbrev wc (y : MethodName) (b : ByteArray) (n : Nat) (r : Option FieldType) : List Cond := Cond.code y b n r :: tb
theorem tb_wc {y : MethodName} {b : ByteArray} {n : Nat} {r : Option FieldType} (h : Cond.code y b n r ∈ tb) : GoodIn tb (wc y b n r) := fun w hw => (List.mem_cons.mp hw).elim (fun e => by rw [e]; exact tb_self _ h) (fun h2 => tb_self w h2)
theorem tb_tl {x : Cond} {args : Array Value} {s : State} (h : ∀ w ∈ x :: tb, w.before args s = true) : ∀ w ∈ tb, w.before args s = true := fun w hw => h w (List.mem_cons_of_mem _ hw)
theorem kV {R : Room} {s : State} {args : Array Value} {own C : String} {index maxL mc ms : Nat} {y : MethodName} {bytes : ByteArray} {ret : Option FieldType} {rm : Room} (n : Nat) (ht : ∀ w ∈ tb, w.before args s = true) (h1 : Cond.methodLink own index y ∈ tb) (h2 : Cond.instanceMethod y ∈ tb) (h3 : Cond.selects C y y ∈ tb) (h4 : Cond.initialized C ∈ tb) (hc : Cond.code y bytes maxL ret ∈ tb) (hrc : rm.cells = mc) (hrs : rm.slots = ms)
    (hd : y.cls = C ∧ y.cls ≠ "java/lang/invoke/MethodHandle" ∧ y.cls ≠ "java/lang/invoke/VarHandle" ∧ (parseMethodDescriptor y.desc).map (fun d => d.parameters.length) = some n) (hR : rm.frames + 1 ≤ R.frames ∧ 8 + (maxL + 11) + rm.locals ≤ R.locals) :
    CallW R s args own C index y bytes maxL ret (wc y bytes maxL ret) rm mc ms n :=
  cwV n ht (fun w hw => (List.mem_append.mp hw).elim (fun h => by
    simp only [List.mem_cons, List.not_mem_nil, or_false] at h
    rcases h with rfl | rfl | rfl | rfl
    · exact tb_self _ h1
    · exact tb_self _ h2
    · exact tb_self _ h3
    · exact tb_self _ h4) (tb_wc hc w)) rfl hrc hrs hd hR
theorem kS {R : Room} {s : State} {args : Array Value} {own : String} {index maxL mc ms : Nat} {y : MethodName} {bytes : ByteArray} {ret : Option FieldType} {rm : Room} (n : Nat) (ht : ∀ w ∈ tb, w.before args s = true) (h1 : Cond.methodLink own index y ∈ tb) (h2 : Cond.static y ∈ tb) (h4 : Cond.initialized own ∈ tb) (hc : Cond.code y bytes maxL ret ∈ tb) (hrc : rm.cells = mc) (hrs : rm.slots = ms)
    (hd : y.cls = own ∧ y.cls ≠ "java/lang/invoke/MethodHandle" ∧ y.cls ≠ "java/lang/invoke/VarHandle" ∧ (parseMethodDescriptor y.desc).map (fun d => d.parameters.length) = some n) (hR : rm.frames + 1 ≤ R.frames ∧ 8 + (maxL + 11) + rm.locals ≤ R.locals) :
    CallB R s args own index y bytes maxL ret (wc y bytes maxL ret) rm mc ms n ∧ (Cond.static y).before args s = true :=
  cwS n ht (fun w hw => (List.mem_append.mp hw).elim (fun h => by
    simp only [List.mem_cons, List.not_mem_nil, or_false] at h
    rcases h with rfl | rfl | rfl
    · exact tb_self _ h1
    · exact tb_self _ h2
    · exact tb_self _ h4) (tb_wc hc w)) rfl hrc hrs hd hR
/-- what a reading method asks: the cells, the classes -/
def pR (D : va_G) (cl : List vw_C) (ws : va_W) (tys : List (ClassId × FieldType)) (av : List Value) : Array Value → State → Prop := va_Pc av (fun U => va_P D cl ws U.heap ∧ va_K D cl tys U)
/-- what a writing method asks -/
def pW (D : va_G) (cl : List vw_C) (ws : va_W) (tys : List (ClassId × FieldType)) (sz : Nat) (av : List Value) : Array Value → State → Prop := va_Pc av (fun U => U.heap.size = sz ∧ va_P D cl ws U.heap ∧ va_K D cl tys U ∧ va_D (fun _ => True) ws)
theorem pR_fb {D : va_G} {cl : List vw_C} {ws : va_W} {tys : List (ClassId × FieldType)} {av : List Value} : FrameBlind (pR D cl ws tys av) := fun a U g mk q => ⟨q.1, q.2.1, va_K.moved (u := U) (U := U.calling g mk a) (Vm.Alike.refl U.vm) q.2.2⟩
theorem pW_fb {D : va_G} {cl : List vw_C} {ws : va_W} {tys : List (ClassId × FieldType)} {sz : Nat} {av : List Value} : FrameBlind (pW D cl ws tys sz av) := fun a U g mk q => ⟨q.1, q.2.1, q.2.2.1, va_K.moved (u := U) (U := U.calling g mk a) (Vm.Alike.refl U.vm) q.2.2.2.1, q.2.2.2.2⟩
theorem vR {D : va_G} {cl : List vw_C} {ws : va_W} {tys : List (ClassId × FieldType)} {s : State} {H : Heap} {C : String} {b : Addr} {As : List Value} (hP : va_P D cl ws H) (hK : va_K D cl tys s) (hr : ∃ cell : Cell, H[b]? = some cell ∧ cell.vm.isStatics = false ∧ s.vm.findClass C = some cell.cls) : PreV s H C b (pR D cl ws tys (.ref b :: As)) As := ⟨pR_fb, hr, fun U hU hW => ⟨rfl, by rw [hU]; exact hP, va_K.moved hW.alike hK⟩⟩
theorem sR {D : va_G} {cl : List vw_C} {ws : va_W} {tys : List (ClassId × FieldType)} {s : State} {H : Heap} {As : List Value} (hP : va_P D cl ws H) (hK : va_K D cl tys s) : PreS s H (pR D cl ws tys As) As := ⟨pR_fb, fun U hU hW => ⟨rfl, by rw [hU]; exact hP, va_K.moved hW.alike hK⟩⟩
theorem vW {D : va_G} {cl : List vw_C} {ws : va_W} {tys : List (ClassId × FieldType)} {A : Nat → Prop} {s : State} {H : Heap} {C : String} {b : Addr} {As : List Value} (hP : va_P D cl ws H) (hK : va_K D cl tys s) (hD : va_D A ws) (hr : ∃ cell : Cell, H[b]? = some cell ∧ cell.vm.isStatics = false ∧ s.vm.findClass C = some cell.cls) : PreV s H C b (pW D cl ws tys H.size (.ref b :: As)) As := ⟨pW_fb, hr, fun U hU hW => ⟨rfl, by rw [hU], by rw [hU]; exact hP, va_K.moved hW.alike hK, hD.weaken (fun _ _ _ _ => trivial)⟩⟩
theorem sW {D : va_G} {cl : List vw_C} {ws : va_W} {tys : List (ClassId × FieldType)} {A : Nat → Prop} {s : State} {H : Heap} {As : List Value} (hP : va_P D cl ws H) (hK : va_K D cl tys s) (hD : va_D A ws) : PreS s H (pW D cl ws tys H.size As) As := ⟨pW_fb, fun U hU hW => ⟨rfl, by rw [hU], by rw [hU]; exact hP, va_K.moved hW.alike hK, hD.weaken (fun _ _ _ _ => trivial)⟩⟩
theorem noP {D : va_G} {cl : List vw_C} {H : Heap} : va_P D cl [] H := fun k q h => by simp at h
theorem noD {A : Nat → Prop} : va_D A [] := ⟨fun i j p q h => by simp at h, fun k q h => by simp at h⟩
/-! ===== whole numbers ===== -/
theorem z_lt {a b : Int32} {x y : Int} (ha : a.toInt = x) (hb : b.toInt = y) (h : a < b) : x < y := by have := Int32.lt_iff_toInt_lt.mp h; omega
theorem z_nlt {a b : Int32} {x y : Int} (ha : a.toInt = x) (hb : b.toInt = y) (h : ¬ a < b) : y ≤ x := by have h2 : ¬ a.toInt < b.toInt := fun q => h (Int32.lt_iff_toInt_lt.mpr q); omega
theorem z_le {a b : Int32} {x y : Int} (ha : a.toInt = x) (hb : b.toInt = y) (h : a ≤ b) : x ≤ y := by have := Int32.le_iff_toInt_le.mp h; omega
theorem z_nle {a b : Int32} {x y : Int} (ha : a.toInt = x) (hb : b.toInt = y) (h : ¬ a ≤ b) : y < x := by have h2 : ¬ a.toInt ≤ b.toInt := fun q => h (Int32.le_iff_toInt_le.mpr q); omega
theorem z_eq {a b : Int32} {x y : Int} (ha : a.toInt = x) (hb : b.toInt = y) (h : a = b) : x = y := by rw [← ha, ← hb, h]
theorem z_ne {a b : Int32} {x y : Int} (ha : a.toInt = x) (hb : b.toInt = y) (h : ¬ a = b) : ¬ x = y := fun q => h (Int32.toInt_inj.mp (by rw [ha, hb, q]))
theorem z_of {a b : Int32} {x : Int} (hb : b.toInt = x) (h : a.toInt = x) : a = b := Int32.toInt_inj.mp (h.trans hb.symm)
theorem z_add {a b c : Int32} {x y : Int} (h : c = a + b) (ha : a.toInt = x) (hb : b.toInt = y) (h1 : -2147483648 ≤ x + y) (h2 : x + y < 2147483648) : c.toInt = x + y := by
  rw [h, Int32.toInt_add, ha, hb, Int.bmod_def]; omega
theorem z_sub {a b c : Int32} {x y : Int} (h : c = a - b) (ha : a.toInt = x) (hb : b.toInt = y) (h1 : -2147483648 ≤ x - y) (h2 : x - y < 2147483648) : c.toInt = x - y := by
  rw [h, Int32.toInt_sub, ha, hb, Int.bmod_def]; omega
theorem zc_lt {x y : Int64} {k : Int32} {u v : Int} (h : k = lg_cmp x y) (hx : x.toInt = u) (hy : y.toInt = v) (c : k < 0) : u < v := by
  rw [h] at c; unfold lg_cmp at c; rw [← hx, ← hy]
  split at c
  · exact absurd c (by decide)
  · split at c
    · exact absurd c (by decide)
    · next h1 h2 => have h3 : ¬ y.toInt < x.toInt := fun q => h1 (Int64.lt_iff_toInt_lt.mpr q); have h4 : ¬ x.toInt = y.toInt := fun q => h2 (Int64.toInt_inj.mp q); omega
theorem zc_nlt {x y : Int64} {k : Int32} {u v : Int} (h : k = lg_cmp x y) (hx : x.toInt = u) (hy : y.toInt = v) (c : ¬ k < 0) : v ≤ u := by
  rw [h] at c; unfold lg_cmp at c; rw [← hx, ← hy]
  split at c
  · next h1 => have := Int64.lt_iff_toInt_lt.mp h1; omega
  · split at c
    · next h1 h2 => rw [h2]; exact Int.le_refl _
    · exact absurd (by decide) c
theorem zc_gt {x y : Int64} {k : Int32} {u v : Int} (h : k = lg_cmp x y) (hx : x.toInt = u) (hy : y.toInt = v) (c : 0 < k) : v < u := by
  rw [h] at c; unfold lg_cmp at c; rw [← hx, ← hy]
  split at c
  · next h1 => exact Int64.lt_iff_toInt_lt.mp h1
  · split at c
    · exact absurd c (by decide)
    · exact absurd c (by decide)
theorem zc_ngt {x y : Int64} {k : Int32} {u v : Int} (h : k = lg_cmp x y) (hx : x.toInt = u) (hy : y.toInt = v) (c : ¬ 0 < k) : u ≤ v := by
  rw [h] at c; unfold lg_cmp at c; rw [← hx, ← hy]
  split at c
  · exact absurd (by decide) c
  · next h1 => have h3 : ¬ y.toInt < x.toInt := fun q => h1 (Int64.lt_iff_toInt_lt.mpr q); omega
theorem z_div100 {a c : Int32} (h : c = a / 100) (h0 : 0 ≤ a.toInt) : 0 ≤ c.toInt := by
  have h1 : (100 : Int32).toInt = 100 := by decide
  have h2 := Int32.toInt_lt a
  have h3 : a.toInt.tdiv 100 = a.toInt / 100 := Int.tdiv_eq_ediv_of_nonneg h0
  rw [h, Int32.toInt_div, h1, h3, Int.bmod_def]; omega
end
section
/-! ===== words, decode rows ===== -/
theorem in_list {ws : List Cond} (ps : List Nat) (h : ps.map (fun i => lw_tbl[i]?) = ws.map some) (hg : ws.all goodWord = true) : ∀ w ∈ ws, w ∈ tb := by
  intro w hw
  have h1 : some w ∈ ps.map (fun i => lw_tbl[i]?) := by rw [h]; exact List.mem_map.mpr ⟨w, hw, rfl⟩
  obtain ⟨i, -, hi⟩ := List.mem_map.mp h1
  exact tb_in i hi (List.all_eq_true.mp hg w hw)
set_option maxRecDepth 100000 in
theorem inX0 : ∀ w ∈ u_ws RX0 TX0 8, w ∈ tb := in_list [166, 168, 170, 172, 174, 176, 178, 180] rfl rfl
set_option maxRecDepth 100000 in
theorem new_X0 : ∀ j, j < 8 → defaultValue (tyX0 j) = vp_V [.null, .null, .null, .null, .null, .null, .null, .int 0] j := by
  intro j hj
  have h : ∀ i : Fin 8, defaultValue (tyX0 i.val) = vp_V [.null, .null, .null, .null, .null, .null, .null, .int 0] i.val := by decide
  exact h ⟨j, hj⟩
set_option maxRecDepth 100000 in
theorem inX1 : ∀ w ∈ u_ws RX1 TX1 9, w ∈ tb := in_list [201, 203, 205, 207, 209, 211, 213, 215, 217] rfl rfl
set_option maxRecDepth 100000 in
theorem new_X1 : ∀ j, j < 9 → defaultValue (tyX1 j) = vp_V [.null, .null, .null, .null, .null, .null, .null, .int 0, .int 0] j := by
  intro j hj
  have h : ∀ i : Fin 9, defaultValue (tyX1 i.val) = vp_V [.null, .null, .null, .null, .null, .null, .null, .int 0, .int 0] i.val := by decide
  exact h ⟨j, hj⟩
set_option maxRecDepth 100000 in
theorem inX2 : ∀ w ∈ u_ws RX2 TX2 8, w ∈ tb := in_list [312, 314, 316, 318, 320, 322, 324, 326] rfl rfl
set_option maxRecDepth 100000 in
theorem new_X2 : ∀ j, j < 8 → defaultValue (tyX2 j) = vp_V [.null, .null, .null, .int 0, .int 0, .int 0, .int 0, .int 0] j := by
  intro j hj
  have h : ∀ i : Fin 8, defaultValue (tyX2 i.val) = vp_V [.null, .null, .null, .int 0, .int 0, .int 0, .int 0, .int 0] i.val := by decide
  exact h ⟨j, hj⟩
set_option maxRecDepth 100000 in
theorem inX3 : ∀ w ∈ u_ws RX3 TX3 5, w ∈ tb := in_list [285, 287, 289, 291, 293] rfl rfl
set_option maxRecDepth 100000 in
theorem new_X3 : ∀ j, j < 5 → defaultValue (tyX3 j) = vp_V [.null, .null, .null, .int 0, .int 0] j := by
  intro j hj
  have h : ∀ i : Fin 5, defaultValue (tyX3 i.val) = vp_V [.null, .null, .null, .int 0, .int 0] i.val := by decide
  exact h ⟨j, hj⟩
set_option maxRecDepth 100000 in
theorem inX4 : ∀ w ∈ u_ws RX4 TX4 3, w ∈ tb := in_list [370, 372, 374] rfl rfl
set_option maxRecDepth 100000 in
theorem new_X4 : ∀ j, j < 3 → defaultValue (tyX4 j) = vp_V [.null, .null, .int 0] j := by
  intro j hj
  have h : ∀ i : Fin 3, defaultValue (tyX4 i.val) = vp_V [.null, .null, .int 0] i.val := by decide
  exact h ⟨j, hj⟩
set_option maxRecDepth 100000 in
theorem inX5 : ∀ w ∈ u_ws RX5 TX5 7, w ∈ tb := in_list [345, 347, 349, 351, 353, 355, 357] rfl rfl
set_option maxRecDepth 100000 in
theorem new_X5 : ∀ j, j < 7 → defaultValue (tyX5 j) = vp_V [.null, .null, .null, .null, .int 0, .int 0, .int 0] j := by
  intro j hj
  have h : ∀ i : Fin 7, defaultValue (tyX5 i.val) = vp_V [.null, .null, .null, .null, .int 0, .int 0, .int 0] i.val := by decide
  exact h ⟨j, hj⟩
set_option maxRecDepth 100000 in
theorem inX6 : ∀ w ∈ u_ws RX6 TX6 8, w ∈ tb := in_list [398, 400, 402, 404, 406, 408, 410, 412] rfl rfl
set_option maxRecDepth 100000 in
theorem new_X6 : ∀ j, j < 8 → defaultValue (tyX6 j) = vp_V [.null, .null, .null, .null, .null, .null, .null, .int 0] j := by
  intro j hj
  have h : ∀ i : Fin 8, defaultValue (tyX6 i.val) = vp_V [.null, .null, .null, .null, .null, .null, .null, .int 0] i.val := by decide
  exact h ⟨j, hj⟩
set_option maxRecDepth 100000 in
theorem inX7 : ∀ w ∈ u_ws RX7 TX7 3, w ∈ tb := in_list [271, 273, 275] rfl rfl
set_option maxRecDepth 100000 in
theorem new_X7 : ∀ j, j < 3 → defaultValue (tyX7 j) = vp_V [.null, .null, .null] j := by
  intro j hj
  have h : ∀ i : Fin 3, defaultValue (tyX7 i.val) = vp_V [.null, .null, .null] i.val := by decide
  exact h ⟨j, hj⟩
set_option maxRecDepth 100000 in
theorem inX8 : ∀ w ∈ u_ws RX8 TX8 6, w ∈ tb := in_list [236, 238, 240, 242, 244, 246] rfl rfl
set_option maxRecDepth 100000 in
theorem new_X8 : ∀ j, j < 6 → defaultValue (tyX8 j) = vp_V [.null, .null, .int 0, .int 0, .int 0, .int 0] j := by
  intro j hj
  have h : ∀ i : Fin 6, defaultValue (tyX8 i.val) = vp_V [.null, .null, .int 0, .int 0, .int 0, .int 0] i.val := by decide
  exact h ⟨j, hj⟩
set_option maxRecDepth 100000 in
theorem inX9 : ∀ w ∈ u_ws RX9 TX9 4, w ∈ tb := in_list [137, 139, 141, 143] rfl rfl
set_option maxRecDepth 100000 in
theorem new_X9 : ∀ j, j < 4 → defaultValue (tyX9 j) = vp_V [.null, .null, .null, .int 0] j := by
  intro j hj
  have h : ∀ i : Fin 4, defaultValue (tyX9 i.val) = vp_V [.null, .null, .null, .int 0] i.val := by decide
  exact h ⟨j, hj⟩
set_option maxRecDepth 100000 in
theorem inX10 : ∀ w ∈ u_ws RX10 TX10 3, w ∈ tb := in_list [118, 120, 122] rfl rfl
set_option maxRecDepth 100000 in
theorem new_X10 : ∀ j, j < 3 → defaultValue (tyX10 j) = vp_V [.null, .int 0, .int 0] j := by
  intro j hj
  have h : ∀ i : Fin 3, defaultValue (tyX10 i.val) = vp_V [.null, .int 0, .int 0] i.val := by decide
  exact h ⟨j, hj⟩
set_option maxRecDepth 100000 in
theorem inX11 : ∀ w ∈ u_ws RX11 TX11 11, w ∈ tb := in_list [426, 428, 430, 432, 434, 436, 438, 440, 442, 444, 446] rfl rfl
set_option maxRecDepth 100000 in
theorem new_X11 : ∀ j, j < 11 → defaultValue (tyX11 j) = vp_V [.null, .null, .null, .null, .null, .null, .null, .null, .null, .null, .int 0] j := by
  intro j hj
  have h : ∀ i : Fin 11, defaultValue (tyX11 i.val) = vp_V [.null, .null, .null, .null, .null, .null, .null, .null, .null, .null, .int 0] i.val := by decide
  exact h ⟨j, hj⟩
set_option maxRecDepth 100000 in
theorem inX12 : ∀ w ∈ u_ws RX12 TX12 75, w ∈ tb := in_list [1214, 1216, 1218, 1220, 1222, 1224, 1226, 1228, 1230, 1232, 1234, 1236, 1238, 1240, 1242, 1244, 1246, 1248, 1250, 1252, 1254, 1256, 1258, 1260, 1262, 1264, 1266, 1268, 1270, 1272, 1274, 1276, 1278, 1280, 1282, 1284, 1286, 1288, 1290, 1292, 1294, 1296, 1298, 1300, 1302, 1304, 1306, 1308, 1310, 1312, 1314, 1316, 1318, 1320, 1322, 1324, 1326, 1328, 1330, 1332, 1334, 1336, 1338, 1340, 1342, 1344, 1346, 1348, 1350, 1352, 1354, 1356, 1358, 1360, 1362] rfl rfl
set_option maxRecDepth 100000 in
theorem new_X12 : ∀ j, j < 75 → defaultValue (tyX12 j) = vp_V [.int 0, .int 0, .null, .int 0, .null, .null, .null, .null, .null, .null, .null, .null, .null, .int 0, .null, .null, .null, .long 0, .long 0, .int 0, .int 0, .int 0, .int 0, .int 0, .null, .null, .null, .null, .null, .null, .null, .null, .null, .int 0, .int 0, .int 0, .int 0, .int 0, .int 0, .null, .null, .int 0, .null, .null, .long 0, .long 0, .long 0, .long 0, .int 0, .null, .null, .null, .null, .null, .null, .null, .null, .int 0, .null, .null, .int 0, .int 0, .int 0, .null, .null, .int 0, .int 0, .int 0, .null, .null, .null, .null, .null, .null, .null] j := by
  intro j hj
  have h : ∀ i : Fin 75, defaultValue (tyX12 i.val) = vp_V [.int 0, .int 0, .null, .int 0, .null, .null, .null, .null, .null, .null, .null, .null, .null, .int 0, .null, .null, .null, .long 0, .long 0, .int 0, .int 0, .int 0, .int 0, .int 0, .null, .null, .null, .null, .null, .null, .null, .null, .null, .int 0, .int 0, .int 0, .int 0, .int 0, .int 0, .null, .null, .int 0, .null, .null, .long 0, .long 0, .long 0, .long 0, .int 0, .null, .null, .null, .null, .null, .null, .null, .null, .int 0, .null, .null, .int 0, .int 0, .int 0, .null, .null, .int 0, .int 0, .int 0, .null, .null, .null, .null, .null, .null, .null] i.val := by decide
  exact h ⟨j, hj⟩
set_option maxRecDepth 100000 in
theorem m_1 : Cond.selects RX9 yX9_lastBy yX9_lastBy ∈ tb := tb_in 1 rfl rfl
set_option maxRecDepth 100000 in
theorem m_2 : Cond.selects RX9 yX9_firstAfter yX9_firstAfter ∈ tb := tb_in 2 rfl rfl
set_option maxRecDepth 100000 in
theorem m_3 : Cond.selects RX9 yX9_driftOf yX9_driftOf ∈ tb := tb_in 3 rfl rfl
set_option maxRecDepth 100000 in
theorem m_4 : Cond.selects RX11 yX11_balesIn yX11_balesIn ∈ tb := tb_in 4 rfl rfl
set_option maxRecDepth 100000 in
theorem m_5 : Cond.selects RX1 yX1_findCounting yX1_findCounting ∈ tb := tb_in 5 rfl rfl
set_option maxRecDepth 100000 in
theorem m_15 : Cond.selects RX11 yX11_fees yX11_fees ∈ tb := tb_in 15 rfl rfl
set_option maxRecDepth 100000 in
theorem m_16 : Cond.selects RX8 yX8_skipBlanks yX8_skipBlanks ∈ tb := tb_in 16 rfl rfl
set_option maxRecDepth 100000 in
theorem m_41 : Cond.selects RX5 yX5_place yX5_place ∈ tb := tb_in 41 rfl rfl
set_option maxRecDepth 100000 in
theorem m_42 : Cond.selects RX12 yX12_noBale yX12_noBale ∈ tb := tb_in 42 rfl rfl
set_option maxRecDepth 100000 in
theorem m_43 : Cond.selects RX12 yX12_noSkein yX12_noSkein ∈ tb := tb_in 43 rfl rfl
set_option maxRecDepth 100000 in
theorem m_44 : Cond.selects RX12 yX12_errorOf yX12_errorOf ∈ tb := tb_in 44 rfl rfl
set_option maxRecDepth 100000 in
theorem m_47 : Cond.selects RX12 yX12_here yX12_here ∈ tb := tb_in 47 rfl rfl
set_option maxRecDepth 100000 in
theorem m_55 : Cond.selects RX12 yX12_forceOf yX12_forceOf ∈ tb := tb_in 55 rfl rfl
set_option maxRecDepth 100000 in
theorem m_56 : Cond.selects RX12 yX12_findRules yX12_findRules ∈ tb := tb_in 56 rfl rfl
set_option maxRecDepth 100000 in
theorem m_57 : Cond.selects RX12 yX12_isPast yX12_isPast ∈ tb := tb_in 57 rfl rfl
set_option maxRecDepth 100000 in
theorem m_69 : Cond.selects RX12 yX12_findOrder yX12_findOrder ∈ tb := tb_in 69 rfl rfl
set_option maxRecDepth 100000 in
theorem m_73 : Cond.selects RX12 yX12_noPaper yX12_noPaper ∈ tb := tb_in 73 rfl rfl
set_option maxRecDepth 100000 in
theorem m_75 : Cond.selects RX12 yX12_balesIn yX12_balesIn ∈ tb := tb_in 75 rfl rfl
set_option maxRecDepth 100000 in
theorem m_77 : Cond.initialized RX11 ∈ tb := tb_in 77 rfl rfl
set_option maxRecDepth 100000 in
theorem m_78 : Cond.initialized RX10 ∈ tb := tb_in 78 rfl rfl
set_option maxRecDepth 100000 in
theorem m_79 : Cond.initialized RX9 ∈ tb := tb_in 79 rfl rfl
set_option maxRecDepth 100000 in
theorem m_80 : Cond.initialized RX0 ∈ tb := tb_in 80 rfl rfl
set_option maxRecDepth 100000 in
theorem m_81 : Cond.initialized RX1 ∈ tb := tb_in 81 rfl rfl
set_option maxRecDepth 100000 in
theorem m_82 : Cond.initialized RX8 ∈ tb := tb_in 82 rfl rfl
set_option maxRecDepth 100000 in
theorem m_86 : Cond.initialized RX5 ∈ tb := tb_in 86 rfl rfl
set_option maxRecDepth 100000 in
theorem m_87 : Cond.initialized RX4 ∈ tb := tb_in 87 rfl rfl
set_option maxRecDepth 100000 in
theorem m_88 : Cond.initialized RX6 ∈ tb := tb_in 88 rfl rfl
set_option maxRecDepth 100000 in
theorem m_89 : Cond.initialized RX12 ∈ tb := tb_in 89 rfl rfl
set_option maxRecDepth 100000 in
theorem m_90 : Cond.initialized "java/lang/Math" ∈ tb := tb_in 90 rfl rfl
set_option maxRecDepth 100000 in
theorem m_95 : Cond.initialized "java/lang/System" ∈ tb := tb_in 95 rfl rfl
set_option maxRecDepth 100000 in
theorem m_112 : Cond.fieldLink RX10 15 "SilkHouse$Skeins" "number" "I" ∈ tb := tb_in 112 rfl rfl
set_option maxRecDepth 100000 in
theorem m_114 : Cond.fieldLink RX11 109 "SilkHouse$Skeins" "number" "I" ∈ tb := tb_in 114 rfl rfl
set_option maxRecDepth 100000 in
theorem m_117 : Cond.fieldLink RX11 167 "SilkHouse$Skeins" "lost" "I" ∈ tb := tb_in 117 rfl rfl
set_option maxRecDepth 100000 in
theorem m_132 : Cond.fieldLink RX9 11 "SilkHouse$Scales" "scale" "[I" ∈ tb := tb_in 132 rfl rfl
set_option maxRecDepth 100000 in
theorem m_133 : Cond.fieldLink RX9 15 "SilkHouse$Scales" "day" "[I" ∈ tb := tb_in 133 rfl rfl
set_option maxRecDepth 100000 in
theorem m_134 : Cond.fieldLink RX9 18 "SilkHouse$Scales" "drift" "[I" ∈ tb := tb_in 134 rfl rfl
set_option maxRecDepth 100000 in
theorem m_135 : Cond.fieldLink RX9 21 "SilkHouse$Scales" "number" "I" ∈ tb := tb_in 135 rfl rfl
set_option maxRecDepth 100000 in
theorem m_136 : Cond.fieldLink RX11 134 "SilkHouse$Scales" "number" "I" ∈ tb := tb_in 136 rfl rfl
set_option maxRecDepth 100000 in
theorem m_152 : Cond.fieldLink RX0 11 "SilkHouse$Bales" "gross" "[I" ∈ tb := tb_in 152 rfl rfl
set_option maxRecDepth 100000 in
theorem m_164 : Cond.fieldLink RX0 33 "SilkHouse$Bales" "number" "I" ∈ tb := tb_in 164 rfl rfl
set_option maxRecDepth 100000 in
theorem m_165 : Cond.fieldLink RX11 96 "SilkHouse$Bales" "number" "I" ∈ tb := tb_in 165 rfl rfl
set_option maxRecDepth 100000 in
theorem m_189 : Cond.fieldLink RX1 11 "SilkHouse$Book" "day" "[I" ∈ tb := tb_in 189 rfl rfl
set_option maxRecDepth 100000 in
theorem m_190 : Cond.fieldLink RX1 15 "SilkHouse$Book" "clauses" "[I" ∈ tb := tb_in 190 rfl rfl
set_option maxRecDepth 100000 in
theorem m_196 : Cond.fieldLink RX1 35 "SilkHouse$Book" "number" "I" ∈ tb := tb_in 196 rfl rfl
set_option maxRecDepth 100000 in
theorem m_198 : Cond.fieldLink RX11 170 "SilkHouse$Book" "number" "I" ∈ tb := tb_in 198 rfl rfl
set_option maxRecDepth 100000 in
theorem m_199 : Cond.fieldLink RX1 39 "SilkHouse$Book" "drafted" "I" ∈ tb := tb_in 199 rfl rfl
set_option maxRecDepth 100000 in
theorem m_228 : Cond.fieldLink RX8 28 "SilkHouse$Reader" "book" "LSilkHouse$Book;" ∈ tb := tb_in 228 rfl rfl
set_option maxRecDepth 100000 in
theorem m_229 : Cond.fieldLink RX8 11 "SilkHouse$Reader" "text" "[B" ∈ tb := tb_in 229 rfl rfl
set_option maxRecDepth 100000 in
theorem m_230 : Cond.fieldLink RX8 15 "SilkHouse$Reader" "length" "I" ∈ tb := tb_in 230 rfl rfl
set_option maxRecDepth 100000 in
theorem m_231 : Cond.fieldLink RX11 175 "SilkHouse$Reader" "length" "I" ∈ tb := tb_in 231 rfl rfl
set_option maxRecDepth 100000 in
theorem m_232 : Cond.fieldLink RX8 19 "SilkHouse$Reader" "faultByte" "I" ∈ tb := tb_in 232 rfl rfl
set_option maxRecDepth 100000 in
theorem m_233 : Cond.fieldLink RX11 207 "SilkHouse$Reader" "faultByte" "I" ∈ tb := tb_in 233 rfl rfl
set_option maxRecDepth 100000 in
theorem m_234 : Cond.fieldLink RX8 22 "SilkHouse$Reader" "faultKind" "I" ∈ tb := tb_in 234 rfl rfl
set_option maxRecDepth 100000 in
theorem m_235 : Cond.fieldLink RX8 25 "SilkHouse$Reader" "at" "I" ∈ tb := tb_in 235 rfl rfl
set_option maxRecDepth 100000 in
theorem m_335 : Cond.fieldLink RX5 9 "SilkHouse$Ovens" "minutes" "[I" ∈ tb := tb_in 335 rfl rfl
set_option maxRecDepth 100000 in
theorem m_336 : Cond.fieldLink RX5 13 "SilkHouse$Ovens" "tried" "[I" ∈ tb := tb_in 336 rfl rfl
set_option maxRecDepth 100000 in
theorem m_338 : Cond.fieldLink RX5 19 "SilkHouse$Ovens" "best" "[I" ∈ tb := tb_in 338 rfl rfl
set_option maxRecDepth 100000 in
theorem m_340 : Cond.fieldLink RX5 22 "SilkHouse$Ovens" "number" "I" ∈ tb := tb_in 340 rfl rfl
set_option maxRecDepth 100000 in
theorem m_341 : Cond.fieldLink RX11 305 "SilkHouse$Ovens" "number" "I" ∈ tb := tb_in 341 rfl rfl
set_option maxRecDepth 100000 in
theorem m_342 : Cond.fieldLink RX5 26 "SilkHouse$Ovens" "bestEnd" "I" ∈ tb := tb_in 342 rfl rfl
set_option maxRecDepth 100000 in
theorem m_343 : Cond.fieldLink RX11 311 "SilkHouse$Ovens" "bestEnd" "I" ∈ tb := tb_in 343 rfl rfl
set_option maxRecDepth 100000 in
theorem m_344 : Cond.fieldLink RX5 29 "SilkHouse$Ovens" "arrangedFor" "I" ∈ tb := tb_in 344 rfl rfl
set_option maxRecDepth 100000 in
theorem m_366 : Cond.fieldLink RX4 9 "SilkHouse$Neighbours" "low" "[I" ∈ tb := tb_in 366 rfl rfl
set_option maxRecDepth 100000 in
theorem m_367 : Cond.fieldLink RX4 13 "SilkHouse$Neighbours" "high" "[I" ∈ tb := tb_in 367 rfl rfl
set_option maxRecDepth 100000 in
theorem m_368 : Cond.fieldLink RX4 16 "SilkHouse$Neighbours" "number" "I" ∈ tb := tb_in 368 rfl rfl
set_option maxRecDepth 100000 in
theorem m_369 : Cond.fieldLink RX11 320 "SilkHouse$Neighbours" "number" "I" ∈ tb := tb_in 369 rfl rfl
set_option maxRecDepth 100000 in
theorem m_396 : Cond.fieldLink RX6 34 "SilkHouse$Papers" "number" "I" ∈ tb := tb_in 396 rfl rfl
set_option maxRecDepth 100000 in
theorem m_397 : Cond.fieldLink RX11 171 "SilkHouse$Papers" "number" "I" ∈ tb := tb_in 397 rfl rfl
set_option maxRecDepth 100000 in
theorem m_415 : Cond.fieldLink RX11 10 "SilkHouse" "skeins" "LSilkHouse$Skeins;" ∈ tb := tb_in 415 rfl rfl
set_option maxRecDepth 100000 in
theorem m_416 : Cond.fieldLink RX11 19 "SilkHouse" "scales" "LSilkHouse$Scales;" ∈ tb := tb_in 416 rfl rfl
set_option maxRecDepth 100000 in
theorem m_417 : Cond.fieldLink RX11 26 "SilkHouse" "bales" "LSilkHouse$Bales;" ∈ tb := tb_in 417 rfl rfl
set_option maxRecDepth 100000 in
theorem m_418 : Cond.fieldLink RX11 33 "SilkHouse" "book" "LSilkHouse$Book;" ∈ tb := tb_in 418 rfl rfl
set_option maxRecDepth 100000 in
theorem m_419 : Cond.fieldLink RX11 42 "SilkHouse" "reader" "LSilkHouse$Reader;" ∈ tb := tb_in 419 rfl rfl
set_option maxRecDepth 100000 in
theorem m_422 : Cond.fieldLink RX11 67 "SilkHouse" "ovens" "LSilkHouse$Ovens;" ∈ tb := tb_in 422 rfl rfl
set_option maxRecDepth 100000 in
theorem m_423 : Cond.fieldLink RX11 74 "SilkHouse" "neighbours" "LSilkHouse$Neighbours;" ∈ tb := tb_in 423 rfl rfl
set_option maxRecDepth 100000 in
theorem m_424 : Cond.fieldLink RX11 81 "SilkHouse" "papers" "LSilkHouse$Papers;" ∈ tb := tb_in 424 rfl rfl
set_option maxRecDepth 100000 in
theorem m_425 : Cond.fieldLink RX11 85 "SilkHouse" "now" "I" ∈ tb := tb_in 425 rfl rfl
set_option maxRecDepth 100000 in
theorem m_453 : Cond.methodLink RX11 89 yX11_within ∈ tb := tb_in 453 rfl rfl
set_option maxRecDepth 100000 in
theorem m_454 : Cond.static yX11_within ∈ tb := tb_in 454 rfl rfl
set_option maxRecDepth 100000 in
theorem m_455 : Cond.code yX11_within cX11_within 3 (some .boolean) ∈ tb := tb_in 455 rfl rfl
set_option maxRecDepth 100000 in
theorem m_456 : Cond.constant RX11 93 (-100002) ∈ tb := tb_in 456 rfl rfl
set_option maxRecDepth 100000 in
theorem m_457 : Cond.constant RX11 94 (-100003) ∈ tb := tb_in 457 rfl rfl
set_option maxRecDepth 100000 in
theorem m_462 : Cond.constant RX11 95 (99999) ∈ tb := tb_in 462 rfl rfl
set_option maxRecDepth 100000 in
theorem m_464 : Cond.methodLink RX11 100 yX0_bring ∈ tb := tb_in 464 rfl rfl
set_option maxRecDepth 100000 in
theorem m_465 : Cond.instanceMethod yX0_bring ∈ tb := tb_in 465 rfl rfl
set_option maxRecDepth 100000 in
theorem m_466 : Cond.selects RX0 yX0_bring yX0_bring ∈ tb := tb_in 466 rfl rfl
set_option maxRecDepth 100000 in
theorem m_467 : Cond.code yX0_bring cX0_bring 2 (some .int) ∈ tb := tb_in 467 rfl rfl
set_option maxRecDepth 100000 in
theorem m_472 : Cond.methodLink RX11 104 yX0_has ∈ tb := tb_in 472 rfl rfl
set_option maxRecDepth 100000 in
theorem m_473 : Cond.instanceMethod yX0_has ∈ tb := tb_in 473 rfl rfl
set_option maxRecDepth 100000 in
theorem m_474 : Cond.selects RX0 yX0_has yX0_has ∈ tb := tb_in 474 rfl rfl
set_option maxRecDepth 100000 in
theorem m_475 : Cond.code yX0_has cX0_has 2 (some .boolean) ∈ tb := tb_in 475 rfl rfl
set_option maxRecDepth 100000 in
theorem m_476 : Cond.constant RX11 108 (-100001) ∈ tb := tb_in 476 rfl rfl
set_option maxRecDepth 100000 in
theorem m_509 : Cond.methodLink RX11 126 yX10_has ∈ tb := tb_in 509 rfl rfl
set_option maxRecDepth 100000 in
theorem m_510 : Cond.instanceMethod yX10_has ∈ tb := tb_in 510 rfl rfl
set_option maxRecDepth 100000 in
theorem m_511 : Cond.selects RX10 yX10_has yX10_has ∈ tb := tb_in 511 rfl rfl
set_option maxRecDepth 100000 in
theorem m_512 : Cond.code yX10_has cX10_has 2 (some .boolean) ∈ tb := tb_in 512 rfl rfl
set_option maxRecDepth 100000 in
theorem m_526 : Cond.methodLink RX11 135 yX9_note ∈ tb := tb_in 526 rfl rfl
set_option maxRecDepth 100000 in
theorem m_527 : Cond.instanceMethod yX9_note ∈ tb := tb_in 527 rfl rfl
set_option maxRecDepth 100000 in
theorem m_528 : Cond.selects RX9 yX9_note yX9_note ∈ tb := tb_in 528 rfl rfl
set_option maxRecDepth 100000 in
theorem m_529 : Cond.code yX9_note cX9_note 4 (some .int) ∈ tb := tb_in 529 rfl rfl
set_option maxRecDepth 100000 in
theorem m_534 : Cond.methodLink RX11 138 yX9_least ∈ tb := tb_in 534 rfl rfl
set_option maxRecDepth 100000 in
theorem m_535 : Cond.instanceMethod yX9_least ∈ tb := tb_in 535 rfl rfl
set_option maxRecDepth 100000 in
theorem m_536 : Cond.selects RX9 yX9_least yX9_least ∈ tb := tb_in 536 rfl rfl
set_option maxRecDepth 100000 in
theorem m_537 : Cond.code yX9_least cX9_least 5 (some .int) ∈ tb := tb_in 537 rfl rfl
set_option maxRecDepth 100000 in
theorem m_538 : Cond.methodLink RX9 25 yX9_lastBy ∈ tb := tb_in 538 rfl rfl
set_option maxRecDepth 100000 in
theorem m_540 : Cond.instanceMethod yX9_lastBy ∈ tb := tb_in 540 rfl rfl
set_option maxRecDepth 100000 in
theorem m_541 : Cond.code yX9_lastBy cX9_lastBy 5 (some .int) ∈ tb := tb_in 541 rfl rfl
set_option maxRecDepth 100000 in
theorem m_542 : Cond.methodLink RX9 29 yX9_firstAfter ∈ tb := tb_in 542 rfl rfl
set_option maxRecDepth 100000 in
theorem m_544 : Cond.instanceMethod yX9_firstAfter ∈ tb := tb_in 544 rfl rfl
set_option maxRecDepth 100000 in
theorem m_545 : Cond.code yX9_firstAfter cX9_firstAfter 4 (some .int) ∈ tb := tb_in 545 rfl rfl
set_option maxRecDepth 100000 in
theorem m_546 : Cond.methodLink RX9 32 yX9_driftOf ∈ tb := tb_in 546 rfl rfl
set_option maxRecDepth 100000 in
theorem m_548 : Cond.instanceMethod yX9_driftOf ∈ tb := tb_in 548 rfl rfl
set_option maxRecDepth 100000 in
theorem m_549 : Cond.code yX9_driftOf cX9_driftOf 3 (some .int) ∈ tb := tb_in 549 rfl rfl
set_option maxRecDepth 100000 in
theorem m_550 : Cond.methodLink RX9 35 Lib.Math.min.name ∈ tb := tb_in 550 rfl rfl
set_option maxRecDepth 100000 in
theorem m_551 : Cond.static Lib.Math.min.name ∈ tb := tb_in 551 rfl rfl
set_option maxRecDepth 100000 in
theorem m_552 : Cond.code Lib.Math.min.name Lib.Math.min.code 2 (some .int) ∈ tb := tb_in 552 rfl rfl
set_option maxRecDepth 100000 in
theorem m_553 : Cond.methodLink RX11 141 yX9_greatest ∈ tb := tb_in 553 rfl rfl
set_option maxRecDepth 100000 in
theorem m_554 : Cond.instanceMethod yX9_greatest ∈ tb := tb_in 554 rfl rfl
set_option maxRecDepth 100000 in
theorem m_555 : Cond.selects RX9 yX9_greatest yX9_greatest ∈ tb := tb_in 555 rfl rfl
set_option maxRecDepth 100000 in
theorem m_556 : Cond.code yX9_greatest cX9_greatest 5 (some .int) ∈ tb := tb_in 556 rfl rfl
set_option maxRecDepth 100000 in
theorem m_557 : Cond.methodLink RX9 40 Lib.Math.max.name ∈ tb := tb_in 557 rfl rfl
set_option maxRecDepth 100000 in
theorem m_558 : Cond.static Lib.Math.max.name ∈ tb := tb_in 558 rfl rfl
set_option maxRecDepth 100000 in
theorem m_559 : Cond.code Lib.Math.max.name Lib.Math.max.code 2 (some .int) ∈ tb := tb_in 559 rfl rfl
set_option maxRecDepth 100000 in
theorem m_591 : Cond.methodLink RX11 172 yX11_balesIn ∈ tb := tb_in 591 rfl rfl
set_option maxRecDepth 100000 in
theorem m_593 : Cond.instanceMethod yX11_balesIn ∈ tb := tb_in 593 rfl rfl
set_option maxRecDepth 100000 in
theorem m_594 : Cond.code yX11_balesIn cX11_balesIn 4 (some .int) ∈ tb := tb_in 594 rfl rfl
set_option maxRecDepth 100000 in
theorem m_601 : Cond.instanceMethod yX1_holding ∈ tb := tb_in 601 rfl rfl
set_option maxRecDepth 100000 in
theorem m_602 : Cond.selects RX1 yX1_holding yX1_holding ∈ tb := tb_in 602 rfl rfl
set_option maxRecDepth 100000 in
theorem m_603 : Cond.code yX1_holding cX1_holding 7 (some .int) ∈ tb := tb_in 603 rfl rfl
set_option maxRecDepth 100000 in
theorem m_604 : Cond.methodLink RX1 42 yX1_findCounting ∈ tb := tb_in 604 rfl rfl
set_option maxRecDepth 100000 in
theorem m_606 : Cond.instanceMethod yX1_findCounting ∈ tb := tb_in 606 rfl rfl
set_option maxRecDepth 100000 in
theorem m_607 : Cond.code yX1_findCounting cX1_findCounting 3 none ∈ tb := tb_in 607 rfl rfl
set_option maxRecDepth 100000 in
theorem m_616 : Cond.fieldLink RX1 46 "SilkHouse$Book" "AT_FIRST" "[I" ∈ tb := tb_in 616 rfl rfl
set_option maxRecDepth 100000 in
theorem m_659 : Cond.methodLink RX11 178 yX11_fees ∈ tb := tb_in 659 rfl rfl
set_option maxRecDepth 100000 in
theorem m_661 : Cond.instanceMethod yX11_fees ∈ tb := tb_in 661 rfl rfl
set_option maxRecDepth 100000 in
theorem m_662 : Cond.code yX11_fees cX11_fees 3 (some .int) ∈ tb := tb_in 662 rfl rfl
set_option maxRecDepth 100000 in
theorem m_667 : Cond.methodLink RX11 194 yX1_holding ∈ tb := tb_in 667 rfl rfl
set_option maxRecDepth 100000 in
theorem m_672 : Cond.methodLink RX11 197 yX8_take ∈ tb := tb_in 672 rfl rfl
set_option maxRecDepth 100000 in
theorem m_673 : Cond.instanceMethod yX8_take ∈ tb := tb_in 673 rfl rfl
set_option maxRecDepth 100000 in
theorem m_674 : Cond.selects RX8 yX8_take yX8_take ∈ tb := tb_in 674 rfl rfl
set_option maxRecDepth 100000 in
theorem m_675 : Cond.code yX8_take cX8_take 5 (some .int) ∈ tb := tb_in 675 rfl rfl
set_option maxRecDepth 100000 in
theorem m_680 : Cond.methodLink RX11 201 yX8_read ∈ tb := tb_in 680 rfl rfl
set_option maxRecDepth 100000 in
theorem m_681 : Cond.instanceMethod yX8_read ∈ tb := tb_in 681 rfl rfl
set_option maxRecDepth 100000 in
theorem m_682 : Cond.selects RX8 yX8_read yX8_read ∈ tb := tb_in 682 rfl rfl
set_option maxRecDepth 100000 in
theorem m_683 : Cond.code yX8_read cX8_read 3 (some .int) ∈ tb := tb_in 683 rfl rfl
set_option maxRecDepth 100000 in
theorem m_684 : Cond.methodLink RX8 32 yX1_startDraft ∈ tb := tb_in 684 rfl rfl
set_option maxRecDepth 100000 in
theorem m_685 : Cond.instanceMethod yX1_startDraft ∈ tb := tb_in 685 rfl rfl
set_option maxRecDepth 100000 in
theorem m_686 : Cond.selects RX1 yX1_startDraft yX1_startDraft ∈ tb := tb_in 686 rfl rfl
set_option maxRecDepth 100000 in
theorem m_687 : Cond.code yX1_startDraft cX1_startDraft 1 none ∈ tb := tb_in 687 rfl rfl
set_option maxRecDepth 100000 in
theorem m_688 : Cond.methodLink RX8 37 yX8_skipBlanks ∈ tb := tb_in 688 rfl rfl
set_option maxRecDepth 100000 in
theorem m_690 : Cond.instanceMethod yX8_skipBlanks ∈ tb := tb_in 690 rfl rfl
set_option maxRecDepth 100000 in
theorem m_691 : Cond.code yX8_skipBlanks cX8_skipBlanks 1 (some .boolean) ∈ tb := tb_in 691 rfl rfl
set_option maxRecDepth 100000 in
theorem m_805 : Cond.methodLink RX11 204 yX1_enact ∈ tb := tb_in 805 rfl rfl
set_option maxRecDepth 100000 in
theorem m_806 : Cond.instanceMethod yX1_enact ∈ tb := tb_in 806 rfl rfl
set_option maxRecDepth 100000 in
theorem m_807 : Cond.selects RX1 yX1_enact yX1_enact ∈ tb := tb_in 807 rfl rfl
set_option maxRecDepth 100000 in
theorem m_808 : Cond.code yX1_enact cX1_enact 2 (some .int) ∈ tb := tb_in 808 rfl rfl
set_option maxRecDepth 100000 in
theorem m_821 : Cond.methodLink RX11 210 yX1_has ∈ tb := tb_in 821 rfl rfl
set_option maxRecDepth 100000 in
theorem m_822 : Cond.instanceMethod yX1_has ∈ tb := tb_in 822 rfl rfl
set_option maxRecDepth 100000 in
theorem m_823 : Cond.selects RX1 yX1_has yX1_has ∈ tb := tb_in 823 rfl rfl
set_option maxRecDepth 100000 in
theorem m_824 : Cond.code yX1_has cX1_has 2 (some .boolean) ∈ tb := tb_in 824 rfl rfl
set_option maxRecDepth 100000 in
theorem m_837 : Cond.constantLong RX11 214 (-100001) ∈ tb := tb_in 837 rfl rfl
set_option maxRecDepth 100000 in
theorem m_838 : Cond.constantLong RX11 216 (-100002) ∈ tb := tb_in 838 rfl rfl
set_option maxRecDepth 100000 in
theorem m_1005 : Cond.methodLink RX11 306 yX5_bring ∈ tb := tb_in 1005 rfl rfl
set_option maxRecDepth 100000 in
theorem m_1006 : Cond.instanceMethod yX5_bring ∈ tb := tb_in 1006 rfl rfl
set_option maxRecDepth 100000 in
theorem m_1007 : Cond.selects RX5 yX5_bring yX5_bring ∈ tb := tb_in 1007 rfl rfl
set_option maxRecDepth 100000 in
theorem m_1008 : Cond.code yX5_bring cX5_bring 2 (some .int) ∈ tb := tb_in 1008 rfl rfl
set_option maxRecDepth 100000 in
theorem m_1013 : Cond.methodLink RX11 307 yX5_arrange ∈ tb := tb_in 1013 rfl rfl
set_option maxRecDepth 100000 in
theorem m_1014 : Cond.instanceMethod yX5_arrange ∈ tb := tb_in 1014 rfl rfl
set_option maxRecDepth 100000 in
theorem m_1015 : Cond.selects RX5 yX5_arrange yX5_arrange ∈ tb := tb_in 1015 rfl rfl
set_option maxRecDepth 100000 in
theorem m_1016 : Cond.code yX5_arrange cX5_arrange 2 none ∈ tb := tb_in 1016 rfl rfl
set_option maxRecDepth 100000 in
theorem m_1017 : Cond.constant RX5 32 (1000000) ∈ tb := tb_in 1017 rfl rfl
set_option maxRecDepth 100000 in
theorem m_1018 : Cond.methodLink RX5 33 yX5_place ∈ tb := tb_in 1018 rfl rfl
set_option maxRecDepth 100000 in
theorem m_1020 : Cond.instanceMethod yX5_place ∈ tb := tb_in 1020 rfl rfl
set_option maxRecDepth 100000 in
theorem m_1021 : Cond.code yX5_place cX5_place 5 none ∈ tb := tb_in 1021 rfl rfl
set_option maxRecDepth 100000 in
theorem m_1022 : Cond.methodLink RX5 37 arraycopyName ∈ tb := tb_in 1022 rfl rfl
set_option maxRecDepth 100000 in
theorem m_1023 : Cond.static arraycopyName ∈ tb := tb_in 1023 rfl rfl
set_option maxRecDepth 100000 in
theorem m_1024 : Cond.native arraycopyName ∈ tb := tb_in 1024 rfl rfl
set_option maxRecDepth 100000 in
theorem m_1030 : Cond.methodLink RX11 317 yX5_clear ∈ tb := tb_in 1030 rfl rfl
set_option maxRecDepth 100000 in
theorem m_1031 : Cond.instanceMethod yX5_clear ∈ tb := tb_in 1031 rfl rfl
set_option maxRecDepth 100000 in
theorem m_1032 : Cond.selects RX5 yX5_clear yX5_clear ∈ tb := tb_in 1032 rfl rfl
set_option maxRecDepth 100000 in
theorem m_1033 : Cond.code yX5_clear cX5_clear 2 (some .int) ∈ tb := tb_in 1033 rfl rfl
set_option maxRecDepth 100000 in
theorem m_1038 : Cond.methodLink RX11 321 yX4_compare ∈ tb := tb_in 1038 rfl rfl
set_option maxRecDepth 100000 in
theorem m_1039 : Cond.instanceMethod yX4_compare ∈ tb := tb_in 1039 rfl rfl
set_option maxRecDepth 100000 in
theorem m_1040 : Cond.selects RX4 yX4_compare yX4_compare ∈ tb := tb_in 1040 rfl rfl
set_option maxRecDepth 100000 in
theorem m_1041 : Cond.code yX4_compare cX4_compare 3 (some .int) ∈ tb := tb_in 1041 rfl rfl
set_option maxRecDepth 100000 in
theorem m_1095 : Cond.methodLink RX11 343 yX6_has ∈ tb := tb_in 1095 rfl rfl
set_option maxRecDepth 100000 in
theorem m_1096 : Cond.instanceMethod yX6_has ∈ tb := tb_in 1096 rfl rfl
set_option maxRecDepth 100000 in
theorem m_1097 : Cond.selects RX6 yX6_has yX6_has ∈ tb := tb_in 1097 rfl rfl
set_option maxRecDepth 100000 in
theorem m_1098 : Cond.code yX6_has cX6_has 2 (some .boolean) ∈ tb := tb_in 1098 rfl rfl
set_option maxRecDepth 100000 in
theorem m_1129 : Cond.methodLink RX11 368 yX6_standing ∈ tb := tb_in 1129 rfl rfl
set_option maxRecDepth 100000 in
theorem m_1130 : Cond.instanceMethod yX6_standing ∈ tb := tb_in 1130 rfl rfl
set_option maxRecDepth 100000 in
theorem m_1131 : Cond.selects RX6 yX6_standing yX6_standing ∈ tb := tb_in 1131 rfl rfl
set_option maxRecDepth 100000 in
theorem m_1132 : Cond.code yX6_standing cX6_standing 7 (some .long) ∈ tb := tb_in 1132 rfl rfl
set_option maxRecDepth 100000 in
theorem m_1139 : Cond.fieldLink RX12 171 "SilkHouseModel" "now" "I" ∈ tb := tb_in 1139 rfl rfl
set_option maxRecDepth 100000 in
theorem m_1140 : Cond.fieldLink RX12 164 "SilkHouseModel" "bales" "I" ∈ tb := tb_in 1140 rfl rfl
set_option maxRecDepth 100000 in
theorem m_1141 : Cond.fieldLink RX12 7 "SilkHouseModel" "gross" "[I" ∈ tb := tb_in 1141 rfl rfl
set_option maxRecDepth 100000 in
theorem m_1142 : Cond.fieldLink RX12 200 "SilkHouseModel" "skeins" "I" ∈ tb := tb_in 1142 rfl rfl
set_option maxRecDepth 100000 in
theorem m_1152 : Cond.fieldLink RX12 213 "SilkHouseModel" "tests" "I" ∈ tb := tb_in 1152 rfl rfl
set_option maxRecDepth 100000 in
theorem m_1153 : Cond.fieldLink RX12 40 "SilkHouseModel" "testScale" "[I" ∈ tb := tb_in 1153 rfl rfl
set_option maxRecDepth 100000 in
theorem m_1154 : Cond.fieldLink RX12 43 "SilkHouseModel" "testError" "[I" ∈ tb := tb_in 1154 rfl rfl
set_option maxRecDepth 100000 in
theorem m_1155 : Cond.fieldLink RX12 46 "SilkHouseModel" "testDay" "[I" ∈ tb := tb_in 1155 rfl rfl
set_option maxRecDepth 100000 in
theorem m_1162 : Cond.fieldLink RX12 303 "SilkHouseModel" "rules" "I" ∈ tb := tb_in 1162 rfl rfl
set_option maxRecDepth 100000 in
theorem m_1163 : Cond.fieldLink RX12 59 "SilkHouseModel" "inForce" "[I" ∈ tb := tb_in 1163 rfl rfl
set_option maxRecDepth 100000 in
theorem m_1164 : Cond.fieldLink RX12 62 "SilkHouseModel" "clauses" "[I" ∈ tb := tb_in 1164 rfl rfl
set_option maxRecDepth 100000 in
theorem m_1171 : Cond.fieldLink RX12 83 "SilkHouseModel" "text" "[I" ∈ tb := tb_in 1171 rfl rfl
set_option maxRecDepth 100000 in
theorem m_1172 : Cond.fieldLink RX12 249 "SilkHouseModel" "textSize" "I" ∈ tb := tb_in 1172 rfl rfl
set_option maxRecDepth 100000 in
theorem m_1173 : Cond.fieldLink RX12 254 "SilkHouseModel" "at" "I" ∈ tb := tb_in 1173 rfl rfl
set_option maxRecDepth 100000 in
theorem m_1174 : Cond.fieldLink RX12 257 "SilkHouseModel" "faultOf" "I" ∈ tb := tb_in 1174 rfl rfl
set_option maxRecDepth 100000 in
theorem m_1175 : Cond.fieldLink RX12 86 "SilkHouseModel" "place" "I" ∈ tb := tb_in 1175 rfl rfl
set_option maxRecDepth 100000 in
theorem m_1180 : Cond.fieldLink RX12 314 "SilkHouseModel" "ons" "I" ∈ tb := tb_in 1180 rfl rfl
set_option maxRecDepth 100000 in
theorem m_1190 : Cond.fieldLink RX12 109 "SilkHouseModel" "threads" "[I" ∈ tb := tb_in 1190 rfl rfl
set_option maxRecDepth 100000 in
theorem m_1192 : Cond.fieldLink RX12 115 "SilkHouseModel" "countMany" "[I" ∈ tb := tb_in 1192 rfl rfl
set_option maxRecDepth 100000 in
theorem m_1196 : Cond.fieldLink RX12 399 "SilkHouseModel" "loads" "I" ∈ tb := tb_in 1196 rfl rfl
set_option maxRecDepth 100000 in
theorem m_1197 : Cond.fieldLink RX12 127 "SilkHouseModel" "minutes" "[I" ∈ tb := tb_in 1197 rfl rfl
set_option maxRecDepth 100000 in
theorem m_1198 : Cond.fieldLink RX12 130 "SilkHouseModel" "ends" "[I" ∈ tb := tb_in 1198 rfl rfl
set_option maxRecDepth 100000 in
theorem m_1199 : Cond.fieldLink RX12 405 "SilkHouseModel" "bestWay" "I" ∈ tb := tb_in 1199 rfl rfl
set_option maxRecDepth 100000 in
theorem m_1200 : Cond.fieldLink RX12 408 "SilkHouseModel" "bestEnd" "I" ∈ tb := tb_in 1200 rfl rfl
set_option maxRecDepth 100000 in
theorem m_1201 : Cond.fieldLink RX12 417 "SilkHouseModel" "shared" "I" ∈ tb := tb_in 1201 rfl rfl
set_option maxRecDepth 100000 in
theorem m_1202 : Cond.fieldLink RX12 133 "SilkHouseModel" "apartLow" "[I" ∈ tb := tb_in 1202 rfl rfl
set_option maxRecDepth 100000 in
theorem m_1203 : Cond.fieldLink RX12 136 "SilkHouseModel" "apartHigh" "[I" ∈ tb := tb_in 1203 rfl rfl
set_option maxRecDepth 100000 in
theorem m_1206 : Cond.fieldLink RX12 429 "SilkHouseModel" "papers" "I" ∈ tb := tb_in 1206 rfl rfl
set_option maxRecDepth 100000 in
theorem m_1369 : Cond.constantLong RX12 176 (999) ∈ tb := tb_in 1369 rfl rfl
set_option maxRecDepth 100000 in
theorem m_1370 : Cond.methodLink RX12 167 yX12_in ∈ tb := tb_in 1370 rfl rfl
set_option maxRecDepth 100000 in
theorem m_1371 : Cond.static yX12_in ∈ tb := tb_in 1371 rfl rfl
set_option maxRecDepth 100000 in
theorem m_1372 : Cond.code yX12_in cX12_in 6 (some .boolean) ∈ tb := tb_in 1372 rfl rfl
set_option maxRecDepth 100000 in
theorem m_1373 : Cond.constant RX12 178 (-100002) ∈ tb := tb_in 1373 rfl rfl
set_option maxRecDepth 100000 in
theorem m_1374 : Cond.constant RX12 179 (-100003) ∈ tb := tb_in 1374 rfl rfl
set_option maxRecDepth 100000 in
theorem m_1379 : Cond.constantLong RX12 180 (99999) ∈ tb := tb_in 1379 rfl rfl
set_option maxRecDepth 100000 in
theorem m_1385 : Cond.methodLink RX12 183 yX12_noBale ∈ tb := tb_in 1385 rfl rfl
set_option maxRecDepth 100000 in
theorem m_1387 : Cond.instanceMethod yX12_noBale ∈ tb := tb_in 1387 rfl rfl
set_option maxRecDepth 100000 in
theorem m_1388 : Cond.code yX12_noBale cX12_noBale 2 (some .boolean) ∈ tb := tb_in 1388 rfl rfl
set_option maxRecDepth 100000 in
theorem m_1389 : Cond.constant RX12 187 (-100001) ∈ tb := tb_in 1389 rfl rfl
set_option maxRecDepth 100000 in
theorem m_1390 : Cond.constantLong RX12 188 (2) ∈ tb := tb_in 1390 rfl rfl
set_option maxRecDepth 100000 in
theorem m_1391 : Cond.constantLong RX12 190 (3) ∈ tb := tb_in 1391 rfl rfl
set_option maxRecDepth 100000 in
theorem m_1393 : Cond.constantLong RX12 194 (9999) ∈ tb := tb_in 1393 rfl rfl
set_option maxRecDepth 100000 in
theorem m_1403 : Cond.methodLink RX12 207 yX12_noSkein ∈ tb := tb_in 1403 rfl rfl
set_option maxRecDepth 100000 in
theorem m_1405 : Cond.instanceMethod yX12_noSkein ∈ tb := tb_in 1405 rfl rfl
set_option maxRecDepth 100000 in
theorem m_1406 : Cond.code yX12_noSkein cX12_noSkein 2 (some .boolean) ∈ tb := tb_in 1406 rfl rfl
set_option maxRecDepth 100000 in
theorem m_1415 : Cond.methodLink RX12 210 yX12_isWeight ∈ tb := tb_in 1415 rfl rfl
set_option maxRecDepth 100000 in
theorem m_1416 : Cond.static yX12_isWeight ∈ tb := tb_in 1416 rfl rfl
set_option maxRecDepth 100000 in
theorem m_1417 : Cond.code yX12_isWeight cX12_isWeight 1 (some .boolean) ∈ tb := tb_in 1417 rfl rfl
set_option maxRecDepth 100000 in
theorem m_1422 : Cond.methodLink RX12 216 yX12_isDay ∈ tb := tb_in 1422 rfl rfl
set_option maxRecDepth 100000 in
theorem m_1423 : Cond.static yX12_isDay ∈ tb := tb_in 1423 rfl rfl
set_option maxRecDepth 100000 in
theorem m_1424 : Cond.code yX12_isDay cX12_isDay 1 (some .boolean) ∈ tb := tb_in 1424 rfl rfl
set_option maxRecDepth 100000 in
theorem m_1425 : Cond.constantLong RX12 174 (3000) ∈ tb := tb_in 1425 rfl rfl
set_option maxRecDepth 100000 in
theorem m_1426 : Cond.methodLink RX12 219 yX12_errorOf ∈ tb := tb_in 1426 rfl rfl
set_option maxRecDepth 100000 in
theorem m_1428 : Cond.instanceMethod yX12_errorOf ∈ tb := tb_in 1428 rfl rfl
set_option maxRecDepth 100000 in
theorem m_1429 : Cond.code yX12_errorOf cX12_errorOf 8 (some .int) ∈ tb := tb_in 1429 rfl rfl
set_option maxRecDepth 100000 in
theorem m_1452 : Cond.constantLong RX12 247 (8) ∈ tb := tb_in 1452 rfl rfl
set_option maxRecDepth 100000 in
theorem m_1453 : Cond.constantLong RX12 252 (255) ∈ tb := tb_in 1453 rfl rfl
set_option maxRecDepth 100000 in
theorem m_1458 : Cond.methodLink RX12 260 yX12_here ∈ tb := tb_in 1458 rfl rfl
set_option maxRecDepth 100000 in
theorem m_1460 : Cond.instanceMethod yX12_here ∈ tb := tb_in 1460 rfl rfl
set_option maxRecDepth 100000 in
theorem m_1461 : Cond.code yX12_here cX12_here 1 (some .int) ∈ tb := tb_in 1461 rfl rfl
set_option maxRecDepth 100000 in
theorem m_1508 : Cond.constantLong RX12 323 (5) ∈ tb := tb_in 1508 rfl rfl
set_option maxRecDepth 100000 in
theorem m_1509 : Cond.methodLink RX12 325 yX12_forceOf ∈ tb := tb_in 1509 rfl rfl
set_option maxRecDepth 100000 in
theorem m_1511 : Cond.instanceMethod yX12_forceOf ∈ tb := tb_in 1511 rfl rfl
set_option maxRecDepth 100000 in
theorem m_1512 : Cond.code yX12_forceOf cX12_forceOf 7 (some .int) ∈ tb := tb_in 1512 rfl rfl
set_option maxRecDepth 100000 in
theorem m_1513 : Cond.methodLink RX12 317 yX12_findRules ∈ tb := tb_in 1513 rfl rfl
set_option maxRecDepth 100000 in
theorem m_1515 : Cond.instanceMethod yX12_findRules ∈ tb := tb_in 1515 rfl rfl
set_option maxRecDepth 100000 in
theorem m_1516 : Cond.code yX12_findRules cX12_findRules 4 none ∈ tb := tb_in 1516 rfl rfl
set_option maxRecDepth 100000 in
theorem m_1517 : Cond.methodLink RX12 320 yX12_atFirst ∈ tb := tb_in 1517 rfl rfl
set_option maxRecDepth 100000 in
theorem m_1518 : Cond.static yX12_atFirst ∈ tb := tb_in 1518 rfl rfl
set_option maxRecDepth 100000 in
theorem m_1519 : Cond.code yX12_atFirst cX12_atFirst 1 (some .int) ∈ tb := tb_in 1519 rfl rfl
set_option maxRecDepth 100000 in
theorem m_1528 : Cond.methodLink RX12 350 yX12_isPast ∈ tb := tb_in 1528 rfl rfl
set_option maxRecDepth 100000 in
theorem m_1530 : Cond.instanceMethod yX12_isPast ∈ tb := tb_in 1530 rfl rfl
set_option maxRecDepth 100000 in
theorem m_1531 : Cond.code yX12_isPast cX12_isPast 2 (some .boolean) ∈ tb := tb_in 1531 rfl rfl
set_option maxRecDepth 100000 in
theorem m_1560 : Cond.constantLong RX12 362 (-100001) ∈ tb := tb_in 1560 rfl rfl
set_option maxRecDepth 100000 in
theorem m_1561 : Cond.constantLong RX12 364 (-100002) ∈ tb := tb_in 1561 rfl rfl
set_option maxRecDepth 100000 in
theorem m_1645 : Cond.methodLink RX12 414 yX12_findOrder ∈ tb := tb_in 1645 rfl rfl
set_option maxRecDepth 100000 in
theorem m_1647 : Cond.instanceMethod yX12_findOrder ∈ tb := tb_in 1647 rfl rfl
set_option maxRecDepth 100000 in
theorem m_1648 : Cond.code yX12_findOrder cX12_findOrder 7 none ∈ tb := tb_in 1648 rfl rfl
set_option maxRecDepth 100000 in
theorem m_1649 : Cond.methodLink RX12 402 yX12_power ∈ tb := tb_in 1649 rfl rfl
set_option maxRecDepth 100000 in
theorem m_1650 : Cond.static yX12_power ∈ tb := tb_in 1650 rfl rfl
set_option maxRecDepth 100000 in
theorem m_1651 : Cond.code yX12_power cX12_power 4 (some .int) ∈ tb := tb_in 1651 rfl rfl
set_option maxRecDepth 100000 in
theorem m_1684 : Cond.methodLink RX12 436 yX12_noPaper ∈ tb := tb_in 1684 rfl rfl
set_option maxRecDepth 100000 in
theorem m_1686 : Cond.instanceMethod yX12_noPaper ∈ tb := tb_in 1686 rfl rfl
set_option maxRecDepth 100000 in
theorem m_1687 : Cond.code yX12_noPaper cX12_noPaper 2 (some .boolean) ∈ tb := tb_in 1687 rfl rfl
set_option maxRecDepth 100000 in
theorem m_1712 : Cond.methodLink RX12 442 yX12_balesIn ∈ tb := tb_in 1712 rfl rfl
set_option maxRecDepth 100000 in
theorem m_1714 : Cond.instanceMethod yX12_balesIn ∈ tb := tb_in 1714 rfl rfl
set_option maxRecDepth 100000 in
theorem m_1715 : Cond.code yX12_balesIn cX12_balesIn 4 (some .int) ∈ tb := tb_in 1715 rfl rfl
theorem hd_X0_bring_v : yX0_bring.cls = RX0 ∧ yX0_bring.cls ≠ "java/lang/invoke/MethodHandle" ∧ yX0_bring.cls ≠ "java/lang/invoke/VarHandle" ∧ (parseMethodDescriptor yX0_bring.desc).map (fun d => d.parameters.length) = some 1 := by decide +kernel
theorem hd_X0_has_v : yX0_has.cls = RX0 ∧ yX0_has.cls ≠ "java/lang/invoke/MethodHandle" ∧ yX0_has.cls ≠ "java/lang/invoke/VarHandle" ∧ (parseMethodDescriptor yX0_has.desc).map (fun d => d.parameters.length) = some 1 := by decide +kernel
theorem hd_X10_has_v : yX10_has.cls = RX10 ∧ yX10_has.cls ≠ "java/lang/invoke/MethodHandle" ∧ yX10_has.cls ≠ "java/lang/invoke/VarHandle" ∧ (parseMethodDescriptor yX10_has.desc).map (fun d => d.parameters.length) = some 1 := by decide +kernel
theorem hd_X11_balesIn_v : yX11_balesIn.cls = RX11 ∧ yX11_balesIn.cls ≠ "java/lang/invoke/MethodHandle" ∧ yX11_balesIn.cls ≠ "java/lang/invoke/VarHandle" ∧ (parseMethodDescriptor yX11_balesIn.desc).map (fun d => d.parameters.length) = some 1 := by decide +kernel
theorem hd_X11_fees_v : yX11_fees.cls = RX11 ∧ yX11_fees.cls ≠ "java/lang/invoke/MethodHandle" ∧ yX11_fees.cls ≠ "java/lang/invoke/VarHandle" ∧ (parseMethodDescriptor yX11_fees.desc).map (fun d => d.parameters.length) = some 0 := by decide +kernel
theorem hd_X11_within_v : yX11_within.cls = RX11 ∧ yX11_within.cls ≠ "java/lang/invoke/MethodHandle" ∧ yX11_within.cls ≠ "java/lang/invoke/VarHandle" ∧ (parseMethodDescriptor yX11_within.desc).map (fun d => d.parameters.length) = some 3 := by decide +kernel
theorem hd_X12_atFirst_v : yX12_atFirst.cls = RX12 ∧ yX12_atFirst.cls ≠ "java/lang/invoke/MethodHandle" ∧ yX12_atFirst.cls ≠ "java/lang/invoke/VarHandle" ∧ (parseMethodDescriptor yX12_atFirst.desc).map (fun d => d.parameters.length) = some 1 := by decide +kernel
theorem hd_X12_balesIn_v : yX12_balesIn.cls = RX12 ∧ yX12_balesIn.cls ≠ "java/lang/invoke/MethodHandle" ∧ yX12_balesIn.cls ≠ "java/lang/invoke/VarHandle" ∧ (parseMethodDescriptor yX12_balesIn.desc).map (fun d => d.parameters.length) = some 1 := by decide +kernel
theorem hd_X12_errorOf_v : yX12_errorOf.cls = RX12 ∧ yX12_errorOf.cls ≠ "java/lang/invoke/MethodHandle" ∧ yX12_errorOf.cls ≠ "java/lang/invoke/VarHandle" ∧ (parseMethodDescriptor yX12_errorOf.desc).map (fun d => d.parameters.length) = some 3 := by decide +kernel
theorem hd_X12_findOrder_v : yX12_findOrder.cls = RX12 ∧ yX12_findOrder.cls ≠ "java/lang/invoke/MethodHandle" ∧ yX12_findOrder.cls ≠ "java/lang/invoke/VarHandle" ∧ (parseMethodDescriptor yX12_findOrder.desc).map (fun d => d.parameters.length) = some 1 := by decide +kernel
theorem hd_X12_findRules_v : yX12_findRules.cls = RX12 ∧ yX12_findRules.cls ≠ "java/lang/invoke/MethodHandle" ∧ yX12_findRules.cls ≠ "java/lang/invoke/VarHandle" ∧ (parseMethodDescriptor yX12_findRules.desc).map (fun d => d.parameters.length) = some 1 := by decide +kernel
theorem hd_X12_forceOf_v : yX12_forceOf.cls = RX12 ∧ yX12_forceOf.cls ≠ "java/lang/invoke/MethodHandle" ∧ yX12_forceOf.cls ≠ "java/lang/invoke/VarHandle" ∧ (parseMethodDescriptor yX12_forceOf.desc).map (fun d => d.parameters.length) = some 2 := by decide +kernel
theorem hd_X12_here_v : yX12_here.cls = RX12 ∧ yX12_here.cls ≠ "java/lang/invoke/MethodHandle" ∧ yX12_here.cls ≠ "java/lang/invoke/VarHandle" ∧ (parseMethodDescriptor yX12_here.desc).map (fun d => d.parameters.length) = some 0 := by decide +kernel
theorem hd_X12_in_v : yX12_in.cls = RX12 ∧ yX12_in.cls ≠ "java/lang/invoke/MethodHandle" ∧ yX12_in.cls ≠ "java/lang/invoke/VarHandle" ∧ (parseMethodDescriptor yX12_in.desc).map (fun d => d.parameters.length) = some 3 := by decide +kernel
theorem hd_X12_isDay_v : yX12_isDay.cls = RX12 ∧ yX12_isDay.cls ≠ "java/lang/invoke/MethodHandle" ∧ yX12_isDay.cls ≠ "java/lang/invoke/VarHandle" ∧ (parseMethodDescriptor yX12_isDay.desc).map (fun d => d.parameters.length) = some 1 := by decide +kernel
theorem hd_X12_isPast_v : yX12_isPast.cls = RX12 ∧ yX12_isPast.cls ≠ "java/lang/invoke/MethodHandle" ∧ yX12_isPast.cls ≠ "java/lang/invoke/VarHandle" ∧ (parseMethodDescriptor yX12_isPast.desc).map (fun d => d.parameters.length) = some 1 := by decide +kernel
theorem hd_X12_isWeight_v : yX12_isWeight.cls = RX12 ∧ yX12_isWeight.cls ≠ "java/lang/invoke/MethodHandle" ∧ yX12_isWeight.cls ≠ "java/lang/invoke/VarHandle" ∧ (parseMethodDescriptor yX12_isWeight.desc).map (fun d => d.parameters.length) = some 1 := by decide +kernel
theorem hd_X12_noBale_v : yX12_noBale.cls = RX12 ∧ yX12_noBale.cls ≠ "java/lang/invoke/MethodHandle" ∧ yX12_noBale.cls ≠ "java/lang/invoke/VarHandle" ∧ (parseMethodDescriptor yX12_noBale.desc).map (fun d => d.parameters.length) = some 1 := by decide +kernel
theorem hd_X12_noPaper_v : yX12_noPaper.cls = RX12 ∧ yX12_noPaper.cls ≠ "java/lang/invoke/MethodHandle" ∧ yX12_noPaper.cls ≠ "java/lang/invoke/VarHandle" ∧ (parseMethodDescriptor yX12_noPaper.desc).map (fun d => d.parameters.length) = some 1 := by decide +kernel
theorem hd_X12_noSkein_v : yX12_noSkein.cls = RX12 ∧ yX12_noSkein.cls ≠ "java/lang/invoke/MethodHandle" ∧ yX12_noSkein.cls ≠ "java/lang/invoke/VarHandle" ∧ (parseMethodDescriptor yX12_noSkein.desc).map (fun d => d.parameters.length) = some 1 := by decide +kernel
theorem hd_X12_power_v : yX12_power.cls = RX12 ∧ yX12_power.cls ≠ "java/lang/invoke/MethodHandle" ∧ yX12_power.cls ≠ "java/lang/invoke/VarHandle" ∧ (parseMethodDescriptor yX12_power.desc).map (fun d => d.parameters.length) = some 2 := by decide +kernel
theorem hd_X1_enact_v : yX1_enact.cls = RX1 ∧ yX1_enact.cls ≠ "java/lang/invoke/MethodHandle" ∧ yX1_enact.cls ≠ "java/lang/invoke/VarHandle" ∧ (parseMethodDescriptor yX1_enact.desc).map (fun d => d.parameters.length) = some 1 := by decide +kernel
theorem hd_X1_findCounting_v : yX1_findCounting.cls = RX1 ∧ yX1_findCounting.cls ≠ "java/lang/invoke/MethodHandle" ∧ yX1_findCounting.cls ≠ "java/lang/invoke/VarHandle" ∧ (parseMethodDescriptor yX1_findCounting.desc).map (fun d => d.parameters.length) = some 1 := by decide +kernel
theorem hd_X1_has_v : yX1_has.cls = RX1 ∧ yX1_has.cls ≠ "java/lang/invoke/MethodHandle" ∧ yX1_has.cls ≠ "java/lang/invoke/VarHandle" ∧ (parseMethodDescriptor yX1_has.desc).map (fun d => d.parameters.length) = some 1 := by decide +kernel
theorem hd_X1_holding_v : yX1_holding.cls = RX1 ∧ yX1_holding.cls ≠ "java/lang/invoke/MethodHandle" ∧ yX1_holding.cls ≠ "java/lang/invoke/VarHandle" ∧ (parseMethodDescriptor yX1_holding.desc).map (fun d => d.parameters.length) = some 2 := by decide +kernel
theorem hd_X1_startDraft_v : yX1_startDraft.cls = RX1 ∧ yX1_startDraft.cls ≠ "java/lang/invoke/MethodHandle" ∧ yX1_startDraft.cls ≠ "java/lang/invoke/VarHandle" ∧ (parseMethodDescriptor yX1_startDraft.desc).map (fun d => d.parameters.length) = some 0 := by decide +kernel
theorem hd_X4_compare_v : yX4_compare.cls = RX4 ∧ yX4_compare.cls ≠ "java/lang/invoke/MethodHandle" ∧ yX4_compare.cls ≠ "java/lang/invoke/VarHandle" ∧ (parseMethodDescriptor yX4_compare.desc).map (fun d => d.parameters.length) = some 2 := by decide +kernel
theorem hd_X5_arrange_v : yX5_arrange.cls = RX5 ∧ yX5_arrange.cls ≠ "java/lang/invoke/MethodHandle" ∧ yX5_arrange.cls ≠ "java/lang/invoke/VarHandle" ∧ (parseMethodDescriptor yX5_arrange.desc).map (fun d => d.parameters.length) = some 1 := by decide +kernel
theorem hd_X5_bring_v : yX5_bring.cls = RX5 ∧ yX5_bring.cls ≠ "java/lang/invoke/MethodHandle" ∧ yX5_bring.cls ≠ "java/lang/invoke/VarHandle" ∧ (parseMethodDescriptor yX5_bring.desc).map (fun d => d.parameters.length) = some 1 := by decide +kernel
theorem hd_X5_clear_v : yX5_clear.cls = RX5 ∧ yX5_clear.cls ≠ "java/lang/invoke/MethodHandle" ∧ yX5_clear.cls ≠ "java/lang/invoke/VarHandle" ∧ (parseMethodDescriptor yX5_clear.desc).map (fun d => d.parameters.length) = some 0 := by decide +kernel
theorem hd_X5_place_v : yX5_place.cls = RX5 ∧ yX5_place.cls ≠ "java/lang/invoke/MethodHandle" ∧ yX5_place.cls ≠ "java/lang/invoke/VarHandle" ∧ (parseMethodDescriptor yX5_place.desc).map (fun d => d.parameters.length) = some 3 := by decide +kernel
theorem hd_X6_has_v : yX6_has.cls = RX6 ∧ yX6_has.cls ≠ "java/lang/invoke/MethodHandle" ∧ yX6_has.cls ≠ "java/lang/invoke/VarHandle" ∧ (parseMethodDescriptor yX6_has.desc).map (fun d => d.parameters.length) = some 1 := by decide +kernel
theorem hd_X6_standing_v : yX6_standing.cls = RX6 ∧ yX6_standing.cls ≠ "java/lang/invoke/MethodHandle" ∧ yX6_standing.cls ≠ "java/lang/invoke/VarHandle" ∧ (parseMethodDescriptor yX6_standing.desc).map (fun d => d.parameters.length) = some 2 := by decide +kernel
theorem hd_X8_read_v : yX8_read.cls = RX8 ∧ yX8_read.cls ≠ "java/lang/invoke/MethodHandle" ∧ yX8_read.cls ≠ "java/lang/invoke/VarHandle" ∧ (parseMethodDescriptor yX8_read.desc).map (fun d => d.parameters.length) = some 0 := by decide +kernel
theorem hd_X8_skipBlanks_v : yX8_skipBlanks.cls = RX8 ∧ yX8_skipBlanks.cls ≠ "java/lang/invoke/MethodHandle" ∧ yX8_skipBlanks.cls ≠ "java/lang/invoke/VarHandle" ∧ (parseMethodDescriptor yX8_skipBlanks.desc).map (fun d => d.parameters.length) = some 0 := by decide +kernel
theorem hd_X8_take_v : yX8_take.cls = RX8 ∧ yX8_take.cls ≠ "java/lang/invoke/MethodHandle" ∧ yX8_take.cls ≠ "java/lang/invoke/VarHandle" ∧ (parseMethodDescriptor yX8_take.desc).map (fun d => d.parameters.length) = some 2 := by decide +kernel
theorem hd_X9_driftOf_v : yX9_driftOf.cls = RX9 ∧ yX9_driftOf.cls ≠ "java/lang/invoke/MethodHandle" ∧ yX9_driftOf.cls ≠ "java/lang/invoke/VarHandle" ∧ (parseMethodDescriptor yX9_driftOf.desc).map (fun d => d.parameters.length) = some 2 := by decide +kernel
theorem hd_X9_firstAfter_v : yX9_firstAfter.cls = RX9 ∧ yX9_firstAfter.cls ≠ "java/lang/invoke/MethodHandle" ∧ yX9_firstAfter.cls ≠ "java/lang/invoke/VarHandle" ∧ (parseMethodDescriptor yX9_firstAfter.desc).map (fun d => d.parameters.length) = some 2 := by decide +kernel
theorem hd_X9_greatest_v : yX9_greatest.cls = RX9 ∧ yX9_greatest.cls ≠ "java/lang/invoke/MethodHandle" ∧ yX9_greatest.cls ≠ "java/lang/invoke/VarHandle" ∧ (parseMethodDescriptor yX9_greatest.desc).map (fun d => d.parameters.length) = some 2 := by decide +kernel
theorem hd_X9_lastBy_v : yX9_lastBy.cls = RX9 ∧ yX9_lastBy.cls ≠ "java/lang/invoke/MethodHandle" ∧ yX9_lastBy.cls ≠ "java/lang/invoke/VarHandle" ∧ (parseMethodDescriptor yX9_lastBy.desc).map (fun d => d.parameters.length) = some 2 := by decide +kernel
theorem hd_X9_least_v : yX9_least.cls = RX9 ∧ yX9_least.cls ≠ "java/lang/invoke/MethodHandle" ∧ yX9_least.cls ≠ "java/lang/invoke/VarHandle" ∧ (parseMethodDescriptor yX9_least.desc).map (fun d => d.parameters.length) = some 2 := by decide +kernel
theorem hd_X9_note_v : yX9_note.cls = RX9 ∧ yX9_note.cls ≠ "java/lang/invoke/MethodHandle" ∧ yX9_note.cls ≠ "java/lang/invoke/VarHandle" ∧ (parseMethodDescriptor yX9_note.desc).map (fun d => d.parameters.length) = some 3 := by decide +kernel
theorem sw_0_4 (x : Int32) : (x.toInt < 0 ∨ 4 < x.toInt) ∨ x = 0 ∨ x = 1 ∨ x = 2 ∨ x = 3 ∨ x = 4 := by
  by_cases h : x.toInt < 0 ∨ 4 < x.toInt
  · exact Or.inl h
  · right
    have h2 : x.toInt = 0 ∨ x.toInt = 1 ∨ x.toInt = 2 ∨ x.toInt = 3 ∨ x.toInt = 4 := by omega
    rcases h2 with h2 | h2 | h2 | h2 | h2
    · exact Or.inl (z_of (by decide) h2)
    · exact Or.inr (Or.inl (z_of (by decide) h2))
    · exact Or.inr (Or.inr (Or.inl (z_of (by decide) h2)))
    · exact Or.inr (Or.inr (Or.inr (Or.inl (z_of (by decide) h2))))
    · exact Or.inr (Or.inr (Or.inr (Or.inr (z_of (by decide) h2))))
theorem sw_0_5 (x : Int32) : (x.toInt < 0 ∨ 5 < x.toInt) ∨ x = 0 ∨ x = 1 ∨ x = 2 ∨ x = 3 ∨ x = 4 ∨ x = 5 := by
  by_cases h : x.toInt < 0 ∨ 5 < x.toInt
  · exact Or.inl h
  · right
    have h2 : x.toInt = 0 ∨ x.toInt = 1 ∨ x.toInt = 2 ∨ x.toInt = 3 ∨ x.toInt = 4 ∨ x.toInt = 5 := by omega
    rcases h2 with h2 | h2 | h2 | h2 | h2 | h2
    · exact Or.inl (z_of (by decide) h2)
    · exact Or.inr (Or.inl (z_of (by decide) h2))
    · exact Or.inr (Or.inr (Or.inl (z_of (by decide) h2)))
    · exact Or.inr (Or.inr (Or.inr (Or.inl (z_of (by decide) h2))))
    · exact Or.inr (Or.inr (Or.inr (Or.inr (Or.inl (z_of (by decide) h2)))))
    · exact Or.inr (Or.inr (Or.inr (Or.inr (Or.inr (z_of (by decide) h2)))))
theorem sw_0_10 (x : Int32) : (x.toInt < 0 ∨ 10 < x.toInt) ∨ x = 0 ∨ x = 1 ∨ x = 2 ∨ x = 3 ∨ x = 4 ∨ x = 5 ∨ x = 6 ∨ x = 7 ∨ x = 8 ∨ x = 9 ∨ x = 10 := by
  by_cases h : x.toInt < 0 ∨ 10 < x.toInt
  · exact Or.inl h
  · right
    have h2 : x.toInt = 0 ∨ x.toInt = 1 ∨ x.toInt = 2 ∨ x.toInt = 3 ∨ x.toInt = 4 ∨ x.toInt = 5 ∨ x.toInt = 6 ∨ x.toInt = 7 ∨ x.toInt = 8 ∨ x.toInt = 9 ∨ x.toInt = 10 := by omega
    rcases h2 with h2 | h2 | h2 | h2 | h2 | h2 | h2 | h2 | h2 | h2 | h2
    · exact Or.inl (z_of (by decide) h2)
    · exact Or.inr (Or.inl (z_of (by decide) h2))
    · exact Or.inr (Or.inr (Or.inl (z_of (by decide) h2)))
    · exact Or.inr (Or.inr (Or.inr (Or.inl (z_of (by decide) h2))))
    · exact Or.inr (Or.inr (Or.inr (Or.inr (Or.inl (z_of (by decide) h2)))))
    · exact Or.inr (Or.inr (Or.inr (Or.inr (Or.inr (Or.inl (z_of (by decide) h2))))))
    · exact Or.inr (Or.inr (Or.inr (Or.inr (Or.inr (Or.inr (Or.inl (z_of (by decide) h2)))))))
    · exact Or.inr (Or.inr (Or.inr (Or.inr (Or.inr (Or.inr (Or.inr (Or.inl (z_of (by decide) h2))))))))
    · exact Or.inr (Or.inr (Or.inr (Or.inr (Or.inr (Or.inr (Or.inr (Or.inr (Or.inl (z_of (by decide) h2)))))))))
    · exact Or.inr (Or.inr (Or.inr (Or.inr (Or.inr (Or.inr (Or.inr (Or.inr (Or.inr (Or.inl (z_of (by decide) h2))))))))))
    · exact Or.inr (Or.inr (Or.inr (Or.inr (Or.inr (Or.inr (Or.inr (Or.inr (Or.inr (Or.inr (z_of (by decide) h2))))))))))
abbrev o0 (h : Nat) (g : Nat → Nat → Nat) : List Value := [.ref (g 0 0), .ref (g 0 1), .ref (g 0 2), .ref (g 0 3), .ref (g 0 4), .ref (g 0 5), .ref (g 0 6), .int 0]
abbrev o1 (h : Nat) (g : Nat → Nat → Nat) : List Value := [.ref (g 1 0), .ref (g 1 1), .ref (g 1 2), .ref (g 1 3), .ref (g 1 4), .ref (g 1 5), .ref (g 1 6), .int 0, .int 0]
abbrev o4 (h : Nat) (g : Nat → Nat → Nat) : List Value := [.ref (g 4 0), .ref (g 4 1), .int 0]
abbrev o5 (h : Nat) (g : Nat → Nat → Nat) : List Value := [.ref (g 5 0), .ref (g 5 1), .ref (g 5 2), .ref (g 5 3), .int 0, .int 0, .int 0]
abbrev o6 (h : Nat) (g : Nat → Nat → Nat) : List Value := [.ref (g 6 0), .ref (g 6 1), .ref (g 6 2), .ref (g 6 3), .ref (g 6 4), .ref (g 6 5), .ref (g 6 6), .int 0]
abbrev o8 (h : Nat) (g : Nat → Nat → Nat) : List Value := [.ref (g 11 3), .ref (g 8 1), .int 0, .int (-1), .int 0, .int 0]
abbrev o9 (h : Nat) (g : Nat → Nat → Nat) : List Value := [.ref (g 9 0), .ref (g 9 1), .ref (g 9 2), .int 0]
abbrev o10 (h : Nat) (g : Nat → Nat → Nat) : List Value := [.ref (g 10 0), .int 0, .int 0]
abbrev o11 (h : Nat) (g : Nat → Nat → Nat) : List Value := [.ref (g 11 0), .ref (g 11 1), .ref (g 11 2), .ref (g 11 3), .ref (g 11 4), .ref (g 11 5), .ref (g 11 6), .ref (g 11 7), .ref (g 11 8), .ref (g 11 9), .int 0]
abbrev o12 (h : Nat) (g : Nat → Nat → Nat) : List Value := [.int 0, .int 0, .ref (g 12 2), .int 0, .ref (g 12 4), .ref (g 12 5), .ref (g 12 6), .ref (g 12 7), .ref (g 12 8), .ref (g 12 9), .ref (g 12 10), .ref (g 12 11), .ref (g 12 12), .int 0, .ref (g 12 14), .ref (g 12 15), .ref (g 12 16), .long 0, .long 0, .int 0, .int (-1), .int (-1), .int (-1), .int 0, .ref (g 12 24), .ref (g 12 25), .ref (g 12 26), .ref (g 12 27), .ref (g 12 28), .ref (g 12 29), .ref (g 12 30), .ref (g 12 31), .ref (g 12 32), .int 0, .int 0, .int 0, .int (-1), .int 0, .int 0, .ref (g 12 39), .ref (g 12 40), .int 0, .ref (g 12 42), .ref (g 12 43), .long 0, .long 0, .long 0, .long 0, .int 0, .ref (g 12 49), .ref (g 12 50), .ref (g 12 51), .ref (g 12 52), .ref (g 12 53), .ref (g 12 54), .ref (g 12 55), .ref (g 12 56), .int 0, .ref (g 12 58), .ref (g 12 59), .int 0, .int 0, .int 0, .ref (g 12 63), .ref (g 12 64), .int 0, .int 0, .int 0, .ref (g 12 68), .ref (g 12 69), .ref (g 12 70), .ref (g 12 71), .ref (g 12 72), .ref (g 12 73), .ref (g 12 74)]

/-! ===== what a first call on a fresh object answers ===== -/
def F_go (n : Int32) : Int32 := if 0 ≤ n.toInt ∧ n.toInt ≤ 999 then n else -100002
def F_bale (n : Int32) : Int32 := if 1 ≤ n.toInt ∧ n.toInt ≤ 99999 then 0 else -100002
def F_test (a b c : Int32) : Int32 := if (0 ≤ a.toInt ∧ a.toInt ≤ 3) ∧ (1 ≤ b.toInt ∧ b.toInt ≤ 9999) ∧ (1 ≤ c.toInt ∧ c.toInt ≤ 9999) then 1 else -100002
def F_error (a b c : Int32) : Int32 := if (0 ≤ a.toInt ∧ a.toInt ≤ 3) ∧ (0 ≤ b.toInt ∧ b.toInt ≤ 3000) ∧ (0 ≤ c.toInt ∧ c.toInt ≤ 1) then 0 else -100002
def F_count (n : Int32) : Int32 := if 0 ≤ n.toInt ∧ n.toInt ≤ 10 then 0 else -100002
def F_feed (n : Int32) : Int32 := if 1 ≤ n.toInt ∧ n.toInt ≤ 8 then n else -100002
def F_rule (n : Int32) : Int32 := if 0 ≤ n.toInt ∧ n.toInt ≤ 3000 then 0 else -100002
def F_atF (n : Int32) : Int32 := if n.toInt = 0 then 110 else if n.toInt = 1 then 3 else if n.toInt = 2 then 5 else if n.toInt = 3 then 2 else if n.toInt = 4 then 10 else 0
def F_AFT (j : Nat) : Int32 := ([110, 3, 5, 2, 10, 0] : List Int32).getD j 0
def F_force (n d : Int32) : Int32 := if (0 ≤ n.toInt ∧ n.toInt ≤ 5) ∧ (0 ≤ d.toInt ∧ d.toInt ≤ 3000) then F_atF n else -100002
def F_load (n : Int32) : Int32 := if 1 ≤ n.toInt ∧ n.toInt ≤ 999 then 1 else -100002
def F_order (n i : Int32) : Int32 := if 1 ≤ n.toInt ∧ n.toInt ≤ 3 then (if i.toInt = -1 then 0 else -1) else -100002
def F_shared (a b c d : Int32) : Int32 := if (1 ≤ a.toInt ∧ a.toInt ≤ b.toInt ∧ b.toInt ≤ 9999) ∧ (1 ≤ c.toInt ∧ c.toInt ≤ d.toInt ∧ d.toInt ≤ 9999) then 1 else -100002
def F_houses (n : Int32) : Int32 := if 0 ≤ n.toInt ∧ n.toInt ≤ 2 then -100003 else -100002
def F_stood (d n : Int32) : Int64 := if (0 ≤ d.toInt ∧ d.toInt ≤ 0) ∧ (0 ≤ n.toInt ∧ n.toInt ≤ 1) then 0 else -100002
theorem F_AFT_eq {n : Int32} (h : 0 ≤ n.toInt ∧ n.toInt ≤ 5) : F_AFT n.toNatClampNeg = F_atF n := by
  rcases sw_0_5 n with h1 | rfl | rfl | rfl | rfl | rfl | rfl
  · exfalso; omega
  all_goals decide
def zAF (U : State) : Prop := ∃ t : Nat, va_Z "SilkHouse$Book" "AT_FIRST" "[I" (.ref t) (fun _ => False) U U.heap ∧ va_T .int t 6 (fun j => .int (F_AFT j)) (fun _ => False) U U.heap
theorem zAF_moved {u U : State} (hvm : u.vm.Alike U.vm) (hh : U.heap = u.heap) (h : zAF u) : zAF U := by
  obtain ⟨t, h1, h2⟩ := h
  exact ⟨t, by rw [hh]; exact va_Z.moved hvm h1, by rw [hh]; exact va_T.moved hvm h2⟩
theorem vRZ {D : va_G} {cl : List vw_C} {ws : va_W} {tys : List (ClassId × FieldType)} {s : State} {H : Heap} {C : String} {b : Addr} {As : List Value} (hP : va_P D cl ws H) (hK : va_K D cl tys s) (hZ : ∃ t : Nat, va_Z "SilkHouse$Book" "AT_FIRST" "[I" (.ref t) (fun _ => False) s H ∧ va_T .int t 6 (fun j => .int (F_AFT j)) (fun _ => False) s H) (hr : ∃ cell : Cell, H[b]? = some cell ∧ cell.vm.isStatics = false ∧ s.vm.findClass C = some cell.cls) : PreV s H C b (va_Pc (.ref b :: As) (fun U => va_P D cl ws U.heap ∧ va_K D cl tys U ∧ zAF U)) As := by
  refine ⟨fun a U g mk q => ⟨q.1, q.2.1, va_K.moved (u := U) (U := U.calling g mk a) (Vm.Alike.refl U.vm) q.2.2.1, zAF_moved (u := U) (Vm.Alike.refl U.vm) rfl q.2.2.2⟩, hr, fun U hU hW => ⟨rfl, by rw [hU]; exact hP, va_K.moved hW.alike hK, ?_⟩⟩
  obtain ⟨t, h1, h2⟩ := hZ
  exact ⟨t, by rw [hU]; exact va_Z.moved hW.alike h1, by rw [hU]; exact va_T.moved hW.alike h2⟩
end
section
theorem dX0_bring_0 : decode cX0_bring 0 = .ok (.aload_n 0, 1) := by decide +kernel
theorem dX0_bring_1 : decode cX0_bring 1 = .ok (.getfield 11, 3) := by decide +kernel
theorem dX0_bring_4 : decode cX0_bring 4 = .ok (.aload_n 0, 1) := by decide +kernel
theorem dX0_bring_5 : decode cX0_bring 5 = .ok (.getfield 33, 3) := by decide +kernel
theorem dX0_bring_8 : decode cX0_bring 8 = .ok (.iload_n 1, 1) := by decide +kernel
theorem dX0_bring_9 : decode cX0_bring 9 = .ok (.iastore, 1) := by decide +kernel
theorem dX0_bring_10 : decode cX0_bring 10 = .ok (.aload_n 0, 1) := by decide +kernel
theorem dX0_bring_11 : decode cX0_bring 11 = .ok (.dup, 1) := by decide +kernel
theorem dX0_bring_12 : decode cX0_bring 12 = .ok (.getfield 33, 3) := by decide +kernel
theorem dX0_bring_15 : decode cX0_bring 15 = .ok (.iconst 1, 1) := by decide +kernel
theorem dX0_bring_16 : decode cX0_bring 16 = .ok (.iadd, 1) := by decide +kernel
theorem dX0_bring_17 : decode cX0_bring 17 = .ok (.putfield 33, 3) := by decide +kernel
theorem dX0_bring_20 : decode cX0_bring 20 = .ok (.aload_n 0, 1) := by decide +kernel
theorem dX0_bring_21 : decode cX0_bring 21 = .ok (.getfield 33, 3) := by decide +kernel
theorem dX0_bring_24 : decode cX0_bring 24 = .ok (.iconst 1, 1) := by decide +kernel
theorem dX0_bring_25 : decode cX0_bring 25 = .ok (.isub, 1) := by decide +kernel
theorem dX0_bring_26 : decode cX0_bring 26 = .ok (.ireturn, 1) := by decide +kernel
theorem dX0_has_0 : decode cX0_has 0 = .ok (.iload_n 1, 1) := by decide +kernel
theorem dX0_has_1 : decode cX0_has 1 = .ok (.ifCond .lt 15, 3) := by decide +kernel
theorem dX0_has_4 : decode cX0_has 4 = .ok (.iload_n 1, 1) := by decide +kernel
theorem dX0_has_5 : decode cX0_has 5 = .ok (.aload_n 0, 1) := by decide +kernel
theorem dX0_has_6 : decode cX0_has 6 = .ok (.getfield 33, 3) := by decide +kernel
theorem dX0_has_9 : decode cX0_has 9 = .ok (.if_icmp .ge 7, 3) := by decide +kernel
theorem dX0_has_16 : decode cX0_has 16 = .ok (.iconst 0, 1) := by decide +kernel
theorem dX0_has_17 : decode cX0_has 17 = .ok (.ireturn, 1) := by decide +kernel
theorem dX10_has_0 : decode cX10_has 0 = .ok (.iload_n 1, 1) := by decide +kernel
theorem dX10_has_1 : decode cX10_has 1 = .ok (.ifCond .lt 15, 3) := by decide +kernel
theorem dX10_has_4 : decode cX10_has 4 = .ok (.iload_n 1, 1) := by decide +kernel
theorem dX10_has_5 : decode cX10_has 5 = .ok (.aload_n 0, 1) := by decide +kernel
theorem dX10_has_6 : decode cX10_has 6 = .ok (.getfield 15, 3) := by decide +kernel
theorem dX10_has_9 : decode cX10_has 9 = .ok (.if_icmp .ge 7, 3) := by decide +kernel
theorem dX10_has_16 : decode cX10_has 16 = .ok (.iconst 0, 1) := by decide +kernel
theorem dX10_has_17 : decode cX10_has 17 = .ok (.ireturn, 1) := by decide +kernel
theorem dX11_bale_0 : decode cX11_bale 0 = .ok (.iload_n 1, 1) := by decide +kernel
theorem dX11_bale_1 : decode cX11_bale 1 = .ok (.iconst 1, 1) := by decide +kernel
theorem dX11_bale_2 : decode cX11_bale 2 = .ok (.ldc 95, 2) := by decide +kernel
theorem dX11_bale_4 : decode cX11_bale 4 = .ok (.invokestatic 89, 3) := by decide +kernel
theorem dX11_bale_7 : decode cX11_bale 7 = .ok (.ifCond .ne 6, 3) := by decide +kernel
theorem dX11_bale_10 : decode cX11_bale 10 = .ok (.ldc 93, 2) := by decide +kernel
theorem dX11_bale_12 : decode cX11_bale 12 = .ok (.ireturn, 1) := by decide +kernel
theorem dX11_bale_13 : decode cX11_bale 13 = .ok (.aload_n 0, 1) := by decide +kernel
theorem dX11_bale_14 : decode cX11_bale 14 = .ok (.getfield 26, 3) := by decide +kernel
theorem dX11_bale_17 : decode cX11_bale 17 = .ok (.getfield 96, 3) := by decide +kernel
theorem dX11_bale_20 : decode cX11_bale 20 = .ok (.bipush 10, 2) := by decide +kernel
theorem dX11_bale_22 : decode cX11_bale 22 = .ok (.if_icmp .lt 6, 3) := by decide +kernel
theorem dX11_bale_28 : decode cX11_bale 28 = .ok (.aload_n 0, 1) := by decide +kernel
theorem dX11_bale_29 : decode cX11_bale 29 = .ok (.getfield 26, 3) := by decide +kernel
theorem dX11_bale_32 : decode cX11_bale 32 = .ok (.iload_n 1, 1) := by decide +kernel
theorem dX11_bale_33 : decode cX11_bale 33 = .ok (.invokevirtual 100, 3) := by decide +kernel
theorem dX11_bale_36 : decode cX11_bale 36 = .ok (.ireturn, 1) := by decide +kernel
theorem dX11_balesIn_0 : decode cX11_balesIn 0 = .ok (.iconst 0, 1) := by decide +kernel
theorem dX11_balesIn_1 : decode cX11_balesIn 1 = .ok (.istore_n 2, 1) := by decide +kernel
theorem dX11_balesIn_2 : decode cX11_balesIn 2 = .ok (.iconst 0, 1) := by decide +kernel
theorem dX11_balesIn_3 : decode cX11_balesIn 3 = .ok (.istore_n 3, 1) := by decide +kernel
theorem dX11_balesIn_4 : decode cX11_balesIn 4 = .ok (.iload_n 3, 1) := by decide +kernel
theorem dX11_balesIn_5 : decode cX11_balesIn 5 = .ok (.aload_n 0, 1) := by decide +kernel
theorem dX11_balesIn_6 : decode cX11_balesIn 6 = .ok (.getfield 26, 3) := by decide +kernel
theorem dX11_balesIn_9 : decode cX11_balesIn 9 = .ok (.getfield 96, 3) := by decide +kernel
theorem dX11_balesIn_12 : decode cX11_balesIn 12 = .ok (.if_icmp .ge 28, 3) := by decide +kernel
theorem dX11_balesIn_40 : decode cX11_balesIn 40 = .ok (.iload_n 2, 1) := by decide +kernel
theorem dX11_balesIn_41 : decode cX11_balesIn 41 = .ok (.ireturn, 1) := by decide +kernel
theorem dX11_bill_0 : decode cX11_bill 0 = .ok (.aload_n 0, 1) := by decide +kernel
theorem dX11_bill_1 : decode cX11_bill 1 = .ok (.getfield 81, 3) := by decide +kernel
theorem dX11_bill_4 : decode cX11_bill 4 = .ok (.iload_n 1, 1) := by decide +kernel
theorem dX11_bill_5 : decode cX11_bill 5 = .ok (.invokevirtual 343, 3) := by decide +kernel
theorem dX11_bill_8 : decode cX11_bill 8 = .ok (.ifCond .ne 6, 3) := by decide +kernel
theorem dX11_bill_11 : decode cX11_bill 11 = .ok (.ldc 108, 2) := by decide +kernel
theorem dX11_bill_13 : decode cX11_bill 13 = .ok (.ireturn, 1) := by decide +kernel
theorem dX11_burnt_0 : decode cX11_burnt 0 = .ok (.aload_n 0, 1) := by decide +kernel
theorem dX11_burnt_1 : decode cX11_burnt 1 = .ok (.getfield 26, 3) := by decide +kernel
theorem dX11_burnt_4 : decode cX11_burnt 4 = .ok (.iload_n 1, 1) := by decide +kernel
theorem dX11_burnt_5 : decode cX11_burnt 5 = .ok (.invokevirtual 104, 3) := by decide +kernel
theorem dX11_burnt_8 : decode cX11_burnt 8 = .ok (.ifCond .ne 6, 3) := by decide +kernel
theorem dX11_burnt_11 : decode cX11_burnt 11 = .ok (.ldc 108, 2) := by decide +kernel
theorem dX11_burnt_13 : decode cX11_burnt 13 = .ok (.ireturn, 1) := by decide +kernel
theorem dX11_cause_0 : decode cX11_cause 0 = .ok (.aload_n 0, 1) := by decide +kernel
theorem dX11_cause_1 : decode cX11_cause 1 = .ok (.getfield 26, 3) := by decide +kernel
theorem dX11_cause_4 : decode cX11_cause 4 = .ok (.iload_n 1, 1) := by decide +kernel
theorem dX11_cause_5 : decode cX11_cause 5 = .ok (.invokevirtual 104, 3) := by decide +kernel
theorem dX11_cause_8 : decode cX11_cause 8 = .ok (.ifCond .ne 6, 3) := by decide +kernel
theorem dX11_cause_11 : decode cX11_cause 11 = .ok (.ldc 108, 2) := by decide +kernel
theorem dX11_cause_13 : decode cX11_cause 13 = .ok (.ireturn, 1) := by decide +kernel
theorem dX11_certify_0 : decode cX11_certify 0 = .ok (.aload_n 0, 1) := by decide +kernel
theorem dX11_certify_1 : decode cX11_certify 1 = .ok (.getfield 26, 3) := by decide +kernel
theorem dX11_certify_4 : decode cX11_certify 4 = .ok (.iload_n 1, 1) := by decide +kernel
theorem dX11_certify_5 : decode cX11_certify 5 = .ok (.invokevirtual 104, 3) := by decide +kernel
theorem dX11_certify_8 : decode cX11_certify 8 = .ok (.ifCond .ne 6, 3) := by decide +kernel
theorem dX11_certify_11 : decode cX11_certify 11 = .ok (.ldc 108, 2) := by decide +kernel
theorem dX11_certify_13 : decode cX11_certify 13 = .ok (.ireturn, 1) := by decide +kernel
theorem dX11_cheat_0 : decode cX11_cheat 0 = .ok (.aload_n 0, 1) := by decide +kernel
theorem dX11_cheat_1 : decode cX11_cheat 1 = .ok (.getfield 26, 3) := by decide +kernel
theorem dX11_cheat_4 : decode cX11_cheat 4 = .ok (.iload_n 1, 1) := by decide +kernel
theorem dX11_cheat_5 : decode cX11_cheat 5 = .ok (.invokevirtual 104, 3) := by decide +kernel
theorem dX11_cheat_8 : decode cX11_cheat 8 = .ok (.ifCond .ne 6, 3) := by decide +kernel
theorem dX11_cheat_11 : decode cX11_cheat 11 = .ok (.ldc 108, 2) := by decide +kernel
theorem dX11_cheat_13 : decode cX11_cheat 13 = .ok (.ireturn, 1) := by decide +kernel
theorem dX11_count_0 : decode cX11_count 0 = .ok (.iload_n 1, 1) := by decide +kernel
theorem dX11_count_1 : decode cX11_count 1 = .ok (.tableswitch 137 0 10 #[59, 64, 72, 80, 88, 96, 104, 112, 118, 124, 132], 59) := by decide +kernel
theorem dX11_count_60 : decode cX11_count 60 = .ok (.aload_n 0, 1) := by decide +kernel
theorem dX11_count_61 : decode cX11_count 61 = .ok (.getfield 85, 3) := by decide +kernel
theorem dX11_count_64 : decode cX11_count 64 = .ok (.ireturn, 1) := by decide +kernel
theorem dX11_count_65 : decode cX11_count 65 = .ok (.aload_n 0, 1) := by decide +kernel
theorem dX11_count_66 : decode cX11_count 66 = .ok (.getfield 26, 3) := by decide +kernel
theorem dX11_count_69 : decode cX11_count 69 = .ok (.getfield 96, 3) := by decide +kernel
theorem dX11_count_72 : decode cX11_count 72 = .ok (.ireturn, 1) := by decide +kernel
theorem dX11_count_73 : decode cX11_count 73 = .ok (.aload_n 0, 1) := by decide +kernel
theorem dX11_count_74 : decode cX11_count 74 = .ok (.getfield 10, 3) := by decide +kernel
theorem dX11_count_77 : decode cX11_count 77 = .ok (.getfield 109, 3) := by decide +kernel
theorem dX11_count_80 : decode cX11_count 80 = .ok (.ireturn, 1) := by decide +kernel
theorem dX11_count_81 : decode cX11_count 81 = .ok (.aload_n 0, 1) := by decide +kernel
theorem dX11_count_82 : decode cX11_count 82 = .ok (.getfield 10, 3) := by decide +kernel
theorem dX11_count_85 : decode cX11_count 85 = .ok (.getfield 167, 3) := by decide +kernel
theorem dX11_count_88 : decode cX11_count 88 = .ok (.ireturn, 1) := by decide +kernel
theorem dX11_count_89 : decode cX11_count 89 = .ok (.aload_n 0, 1) := by decide +kernel
theorem dX11_count_90 : decode cX11_count 90 = .ok (.getfield 19, 3) := by decide +kernel
theorem dX11_count_93 : decode cX11_count 93 = .ok (.getfield 134, 3) := by decide +kernel
theorem dX11_count_96 : decode cX11_count 96 = .ok (.ireturn, 1) := by decide +kernel
theorem dX11_count_97 : decode cX11_count 97 = .ok (.aload_n 0, 1) := by decide +kernel
theorem dX11_count_98 : decode cX11_count 98 = .ok (.getfield 33, 3) := by decide +kernel
theorem dX11_count_101 : decode cX11_count 101 = .ok (.getfield 170, 3) := by decide +kernel
theorem dX11_count_104 : decode cX11_count 104 = .ok (.ireturn, 1) := by decide +kernel
theorem dX11_count_105 : decode cX11_count 105 = .ok (.aload_n 0, 1) := by decide +kernel
theorem dX11_count_106 : decode cX11_count 106 = .ok (.getfield 81, 3) := by decide +kernel
theorem dX11_count_109 : decode cX11_count 109 = .ok (.getfield 171, 3) := by decide +kernel
theorem dX11_count_112 : decode cX11_count 112 = .ok (.ireturn, 1) := by decide +kernel
theorem dX11_count_113 : decode cX11_count 113 = .ok (.aload_n 0, 1) := by decide +kernel
theorem dX11_count_114 : decode cX11_count 114 = .ok (.iconst 1, 1) := by decide +kernel
theorem dX11_count_115 : decode cX11_count 115 = .ok (.invokevirtual 172, 3) := by decide +kernel
theorem dX11_count_118 : decode cX11_count 118 = .ok (.ireturn, 1) := by decide +kernel
theorem dX11_count_119 : decode cX11_count 119 = .ok (.aload_n 0, 1) := by decide +kernel
theorem dX11_count_120 : decode cX11_count 120 = .ok (.iconst 2, 1) := by decide +kernel
theorem dX11_count_121 : decode cX11_count 121 = .ok (.invokevirtual 172, 3) := by decide +kernel
theorem dX11_count_124 : decode cX11_count 124 = .ok (.ireturn, 1) := by decide +kernel
theorem dX11_count_125 : decode cX11_count 125 = .ok (.aload_n 0, 1) := by decide +kernel
theorem dX11_count_126 : decode cX11_count 126 = .ok (.getfield 42, 3) := by decide +kernel
theorem dX11_count_129 : decode cX11_count 129 = .ok (.getfield 175, 3) := by decide +kernel
theorem dX11_count_132 : decode cX11_count 132 = .ok (.ireturn, 1) := by decide +kernel
theorem dX11_count_133 : decode cX11_count 133 = .ok (.aload_n 0, 1) := by decide +kernel
theorem dX11_count_134 : decode cX11_count 134 = .ok (.invokevirtual 178, 3) := by decide +kernel
theorem dX11_count_137 : decode cX11_count 137 = .ok (.ireturn, 1) := by decide +kernel
theorem dX11_count_138 : decode cX11_count 138 = .ok (.ldc 93, 2) := by decide +kernel
theorem dX11_count_140 : decode cX11_count 140 = .ok (.ireturn, 1) := by decide +kernel
theorem dX11_cut_0 : decode cX11_cut 0 = .ok (.aload_n 0, 1) := by decide +kernel
theorem dX11_cut_1 : decode cX11_cut 1 = .ok (.getfield 81, 3) := by decide +kernel
theorem dX11_cut_4 : decode cX11_cut 4 = .ok (.iload_n 1, 1) := by decide +kernel
theorem dX11_cut_5 : decode cX11_cut 5 = .ok (.invokevirtual 343, 3) := by decide +kernel
theorem dX11_cut_8 : decode cX11_cut 8 = .ok (.ifCond .ne 6, 3) := by decide +kernel
theorem dX11_cut_11 : decode cX11_cut 11 = .ok (.ldc 108, 2) := by decide +kernel
theorem dX11_cut_13 : decode cX11_cut 13 = .ok (.ireturn, 1) := by decide +kernel
theorem dX11_empty_0 : decode cX11_empty 0 = .ok (.aload_n 0, 1) := by decide +kernel
theorem dX11_empty_1 : decode cX11_empty 1 = .ok (.getfield 67, 3) := by decide +kernel
theorem dX11_empty_4 : decode cX11_empty 4 = .ok (.invokevirtual 317, 3) := by decide +kernel
theorem dX11_empty_7 : decode cX11_empty 7 = .ok (.ireturn, 1) := by decide +kernel
theorem dX11_error_0 : decode cX11_error 0 = .ok (.iload_n 1, 1) := by decide +kernel
theorem dX11_error_1 : decode cX11_error 1 = .ok (.iconst 0, 1) := by decide +kernel
theorem dX11_error_2 : decode cX11_error 2 = .ok (.iconst 3, 1) := by decide +kernel
theorem dX11_error_3 : decode cX11_error 3 = .ok (.invokestatic 89, 3) := by decide +kernel
theorem dX11_error_6 : decode cX11_error 6 = .ok (.ifCond .eq 23, 3) := by decide +kernel
theorem dX11_error_9 : decode cX11_error 9 = .ok (.iload_n 2, 1) := by decide +kernel
theorem dX11_error_10 : decode cX11_error 10 = .ok (.iconst 0, 1) := by decide +kernel
theorem dX11_error_11 : decode cX11_error 11 = .ok (.sipush 3000, 3) := by decide +kernel
theorem dX11_error_14 : decode cX11_error 14 = .ok (.invokestatic 89, 3) := by decide +kernel
theorem dX11_error_17 : decode cX11_error 17 = .ok (.ifCond .eq 12, 3) := by decide +kernel
theorem dX11_error_20 : decode cX11_error 20 = .ok (.iload_n 3, 1) := by decide +kernel
theorem dX11_error_21 : decode cX11_error 21 = .ok (.iconst 0, 1) := by decide +kernel
theorem dX11_error_22 : decode cX11_error 22 = .ok (.iconst 1, 1) := by decide +kernel
theorem dX11_error_23 : decode cX11_error 23 = .ok (.invokestatic 89, 3) := by decide +kernel
theorem dX11_error_26 : decode cX11_error 26 = .ok (.ifCond .ne 6, 3) := by decide +kernel
theorem dX11_error_29 : decode cX11_error 29 = .ok (.ldc 93, 2) := by decide +kernel
theorem dX11_error_31 : decode cX11_error 31 = .ok (.ireturn, 1) := by decide +kernel
theorem dX11_error_32 : decode cX11_error 32 = .ok (.iload_n 3, 1) := by decide +kernel
theorem dX11_error_33 : decode cX11_error 33 = .ok (.ifCond .ne 15, 3) := by decide +kernel
theorem dX11_error_36 : decode cX11_error 36 = .ok (.aload_n 0, 1) := by decide +kernel
theorem dX11_error_37 : decode cX11_error 37 = .ok (.getfield 19, 3) := by decide +kernel
theorem dX11_error_40 : decode cX11_error 40 = .ok (.iload_n 1, 1) := by decide +kernel
theorem dX11_error_41 : decode cX11_error 41 = .ok (.iload_n 2, 1) := by decide +kernel
theorem dX11_error_42 : decode cX11_error 42 = .ok (.invokevirtual 138, 3) := by decide +kernel
theorem dX11_error_45 : decode cX11_error 45 = .ok (.goto 12, 3) := by decide +kernel
theorem dX11_error_48 : decode cX11_error 48 = .ok (.aload_n 0, 1) := by decide +kernel
theorem dX11_error_49 : decode cX11_error 49 = .ok (.getfield 19, 3) := by decide +kernel
theorem dX11_error_52 : decode cX11_error 52 = .ok (.iload_n 1, 1) := by decide +kernel
theorem dX11_error_53 : decode cX11_error 53 = .ok (.iload_n 2, 1) := by decide +kernel
theorem dX11_error_54 : decode cX11_error 54 = .ok (.invokevirtual 141, 3) := by decide +kernel
theorem dX11_error_57 : decode cX11_error 57 = .ok (.ireturn, 1) := by decide +kernel
theorem dX11_fault_0 : decode cX11_fault 0 = .ok (.aload_n 0, 1) := by decide +kernel
theorem dX11_fault_1 : decode cX11_fault 1 = .ok (.getfield 42, 3) := by decide +kernel
theorem dX11_fault_4 : decode cX11_fault 4 = .ok (.getfield 207, 3) := by decide +kernel
theorem dX11_fault_7 : decode cX11_fault 7 = .ok (.ireturn, 1) := by decide +kernel
theorem dX11_feed_0 : decode cX11_feed 0 = .ok (.iload_n 1, 1) := by decide +kernel
theorem dX11_feed_1 : decode cX11_feed 1 = .ok (.iconst 1, 1) := by decide +kernel
theorem dX11_feed_2 : decode cX11_feed 2 = .ok (.bipush 8, 2) := by decide +kernel
theorem dX11_feed_4 : decode cX11_feed 4 = .ok (.invokestatic 89, 3) := by decide +kernel
theorem dX11_feed_7 : decode cX11_feed 7 = .ok (.ifCond .ne 6, 3) := by decide +kernel
theorem dX11_feed_10 : decode cX11_feed 10 = .ok (.ldc 93, 2) := by decide +kernel
theorem dX11_feed_12 : decode cX11_feed 12 = .ok (.ireturn, 1) := by decide +kernel
theorem dX11_feed_13 : decode cX11_feed 13 = .ok (.aload_n 0, 1) := by decide +kernel
theorem dX11_feed_14 : decode cX11_feed 14 = .ok (.getfield 42, 3) := by decide +kernel
theorem dX11_feed_17 : decode cX11_feed 17 = .ok (.getfield 175, 3) := by decide +kernel
theorem dX11_feed_20 : decode cX11_feed 20 = .ok (.iload_n 1, 1) := by decide +kernel
theorem dX11_feed_21 : decode cX11_feed 21 = .ok (.iadd, 1) := by decide +kernel
theorem dX11_feed_22 : decode cX11_feed 22 = .ok (.sipush 200, 3) := by decide +kernel
theorem dX11_feed_25 : decode cX11_feed 25 = .ok (.if_icmp .le 8, 3) := by decide +kernel
theorem dX11_feed_33 : decode cX11_feed 33 = .ok (.aload_n 0, 1) := by decide +kernel
theorem dX11_feed_34 : decode cX11_feed 34 = .ok (.getfield 42, 3) := by decide +kernel
theorem dX11_feed_37 : decode cX11_feed 37 = .ok (.iload_n 1, 1) := by decide +kernel
theorem dX11_feed_38 : decode cX11_feed 38 = .ok (.lload_n 2, 1) := by decide +kernel
theorem dX11_feed_39 : decode cX11_feed 39 = .ok (.invokevirtual 197, 3) := by decide +kernel
theorem dX11_feed_42 : decode cX11_feed 42 = .ok (.ireturn, 1) := by decide +kernel
theorem dX11_fees_0 : decode cX11_fees 0 = .ok (.iconst 0, 1) := by decide +kernel
theorem dX11_fees_1 : decode cX11_fees 1 = .ok (.istore_n 1, 1) := by decide +kernel
theorem dX11_fees_2 : decode cX11_fees 2 = .ok (.iconst 0, 1) := by decide +kernel
theorem dX11_fees_3 : decode cX11_fees 3 = .ok (.istore_n 2, 1) := by decide +kernel
theorem dX11_fees_4 : decode cX11_fees 4 = .ok (.iload_n 2, 1) := by decide +kernel
theorem dX11_fees_5 : decode cX11_fees 5 = .ok (.aload_n 0, 1) := by decide +kernel
theorem dX11_fees_6 : decode cX11_fees 6 = .ok (.getfield 81, 3) := by decide +kernel
theorem dX11_fees_9 : decode cX11_fees 9 = .ok (.getfield 171, 3) := by decide +kernel
theorem dX11_fees_12 : decode cX11_fees 12 = .ok (.if_icmp .ge 53, 3) := by decide +kernel
theorem dX11_fees_65 : decode cX11_fees 65 = .ok (.iload_n 1, 1) := by decide +kernel
theorem dX11_fees_66 : decode cX11_fees 66 = .ok (.ireturn, 1) := by decide +kernel
theorem dX11_force_0 : decode cX11_force 0 = .ok (.iload_n 1, 1) := by decide +kernel
theorem dX11_force_1 : decode cX11_force 1 = .ok (.iconst 0, 1) := by decide +kernel
theorem dX11_force_2 : decode cX11_force 2 = .ok (.iconst 5, 1) := by decide +kernel
theorem dX11_force_3 : decode cX11_force 3 = .ok (.invokestatic 89, 3) := by decide +kernel
theorem dX11_force_6 : decode cX11_force 6 = .ok (.ifCond .eq 14, 3) := by decide +kernel
theorem dX11_force_9 : decode cX11_force 9 = .ok (.iload_n 2, 1) := by decide +kernel
theorem dX11_force_10 : decode cX11_force 10 = .ok (.iconst 0, 1) := by decide +kernel
theorem dX11_force_11 : decode cX11_force 11 = .ok (.sipush 3000, 3) := by decide +kernel
theorem dX11_force_14 : decode cX11_force 14 = .ok (.invokestatic 89, 3) := by decide +kernel
theorem dX11_force_17 : decode cX11_force 17 = .ok (.ifCond .ne 6, 3) := by decide +kernel
theorem dX11_force_20 : decode cX11_force 20 = .ok (.ldc 93, 2) := by decide +kernel
theorem dX11_force_22 : decode cX11_force 22 = .ok (.ireturn, 1) := by decide +kernel
theorem dX11_force_23 : decode cX11_force 23 = .ok (.aload_n 0, 1) := by decide +kernel
theorem dX11_force_24 : decode cX11_force 24 = .ok (.getfield 33, 3) := by decide +kernel
theorem dX11_force_27 : decode cX11_force 27 = .ok (.iload_n 1, 1) := by decide +kernel
theorem dX11_force_28 : decode cX11_force 28 = .ok (.iload_n 2, 1) := by decide +kernel
theorem dX11_force_29 : decode cX11_force 29 = .ok (.invokevirtual 194, 3) := by decide +kernel
theorem dX11_force_32 : decode cX11_force 32 = .ok (.ireturn, 1) := by decide +kernel
theorem dX11_go_0 : decode cX11_go 0 = .ok (.iload_n 1, 1) := by decide +kernel
theorem dX11_go_1 : decode cX11_go 1 = .ok (.iconst 0, 1) := by decide +kernel
theorem dX11_go_2 : decode cX11_go 2 = .ok (.sipush 999, 3) := by decide +kernel
theorem dX11_go_5 : decode cX11_go 5 = .ok (.invokestatic 89, 3) := by decide +kernel
theorem dX11_go_8 : decode cX11_go 8 = .ok (.ifCond .ne 6, 3) := by decide +kernel
theorem dX11_go_11 : decode cX11_go 11 = .ok (.ldc 93, 2) := by decide +kernel
theorem dX11_go_13 : decode cX11_go 13 = .ok (.ireturn, 1) := by decide +kernel
theorem dX11_go_14 : decode cX11_go 14 = .ok (.aload_n 0, 1) := by decide +kernel
theorem dX11_go_15 : decode cX11_go 15 = .ok (.getfield 85, 3) := by decide +kernel
theorem dX11_go_18 : decode cX11_go 18 = .ok (.iload_n 1, 1) := by decide +kernel
theorem dX11_go_19 : decode cX11_go 19 = .ok (.iadd, 1) := by decide +kernel
theorem dX11_go_20 : decode cX11_go 20 = .ok (.sipush 3000, 3) := by decide +kernel
theorem dX11_go_23 : decode cX11_go 23 = .ok (.if_icmp .le 6, 3) := by decide +kernel
theorem dX11_go_29 : decode cX11_go 29 = .ok (.aload_n 0, 1) := by decide +kernel
theorem dX11_go_30 : decode cX11_go 30 = .ok (.dup, 1) := by decide +kernel
theorem dX11_go_31 : decode cX11_go 31 = .ok (.getfield 85, 3) := by decide +kernel
theorem dX11_go_34 : decode cX11_go 34 = .ok (.iload_n 1, 1) := by decide +kernel
theorem dX11_go_35 : decode cX11_go 35 = .ok (.iadd, 1) := by decide +kernel
theorem dX11_go_36 : decode cX11_go 36 = .ok (.putfield 85, 3) := by decide +kernel
theorem dX11_go_39 : decode cX11_go 39 = .ok (.aload_n 0, 1) := by decide +kernel
theorem dX11_go_40 : decode cX11_go 40 = .ok (.getfield 85, 3) := by decide +kernel
theorem dX11_go_43 : decode cX11_go 43 = .ok (.ireturn, 1) := by decide +kernel
theorem dX11_houses_0 : decode cX11_houses 0 = .ok (.iload_n 1, 1) := by decide +kernel
theorem dX11_houses_1 : decode cX11_houses 1 = .ok (.iconst 0, 1) := by decide +kernel
theorem dX11_houses_2 : decode cX11_houses 2 = .ok (.iconst 2, 1) := by decide +kernel
theorem dX11_houses_3 : decode cX11_houses 3 = .ok (.invokestatic 89, 3) := by decide +kernel
theorem dX11_houses_6 : decode cX11_houses 6 = .ok (.ifCond .ne 6, 3) := by decide +kernel
theorem dX11_houses_9 : decode cX11_houses 9 = .ok (.ldc 93, 2) := by decide +kernel
theorem dX11_houses_11 : decode cX11_houses 11 = .ok (.ireturn, 1) := by decide +kernel
theorem dX11_houses_12 : decode cX11_houses 12 = .ok (.aload_n 0, 1) := by decide +kernel
theorem dX11_houses_13 : decode cX11_houses 13 = .ok (.getfield 74, 3) := by decide +kernel
theorem dX11_houses_16 : decode cX11_houses 16 = .ok (.getfield 320, 3) := by decide +kernel
theorem dX11_houses_19 : decode cX11_houses 19 = .ok (.ifCond .ne 6, 3) := by decide +kernel
theorem dX11_houses_22 : decode cX11_houses 22 = .ok (.ldc 94, 2) := by decide +kernel
theorem dX11_houses_24 : decode cX11_houses 24 = .ok (.ireturn, 1) := by decide +kernel
theorem dX11_lawful_0 : decode cX11_lawful 0 = .ok (.aload_n 0, 1) := by decide +kernel
theorem dX11_lawful_1 : decode cX11_lawful 1 = .ok (.getfield 26, 3) := by decide +kernel
theorem dX11_lawful_4 : decode cX11_lawful 4 = .ok (.iload_n 1, 1) := by decide +kernel
theorem dX11_lawful_5 : decode cX11_lawful 5 = .ok (.invokevirtual 104, 3) := by decide +kernel
theorem dX11_lawful_8 : decode cX11_lawful 8 = .ok (.ifCond .ne 7, 3) := by decide +kernel
theorem dX11_lawful_11 : decode cX11_lawful 11 = .ok (.ldc2_w 214, 3) := by decide +kernel
theorem dX11_lawful_14 : decode cX11_lawful 14 = .ok (.lreturn, 1) := by decide +kernel
theorem dX11_letter_0 : decode cX11_letter 0 = .ok (.aload_n 0, 1) := by decide +kernel
theorem dX11_letter_1 : decode cX11_letter 1 = .ok (.getfield 33, 3) := by decide +kernel
theorem dX11_letter_4 : decode cX11_letter 4 = .ok (.iload_n 1, 1) := by decide +kernel
theorem dX11_letter_5 : decode cX11_letter 5 = .ok (.invokevirtual 210, 3) := by decide +kernel
theorem dX11_letter_8 : decode cX11_letter 8 = .ok (.ifCond .eq 15, 3) := by decide +kernel
theorem dX11_letter_23 : decode cX11_letter 23 = .ok (.ldc 108, 2) := by decide +kernel
theorem dX11_letter_25 : decode cX11_letter 25 = .ok (.ireturn, 1) := by decide +kernel
theorem dX11_load_0 : decode cX11_load 0 = .ok (.iload_n 1, 1) := by decide +kernel
theorem dX11_load_1 : decode cX11_load 1 = .ok (.iconst 1, 1) := by decide +kernel
theorem dX11_load_2 : decode cX11_load 2 = .ok (.sipush 999, 3) := by decide +kernel
theorem dX11_load_5 : decode cX11_load 5 = .ok (.invokestatic 89, 3) := by decide +kernel
theorem dX11_load_8 : decode cX11_load 8 = .ok (.ifCond .ne 6, 3) := by decide +kernel
theorem dX11_load_11 : decode cX11_load 11 = .ok (.ldc 93, 2) := by decide +kernel
theorem dX11_load_13 : decode cX11_load 13 = .ok (.ireturn, 1) := by decide +kernel
theorem dX11_load_14 : decode cX11_load 14 = .ok (.aload_n 0, 1) := by decide +kernel
theorem dX11_load_15 : decode cX11_load 15 = .ok (.getfield 67, 3) := by decide +kernel
theorem dX11_load_18 : decode cX11_load 18 = .ok (.getfield 305, 3) := by decide +kernel
theorem dX11_load_21 : decode cX11_load 21 = .ok (.bipush 8, 2) := by decide +kernel
theorem dX11_load_23 : decode cX11_load 23 = .ok (.if_icmp .lt 8, 3) := by decide +kernel
theorem dX11_load_31 : decode cX11_load 31 = .ok (.aload_n 0, 1) := by decide +kernel
theorem dX11_load_32 : decode cX11_load 32 = .ok (.getfield 67, 3) := by decide +kernel
theorem dX11_load_35 : decode cX11_load 35 = .ok (.iload_n 1, 1) := by decide +kernel
theorem dX11_load_36 : decode cX11_load 36 = .ok (.invokevirtual 306, 3) := by decide +kernel
theorem dX11_load_39 : decode cX11_load 39 = .ok (.ireturn, 1) := by decide +kernel
theorem dX11_lose_0 : decode cX11_lose 0 = .ok (.aload_n 0, 1) := by decide +kernel
theorem dX11_lose_1 : decode cX11_lose 1 = .ok (.getfield 10, 3) := by decide +kernel
theorem dX11_lose_4 : decode cX11_lose 4 = .ok (.iload_n 1, 1) := by decide +kernel
theorem dX11_lose_5 : decode cX11_lose 5 = .ok (.invokevirtual 126, 3) := by decide +kernel
theorem dX11_lose_8 : decode cX11_lose 8 = .ok (.ifCond .ne 6, 3) := by decide +kernel
theorem dX11_lose_11 : decode cX11_lose 11 = .ok (.ldc 108, 2) := by decide +kernel
theorem dX11_lose_13 : decode cX11_lose 13 = .ok (.ireturn, 1) := by decide +kernel
theorem dX11_named_0 : decode cX11_named 0 = .ok (.aload_n 0, 1) := by decide +kernel
theorem dX11_named_1 : decode cX11_named 1 = .ok (.getfield 26, 3) := by decide +kernel
theorem dX11_named_4 : decode cX11_named 4 = .ok (.iload_n 1, 1) := by decide +kernel
theorem dX11_named_5 : decode cX11_named 5 = .ok (.invokevirtual 104, 3) := by decide +kernel
theorem dX11_named_8 : decode cX11_named 8 = .ok (.ifCond .ne 6, 3) := by decide +kernel
theorem dX11_named_11 : decode cX11_named 11 = .ok (.ldc 108, 2) := by decide +kernel
theorem dX11_named_13 : decode cX11_named 13 = .ok (.ireturn, 1) := by decide +kernel
theorem dX11_needed_0 : decode cX11_needed 0 = .ok (.aload_n 0, 1) := by decide +kernel
theorem dX11_needed_1 : decode cX11_needed 1 = .ok (.getfield 26, 3) := by decide +kernel
theorem dX11_needed_4 : decode cX11_needed 4 = .ok (.iload_n 1, 1) := by decide +kernel
theorem dX11_needed_5 : decode cX11_needed 5 = .ok (.invokevirtual 104, 3) := by decide +kernel
theorem dX11_needed_8 : decode cX11_needed 8 = .ok (.ifCond .ne 6, 3) := by decide +kernel
theorem dX11_needed_11 : decode cX11_needed 11 = .ok (.ldc 108, 2) := by decide +kernel
theorem dX11_needed_13 : decode cX11_needed 13 = .ok (.ireturn, 1) := by decide +kernel
theorem dX11_odd_0 : decode cX11_odd 0 = .ok (.aload_n 0, 1) := by decide +kernel
theorem dX11_odd_1 : decode cX11_odd 1 = .ok (.getfield 26, 3) := by decide +kernel
theorem dX11_odd_4 : decode cX11_odd 4 = .ok (.iload_n 1, 1) := by decide +kernel
theorem dX11_odd_5 : decode cX11_odd 5 = .ok (.invokevirtual 104, 3) := by decide +kernel
theorem dX11_odd_8 : decode cX11_odd 8 = .ok (.ifCond .ne 6, 3) := by decide +kernel
theorem dX11_odd_11 : decode cX11_odd 11 = .ok (.ldc 108, 2) := by decide +kernel
theorem dX11_odd_13 : decode cX11_odd 13 = .ok (.ireturn, 1) := by decide +kernel
theorem dX11_order_0 : decode cX11_order 0 = .ok (.iload_n 1, 1) := by decide +kernel
theorem dX11_order_1 : decode cX11_order 1 = .ok (.iconst 1, 1) := by decide +kernel
theorem dX11_order_2 : decode cX11_order 2 = .ok (.iconst 3, 1) := by decide +kernel
theorem dX11_order_3 : decode cX11_order 3 = .ok (.invokestatic 89, 3) := by decide +kernel
theorem dX11_order_6 : decode cX11_order 6 = .ok (.ifCond .ne 6, 3) := by decide +kernel
theorem dX11_order_9 : decode cX11_order 9 = .ok (.ldc 93, 2) := by decide +kernel
theorem dX11_order_11 : decode cX11_order 11 = .ok (.ireturn, 1) := by decide +kernel
theorem dX11_order_12 : decode cX11_order 12 = .ok (.aload_n 0, 1) := by decide +kernel
theorem dX11_order_13 : decode cX11_order 13 = .ok (.getfield 67, 3) := by decide +kernel
theorem dX11_order_16 : decode cX11_order 16 = .ok (.iload_n 1, 1) := by decide +kernel
theorem dX11_order_17 : decode cX11_order 17 = .ok (.invokevirtual 307, 3) := by decide +kernel
theorem dX11_order_20 : decode cX11_order 20 = .ok (.iload_n 2, 1) := by decide +kernel
theorem dX11_order_21 : decode cX11_order 21 = .ok (.iconst (-1), 1) := by decide +kernel
theorem dX11_order_22 : decode cX11_order 22 = .ok (.if_icmp .ne 11, 3) := by decide +kernel
theorem dX11_order_25 : decode cX11_order 25 = .ok (.aload_n 0, 1) := by decide +kernel
theorem dX11_order_26 : decode cX11_order 26 = .ok (.getfield 67, 3) := by decide +kernel
theorem dX11_order_29 : decode cX11_order 29 = .ok (.getfield 311, 3) := by decide +kernel
theorem dX11_order_32 : decode cX11_order 32 = .ok (.ireturn, 1) := by decide +kernel
theorem dX11_order_33 : decode cX11_order 33 = .ok (.iload_n 2, 1) := by decide +kernel
theorem dX11_order_34 : decode cX11_order 34 = .ok (.iconst 0, 1) := by decide +kernel
theorem dX11_order_35 : decode cX11_order 35 = .ok (.aload_n 0, 1) := by decide +kernel
theorem dX11_order_36 : decode cX11_order 36 = .ok (.getfield 67, 3) := by decide +kernel
theorem dX11_order_39 : decode cX11_order 39 = .ok (.getfield 305, 3) := by decide +kernel
theorem dX11_order_42 : decode cX11_order 42 = .ok (.iconst 1, 1) := by decide +kernel
theorem dX11_order_43 : decode cX11_order 43 = .ok (.isub, 1) := by decide +kernel
theorem dX11_order_44 : decode cX11_order 44 = .ok (.invokestatic 89, 3) := by decide +kernel
theorem dX11_order_47 : decode cX11_order 47 = .ok (.ifCond .eq 15, 3) := by decide +kernel
theorem dX11_order_62 : decode cX11_order 62 = .ok (.iconst (-1), 1) := by decide +kernel
theorem dX11_order_63 : decode cX11_order 63 = .ok (.ireturn, 1) := by decide +kernel
theorem dX11_paper_0 : decode cX11_paper 0 = .ok (.aload_n 0, 1) := by decide +kernel
theorem dX11_paper_1 : decode cX11_paper 1 = .ok (.getfield 81, 3) := by decide +kernel
theorem dX11_paper_4 : decode cX11_paper 4 = .ok (.iload_n 1, 1) := by decide +kernel
theorem dX11_paper_5 : decode cX11_paper 5 = .ok (.invokevirtual 343, 3) := by decide +kernel
theorem dX11_paper_8 : decode cX11_paper 8 = .ok (.ifCond .ne 6, 3) := by decide +kernel
theorem dX11_paper_11 : decode cX11_paper 11 = .ok (.ldc 108, 2) := by decide +kernel
theorem dX11_paper_13 : decode cX11_paper 13 = .ok (.ireturn, 1) := by decide +kernel
theorem dX11_ratio_0 : decode cX11_ratio 0 = .ok (.aload_n 0, 1) := by decide +kernel
theorem dX11_ratio_1 : decode cX11_ratio 1 = .ok (.getfield 26, 3) := by decide +kernel
theorem dX11_ratio_4 : decode cX11_ratio 4 = .ok (.iload_n 1, 1) := by decide +kernel
theorem dX11_ratio_5 : decode cX11_ratio 5 = .ok (.invokevirtual 104, 3) := by decide +kernel
theorem dX11_ratio_8 : decode cX11_ratio 8 = .ok (.ifCond .ne 6, 3) := by decide +kernel
theorem dX11_ratio_11 : decode cX11_ratio 11 = .ok (.ldc 108, 2) := by decide +kernel
theorem dX11_ratio_13 : decode cX11_ratio 13 = .ok (.ireturn, 1) := by decide +kernel
theorem dX11_rule_0 : decode cX11_rule 0 = .ok (.iload_n 1, 1) := by decide +kernel
theorem dX11_rule_1 : decode cX11_rule 1 = .ok (.iconst 0, 1) := by decide +kernel
theorem dX11_rule_2 : decode cX11_rule 2 = .ok (.sipush 3000, 3) := by decide +kernel
theorem dX11_rule_5 : decode cX11_rule 5 = .ok (.invokestatic 89, 3) := by decide +kernel
theorem dX11_rule_8 : decode cX11_rule 8 = .ok (.ifCond .ne 6, 3) := by decide +kernel
theorem dX11_rule_11 : decode cX11_rule 11 = .ok (.ldc 93, 2) := by decide +kernel
theorem dX11_rule_13 : decode cX11_rule 13 = .ok (.ireturn, 1) := by decide +kernel
theorem dX11_rule_14 : decode cX11_rule 14 = .ok (.aload_n 0, 1) := by decide +kernel
theorem dX11_rule_15 : decode cX11_rule 15 = .ok (.getfield 33, 3) := by decide +kernel
theorem dX11_rule_18 : decode cX11_rule 18 = .ok (.getfield 170, 3) := by decide +kernel
theorem dX11_rule_21 : decode cX11_rule 21 = .ok (.bipush 8, 2) := by decide +kernel
theorem dX11_rule_23 : decode cX11_rule 23 = .ok (.if_icmp .lt 6, 3) := by decide +kernel
theorem dX11_rule_29 : decode cX11_rule 29 = .ok (.aload_n 0, 1) := by decide +kernel
theorem dX11_rule_30 : decode cX11_rule 30 = .ok (.getfield 42, 3) := by decide +kernel
theorem dX11_rule_33 : decode cX11_rule 33 = .ok (.invokevirtual 201, 3) := by decide +kernel
theorem dX11_rule_36 : decode cX11_rule 36 = .ok (.istore_n 2, 1) := by decide +kernel
theorem dX11_rule_37 : decode cX11_rule 37 = .ok (.iload_n 2, 1) := by decide +kernel
theorem dX11_rule_38 : decode cX11_rule 38 = .ok (.ifCond .ne 14, 3) := by decide +kernel
theorem dX11_rule_41 : decode cX11_rule 41 = .ok (.aload_n 0, 1) := by decide +kernel
theorem dX11_rule_42 : decode cX11_rule 42 = .ok (.getfield 33, 3) := by decide +kernel
theorem dX11_rule_45 : decode cX11_rule 45 = .ok (.iload_n 1, 1) := by decide +kernel
theorem dX11_rule_46 : decode cX11_rule 46 = .ok (.invokevirtual 204, 3) := by decide +kernel
theorem dX11_rule_49 : decode cX11_rule 49 = .ok (.goto 7, 3) := by decide +kernel
theorem dX11_rule_56 : decode cX11_rule 56 = .ok (.ireturn, 1) := by decide +kernel
theorem dX11_shared_0 : decode cX11_shared 0 = .ok (.iload_n 1, 1) := by decide +kernel
theorem dX11_shared_1 : decode cX11_shared 1 = .ok (.iconst 1, 1) := by decide +kernel
theorem dX11_shared_2 : decode cX11_shared 2 = .ok (.sipush 9999, 3) := by decide +kernel
theorem dX11_shared_5 : decode cX11_shared 5 = .ok (.invokestatic 89, 3) := by decide +kernel
theorem dX11_shared_8 : decode cX11_shared 8 = .ok (.ifCond .eq 14, 3) := by decide +kernel
theorem dX11_shared_11 : decode cX11_shared 11 = .ok (.iload_n 2, 1) := by decide +kernel
theorem dX11_shared_12 : decode cX11_shared 12 = .ok (.iload_n 1, 1) := by decide +kernel
theorem dX11_shared_13 : decode cX11_shared 13 = .ok (.sipush 9999, 3) := by decide +kernel
theorem dX11_shared_16 : decode cX11_shared 16 = .ok (.invokestatic 89, 3) := by decide +kernel
theorem dX11_shared_19 : decode cX11_shared 19 = .ok (.ifCond .ne 6, 3) := by decide +kernel
theorem dX11_shared_22 : decode cX11_shared 22 = .ok (.ldc 93, 2) := by decide +kernel
theorem dX11_shared_24 : decode cX11_shared 24 = .ok (.ireturn, 1) := by decide +kernel
theorem dX11_shared_25 : decode cX11_shared 25 = .ok (.iload_n 3, 1) := by decide +kernel
theorem dX11_shared_26 : decode cX11_shared 26 = .ok (.iconst 1, 1) := by decide +kernel
theorem dX11_shared_27 : decode cX11_shared 27 = .ok (.sipush 9999, 3) := by decide +kernel
theorem dX11_shared_30 : decode cX11_shared 30 = .ok (.invokestatic 89, 3) := by decide +kernel
theorem dX11_shared_33 : decode cX11_shared 33 = .ok (.ifCond .eq 15, 3) := by decide +kernel
theorem dX11_shared_36 : decode cX11_shared 36 = .ok (.iload 4, 2) := by decide +kernel
theorem dX11_shared_38 : decode cX11_shared 38 = .ok (.iload_n 3, 1) := by decide +kernel
theorem dX11_shared_39 : decode cX11_shared 39 = .ok (.sipush 9999, 3) := by decide +kernel
theorem dX11_shared_42 : decode cX11_shared 42 = .ok (.invokestatic 89, 3) := by decide +kernel
theorem dX11_shared_45 : decode cX11_shared 45 = .ok (.ifCond .ne 6, 3) := by decide +kernel
theorem dX11_shared_48 : decode cX11_shared 48 = .ok (.ldc 93, 2) := by decide +kernel
theorem dX11_shared_50 : decode cX11_shared 50 = .ok (.ireturn, 1) := by decide +kernel
theorem dX11_shared_51 : decode cX11_shared 51 = .ok (.aload_n 0, 1) := by decide +kernel
theorem dX11_shared_52 : decode cX11_shared 52 = .ok (.getfield 74, 3) := by decide +kernel
theorem dX11_shared_55 : decode cX11_shared 55 = .ok (.getfield 320, 3) := by decide +kernel
theorem dX11_shared_58 : decode cX11_shared 58 = .ok (.bipush 8, 2) := by decide +kernel
theorem dX11_shared_60 : decode cX11_shared 60 = .ok (.if_icmp .lt 6, 3) := by decide +kernel
theorem dX11_shared_66 : decode cX11_shared 66 = .ok (.aload_n 0, 1) := by decide +kernel
theorem dX11_shared_67 : decode cX11_shared 67 = .ok (.getfield 74, 3) := by decide +kernel
theorem dX11_shared_70 : decode cX11_shared 70 = .ok (.iload_n 1, 1) := by decide +kernel
theorem dX11_shared_71 : decode cX11_shared 71 = .ok (.iload 4, 2) := by decide +kernel
theorem dX11_shared_73 : decode cX11_shared 73 = .ok (.isub, 1) := by decide +kernel
theorem dX11_shared_74 : decode cX11_shared 74 = .ok (.iload_n 2, 1) := by decide +kernel
theorem dX11_shared_75 : decode cX11_shared 75 = .ok (.iload_n 3, 1) := by decide +kernel
theorem dX11_shared_76 : decode cX11_shared 76 = .ok (.isub, 1) := by decide +kernel
theorem dX11_shared_77 : decode cX11_shared 77 = .ok (.invokevirtual 321, 3) := by decide +kernel
theorem dX11_shared_80 : decode cX11_shared 80 = .ok (.ireturn, 1) := by decide +kernel
theorem dX11_size_0 : decode cX11_size 0 = .ok (.aload_n 0, 1) := by decide +kernel
theorem dX11_size_1 : decode cX11_size 1 = .ok (.getfield 26, 3) := by decide +kernel
theorem dX11_size_4 : decode cX11_size 4 = .ok (.iload_n 1, 1) := by decide +kernel
theorem dX11_size_5 : decode cX11_size 5 = .ok (.invokevirtual 104, 3) := by decide +kernel
theorem dX11_size_8 : decode cX11_size 8 = .ok (.ifCond .ne 6, 3) := by decide +kernel
theorem dX11_size_11 : decode cX11_size 11 = .ok (.ldc 108, 2) := by decide +kernel
theorem dX11_size_13 : decode cX11_size 13 = .ok (.ireturn, 1) := by decide +kernel
theorem dX11_skein_0 : decode cX11_skein 0 = .ok (.aload_n 0, 1) := by decide +kernel
theorem dX11_skein_1 : decode cX11_skein 1 = .ok (.getfield 26, 3) := by decide +kernel
theorem dX11_skein_4 : decode cX11_skein 4 = .ok (.iload_n 1, 1) := by decide +kernel
theorem dX11_skein_5 : decode cX11_skein 5 = .ok (.invokevirtual 104, 3) := by decide +kernel
theorem dX11_skein_8 : decode cX11_skein 8 = .ok (.ifCond .ne 6, 3) := by decide +kernel
theorem dX11_skein_11 : decode cX11_skein 11 = .ok (.ldc 108, 2) := by decide +kernel
theorem dX11_skein_13 : decode cX11_skein 13 = .ok (.ireturn, 1) := by decide +kernel
theorem dX11_span_0 : decode cX11_span 0 = .ok (.aload_n 0, 1) := by decide +kernel
theorem dX11_span_1 : decode cX11_span 1 = .ok (.getfield 26, 3) := by decide +kernel
theorem dX11_span_4 : decode cX11_span 4 = .ok (.iload_n 1, 1) := by decide +kernel
theorem dX11_span_5 : decode cX11_span 5 = .ok (.invokevirtual 104, 3) := by decide +kernel
theorem dX11_span_8 : decode cX11_span 8 = .ok (.ifCond .ne 7, 3) := by decide +kernel
theorem dX11_span_11 : decode cX11_span 11 = .ok (.ldc2_w 214, 3) := by decide +kernel
theorem dX11_span_14 : decode cX11_span 14 = .ok (.lreturn, 1) := by decide +kernel
theorem dX11_state_0 : decode cX11_state 0 = .ok (.aload_n 0, 1) := by decide +kernel
theorem dX11_state_1 : decode cX11_state 1 = .ok (.getfield 26, 3) := by decide +kernel
theorem dX11_state_4 : decode cX11_state 4 = .ok (.iload_n 1, 1) := by decide +kernel
theorem dX11_state_5 : decode cX11_state 5 = .ok (.invokevirtual 104, 3) := by decide +kernel
theorem dX11_state_8 : decode cX11_state 8 = .ok (.ifCond .ne 6, 3) := by decide +kernel
theorem dX11_state_11 : decode cX11_state 11 = .ok (.ldc 108, 2) := by decide +kernel
theorem dX11_state_13 : decode cX11_state 13 = .ok (.ireturn, 1) := by decide +kernel
theorem dX11_stood_0 : decode cX11_stood 0 = .ok (.iload_n 1, 1) := by decide +kernel
theorem dX11_stood_1 : decode cX11_stood 1 = .ok (.iconst 0, 1) := by decide +kernel
theorem dX11_stood_2 : decode cX11_stood 2 = .ok (.aload_n 0, 1) := by decide +kernel
theorem dX11_stood_3 : decode cX11_stood 3 = .ok (.getfield 85, 3) := by decide +kernel
theorem dX11_stood_6 : decode cX11_stood 6 = .ok (.invokestatic 89, 3) := by decide +kernel
theorem dX11_stood_9 : decode cX11_stood 9 = .ok (.ifCond .eq 12, 3) := by decide +kernel
theorem dX11_stood_12 : decode cX11_stood 12 = .ok (.iload_n 2, 1) := by decide +kernel
theorem dX11_stood_13 : decode cX11_stood 13 = .ok (.iconst 0, 1) := by decide +kernel
theorem dX11_stood_14 : decode cX11_stood 14 = .ok (.iconst 1, 1) := by decide +kernel
theorem dX11_stood_15 : decode cX11_stood 15 = .ok (.invokestatic 89, 3) := by decide +kernel
theorem dX11_stood_18 : decode cX11_stood 18 = .ok (.ifCond .ne 7, 3) := by decide +kernel
theorem dX11_stood_21 : decode cX11_stood 21 = .ok (.ldc2_w 216, 3) := by decide +kernel
theorem dX11_stood_24 : decode cX11_stood 24 = .ok (.lreturn, 1) := by decide +kernel
theorem dX11_stood_25 : decode cX11_stood 25 = .ok (.aload_n 0, 1) := by decide +kernel
theorem dX11_stood_26 : decode cX11_stood 26 = .ok (.getfield 81, 3) := by decide +kernel
theorem dX11_stood_29 : decode cX11_stood 29 = .ok (.iload_n 1, 1) := by decide +kernel
theorem dX11_stood_30 : decode cX11_stood 30 = .ok (.iload_n 2, 1) := by decide +kernel
theorem dX11_stood_31 : decode cX11_stood 31 = .ok (.ifCond .ne 7, 3) := by decide +kernel
theorem dX11_stood_34 : decode cX11_stood 34 = .ok (.iconst 1, 1) := by decide +kernel
theorem dX11_stood_35 : decode cX11_stood 35 = .ok (.goto 4, 3) := by decide +kernel
theorem dX11_stood_38 : decode cX11_stood 38 = .ok (.iconst 0, 1) := by decide +kernel
theorem dX11_stood_39 : decode cX11_stood 39 = .ok (.invokevirtual 368, 3) := by decide +kernel
theorem dX11_stood_42 : decode cX11_stood 42 = .ok (.lreturn, 1) := by decide +kernel
theorem dX11_test_0 : decode cX11_test 0 = .ok (.iload_n 1, 1) := by decide +kernel
theorem dX11_test_1 : decode cX11_test 1 = .ok (.iconst 0, 1) := by decide +kernel
theorem dX11_test_2 : decode cX11_test 2 = .ok (.iconst 3, 1) := by decide +kernel
theorem dX11_test_3 : decode cX11_test 3 = .ok (.invokestatic 89, 3) := by decide +kernel
theorem dX11_test_6 : decode cX11_test 6 = .ok (.ifCond .eq 25, 3) := by decide +kernel
theorem dX11_test_9 : decode cX11_test 9 = .ok (.iload_n 2, 1) := by decide +kernel
theorem dX11_test_10 : decode cX11_test 10 = .ok (.iconst 1, 1) := by decide +kernel
theorem dX11_test_11 : decode cX11_test 11 = .ok (.sipush 9999, 3) := by decide +kernel
theorem dX11_test_14 : decode cX11_test 14 = .ok (.invokestatic 89, 3) := by decide +kernel
theorem dX11_test_17 : decode cX11_test 17 = .ok (.ifCond .eq 14, 3) := by decide +kernel
theorem dX11_test_20 : decode cX11_test 20 = .ok (.iload_n 3, 1) := by decide +kernel
theorem dX11_test_21 : decode cX11_test 21 = .ok (.iconst 1, 1) := by decide +kernel
theorem dX11_test_22 : decode cX11_test 22 = .ok (.sipush 9999, 3) := by decide +kernel
theorem dX11_test_25 : decode cX11_test 25 = .ok (.invokestatic 89, 3) := by decide +kernel
theorem dX11_test_28 : decode cX11_test 28 = .ok (.ifCond .ne 6, 3) := by decide +kernel
theorem dX11_test_31 : decode cX11_test 31 = .ok (.ldc 93, 2) := by decide +kernel
theorem dX11_test_33 : decode cX11_test 33 = .ok (.ireturn, 1) := by decide +kernel
theorem dX11_test_34 : decode cX11_test 34 = .ok (.aload_n 0, 1) := by decide +kernel
theorem dX11_test_35 : decode cX11_test 35 = .ok (.getfield 19, 3) := by decide +kernel
theorem dX11_test_38 : decode cX11_test 38 = .ok (.getfield 134, 3) := by decide +kernel
theorem dX11_test_41 : decode cX11_test 41 = .ok (.bipush 30, 2) := by decide +kernel
theorem dX11_test_43 : decode cX11_test 43 = .ok (.if_icmp .lt 6, 3) := by decide +kernel
theorem dX11_test_49 : decode cX11_test 49 = .ok (.aload_n 0, 1) := by decide +kernel
theorem dX11_test_50 : decode cX11_test 50 = .ok (.getfield 19, 3) := by decide +kernel
theorem dX11_test_53 : decode cX11_test 53 = .ok (.iload_n 1, 1) := by decide +kernel
theorem dX11_test_54 : decode cX11_test 54 = .ok (.aload_n 0, 1) := by decide +kernel
theorem dX11_test_55 : decode cX11_test 55 = .ok (.getfield 85, 3) := by decide +kernel
theorem dX11_test_58 : decode cX11_test 58 = .ok (.iload_n 2, 1) := by decide +kernel
theorem dX11_test_59 : decode cX11_test 59 = .ok (.iload_n 3, 1) := by decide +kernel
theorem dX11_test_60 : decode cX11_test 60 = .ok (.isub, 1) := by decide +kernel
theorem dX11_test_61 : decode cX11_test 61 = .ok (.invokevirtual 135, 3) := by decide +kernel
theorem dX11_test_64 : decode cX11_test 64 = .ok (.ireturn, 1) := by decide +kernel
theorem dX11_thread_0 : decode cX11_thread 0 = .ok (.aload_n 0, 1) := by decide +kernel
theorem dX11_thread_1 : decode cX11_thread 1 = .ok (.getfield 26, 3) := by decide +kernel
theorem dX11_thread_4 : decode cX11_thread 4 = .ok (.iload_n 1, 1) := by decide +kernel
theorem dX11_thread_5 : decode cX11_thread 5 = .ok (.invokevirtual 104, 3) := by decide +kernel
theorem dX11_thread_8 : decode cX11_thread 8 = .ok (.ifCond .ne 6, 3) := by decide +kernel
theorem dX11_thread_11 : decode cX11_thread 11 = .ok (.ldc 108, 2) := by decide +kernel
theorem dX11_thread_13 : decode cX11_thread 13 = .ok (.ireturn, 1) := by decide +kernel
theorem dX11_told_0 : decode cX11_told 0 = .ok (.aload_n 0, 1) := by decide +kernel
theorem dX11_told_1 : decode cX11_told 1 = .ok (.getfield 10, 3) := by decide +kernel
theorem dX11_told_4 : decode cX11_told 4 = .ok (.iload_n 1, 1) := by decide +kernel
theorem dX11_told_5 : decode cX11_told 5 = .ok (.invokevirtual 126, 3) := by decide +kernel
theorem dX11_told_8 : decode cX11_told 8 = .ok (.ifCond .ne 6, 3) := by decide +kernel
theorem dX11_told_11 : decode cX11_told 11 = .ok (.ldc 108, 2) := by decide +kernel
theorem dX11_told_13 : decode cX11_told 13 = .ok (.ireturn, 1) := by decide +kernel
theorem dX11_turns_0 : decode cX11_turns 0 = .ok (.aload_n 0, 1) := by decide +kernel
theorem dX11_turns_1 : decode cX11_turns 1 = .ok (.getfield 26, 3) := by decide +kernel
theorem dX11_turns_4 : decode cX11_turns 4 = .ok (.iload_n 1, 1) := by decide +kernel
theorem dX11_turns_5 : decode cX11_turns 5 = .ok (.invokevirtual 104, 3) := by decide +kernel
theorem dX11_turns_8 : decode cX11_turns 8 = .ok (.ifCond .ne 6, 3) := by decide +kernel
theorem dX11_turns_11 : decode cX11_turns 11 = .ok (.ldc 108, 2) := by decide +kernel
theorem dX11_turns_13 : decode cX11_turns 13 = .ok (.ireturn, 1) := by decide +kernel
theorem dX11_twist_0 : decode cX11_twist 0 = .ok (.aload_n 0, 1) := by decide +kernel
theorem dX11_twist_1 : decode cX11_twist 1 = .ok (.getfield 26, 3) := by decide +kernel
theorem dX11_twist_4 : decode cX11_twist 4 = .ok (.iload_n 1, 1) := by decide +kernel
theorem dX11_twist_5 : decode cX11_twist 5 = .ok (.invokevirtual 104, 3) := by decide +kernel
theorem dX11_twist_8 : decode cX11_twist 8 = .ok (.ifCond .eq 14, 3) := by decide +kernel
theorem dX11_twist_22 : decode cX11_twist 22 = .ok (.ldc 108, 2) := by decide +kernel
theorem dX11_twist_24 : decode cX11_twist 24 = .ok (.ireturn, 1) := by decide +kernel
theorem dX11_undo_0 : decode cX11_undo 0 = .ok (.aload_n 0, 1) := by decide +kernel
theorem dX11_undo_1 : decode cX11_undo 1 = .ok (.getfield 81, 3) := by decide +kernel
theorem dX11_undo_4 : decode cX11_undo 4 = .ok (.iload_n 1, 1) := by decide +kernel
theorem dX11_undo_5 : decode cX11_undo 5 = .ok (.invokevirtual 343, 3) := by decide +kernel
theorem dX11_undo_8 : decode cX11_undo 8 = .ok (.ifCond .ne 6, 3) := by decide +kernel
theorem dX11_undo_11 : decode cX11_undo 11 = .ok (.ldc 108, 2) := by decide +kernel
theorem dX11_undo_13 : decode cX11_undo 13 = .ok (.ireturn, 1) := by decide +kernel
theorem dX11_within_0 : decode cX11_within 0 = .ok (.iload_n 0, 1) := by decide +kernel
theorem dX11_within_1 : decode cX11_within 1 = .ok (.iload_n 1, 1) := by decide +kernel
theorem dX11_within_2 : decode cX11_within 2 = .ok (.if_icmp .lt 12, 3) := by decide +kernel
theorem dX11_within_5 : decode cX11_within 5 = .ok (.iload_n 0, 1) := by decide +kernel
theorem dX11_within_6 : decode cX11_within 6 = .ok (.iload_n 2, 1) := by decide +kernel
theorem dX11_within_7 : decode cX11_within 7 = .ok (.if_icmp .gt 7, 3) := by decide +kernel
theorem dX11_within_10 : decode cX11_within 10 = .ok (.iconst 1, 1) := by decide +kernel
theorem dX11_within_11 : decode cX11_within 11 = .ok (.goto 4, 3) := by decide +kernel
theorem dX11_within_14 : decode cX11_within 14 = .ok (.iconst 0, 1) := by decide +kernel
theorem dX11_within_15 : decode cX11_within 15 = .ok (.ireturn, 1) := by decide +kernel
theorem dX12_atFirst_0 : decode cX12_atFirst 0 = .ok (.iload_n 0, 1) := by decide +kernel
theorem dX12_atFirst_1 : decode cX12_atFirst 1 = .ok (.tableswitch 47 0 4 #[35, 38, 40, 42, 44], 35) := by decide +kernel
theorem dX12_atFirst_36 : decode cX12_atFirst 36 = .ok (.bipush 110, 2) := by decide +kernel
theorem dX12_atFirst_38 : decode cX12_atFirst 38 = .ok (.ireturn, 1) := by decide +kernel
theorem dX12_atFirst_39 : decode cX12_atFirst 39 = .ok (.iconst 3, 1) := by decide +kernel
theorem dX12_atFirst_40 : decode cX12_atFirst 40 = .ok (.ireturn, 1) := by decide +kernel
theorem dX12_atFirst_41 : decode cX12_atFirst 41 = .ok (.iconst 5, 1) := by decide +kernel
theorem dX12_atFirst_42 : decode cX12_atFirst 42 = .ok (.ireturn, 1) := by decide +kernel
theorem dX12_atFirst_43 : decode cX12_atFirst 43 = .ok (.iconst 2, 1) := by decide +kernel
theorem dX12_atFirst_44 : decode cX12_atFirst 44 = .ok (.ireturn, 1) := by decide +kernel
theorem dX12_atFirst_45 : decode cX12_atFirst 45 = .ok (.bipush 10, 2) := by decide +kernel
theorem dX12_atFirst_47 : decode cX12_atFirst 47 = .ok (.ireturn, 1) := by decide +kernel
theorem dX12_atFirst_48 : decode cX12_atFirst 48 = .ok (.iconst 0, 1) := by decide +kernel
theorem dX12_atFirst_49 : decode cX12_atFirst 49 = .ok (.ireturn, 1) := by decide +kernel
theorem dX12_bale_0 : decode cX12_bale 0 = .ok (.iload_n 1, 1) := by decide +kernel
theorem dX12_bale_1 : decode cX12_bale 1 = .ok (.i2l, 1) := by decide +kernel
theorem dX12_bale_2 : decode cX12_bale 2 = .ok (.lconst 1, 1) := by decide +kernel
theorem dX12_bale_3 : decode cX12_bale 3 = .ok (.ldc2_w 180, 3) := by decide +kernel
theorem dX12_bale_6 : decode cX12_bale 6 = .ok (.invokestatic 167, 3) := by decide +kernel
theorem dX12_bale_9 : decode cX12_bale 9 = .ok (.ifCond .ne 6, 3) := by decide +kernel
theorem dX12_bale_12 : decode cX12_bale 12 = .ok (.ldc 178, 2) := by decide +kernel
theorem dX12_bale_14 : decode cX12_bale 14 = .ok (.ireturn, 1) := by decide +kernel
theorem dX12_bale_15 : decode cX12_bale 15 = .ok (.aload_n 0, 1) := by decide +kernel
theorem dX12_bale_16 : decode cX12_bale 16 = .ok (.getfield 164, 3) := by decide +kernel
theorem dX12_bale_19 : decode cX12_bale 19 = .ok (.bipush 10, 2) := by decide +kernel
theorem dX12_bale_21 : decode cX12_bale 21 = .ok (.if_icmp .ne 6, 3) := by decide +kernel
theorem dX12_bale_27 : decode cX12_bale 27 = .ok (.aload_n 0, 1) := by decide +kernel
theorem dX12_bale_28 : decode cX12_bale 28 = .ok (.getfield 7, 3) := by decide +kernel
theorem dX12_bale_31 : decode cX12_bale 31 = .ok (.aload_n 0, 1) := by decide +kernel
theorem dX12_bale_32 : decode cX12_bale 32 = .ok (.getfield 164, 3) := by decide +kernel
theorem dX12_bale_35 : decode cX12_bale 35 = .ok (.iload_n 1, 1) := by decide +kernel
theorem dX12_bale_36 : decode cX12_bale 36 = .ok (.iastore, 1) := by decide +kernel
theorem dX12_bale_37 : decode cX12_bale 37 = .ok (.aload_n 0, 1) := by decide +kernel
theorem dX12_bale_38 : decode cX12_bale 38 = .ok (.getfield 109, 3) := by decide +kernel
theorem dX12_bale_41 : decode cX12_bale 41 = .ok (.aload_n 0, 1) := by decide +kernel
theorem dX12_bale_42 : decode cX12_bale 42 = .ok (.getfield 164, 3) := by decide +kernel
theorem dX12_bale_45 : decode cX12_bale 45 = .ok (.iconst 0, 1) := by decide +kernel
theorem dX12_bale_46 : decode cX12_bale 46 = .ok (.iastore, 1) := by decide +kernel
theorem dX12_bale_47 : decode cX12_bale 47 = .ok (.aload_n 0, 1) := by decide +kernel
theorem dX12_bale_48 : decode cX12_bale 48 = .ok (.getfield 115, 3) := by decide +kernel
theorem dX12_bale_51 : decode cX12_bale 51 = .ok (.aload_n 0, 1) := by decide +kernel
theorem dX12_bale_52 : decode cX12_bale 52 = .ok (.getfield 164, 3) := by decide +kernel
theorem dX12_bale_55 : decode cX12_bale 55 = .ok (.iconst 0, 1) := by decide +kernel
theorem dX12_bale_56 : decode cX12_bale 56 = .ok (.iastore, 1) := by decide +kernel
theorem dX12_bale_57 : decode cX12_bale 57 = .ok (.aload_n 0, 1) := by decide +kernel
theorem dX12_bale_58 : decode cX12_bale 58 = .ok (.dup, 1) := by decide +kernel
theorem dX12_bale_59 : decode cX12_bale 59 = .ok (.getfield 164, 3) := by decide +kernel
theorem dX12_bale_62 : decode cX12_bale 62 = .ok (.iconst 1, 1) := by decide +kernel
theorem dX12_bale_63 : decode cX12_bale 63 = .ok (.iadd, 1) := by decide +kernel
theorem dX12_bale_64 : decode cX12_bale 64 = .ok (.putfield 164, 3) := by decide +kernel
theorem dX12_bale_67 : decode cX12_bale 67 = .ok (.aload_n 0, 1) := by decide +kernel
theorem dX12_bale_68 : decode cX12_bale 68 = .ok (.getfield 164, 3) := by decide +kernel
theorem dX12_bale_71 : decode cX12_bale 71 = .ok (.iconst 1, 1) := by decide +kernel
theorem dX12_bale_72 : decode cX12_bale 72 = .ok (.isub, 1) := by decide +kernel
theorem dX12_bale_73 : decode cX12_bale 73 = .ok (.ireturn, 1) := by decide +kernel
theorem dX12_balesIn_0 : decode cX12_balesIn 0 = .ok (.iconst 0, 1) := by decide +kernel
theorem dX12_balesIn_1 : decode cX12_balesIn 1 = .ok (.istore_n 2, 1) := by decide +kernel
theorem dX12_balesIn_2 : decode cX12_balesIn 2 = .ok (.iconst 0, 1) := by decide +kernel
theorem dX12_balesIn_3 : decode cX12_balesIn 3 = .ok (.istore_n 3, 1) := by decide +kernel
theorem dX12_balesIn_4 : decode cX12_balesIn 4 = .ok (.iload_n 3, 1) := by decide +kernel
theorem dX12_balesIn_5 : decode cX12_balesIn 5 = .ok (.aload_n 0, 1) := by decide +kernel
theorem dX12_balesIn_6 : decode cX12_balesIn 6 = .ok (.getfield 164, 3) := by decide +kernel
theorem dX12_balesIn_9 : decode cX12_balesIn 9 = .ok (.if_icmp .ge 33, 3) := by decide +kernel
theorem dX12_balesIn_42 : decode cX12_balesIn 42 = .ok (.iload_n 2, 1) := by decide +kernel
theorem dX12_balesIn_43 : decode cX12_balesIn 43 = .ok (.ireturn, 1) := by decide +kernel
theorem dX12_bill_0 : decode cX12_bill 0 = .ok (.aload_n 0, 1) := by decide +kernel
theorem dX12_bill_1 : decode cX12_bill 1 = .ok (.iload_n 1, 1) := by decide +kernel
theorem dX12_bill_2 : decode cX12_bill 2 = .ok (.invokevirtual 436, 3) := by decide +kernel
theorem dX12_bill_5 : decode cX12_bill 5 = .ok (.ifCond .eq 6, 3) := by decide +kernel
theorem dX12_bill_8 : decode cX12_bill 8 = .ok (.ldc 187, 2) := by decide +kernel
theorem dX12_bill_10 : decode cX12_bill 10 = .ok (.ireturn, 1) := by decide +kernel
theorem dX12_burnt_0 : decode cX12_burnt 0 = .ok (.aload_n 0, 1) := by decide +kernel
theorem dX12_burnt_1 : decode cX12_burnt 1 = .ok (.iload_n 1, 1) := by decide +kernel
theorem dX12_burnt_2 : decode cX12_burnt 2 = .ok (.invokevirtual 183, 3) := by decide +kernel
theorem dX12_burnt_5 : decode cX12_burnt 5 = .ok (.ifCond .eq 6, 3) := by decide +kernel
theorem dX12_burnt_8 : decode cX12_burnt 8 = .ok (.ldc 187, 2) := by decide +kernel
theorem dX12_burnt_10 : decode cX12_burnt 10 = .ok (.ireturn, 1) := by decide +kernel
theorem dX12_cause_0 : decode cX12_cause 0 = .ok (.aload_n 0, 1) := by decide +kernel
theorem dX12_cause_1 : decode cX12_cause 1 = .ok (.iload_n 1, 1) := by decide +kernel
theorem dX12_cause_2 : decode cX12_cause 2 = .ok (.invokevirtual 183, 3) := by decide +kernel
theorem dX12_cause_5 : decode cX12_cause 5 = .ok (.ifCond .eq 6, 3) := by decide +kernel
theorem dX12_cause_8 : decode cX12_cause 8 = .ok (.ldc 187, 2) := by decide +kernel
theorem dX12_cause_10 : decode cX12_cause 10 = .ok (.ireturn, 1) := by decide +kernel
theorem dX12_certify_0 : decode cX12_certify 0 = .ok (.aload_n 0, 1) := by decide +kernel
theorem dX12_certify_1 : decode cX12_certify 1 = .ok (.iload_n 1, 1) := by decide +kernel
theorem dX12_certify_2 : decode cX12_certify 2 = .ok (.invokevirtual 183, 3) := by decide +kernel
theorem dX12_certify_5 : decode cX12_certify 5 = .ok (.ifCond .eq 6, 3) := by decide +kernel
theorem dX12_certify_8 : decode cX12_certify 8 = .ok (.ldc 187, 2) := by decide +kernel
theorem dX12_certify_10 : decode cX12_certify 10 = .ok (.ireturn, 1) := by decide +kernel
theorem dX12_cheat_0 : decode cX12_cheat 0 = .ok (.aload_n 0, 1) := by decide +kernel
theorem dX12_cheat_1 : decode cX12_cheat 1 = .ok (.iload_n 1, 1) := by decide +kernel
theorem dX12_cheat_2 : decode cX12_cheat 2 = .ok (.invokevirtual 183, 3) := by decide +kernel
theorem dX12_cheat_5 : decode cX12_cheat 5 = .ok (.ifCond .eq 6, 3) := by decide +kernel
theorem dX12_cheat_8 : decode cX12_cheat 8 = .ok (.ldc 187, 2) := by decide +kernel
theorem dX12_cheat_10 : decode cX12_cheat 10 = .ok (.ireturn, 1) := by decide +kernel
theorem dX12_count_0 : decode cX12_count 0 = .ok (.iconst 0, 1) := by decide +kernel
theorem dX12_count_1 : decode cX12_count 1 = .ok (.istore_n 2, 1) := by decide +kernel
theorem dX12_count_2 : decode cX12_count 2 = .ok (.iconst 0, 1) := by decide +kernel
theorem dX12_count_3 : decode cX12_count 3 = .ok (.istore_n 3, 1) := by decide +kernel
theorem dX12_count_4 : decode cX12_count 4 = .ok (.iconst 0, 1) := by decide +kernel
theorem dX12_count_5 : decode cX12_count 5 = .ok (.istore 4, 2) := by decide +kernel
theorem dX12_count_7 : decode cX12_count 7 = .ok (.iload 4, 2) := by decide +kernel
theorem dX12_count_9 : decode cX12_count 9 = .ok (.aload_n 0, 1) := by decide +kernel
theorem dX12_count_10 : decode cX12_count 10 = .ok (.getfield 200, 3) := by decide +kernel
theorem dX12_count_13 : decode cX12_count 13 = .ok (.if_icmp .ge 30, 3) := by decide +kernel
theorem dX12_count_43 : decode cX12_count 43 = .ok (.iconst 0, 1) := by decide +kernel
theorem dX12_count_44 : decode cX12_count 44 = .ok (.istore 4, 2) := by decide +kernel
theorem dX12_count_46 : decode cX12_count 46 = .ok (.iload 4, 2) := by decide +kernel
theorem dX12_count_48 : decode cX12_count 48 = .ok (.aload_n 0, 1) := by decide +kernel
theorem dX12_count_49 : decode cX12_count 49 = .ok (.getfield 429, 3) := by decide +kernel
theorem dX12_count_52 : decode cX12_count 52 = .ok (.if_icmp .ge 19, 3) := by decide +kernel
theorem dX12_count_71 : decode cX12_count 71 = .ok (.iload_n 1, 1) := by decide +kernel
theorem dX12_count_72 : decode cX12_count 72 = .ok (.tableswitch 111 0 10 #[60, 65, 70, 75, 77, 82, 87, 92, 98, 104, 109], 60) := by decide +kernel
theorem dX12_count_132 : decode cX12_count 132 = .ok (.aload_n 0, 1) := by decide +kernel
theorem dX12_count_133 : decode cX12_count 133 = .ok (.getfield 171, 3) := by decide +kernel
theorem dX12_count_136 : decode cX12_count 136 = .ok (.ireturn, 1) := by decide +kernel
theorem dX12_count_137 : decode cX12_count 137 = .ok (.aload_n 0, 1) := by decide +kernel
theorem dX12_count_138 : decode cX12_count 138 = .ok (.getfield 164, 3) := by decide +kernel
theorem dX12_count_141 : decode cX12_count 141 = .ok (.ireturn, 1) := by decide +kernel
theorem dX12_count_142 : decode cX12_count 142 = .ok (.aload_n 0, 1) := by decide +kernel
theorem dX12_count_143 : decode cX12_count 143 = .ok (.getfield 200, 3) := by decide +kernel
theorem dX12_count_146 : decode cX12_count 146 = .ok (.ireturn, 1) := by decide +kernel
theorem dX12_count_147 : decode cX12_count 147 = .ok (.iload_n 2, 1) := by decide +kernel
theorem dX12_count_148 : decode cX12_count 148 = .ok (.ireturn, 1) := by decide +kernel
theorem dX12_count_149 : decode cX12_count 149 = .ok (.aload_n 0, 1) := by decide +kernel
theorem dX12_count_150 : decode cX12_count 150 = .ok (.getfield 213, 3) := by decide +kernel
theorem dX12_count_153 : decode cX12_count 153 = .ok (.ireturn, 1) := by decide +kernel
theorem dX12_count_154 : decode cX12_count 154 = .ok (.aload_n 0, 1) := by decide +kernel
theorem dX12_count_155 : decode cX12_count 155 = .ok (.getfield 303, 3) := by decide +kernel
theorem dX12_count_158 : decode cX12_count 158 = .ok (.ireturn, 1) := by decide +kernel
theorem dX12_count_159 : decode cX12_count 159 = .ok (.aload_n 0, 1) := by decide +kernel
theorem dX12_count_160 : decode cX12_count 160 = .ok (.getfield 429, 3) := by decide +kernel
theorem dX12_count_163 : decode cX12_count 163 = .ok (.ireturn, 1) := by decide +kernel
theorem dX12_count_164 : decode cX12_count 164 = .ok (.aload_n 0, 1) := by decide +kernel
theorem dX12_count_165 : decode cX12_count 165 = .ok (.iconst 1, 1) := by decide +kernel
theorem dX12_count_166 : decode cX12_count 166 = .ok (.invokevirtual 442, 3) := by decide +kernel
theorem dX12_count_169 : decode cX12_count 169 = .ok (.ireturn, 1) := by decide +kernel
theorem dX12_count_170 : decode cX12_count 170 = .ok (.aload_n 0, 1) := by decide +kernel
theorem dX12_count_171 : decode cX12_count 171 = .ok (.iconst 2, 1) := by decide +kernel
theorem dX12_count_172 : decode cX12_count 172 = .ok (.invokevirtual 442, 3) := by decide +kernel
theorem dX12_count_175 : decode cX12_count 175 = .ok (.ireturn, 1) := by decide +kernel
theorem dX12_count_176 : decode cX12_count 176 = .ok (.aload_n 0, 1) := by decide +kernel
theorem dX12_count_177 : decode cX12_count 177 = .ok (.getfield 249, 3) := by decide +kernel
theorem dX12_count_180 : decode cX12_count 180 = .ok (.ireturn, 1) := by decide +kernel
theorem dX12_count_181 : decode cX12_count 181 = .ok (.iload_n 3, 1) := by decide +kernel
theorem dX12_count_182 : decode cX12_count 182 = .ok (.ireturn, 1) := by decide +kernel
theorem dX12_count_183 : decode cX12_count 183 = .ok (.ldc 178, 2) := by decide +kernel
theorem dX12_count_185 : decode cX12_count 185 = .ok (.ireturn, 1) := by decide +kernel
theorem dX12_cut_0 : decode cX12_cut 0 = .ok (.aload_n 0, 1) := by decide +kernel
theorem dX12_cut_1 : decode cX12_cut 1 = .ok (.iload_n 1, 1) := by decide +kernel
theorem dX12_cut_2 : decode cX12_cut 2 = .ok (.invokevirtual 436, 3) := by decide +kernel
theorem dX12_cut_5 : decode cX12_cut 5 = .ok (.ifCond .eq 6, 3) := by decide +kernel
theorem dX12_cut_8 : decode cX12_cut 8 = .ok (.ldc 187, 2) := by decide +kernel
theorem dX12_cut_10 : decode cX12_cut 10 = .ok (.ireturn, 1) := by decide +kernel
theorem dX12_empty_0 : decode cX12_empty 0 = .ok (.aload_n 0, 1) := by decide +kernel
theorem dX12_empty_1 : decode cX12_empty 1 = .ok (.getfield 399, 3) := by decide +kernel
theorem dX12_empty_4 : decode cX12_empty 4 = .ok (.istore_n 1, 1) := by decide +kernel
theorem dX12_empty_5 : decode cX12_empty 5 = .ok (.aload_n 0, 1) := by decide +kernel
theorem dX12_empty_6 : decode cX12_empty 6 = .ok (.iconst 0, 1) := by decide +kernel
theorem dX12_empty_7 : decode cX12_empty 7 = .ok (.putfield 399, 3) := by decide +kernel
theorem dX12_empty_10 : decode cX12_empty 10 = .ok (.iload_n 1, 1) := by decide +kernel
theorem dX12_empty_11 : decode cX12_empty 11 = .ok (.ireturn, 1) := by decide +kernel
theorem dX12_error_0 : decode cX12_error 0 = .ok (.iload_n 1, 1) := by decide +kernel
theorem dX12_error_1 : decode cX12_error 1 = .ok (.i2l, 1) := by decide +kernel
theorem dX12_error_2 : decode cX12_error 2 = .ok (.lconst 0, 1) := by decide +kernel
theorem dX12_error_3 : decode cX12_error 3 = .ok (.ldc2_w 190, 3) := by decide +kernel
theorem dX12_error_6 : decode cX12_error 6 = .ok (.invokestatic 167, 3) := by decide +kernel
theorem dX12_error_9 : decode cX12_error 9 = .ok (.ifCond .eq 20, 3) := by decide +kernel
theorem dX12_error_12 : decode cX12_error 12 = .ok (.iload_n 2, 1) := by decide +kernel
theorem dX12_error_13 : decode cX12_error 13 = .ok (.invokestatic 216, 3) := by decide +kernel
theorem dX12_error_16 : decode cX12_error 16 = .ok (.ifCond .eq 13, 3) := by decide +kernel
theorem dX12_error_19 : decode cX12_error 19 = .ok (.iload_n 3, 1) := by decide +kernel
theorem dX12_error_20 : decode cX12_error 20 = .ok (.i2l, 1) := by decide +kernel
theorem dX12_error_21 : decode cX12_error 21 = .ok (.lconst 0, 1) := by decide +kernel
theorem dX12_error_22 : decode cX12_error 22 = .ok (.lconst 1, 1) := by decide +kernel
theorem dX12_error_23 : decode cX12_error 23 = .ok (.invokestatic 167, 3) := by decide +kernel
theorem dX12_error_26 : decode cX12_error 26 = .ok (.ifCond .ne 6, 3) := by decide +kernel
theorem dX12_error_29 : decode cX12_error 29 = .ok (.ldc 178, 2) := by decide +kernel
theorem dX12_error_31 : decode cX12_error 31 = .ok (.ireturn, 1) := by decide +kernel
theorem dX12_error_32 : decode cX12_error 32 = .ok (.aload_n 0, 1) := by decide +kernel
theorem dX12_error_33 : decode cX12_error 33 = .ok (.iload_n 1, 1) := by decide +kernel
theorem dX12_error_34 : decode cX12_error 34 = .ok (.iload_n 2, 1) := by decide +kernel
theorem dX12_error_35 : decode cX12_error 35 = .ok (.iload_n 3, 1) := by decide +kernel
theorem dX12_error_36 : decode cX12_error 36 = .ok (.iconst 1, 1) := by decide +kernel
theorem dX12_error_37 : decode cX12_error 37 = .ok (.if_icmp .ne 7, 3) := by decide +kernel
theorem dX12_error_40 : decode cX12_error 40 = .ok (.iconst 1, 1) := by decide +kernel
theorem dX12_error_41 : decode cX12_error 41 = .ok (.goto 4, 3) := by decide +kernel
theorem dX12_error_44 : decode cX12_error 44 = .ok (.iconst 0, 1) := by decide +kernel
theorem dX12_error_45 : decode cX12_error 45 = .ok (.invokevirtual 219, 3) := by decide +kernel
theorem dX12_error_48 : decode cX12_error 48 = .ok (.ireturn, 1) := by decide +kernel
theorem dX12_errorOf_0 : decode cX12_errorOf 0 = .ok (.iconst (-1), 1) := by decide +kernel
theorem dX12_errorOf_1 : decode cX12_errorOf 1 = .ok (.istore 4, 2) := by decide +kernel
theorem dX12_errorOf_3 : decode cX12_errorOf 3 = .ok (.iconst (-1), 1) := by decide +kernel
theorem dX12_errorOf_4 : decode cX12_errorOf 4 = .ok (.istore 5, 2) := by decide +kernel
theorem dX12_errorOf_6 : decode cX12_errorOf 6 = .ok (.iconst 0, 1) := by decide +kernel
theorem dX12_errorOf_7 : decode cX12_errorOf 7 = .ok (.istore 6, 2) := by decide +kernel
theorem dX12_errorOf_9 : decode cX12_errorOf 9 = .ok (.iload 6, 2) := by decide +kernel
theorem dX12_errorOf_11 : decode cX12_errorOf 11 = .ok (.aload_n 0, 1) := by decide +kernel
theorem dX12_errorOf_12 : decode cX12_errorOf 12 = .ok (.getfield 213, 3) := by decide +kernel
theorem dX12_errorOf_15 : decode cX12_errorOf 15 = .ok (.if_icmp .ge 65, 3) := by decide +kernel
theorem dX12_errorOf_80 : decode cX12_errorOf 80 = .ok (.iload 4, 2) := by decide +kernel
theorem dX12_errorOf_82 : decode cX12_errorOf 82 = .ok (.ifCond .ge 10, 3) := by decide +kernel
theorem dX12_errorOf_85 : decode cX12_errorOf 85 = .ok (.iload 5, 2) := by decide +kernel
theorem dX12_errorOf_87 : decode cX12_errorOf 87 = .ok (.ifCond .ge 5, 3) := by decide +kernel
theorem dX12_errorOf_90 : decode cX12_errorOf 90 = .ok (.iconst 0, 1) := by decide +kernel
theorem dX12_errorOf_91 : decode cX12_errorOf 91 = .ok (.ireturn, 1) := by decide +kernel
theorem dX12_fault_0 : decode cX12_fault 0 = .ok (.aload_n 0, 1) := by decide +kernel
theorem dX12_fault_1 : decode cX12_fault 1 = .ok (.getfield 86, 3) := by decide +kernel
theorem dX12_fault_4 : decode cX12_fault 4 = .ok (.ireturn, 1) := by decide +kernel
theorem dX12_feed_0 : decode cX12_feed 0 = .ok (.iload_n 1, 1) := by decide +kernel
theorem dX12_feed_1 : decode cX12_feed 1 = .ok (.i2l, 1) := by decide +kernel
theorem dX12_feed_2 : decode cX12_feed 2 = .ok (.lconst 1, 1) := by decide +kernel
theorem dX12_feed_3 : decode cX12_feed 3 = .ok (.ldc2_w 247, 3) := by decide +kernel
theorem dX12_feed_6 : decode cX12_feed 6 = .ok (.invokestatic 167, 3) := by decide +kernel
theorem dX12_feed_9 : decode cX12_feed 9 = .ok (.ifCond .ne 6, 3) := by decide +kernel
theorem dX12_feed_12 : decode cX12_feed 12 = .ok (.ldc 178, 2) := by decide +kernel
theorem dX12_feed_14 : decode cX12_feed 14 = .ok (.ireturn, 1) := by decide +kernel
theorem dX12_feed_15 : decode cX12_feed 15 = .ok (.aload_n 0, 1) := by decide +kernel
theorem dX12_feed_16 : decode cX12_feed 16 = .ok (.getfield 249, 3) := by decide +kernel
theorem dX12_feed_19 : decode cX12_feed 19 = .ok (.iload_n 1, 1) := by decide +kernel
theorem dX12_feed_20 : decode cX12_feed 20 = .ok (.iadd, 1) := by decide +kernel
theorem dX12_feed_21 : decode cX12_feed 21 = .ok (.sipush 200, 3) := by decide +kernel
theorem dX12_feed_24 : decode cX12_feed 24 = .ok (.if_icmp .le 6, 3) := by decide +kernel
theorem dX12_feed_30 : decode cX12_feed 30 = .ok (.iload_n 1, 1) := by decide +kernel
theorem dX12_feed_31 : decode cX12_feed 31 = .ok (.iconst 1, 1) := by decide +kernel
theorem dX12_feed_32 : decode cX12_feed 32 = .ok (.isub, 1) := by decide +kernel
theorem dX12_feed_33 : decode cX12_feed 33 = .ok (.istore 4, 2) := by decide +kernel
theorem dX12_feed_35 : decode cX12_feed 35 = .ok (.iload 4, 2) := by decide +kernel
theorem dX12_feed_37 : decode cX12_feed 37 = .ok (.ifCond .lt 40, 3) := by decide +kernel
theorem dX12_feed_40 : decode cX12_feed 40 = .ok (.aload_n 0, 1) := by decide +kernel
theorem dX12_feed_41 : decode cX12_feed 41 = .ok (.getfield 83, 3) := by decide +kernel
theorem dX12_feed_44 : decode cX12_feed 44 = .ok (.aload_n 0, 1) := by decide +kernel
theorem dX12_feed_45 : decode cX12_feed 45 = .ok (.getfield 249, 3) := by decide +kernel
theorem dX12_feed_48 : decode cX12_feed 48 = .ok (.lload_n 2, 1) := by decide +kernel
theorem dX12_feed_49 : decode cX12_feed 49 = .ok (.bipush 8, 2) := by decide +kernel
theorem dX12_feed_51 : decode cX12_feed 51 = .ok (.iload 4, 2) := by decide +kernel
theorem dX12_feed_53 : decode cX12_feed 53 = .ok (.imul, 1) := by decide +kernel
theorem dX12_feed_54 : decode cX12_feed 54 = .ok (.lshr, 1) := by decide +kernel
theorem dX12_feed_55 : decode cX12_feed 55 = .ok (.ldc2_w 252, 3) := by decide +kernel
theorem dX12_feed_58 : decode cX12_feed 58 = .ok (.land, 1) := by decide +kernel
theorem dX12_feed_59 : decode cX12_feed 59 = .ok (.l2i, 1) := by decide +kernel
theorem dX12_feed_60 : decode cX12_feed 60 = .ok (.iastore, 1) := by decide +kernel
theorem dX12_feed_61 : decode cX12_feed 61 = .ok (.aload_n 0, 1) := by decide +kernel
theorem dX12_feed_62 : decode cX12_feed 62 = .ok (.dup, 1) := by decide +kernel
theorem dX12_feed_63 : decode cX12_feed 63 = .ok (.getfield 249, 3) := by decide +kernel
theorem dX12_feed_66 : decode cX12_feed 66 = .ok (.iconst 1, 1) := by decide +kernel
theorem dX12_feed_67 : decode cX12_feed 67 = .ok (.iadd, 1) := by decide +kernel
theorem dX12_feed_68 : decode cX12_feed 68 = .ok (.putfield 249, 3) := by decide +kernel
theorem dX12_feed_71 : decode cX12_feed 71 = .ok (.iinc 4 (-1), 3) := by decide +kernel
theorem dX12_feed_74 : decode cX12_feed 74 = .ok (.goto (-39), 3) := by decide +kernel
theorem dX12_feed_77 : decode cX12_feed 77 = .ok (.aload_n 0, 1) := by decide +kernel
theorem dX12_feed_78 : decode cX12_feed 78 = .ok (.getfield 249, 3) := by decide +kernel
theorem dX12_feed_81 : decode cX12_feed 81 = .ok (.ireturn, 1) := by decide +kernel
theorem dX12_findOrder_0 : decode cX12_findOrder 0 = .ok (.aload_n 0, 1) := by decide +kernel
theorem dX12_findOrder_1 : decode cX12_findOrder 1 = .ok (.iconst (-1), 1) := by decide +kernel
theorem dX12_findOrder_2 : decode cX12_findOrder 2 = .ok (.putfield 405, 3) := by decide +kernel
theorem dX12_findOrder_5 : decode cX12_findOrder 5 = .ok (.aload_n 0, 1) := by decide +kernel
theorem dX12_findOrder_6 : decode cX12_findOrder 6 = .ok (.iconst 0, 1) := by decide +kernel
theorem dX12_findOrder_7 : decode cX12_findOrder 7 = .ok (.putfield 408, 3) := by decide +kernel
theorem dX12_findOrder_10 : decode cX12_findOrder 10 = .ok (.iload_n 1, 1) := by decide +kernel
theorem dX12_findOrder_11 : decode cX12_findOrder 11 = .ok (.aload_n 0, 1) := by decide +kernel
theorem dX12_findOrder_12 : decode cX12_findOrder 12 = .ok (.getfield 399, 3) := by decide +kernel
theorem dX12_findOrder_15 : decode cX12_findOrder 15 = .ok (.invokestatic 402, 3) := by decide +kernel
theorem dX12_findOrder_18 : decode cX12_findOrder 18 = .ok (.istore_n 2, 1) := by decide +kernel
theorem dX12_findOrder_19 : decode cX12_findOrder 19 = .ok (.iconst 0, 1) := by decide +kernel
theorem dX12_findOrder_20 : decode cX12_findOrder 20 = .ok (.istore_n 3, 1) := by decide +kernel
theorem dX12_findOrder_21 : decode cX12_findOrder 21 = .ok (.iload_n 3, 1) := by decide +kernel
theorem dX12_findOrder_22 : decode cX12_findOrder 22 = .ok (.iload_n 2, 1) := by decide +kernel
theorem dX12_findOrder_23 : decode cX12_findOrder 23 = .ok (.if_icmp .ge 133, 3) := by decide +kernel
theorem dX12_findOrder_26 : decode cX12_findOrder 26 = .ok (.iconst 0, 1) := by decide +kernel
theorem dX12_findOrder_27 : decode cX12_findOrder 27 = .ok (.istore 4, 2) := by decide +kernel
theorem dX12_findOrder_29 : decode cX12_findOrder 29 = .ok (.iload 4, 2) := by decide +kernel
theorem dX12_findOrder_31 : decode cX12_findOrder 31 = .ok (.iconst 3, 1) := by decide +kernel
theorem dX12_findOrder_32 : decode cX12_findOrder 32 = .ok (.if_icmp .ge 17, 3) := by decide +kernel
theorem dX12_findOrder_35 : decode cX12_findOrder 35 = .ok (.aload_n 0, 1) := by decide +kernel
theorem dX12_findOrder_36 : decode cX12_findOrder 36 = .ok (.getfield 130, 3) := by decide +kernel
theorem dX12_findOrder_39 : decode cX12_findOrder 39 = .ok (.iload 4, 2) := by decide +kernel
theorem dX12_findOrder_41 : decode cX12_findOrder 41 = .ok (.iconst 0, 1) := by decide +kernel
theorem dX12_findOrder_42 : decode cX12_findOrder 42 = .ok (.iastore, 1) := by decide +kernel
theorem dX12_findOrder_43 : decode cX12_findOrder 43 = .ok (.iinc 4 1, 3) := by decide +kernel
theorem dX12_findOrder_46 : decode cX12_findOrder 46 = .ok (.goto (-17), 3) := by decide +kernel
theorem dX12_findOrder_49 : decode cX12_findOrder 49 = .ok (.iconst 0, 1) := by decide +kernel
theorem dX12_findOrder_50 : decode cX12_findOrder 50 = .ok (.istore 4, 2) := by decide +kernel
theorem dX12_findOrder_52 : decode cX12_findOrder 52 = .ok (.iconst 0, 1) := by decide +kernel
theorem dX12_findOrder_53 : decode cX12_findOrder 53 = .ok (.istore 5, 2) := by decide +kernel
theorem dX12_findOrder_55 : decode cX12_findOrder 55 = .ok (.iload 5, 2) := by decide +kernel
theorem dX12_findOrder_57 : decode cX12_findOrder 57 = .ok (.aload_n 0, 1) := by decide +kernel
theorem dX12_findOrder_58 : decode cX12_findOrder 58 = .ok (.getfield 399, 3) := by decide +kernel
theorem dX12_findOrder_61 : decode cX12_findOrder 61 = .ok (.if_icmp .ge 62, 3) := by decide +kernel
theorem dX12_findOrder_123 : decode cX12_findOrder 123 = .ok (.aload_n 0, 1) := by decide +kernel
theorem dX12_findOrder_124 : decode cX12_findOrder 124 = .ok (.getfield 405, 3) := by decide +kernel
theorem dX12_findOrder_127 : decode cX12_findOrder 127 = .ok (.ifCond .lt 12, 3) := by decide +kernel
theorem dX12_findOrder_139 : decode cX12_findOrder 139 = .ok (.aload_n 0, 1) := by decide +kernel
theorem dX12_findOrder_140 : decode cX12_findOrder 140 = .ok (.iload_n 3, 1) := by decide +kernel
theorem dX12_findOrder_141 : decode cX12_findOrder 141 = .ok (.putfield 405, 3) := by decide +kernel
theorem dX12_findOrder_144 : decode cX12_findOrder 144 = .ok (.aload_n 0, 1) := by decide +kernel
theorem dX12_findOrder_145 : decode cX12_findOrder 145 = .ok (.iload 4, 2) := by decide +kernel
theorem dX12_findOrder_147 : decode cX12_findOrder 147 = .ok (.putfield 408, 3) := by decide +kernel
theorem dX12_findOrder_150 : decode cX12_findOrder 150 = .ok (.iinc 3 1, 3) := by decide +kernel
theorem dX12_findOrder_153 : decode cX12_findOrder 153 = .ok (.goto (-132), 3) := by decide +kernel
theorem dX12_findOrder_156 : decode cX12_findOrder 156 = .ok (.return_, 1) := by decide +kernel
theorem dX12_findRules_0 : decode cX12_findRules 0 = .ok (.iconst 0, 1) := by decide +kernel
theorem dX12_findRules_1 : decode cX12_findRules 1 = .ok (.istore_n 2, 1) := by decide +kernel
theorem dX12_findRules_2 : decode cX12_findRules 2 = .ok (.iload_n 2, 1) := by decide +kernel
theorem dX12_findRules_3 : decode cX12_findRules 3 = .ok (.aload_n 0, 1) := by decide +kernel
theorem dX12_findRules_4 : decode cX12_findRules 4 = .ok (.getfield 303, 3) := by decide +kernel
theorem dX12_findRules_7 : decode cX12_findRules 7 = .ok (.if_icmp .ge 30, 3) := by decide +kernel
theorem dX12_findRules_37 : decode cX12_findRules 37 = .ok (.aload_n 0, 1) := by decide +kernel
theorem dX12_findRules_38 : decode cX12_findRules 38 = .ok (.getfield 303, 3) := by decide +kernel
theorem dX12_findRules_41 : decode cX12_findRules 41 = .ok (.iconst 1, 1) := by decide +kernel
theorem dX12_findRules_42 : decode cX12_findRules 42 = .ok (.isub, 1) := by decide +kernel
theorem dX12_findRules_43 : decode cX12_findRules 43 = .ok (.istore_n 2, 1) := by decide +kernel
theorem dX12_findRules_44 : decode cX12_findRules 44 = .ok (.iload_n 2, 1) := by decide +kernel
theorem dX12_findRules_45 : decode cX12_findRules 45 = .ok (.ifCond .lt 66, 3) := by decide +kernel
theorem dX12_findRules_111 : decode cX12_findRules 111 = .ok (.aload_n 0, 1) := by decide +kernel
theorem dX12_findRules_112 : decode cX12_findRules 112 = .ok (.iconst 0, 1) := by decide +kernel
theorem dX12_findRules_113 : decode cX12_findRules 113 = .ok (.putfield 314, 3) := by decide +kernel
theorem dX12_findRules_116 : decode cX12_findRules 116 = .ok (.iconst 0, 1) := by decide +kernel
theorem dX12_findRules_117 : decode cX12_findRules 117 = .ok (.istore_n 2, 1) := by decide +kernel
theorem dX12_findRules_118 : decode cX12_findRules 118 = .ok (.iload_n 2, 1) := by decide +kernel
theorem dX12_findRules_119 : decode cX12_findRules 119 = .ok (.aload_n 0, 1) := by decide +kernel
theorem dX12_findRules_120 : decode cX12_findRules 120 = .ok (.getfield 303, 3) := by decide +kernel
theorem dX12_findRules_123 : decode cX12_findRules 123 = .ok (.if_icmp .ge 86, 3) := by decide +kernel
theorem dX12_findRules_209 : decode cX12_findRules 209 = .ok (.return_, 1) := by decide +kernel
theorem dX12_force_0 : decode cX12_force 0 = .ok (.iload_n 1, 1) := by decide +kernel
theorem dX12_force_1 : decode cX12_force 1 = .ok (.i2l, 1) := by decide +kernel
theorem dX12_force_2 : decode cX12_force 2 = .ok (.lconst 0, 1) := by decide +kernel
theorem dX12_force_3 : decode cX12_force 3 = .ok (.ldc2_w 323, 3) := by decide +kernel
theorem dX12_force_6 : decode cX12_force 6 = .ok (.invokestatic 167, 3) := by decide +kernel
theorem dX12_force_9 : decode cX12_force 9 = .ok (.ifCond .eq 19, 3) := by decide +kernel
theorem dX12_force_12 : decode cX12_force 12 = .ok (.iload_n 2, 1) := by decide +kernel
theorem dX12_force_13 : decode cX12_force 13 = .ok (.invokestatic 216, 3) := by decide +kernel
theorem dX12_force_16 : decode cX12_force 16 = .ok (.ifCond .eq 12, 3) := by decide +kernel
theorem dX12_force_19 : decode cX12_force 19 = .ok (.aload_n 0, 1) := by decide +kernel
theorem dX12_force_20 : decode cX12_force 20 = .ok (.iload_n 1, 1) := by decide +kernel
theorem dX12_force_21 : decode cX12_force 21 = .ok (.iload_n 2, 1) := by decide +kernel
theorem dX12_force_22 : decode cX12_force 22 = .ok (.invokevirtual 325, 3) := by decide +kernel
theorem dX12_force_25 : decode cX12_force 25 = .ok (.goto 5, 3) := by decide +kernel
theorem dX12_force_28 : decode cX12_force 28 = .ok (.ldc 178, 2) := by decide +kernel
theorem dX12_force_30 : decode cX12_force 30 = .ok (.ireturn, 1) := by decide +kernel
theorem dX12_forceOf_0 : decode cX12_forceOf 0 = .ok (.aload_n 0, 1) := by decide +kernel
theorem dX12_forceOf_1 : decode cX12_forceOf 1 = .ok (.iload_n 2, 1) := by decide +kernel
theorem dX12_forceOf_2 : decode cX12_forceOf 2 = .ok (.invokevirtual 317, 3) := by decide +kernel
theorem dX12_forceOf_5 : decode cX12_forceOf 5 = .ok (.iload_n 1, 1) := by decide +kernel
theorem dX12_forceOf_6 : decode cX12_forceOf 6 = .ok (.invokestatic 320, 3) := by decide +kernel
theorem dX12_forceOf_9 : decode cX12_forceOf 9 = .ok (.istore_n 3, 1) := by decide +kernel
theorem dX12_forceOf_10 : decode cX12_forceOf 10 = .ok (.iconst 0, 1) := by decide +kernel
theorem dX12_forceOf_11 : decode cX12_forceOf 11 = .ok (.istore 4, 2) := by decide +kernel
theorem dX12_forceOf_13 : decode cX12_forceOf 13 = .ok (.iload 4, 2) := by decide +kernel
theorem dX12_forceOf_15 : decode cX12_forceOf 15 = .ok (.aload_n 0, 1) := by decide +kernel
theorem dX12_forceOf_16 : decode cX12_forceOf 16 = .ok (.getfield 314, 3) := by decide +kernel
theorem dX12_forceOf_19 : decode cX12_forceOf 19 = .ok (.if_icmp .ge 124, 3) := by decide +kernel
theorem dX12_forceOf_143 : decode cX12_forceOf 143 = .ok (.iload_n 3, 1) := by decide +kernel
theorem dX12_forceOf_144 : decode cX12_forceOf 144 = .ok (.ireturn, 1) := by decide +kernel
theorem dX12_go_0 : decode cX12_go 0 = .ok (.iload_n 1, 1) := by decide +kernel
theorem dX12_go_1 : decode cX12_go 1 = .ok (.i2l, 1) := by decide +kernel
theorem dX12_go_2 : decode cX12_go 2 = .ok (.lconst 0, 1) := by decide +kernel
theorem dX12_go_3 : decode cX12_go 3 = .ok (.ldc2_w 176, 3) := by decide +kernel
theorem dX12_go_6 : decode cX12_go 6 = .ok (.invokestatic 167, 3) := by decide +kernel
theorem dX12_go_9 : decode cX12_go 9 = .ok (.ifCond .ne 6, 3) := by decide +kernel
theorem dX12_go_12 : decode cX12_go 12 = .ok (.ldc 178, 2) := by decide +kernel
theorem dX12_go_14 : decode cX12_go 14 = .ok (.ireturn, 1) := by decide +kernel
theorem dX12_go_15 : decode cX12_go 15 = .ok (.aload_n 0, 1) := by decide +kernel
theorem dX12_go_16 : decode cX12_go 16 = .ok (.getfield 171, 3) := by decide +kernel
theorem dX12_go_19 : decode cX12_go 19 = .ok (.iload_n 1, 1) := by decide +kernel
theorem dX12_go_20 : decode cX12_go 20 = .ok (.iadd, 1) := by decide +kernel
theorem dX12_go_21 : decode cX12_go 21 = .ok (.sipush 3000, 3) := by decide +kernel
theorem dX12_go_24 : decode cX12_go 24 = .ok (.if_icmp .le 6, 3) := by decide +kernel
theorem dX12_go_30 : decode cX12_go 30 = .ok (.aload_n 0, 1) := by decide +kernel
theorem dX12_go_31 : decode cX12_go 31 = .ok (.dup, 1) := by decide +kernel
theorem dX12_go_32 : decode cX12_go 32 = .ok (.getfield 171, 3) := by decide +kernel
theorem dX12_go_35 : decode cX12_go 35 = .ok (.iload_n 1, 1) := by decide +kernel
theorem dX12_go_36 : decode cX12_go 36 = .ok (.iadd, 1) := by decide +kernel
theorem dX12_go_37 : decode cX12_go 37 = .ok (.putfield 171, 3) := by decide +kernel
theorem dX12_go_40 : decode cX12_go 40 = .ok (.aload_n 0, 1) := by decide +kernel
theorem dX12_go_41 : decode cX12_go 41 = .ok (.getfield 171, 3) := by decide +kernel
theorem dX12_go_44 : decode cX12_go 44 = .ok (.ireturn, 1) := by decide +kernel
theorem dX12_here_0 : decode cX12_here 0 = .ok (.aload_n 0, 1) := by decide +kernel
theorem dX12_here_1 : decode cX12_here 1 = .ok (.getfield 254, 3) := by decide +kernel
theorem dX12_here_4 : decode cX12_here 4 = .ok (.aload_n 0, 1) := by decide +kernel
theorem dX12_here_5 : decode cX12_here 5 = .ok (.getfield 249, 3) := by decide +kernel
theorem dX12_here_8 : decode cX12_here 8 = .ok (.if_icmp .ge 30, 3) := by decide +kernel
theorem dX12_here_38 : decode cX12_here 38 = .ok (.aload_n 0, 1) := by decide +kernel
theorem dX12_here_39 : decode cX12_here 39 = .ok (.getfield 254, 3) := by decide +kernel
theorem dX12_here_42 : decode cX12_here 42 = .ok (.aload_n 0, 1) := by decide +kernel
theorem dX12_here_43 : decode cX12_here 43 = .ok (.getfield 249, 3) := by decide +kernel
theorem dX12_here_46 : decode cX12_here 46 = .ok (.if_icmp .ge 15, 3) := by decide +kernel
theorem dX12_here_61 : decode cX12_here 61 = .ok (.iconst (-1), 1) := by decide +kernel
theorem dX12_here_62 : decode cX12_here 62 = .ok (.ireturn, 1) := by decide +kernel
theorem dX12_houses_0 : decode cX12_houses 0 = .ok (.iload_n 1, 1) := by decide +kernel
theorem dX12_houses_1 : decode cX12_houses 1 = .ok (.i2l, 1) := by decide +kernel
theorem dX12_houses_2 : decode cX12_houses 2 = .ok (.lconst 0, 1) := by decide +kernel
theorem dX12_houses_3 : decode cX12_houses 3 = .ok (.ldc2_w 188, 3) := by decide +kernel
theorem dX12_houses_6 : decode cX12_houses 6 = .ok (.invokestatic 167, 3) := by decide +kernel
theorem dX12_houses_9 : decode cX12_houses 9 = .ok (.ifCond .ne 6, 3) := by decide +kernel
theorem dX12_houses_12 : decode cX12_houses 12 = .ok (.ldc 178, 2) := by decide +kernel
theorem dX12_houses_14 : decode cX12_houses 14 = .ok (.ireturn, 1) := by decide +kernel
theorem dX12_houses_15 : decode cX12_houses 15 = .ok (.aload_n 0, 1) := by decide +kernel
theorem dX12_houses_16 : decode cX12_houses 16 = .ok (.getfield 417, 3) := by decide +kernel
theorem dX12_houses_19 : decode cX12_houses 19 = .ok (.ifCond .ne 6, 3) := by decide +kernel
theorem dX12_houses_22 : decode cX12_houses 22 = .ok (.ldc 179, 2) := by decide +kernel
theorem dX12_houses_24 : decode cX12_houses 24 = .ok (.ireturn, 1) := by decide +kernel
theorem dX12_in_0 : decode cX12_in 0 = .ok (.lload_n 0, 1) := by decide +kernel
theorem dX12_in_1 : decode cX12_in 1 = .ok (.lload_n 2, 1) := by decide +kernel
theorem dX12_in_2 : decode cX12_in 2 = .ok (.lcmp, 1) := by decide +kernel
theorem dX12_in_3 : decode cX12_in 3 = .ok (.ifCond .lt 14, 3) := by decide +kernel
theorem dX12_in_6 : decode cX12_in 6 = .ok (.lload_n 0, 1) := by decide +kernel
theorem dX12_in_7 : decode cX12_in 7 = .ok (.lload 4, 2) := by decide +kernel
theorem dX12_in_9 : decode cX12_in 9 = .ok (.lcmp, 1) := by decide +kernel
theorem dX12_in_10 : decode cX12_in 10 = .ok (.ifCond .gt 7, 3) := by decide +kernel
theorem dX12_in_13 : decode cX12_in 13 = .ok (.iconst 1, 1) := by decide +kernel
theorem dX12_in_14 : decode cX12_in 14 = .ok (.goto 4, 3) := by decide +kernel
theorem dX12_in_17 : decode cX12_in 17 = .ok (.iconst 0, 1) := by decide +kernel
theorem dX12_in_18 : decode cX12_in 18 = .ok (.ireturn, 1) := by decide +kernel
theorem dX12_isDay_0 : decode cX12_isDay 0 = .ok (.iload_n 0, 1) := by decide +kernel
theorem dX12_isDay_1 : decode cX12_isDay 1 = .ok (.i2l, 1) := by decide +kernel
theorem dX12_isDay_2 : decode cX12_isDay 2 = .ok (.lconst 0, 1) := by decide +kernel
theorem dX12_isDay_3 : decode cX12_isDay 3 = .ok (.ldc2_w 174, 3) := by decide +kernel
theorem dX12_isDay_6 : decode cX12_isDay 6 = .ok (.invokestatic 167, 3) := by decide +kernel
theorem dX12_isDay_9 : decode cX12_isDay 9 = .ok (.ireturn, 1) := by decide +kernel
theorem dX12_isPast_0 : decode cX12_isPast 0 = .ok (.iload_n 1, 1) := by decide +kernel
theorem dX12_isPast_1 : decode cX12_isPast 1 = .ok (.i2l, 1) := by decide +kernel
theorem dX12_isPast_2 : decode cX12_isPast 2 = .ok (.lconst 0, 1) := by decide +kernel
theorem dX12_isPast_3 : decode cX12_isPast 3 = .ok (.aload_n 0, 1) := by decide +kernel
theorem dX12_isPast_4 : decode cX12_isPast 4 = .ok (.getfield 171, 3) := by decide +kernel
theorem dX12_isPast_7 : decode cX12_isPast 7 = .ok (.i2l, 1) := by decide +kernel
theorem dX12_isPast_8 : decode cX12_isPast 8 = .ok (.invokestatic 167, 3) := by decide +kernel
theorem dX12_isPast_11 : decode cX12_isPast 11 = .ok (.ireturn, 1) := by decide +kernel
theorem dX12_isWeight_0 : decode cX12_isWeight 0 = .ok (.iload_n 0, 1) := by decide +kernel
theorem dX12_isWeight_1 : decode cX12_isWeight 1 = .ok (.i2l, 1) := by decide +kernel
theorem dX12_isWeight_2 : decode cX12_isWeight 2 = .ok (.lconst 1, 1) := by decide +kernel
theorem dX12_isWeight_3 : decode cX12_isWeight 3 = .ok (.ldc2_w 194, 3) := by decide +kernel
theorem dX12_isWeight_6 : decode cX12_isWeight 6 = .ok (.invokestatic 167, 3) := by decide +kernel
theorem dX12_isWeight_9 : decode cX12_isWeight 9 = .ok (.ireturn, 1) := by decide +kernel
theorem dX12_lawful_0 : decode cX12_lawful 0 = .ok (.aload_n 0, 1) := by decide +kernel
theorem dX12_lawful_1 : decode cX12_lawful 1 = .ok (.iload_n 1, 1) := by decide +kernel
theorem dX12_lawful_2 : decode cX12_lawful 2 = .ok (.invokevirtual 183, 3) := by decide +kernel
theorem dX12_lawful_5 : decode cX12_lawful 5 = .ok (.ifCond .eq 7, 3) := by decide +kernel
theorem dX12_lawful_8 : decode cX12_lawful 8 = .ok (.ldc2_w 362, 3) := by decide +kernel
theorem dX12_lawful_11 : decode cX12_lawful 11 = .ok (.lreturn, 1) := by decide +kernel
theorem dX12_letter_0 : decode cX12_letter 0 = .ok (.iload_n 1, 1) := by decide +kernel
theorem dX12_letter_1 : decode cX12_letter 1 = .ok (.ifCond .lt 30, 3) := by decide +kernel
theorem dX12_letter_4 : decode cX12_letter 4 = .ok (.iload_n 1, 1) := by decide +kernel
theorem dX12_letter_5 : decode cX12_letter 5 = .ok (.bipush 100, 2) := by decide +kernel
theorem dX12_letter_7 : decode cX12_letter 7 = .ok (.idiv, 1) := by decide +kernel
theorem dX12_letter_8 : decode cX12_letter 8 = .ok (.aload_n 0, 1) := by decide +kernel
theorem dX12_letter_9 : decode cX12_letter 9 = .ok (.getfield 303, 3) := by decide +kernel
theorem dX12_letter_12 : decode cX12_letter 12 = .ok (.if_icmp .ge 19, 3) := by decide +kernel
theorem dX12_letter_31 : decode cX12_letter 31 = .ok (.ldc 187, 2) := by decide +kernel
theorem dX12_letter_33 : decode cX12_letter 33 = .ok (.ireturn, 1) := by decide +kernel
theorem dX12_load_0 : decode cX12_load 0 = .ok (.iload_n 1, 1) := by decide +kernel
theorem dX12_load_1 : decode cX12_load 1 = .ok (.i2l, 1) := by decide +kernel
theorem dX12_load_2 : decode cX12_load 2 = .ok (.lconst 1, 1) := by decide +kernel
theorem dX12_load_3 : decode cX12_load 3 = .ok (.ldc2_w 176, 3) := by decide +kernel
theorem dX12_load_6 : decode cX12_load 6 = .ok (.invokestatic 167, 3) := by decide +kernel
theorem dX12_load_9 : decode cX12_load 9 = .ok (.ifCond .ne 6, 3) := by decide +kernel
theorem dX12_load_12 : decode cX12_load 12 = .ok (.ldc 178, 2) := by decide +kernel
theorem dX12_load_14 : decode cX12_load 14 = .ok (.ireturn, 1) := by decide +kernel
theorem dX12_load_15 : decode cX12_load 15 = .ok (.aload_n 0, 1) := by decide +kernel
theorem dX12_load_16 : decode cX12_load 16 = .ok (.getfield 399, 3) := by decide +kernel
theorem dX12_load_19 : decode cX12_load 19 = .ok (.bipush 8, 2) := by decide +kernel
theorem dX12_load_21 : decode cX12_load 21 = .ok (.if_icmp .ne 6, 3) := by decide +kernel
theorem dX12_load_27 : decode cX12_load 27 = .ok (.aload_n 0, 1) := by decide +kernel
theorem dX12_load_28 : decode cX12_load 28 = .ok (.getfield 127, 3) := by decide +kernel
theorem dX12_load_31 : decode cX12_load 31 = .ok (.aload_n 0, 1) := by decide +kernel
theorem dX12_load_32 : decode cX12_load 32 = .ok (.getfield 399, 3) := by decide +kernel
theorem dX12_load_35 : decode cX12_load 35 = .ok (.iload_n 1, 1) := by decide +kernel
theorem dX12_load_36 : decode cX12_load 36 = .ok (.iastore, 1) := by decide +kernel
theorem dX12_load_37 : decode cX12_load 37 = .ok (.aload_n 0, 1) := by decide +kernel
theorem dX12_load_38 : decode cX12_load 38 = .ok (.dup, 1) := by decide +kernel
theorem dX12_load_39 : decode cX12_load 39 = .ok (.getfield 399, 3) := by decide +kernel
theorem dX12_load_42 : decode cX12_load 42 = .ok (.iconst 1, 1) := by decide +kernel
theorem dX12_load_43 : decode cX12_load 43 = .ok (.iadd, 1) := by decide +kernel
theorem dX12_load_44 : decode cX12_load 44 = .ok (.putfield 399, 3) := by decide +kernel
theorem dX12_load_47 : decode cX12_load 47 = .ok (.aload_n 0, 1) := by decide +kernel
theorem dX12_load_48 : decode cX12_load 48 = .ok (.getfield 399, 3) := by decide +kernel
theorem dX12_load_51 : decode cX12_load 51 = .ok (.ireturn, 1) := by decide +kernel
theorem dX12_lose_0 : decode cX12_lose 0 = .ok (.aload_n 0, 1) := by decide +kernel
theorem dX12_lose_1 : decode cX12_lose 1 = .ok (.iload_n 1, 1) := by decide +kernel
theorem dX12_lose_2 : decode cX12_lose 2 = .ok (.invokevirtual 207, 3) := by decide +kernel
theorem dX12_lose_5 : decode cX12_lose 5 = .ok (.ifCond .eq 6, 3) := by decide +kernel
theorem dX12_lose_8 : decode cX12_lose 8 = .ok (.ldc 187, 2) := by decide +kernel
theorem dX12_lose_10 : decode cX12_lose 10 = .ok (.ireturn, 1) := by decide +kernel
theorem dX12_named_0 : decode cX12_named 0 = .ok (.aload_n 0, 1) := by decide +kernel
theorem dX12_named_1 : decode cX12_named 1 = .ok (.iload_n 1, 1) := by decide +kernel
theorem dX12_named_2 : decode cX12_named 2 = .ok (.invokevirtual 183, 3) := by decide +kernel
theorem dX12_named_5 : decode cX12_named 5 = .ok (.ifCond .eq 6, 3) := by decide +kernel
theorem dX12_named_8 : decode cX12_named 8 = .ok (.ldc 187, 2) := by decide +kernel
theorem dX12_named_10 : decode cX12_named 10 = .ok (.ireturn, 1) := by decide +kernel
theorem dX12_needed_0 : decode cX12_needed 0 = .ok (.aload_n 0, 1) := by decide +kernel
theorem dX12_needed_1 : decode cX12_needed 1 = .ok (.iload_n 1, 1) := by decide +kernel
theorem dX12_needed_2 : decode cX12_needed 2 = .ok (.invokevirtual 183, 3) := by decide +kernel
theorem dX12_needed_5 : decode cX12_needed 5 = .ok (.ifCond .eq 6, 3) := by decide +kernel
theorem dX12_needed_8 : decode cX12_needed 8 = .ok (.ldc 187, 2) := by decide +kernel
theorem dX12_needed_10 : decode cX12_needed 10 = .ok (.ireturn, 1) := by decide +kernel
theorem dX12_noBale_0 : decode cX12_noBale 0 = .ok (.iload_n 1, 1) := by decide +kernel
theorem dX12_noBale_1 : decode cX12_noBale 1 = .ok (.i2l, 1) := by decide +kernel
theorem dX12_noBale_2 : decode cX12_noBale 2 = .ok (.lconst 0, 1) := by decide +kernel
theorem dX12_noBale_3 : decode cX12_noBale 3 = .ok (.aload_n 0, 1) := by decide +kernel
theorem dX12_noBale_4 : decode cX12_noBale 4 = .ok (.getfield 164, 3) := by decide +kernel
theorem dX12_noBale_7 : decode cX12_noBale 7 = .ok (.iconst 1, 1) := by decide +kernel
theorem dX12_noBale_8 : decode cX12_noBale 8 = .ok (.isub, 1) := by decide +kernel
theorem dX12_noBale_9 : decode cX12_noBale 9 = .ok (.i2l, 1) := by decide +kernel
theorem dX12_noBale_10 : decode cX12_noBale 10 = .ok (.invokestatic 167, 3) := by decide +kernel
theorem dX12_noBale_13 : decode cX12_noBale 13 = .ok (.ifCond .ne 7, 3) := by decide +kernel
theorem dX12_noBale_16 : decode cX12_noBale 16 = .ok (.iconst 1, 1) := by decide +kernel
theorem dX12_noBale_17 : decode cX12_noBale 17 = .ok (.goto 4, 3) := by decide +kernel
theorem dX12_noBale_21 : decode cX12_noBale 21 = .ok (.ireturn, 1) := by decide +kernel
theorem dX12_noPaper_0 : decode cX12_noPaper 0 = .ok (.iload_n 1, 1) := by decide +kernel
theorem dX12_noPaper_1 : decode cX12_noPaper 1 = .ok (.i2l, 1) := by decide +kernel
theorem dX12_noPaper_2 : decode cX12_noPaper 2 = .ok (.lconst 0, 1) := by decide +kernel
theorem dX12_noPaper_3 : decode cX12_noPaper 3 = .ok (.aload_n 0, 1) := by decide +kernel
theorem dX12_noPaper_4 : decode cX12_noPaper 4 = .ok (.getfield 429, 3) := by decide +kernel
theorem dX12_noPaper_7 : decode cX12_noPaper 7 = .ok (.iconst 1, 1) := by decide +kernel
theorem dX12_noPaper_8 : decode cX12_noPaper 8 = .ok (.isub, 1) := by decide +kernel
theorem dX12_noPaper_9 : decode cX12_noPaper 9 = .ok (.i2l, 1) := by decide +kernel
theorem dX12_noPaper_10 : decode cX12_noPaper 10 = .ok (.invokestatic 167, 3) := by decide +kernel
theorem dX12_noPaper_13 : decode cX12_noPaper 13 = .ok (.ifCond .ne 7, 3) := by decide +kernel
theorem dX12_noPaper_16 : decode cX12_noPaper 16 = .ok (.iconst 1, 1) := by decide +kernel
theorem dX12_noPaper_17 : decode cX12_noPaper 17 = .ok (.goto 4, 3) := by decide +kernel
theorem dX12_noPaper_21 : decode cX12_noPaper 21 = .ok (.ireturn, 1) := by decide +kernel
theorem dX12_noSkein_0 : decode cX12_noSkein 0 = .ok (.iload_n 1, 1) := by decide +kernel
theorem dX12_noSkein_1 : decode cX12_noSkein 1 = .ok (.i2l, 1) := by decide +kernel
theorem dX12_noSkein_2 : decode cX12_noSkein 2 = .ok (.lconst 0, 1) := by decide +kernel
theorem dX12_noSkein_3 : decode cX12_noSkein 3 = .ok (.aload_n 0, 1) := by decide +kernel
theorem dX12_noSkein_4 : decode cX12_noSkein 4 = .ok (.getfield 200, 3) := by decide +kernel
theorem dX12_noSkein_7 : decode cX12_noSkein 7 = .ok (.iconst 1, 1) := by decide +kernel
theorem dX12_noSkein_8 : decode cX12_noSkein 8 = .ok (.isub, 1) := by decide +kernel
theorem dX12_noSkein_9 : decode cX12_noSkein 9 = .ok (.i2l, 1) := by decide +kernel
theorem dX12_noSkein_10 : decode cX12_noSkein 10 = .ok (.invokestatic 167, 3) := by decide +kernel
theorem dX12_noSkein_13 : decode cX12_noSkein 13 = .ok (.ifCond .ne 7, 3) := by decide +kernel
theorem dX12_noSkein_16 : decode cX12_noSkein 16 = .ok (.iconst 1, 1) := by decide +kernel
theorem dX12_noSkein_17 : decode cX12_noSkein 17 = .ok (.goto 4, 3) := by decide +kernel
theorem dX12_noSkein_21 : decode cX12_noSkein 21 = .ok (.ireturn, 1) := by decide +kernel
theorem dX12_odd_0 : decode cX12_odd 0 = .ok (.aload_n 0, 1) := by decide +kernel
theorem dX12_odd_1 : decode cX12_odd 1 = .ok (.iload_n 1, 1) := by decide +kernel
theorem dX12_odd_2 : decode cX12_odd 2 = .ok (.invokevirtual 183, 3) := by decide +kernel
theorem dX12_odd_5 : decode cX12_odd 5 = .ok (.ifCond .eq 6, 3) := by decide +kernel
theorem dX12_odd_8 : decode cX12_odd 8 = .ok (.ldc 187, 2) := by decide +kernel
theorem dX12_odd_10 : decode cX12_odd 10 = .ok (.ireturn, 1) := by decide +kernel
theorem dX12_order_0 : decode cX12_order 0 = .ok (.iload_n 1, 1) := by decide +kernel
theorem dX12_order_1 : decode cX12_order 1 = .ok (.i2l, 1) := by decide +kernel
theorem dX12_order_2 : decode cX12_order 2 = .ok (.lconst 1, 1) := by decide +kernel
theorem dX12_order_3 : decode cX12_order 3 = .ok (.ldc2_w 190, 3) := by decide +kernel
theorem dX12_order_6 : decode cX12_order 6 = .ok (.invokestatic 167, 3) := by decide +kernel
theorem dX12_order_9 : decode cX12_order 9 = .ok (.ifCond .ne 6, 3) := by decide +kernel
theorem dX12_order_12 : decode cX12_order 12 = .ok (.ldc 178, 2) := by decide +kernel
theorem dX12_order_14 : decode cX12_order 14 = .ok (.ireturn, 1) := by decide +kernel
theorem dX12_order_15 : decode cX12_order 15 = .ok (.aload_n 0, 1) := by decide +kernel
theorem dX12_order_16 : decode cX12_order 16 = .ok (.iload_n 1, 1) := by decide +kernel
theorem dX12_order_17 : decode cX12_order 17 = .ok (.invokevirtual 414, 3) := by decide +kernel
theorem dX12_order_20 : decode cX12_order 20 = .ok (.iload_n 2, 1) := by decide +kernel
theorem dX12_order_21 : decode cX12_order 21 = .ok (.iconst (-1), 1) := by decide +kernel
theorem dX12_order_22 : decode cX12_order 22 = .ok (.if_icmp .ne 10, 3) := by decide +kernel
theorem dX12_order_25 : decode cX12_order 25 = .ok (.aload_n 0, 1) := by decide +kernel
theorem dX12_order_26 : decode cX12_order 26 = .ok (.getfield 408, 3) := by decide +kernel
theorem dX12_order_29 : decode cX12_order 29 = .ok (.goto 33, 3) := by decide +kernel
theorem dX12_order_32 : decode cX12_order 32 = .ok (.iload_n 2, 1) := by decide +kernel
theorem dX12_order_33 : decode cX12_order 33 = .ok (.i2l, 1) := by decide +kernel
theorem dX12_order_34 : decode cX12_order 34 = .ok (.lconst 0, 1) := by decide +kernel
theorem dX12_order_35 : decode cX12_order 35 = .ok (.aload_n 0, 1) := by decide +kernel
theorem dX12_order_36 : decode cX12_order 36 = .ok (.getfield 399, 3) := by decide +kernel
theorem dX12_order_39 : decode cX12_order 39 = .ok (.iconst 1, 1) := by decide +kernel
theorem dX12_order_40 : decode cX12_order 40 = .ok (.isub, 1) := by decide +kernel
theorem dX12_order_41 : decode cX12_order 41 = .ok (.i2l, 1) := by decide +kernel
theorem dX12_order_42 : decode cX12_order 42 = .ok (.invokestatic 167, 3) := by decide +kernel
theorem dX12_order_45 : decode cX12_order 45 = .ok (.ifCond .eq 16, 3) := by decide +kernel
theorem dX12_order_61 : decode cX12_order 61 = .ok (.iconst (-1), 1) := by decide +kernel
theorem dX12_order_62 : decode cX12_order 62 = .ok (.ireturn, 1) := by decide +kernel
theorem dX12_paper_0 : decode cX12_paper 0 = .ok (.aload_n 0, 1) := by decide +kernel
theorem dX12_paper_1 : decode cX12_paper 1 = .ok (.iload_n 1, 1) := by decide +kernel
theorem dX12_paper_2 : decode cX12_paper 2 = .ok (.invokevirtual 436, 3) := by decide +kernel
theorem dX12_paper_5 : decode cX12_paper 5 = .ok (.ifCond .eq 6, 3) := by decide +kernel
theorem dX12_paper_8 : decode cX12_paper 8 = .ok (.ldc 187, 2) := by decide +kernel
theorem dX12_paper_10 : decode cX12_paper 10 = .ok (.ireturn, 1) := by decide +kernel
theorem dX12_power_0 : decode cX12_power 0 = .ok (.iconst 1, 1) := by decide +kernel
theorem dX12_power_1 : decode cX12_power 1 = .ok (.istore_n 2, 1) := by decide +kernel
theorem dX12_power_2 : decode cX12_power 2 = .ok (.iconst 0, 1) := by decide +kernel
theorem dX12_power_3 : decode cX12_power 3 = .ok (.istore_n 3, 1) := by decide +kernel
theorem dX12_power_4 : decode cX12_power 4 = .ok (.iload_n 3, 1) := by decide +kernel
theorem dX12_power_5 : decode cX12_power 5 = .ok (.iload_n 1, 1) := by decide +kernel
theorem dX12_power_6 : decode cX12_power 6 = .ok (.if_icmp .ge 13, 3) := by decide +kernel
theorem dX12_power_19 : decode cX12_power 19 = .ok (.iload_n 2, 1) := by decide +kernel
theorem dX12_power_20 : decode cX12_power 20 = .ok (.ireturn, 1) := by decide +kernel
theorem dX12_ratio_0 : decode cX12_ratio 0 = .ok (.aload_n 0, 1) := by decide +kernel
theorem dX12_ratio_1 : decode cX12_ratio 1 = .ok (.iload_n 1, 1) := by decide +kernel
theorem dX12_ratio_2 : decode cX12_ratio 2 = .ok (.invokevirtual 183, 3) := by decide +kernel
theorem dX12_ratio_5 : decode cX12_ratio 5 = .ok (.ifCond .eq 6, 3) := by decide +kernel
theorem dX12_ratio_8 : decode cX12_ratio 8 = .ok (.ldc 187, 2) := by decide +kernel
theorem dX12_ratio_10 : decode cX12_ratio 10 = .ok (.ireturn, 1) := by decide +kernel
theorem dX12_rule_0 : decode cX12_rule 0 = .ok (.iload_n 1, 1) := by decide +kernel
theorem dX12_rule_1 : decode cX12_rule 1 = .ok (.invokestatic 216, 3) := by decide +kernel
theorem dX12_rule_4 : decode cX12_rule 4 = .ok (.ifCond .ne 6, 3) := by decide +kernel
theorem dX12_rule_7 : decode cX12_rule 7 = .ok (.ldc 178, 2) := by decide +kernel
theorem dX12_rule_9 : decode cX12_rule 9 = .ok (.ireturn, 1) := by decide +kernel
theorem dX12_rule_10 : decode cX12_rule 10 = .ok (.aload_n 0, 1) := by decide +kernel
theorem dX12_rule_11 : decode cX12_rule 11 = .ok (.getfield 303, 3) := by decide +kernel
theorem dX12_rule_14 : decode cX12_rule 14 = .ok (.bipush 8, 2) := by decide +kernel
theorem dX12_rule_16 : decode cX12_rule 16 = .ok (.if_icmp .ne 6, 3) := by decide +kernel
theorem dX12_rule_22 : decode cX12_rule 22 = .ok (.aload_n 0, 1) := by decide +kernel
theorem dX12_rule_23 : decode cX12_rule 23 = .ok (.iconst 0, 1) := by decide +kernel
theorem dX12_rule_24 : decode cX12_rule 24 = .ok (.putfield 254, 3) := by decide +kernel
theorem dX12_rule_27 : decode cX12_rule 27 = .ok (.aload_n 0, 1) := by decide +kernel
theorem dX12_rule_28 : decode cX12_rule 28 = .ok (.iconst 0, 1) := by decide +kernel
theorem dX12_rule_29 : decode cX12_rule 29 = .ok (.putfield 257, 3) := by decide +kernel
theorem dX12_rule_32 : decode cX12_rule 32 = .ok (.aload_n 0, 1) := by decide +kernel
theorem dX12_rule_33 : decode cX12_rule 33 = .ok (.iconst (-1), 1) := by decide +kernel
theorem dX12_rule_34 : decode cX12_rule 34 = .ok (.putfield 86, 3) := by decide +kernel
theorem dX12_rule_37 : decode cX12_rule 37 = .ok (.iconst 0, 1) := by decide +kernel
theorem dX12_rule_38 : decode cX12_rule 38 = .ok (.istore_n 2, 1) := by decide +kernel
theorem dX12_rule_39 : decode cX12_rule 39 = .ok (.aload_n 0, 1) := by decide +kernel
theorem dX12_rule_40 : decode cX12_rule 40 = .ok (.getfield 257, 3) := by decide +kernel
theorem dX12_rule_43 : decode cX12_rule 43 = .ok (.ifCond .ne 170, 3) := by decide +kernel
theorem dX12_rule_46 : decode cX12_rule 46 = .ok (.aload_n 0, 1) := by decide +kernel
theorem dX12_rule_47 : decode cX12_rule 47 = .ok (.invokevirtual 260, 3) := by decide +kernel
theorem dX12_rule_50 : decode cX12_rule 50 = .ok (.ifCond .lt 163, 3) := by decide +kernel
theorem dX12_rule_213 : decode cX12_rule 213 = .ok (.aload_n 0, 1) := by decide +kernel
theorem dX12_rule_214 : decode cX12_rule 214 = .ok (.iconst 0, 1) := by decide +kernel
theorem dX12_rule_215 : decode cX12_rule 215 = .ok (.putfield 249, 3) := by decide +kernel
theorem dX12_rule_218 : decode cX12_rule 218 = .ok (.aload_n 0, 1) := by decide +kernel
theorem dX12_rule_219 : decode cX12_rule 219 = .ok (.getfield 257, 3) := by decide +kernel
theorem dX12_rule_222 : decode cX12_rule 222 = .ok (.ifCond .le 11, 3) := by decide +kernel
theorem dX12_rule_233 : decode cX12_rule 233 = .ok (.aload_n 0, 1) := by decide +kernel
theorem dX12_rule_234 : decode cX12_rule 234 = .ok (.getfield 62, 3) := by decide +kernel
theorem dX12_rule_237 : decode cX12_rule 237 = .ok (.aload_n 0, 1) := by decide +kernel
theorem dX12_rule_238 : decode cX12_rule 238 = .ok (.getfield 303, 3) := by decide +kernel
theorem dX12_rule_241 : decode cX12_rule 241 = .ok (.iload_n 2, 1) := by decide +kernel
theorem dX12_rule_242 : decode cX12_rule 242 = .ok (.iastore, 1) := by decide +kernel
theorem dX12_rule_243 : decode cX12_rule 243 = .ok (.aload_n 0, 1) := by decide +kernel
theorem dX12_rule_244 : decode cX12_rule 244 = .ok (.getfield 59, 3) := by decide +kernel
theorem dX12_rule_247 : decode cX12_rule 247 = .ok (.aload_n 0, 1) := by decide +kernel
theorem dX12_rule_248 : decode cX12_rule 248 = .ok (.getfield 303, 3) := by decide +kernel
theorem dX12_rule_251 : decode cX12_rule 251 = .ok (.iload_n 1, 1) := by decide +kernel
theorem dX12_rule_252 : decode cX12_rule 252 = .ok (.iastore, 1) := by decide +kernel
theorem dX12_rule_253 : decode cX12_rule 253 = .ok (.aload_n 0, 1) := by decide +kernel
theorem dX12_rule_254 : decode cX12_rule 254 = .ok (.dup, 1) := by decide +kernel
theorem dX12_rule_255 : decode cX12_rule 255 = .ok (.getfield 303, 3) := by decide +kernel
theorem dX12_rule_258 : decode cX12_rule 258 = .ok (.iconst 1, 1) := by decide +kernel
theorem dX12_rule_259 : decode cX12_rule 259 = .ok (.iadd, 1) := by decide +kernel
theorem dX12_rule_260 : decode cX12_rule 260 = .ok (.putfield 303, 3) := by decide +kernel
theorem dX12_rule_263 : decode cX12_rule 263 = .ok (.aload_n 0, 1) := by decide +kernel
theorem dX12_rule_264 : decode cX12_rule 264 = .ok (.getfield 303, 3) := by decide +kernel
theorem dX12_rule_267 : decode cX12_rule 267 = .ok (.iconst 1, 1) := by decide +kernel
theorem dX12_rule_268 : decode cX12_rule 268 = .ok (.isub, 1) := by decide +kernel
theorem dX12_rule_269 : decode cX12_rule 269 = .ok (.ireturn, 1) := by decide +kernel
theorem dX12_shared_0 : decode cX12_shared 0 = .ok (.iload_n 1, 1) := by decide +kernel
theorem dX12_shared_1 : decode cX12_shared 1 = .ok (.i2l, 1) := by decide +kernel
theorem dX12_shared_2 : decode cX12_shared 2 = .ok (.lconst 1, 1) := by decide +kernel
theorem dX12_shared_3 : decode cX12_shared 3 = .ok (.iload_n 2, 1) := by decide +kernel
theorem dX12_shared_4 : decode cX12_shared 4 = .ok (.i2l, 1) := by decide +kernel
theorem dX12_shared_5 : decode cX12_shared 5 = .ok (.invokestatic 167, 3) := by decide +kernel
theorem dX12_shared_8 : decode cX12_shared 8 = .ok (.ifCond .eq 30, 3) := by decide +kernel
theorem dX12_shared_11 : decode cX12_shared 11 = .ok (.iload_n 2, 1) := by decide +kernel
theorem dX12_shared_12 : decode cX12_shared 12 = .ok (.sipush 9999, 3) := by decide +kernel
theorem dX12_shared_15 : decode cX12_shared 15 = .ok (.if_icmp .gt 23, 3) := by decide +kernel
theorem dX12_shared_18 : decode cX12_shared 18 = .ok (.iload_n 3, 1) := by decide +kernel
theorem dX12_shared_19 : decode cX12_shared 19 = .ok (.i2l, 1) := by decide +kernel
theorem dX12_shared_20 : decode cX12_shared 20 = .ok (.lconst 1, 1) := by decide +kernel
theorem dX12_shared_21 : decode cX12_shared 21 = .ok (.iload 4, 2) := by decide +kernel
theorem dX12_shared_23 : decode cX12_shared 23 = .ok (.i2l, 1) := by decide +kernel
theorem dX12_shared_24 : decode cX12_shared 24 = .ok (.invokestatic 167, 3) := by decide +kernel
theorem dX12_shared_27 : decode cX12_shared 27 = .ok (.ifCond .eq 11, 3) := by decide +kernel
theorem dX12_shared_30 : decode cX12_shared 30 = .ok (.iload 4, 2) := by decide +kernel
theorem dX12_shared_32 : decode cX12_shared 32 = .ok (.sipush 9999, 3) := by decide +kernel
theorem dX12_shared_35 : decode cX12_shared 35 = .ok (.if_icmp .le 6, 3) := by decide +kernel
theorem dX12_shared_38 : decode cX12_shared 38 = .ok (.ldc 178, 2) := by decide +kernel
theorem dX12_shared_40 : decode cX12_shared 40 = .ok (.ireturn, 1) := by decide +kernel
theorem dX12_shared_41 : decode cX12_shared 41 = .ok (.aload_n 0, 1) := by decide +kernel
theorem dX12_shared_42 : decode cX12_shared 42 = .ok (.getfield 417, 3) := by decide +kernel
theorem dX12_shared_45 : decode cX12_shared 45 = .ok (.bipush 8, 2) := by decide +kernel
theorem dX12_shared_47 : decode cX12_shared 47 = .ok (.if_icmp .ne 6, 3) := by decide +kernel
theorem dX12_shared_53 : decode cX12_shared 53 = .ok (.aload_n 0, 1) := by decide +kernel
theorem dX12_shared_54 : decode cX12_shared 54 = .ok (.getfield 133, 3) := by decide +kernel
theorem dX12_shared_57 : decode cX12_shared 57 = .ok (.aload_n 0, 1) := by decide +kernel
theorem dX12_shared_58 : decode cX12_shared 58 = .ok (.getfield 417, 3) := by decide +kernel
theorem dX12_shared_61 : decode cX12_shared 61 = .ok (.iload_n 1, 1) := by decide +kernel
theorem dX12_shared_62 : decode cX12_shared 62 = .ok (.iload 4, 2) := by decide +kernel
theorem dX12_shared_64 : decode cX12_shared 64 = .ok (.isub, 1) := by decide +kernel
theorem dX12_shared_65 : decode cX12_shared 65 = .ok (.iastore, 1) := by decide +kernel
theorem dX12_shared_66 : decode cX12_shared 66 = .ok (.aload_n 0, 1) := by decide +kernel
theorem dX12_shared_67 : decode cX12_shared 67 = .ok (.getfield 136, 3) := by decide +kernel
theorem dX12_shared_70 : decode cX12_shared 70 = .ok (.aload_n 0, 1) := by decide +kernel
theorem dX12_shared_71 : decode cX12_shared 71 = .ok (.getfield 417, 3) := by decide +kernel
theorem dX12_shared_74 : decode cX12_shared 74 = .ok (.iload_n 2, 1) := by decide +kernel
theorem dX12_shared_75 : decode cX12_shared 75 = .ok (.iload_n 3, 1) := by decide +kernel
theorem dX12_shared_76 : decode cX12_shared 76 = .ok (.isub, 1) := by decide +kernel
theorem dX12_shared_77 : decode cX12_shared 77 = .ok (.iastore, 1) := by decide +kernel
theorem dX12_shared_78 : decode cX12_shared 78 = .ok (.aload_n 0, 1) := by decide +kernel
theorem dX12_shared_79 : decode cX12_shared 79 = .ok (.dup, 1) := by decide +kernel
theorem dX12_shared_80 : decode cX12_shared 80 = .ok (.getfield 417, 3) := by decide +kernel
theorem dX12_shared_83 : decode cX12_shared 83 = .ok (.iconst 1, 1) := by decide +kernel
theorem dX12_shared_84 : decode cX12_shared 84 = .ok (.iadd, 1) := by decide +kernel
theorem dX12_shared_85 : decode cX12_shared 85 = .ok (.putfield 417, 3) := by decide +kernel
theorem dX12_shared_88 : decode cX12_shared 88 = .ok (.aload_n 0, 1) := by decide +kernel
theorem dX12_shared_89 : decode cX12_shared 89 = .ok (.getfield 417, 3) := by decide +kernel
theorem dX12_shared_92 : decode cX12_shared 92 = .ok (.ireturn, 1) := by decide +kernel
theorem dX12_size_0 : decode cX12_size 0 = .ok (.aload_n 0, 1) := by decide +kernel
theorem dX12_size_1 : decode cX12_size 1 = .ok (.iload_n 1, 1) := by decide +kernel
theorem dX12_size_2 : decode cX12_size 2 = .ok (.invokevirtual 183, 3) := by decide +kernel
theorem dX12_size_5 : decode cX12_size 5 = .ok (.ifCond .eq 6, 3) := by decide +kernel
theorem dX12_size_8 : decode cX12_size 8 = .ok (.ldc 187, 2) := by decide +kernel
theorem dX12_size_10 : decode cX12_size 10 = .ok (.ireturn, 1) := by decide +kernel
theorem dX12_skein_0 : decode cX12_skein 0 = .ok (.aload_n 0, 1) := by decide +kernel
theorem dX12_skein_1 : decode cX12_skein 1 = .ok (.iload_n 1, 1) := by decide +kernel
theorem dX12_skein_2 : decode cX12_skein 2 = .ok (.invokevirtual 183, 3) := by decide +kernel
theorem dX12_skein_5 : decode cX12_skein 5 = .ok (.ifCond .eq 6, 3) := by decide +kernel
theorem dX12_skein_8 : decode cX12_skein 8 = .ok (.ldc 187, 2) := by decide +kernel
theorem dX12_skein_10 : decode cX12_skein 10 = .ok (.ireturn, 1) := by decide +kernel
theorem dX12_span_0 : decode cX12_span 0 = .ok (.aload_n 0, 1) := by decide +kernel
theorem dX12_span_1 : decode cX12_span 1 = .ok (.iload_n 1, 1) := by decide +kernel
theorem dX12_span_2 : decode cX12_span 2 = .ok (.invokevirtual 183, 3) := by decide +kernel
theorem dX12_span_5 : decode cX12_span 5 = .ok (.ifCond .eq 7, 3) := by decide +kernel
theorem dX12_span_8 : decode cX12_span 8 = .ok (.ldc2_w 362, 3) := by decide +kernel
theorem dX12_span_11 : decode cX12_span 11 = .ok (.lreturn, 1) := by decide +kernel
theorem dX12_state_0 : decode cX12_state 0 = .ok (.aload_n 0, 1) := by decide +kernel
theorem dX12_state_1 : decode cX12_state 1 = .ok (.iload_n 1, 1) := by decide +kernel
theorem dX12_state_2 : decode cX12_state 2 = .ok (.invokevirtual 183, 3) := by decide +kernel
theorem dX12_state_5 : decode cX12_state 5 = .ok (.ifCond .eq 6, 3) := by decide +kernel
theorem dX12_state_8 : decode cX12_state 8 = .ok (.ldc 187, 2) := by decide +kernel
theorem dX12_state_10 : decode cX12_state 10 = .ok (.ireturn, 1) := by decide +kernel
theorem dX12_stood_0 : decode cX12_stood 0 = .ok (.aload_n 0, 1) := by decide +kernel
theorem dX12_stood_1 : decode cX12_stood 1 = .ok (.iload_n 1, 1) := by decide +kernel
theorem dX12_stood_2 : decode cX12_stood 2 = .ok (.invokevirtual 350, 3) := by decide +kernel
theorem dX12_stood_5 : decode cX12_stood 5 = .ok (.ifCond .eq 13, 3) := by decide +kernel
theorem dX12_stood_8 : decode cX12_stood 8 = .ok (.iload_n 2, 1) := by decide +kernel
theorem dX12_stood_9 : decode cX12_stood 9 = .ok (.i2l, 1) := by decide +kernel
theorem dX12_stood_10 : decode cX12_stood 10 = .ok (.lconst 0, 1) := by decide +kernel
theorem dX12_stood_11 : decode cX12_stood 11 = .ok (.lconst 1, 1) := by decide +kernel
theorem dX12_stood_12 : decode cX12_stood 12 = .ok (.invokestatic 167, 3) := by decide +kernel
theorem dX12_stood_15 : decode cX12_stood 15 = .ok (.ifCond .ne 7, 3) := by decide +kernel
theorem dX12_stood_18 : decode cX12_stood 18 = .ok (.ldc2_w 364, 3) := by decide +kernel
theorem dX12_stood_21 : decode cX12_stood 21 = .ok (.lreturn, 1) := by decide +kernel
theorem dX12_stood_22 : decode cX12_stood 22 = .ok (.lconst 0, 1) := by decide +kernel
theorem dX12_stood_23 : decode cX12_stood 23 = .ok (.lstore_n 3, 1) := by decide +kernel
theorem dX12_stood_24 : decode cX12_stood 24 = .ok (.iconst 0, 1) := by decide +kernel
theorem dX12_stood_25 : decode cX12_stood 25 = .ok (.istore 5, 2) := by decide +kernel
theorem dX12_stood_27 : decode cX12_stood 27 = .ok (.iload 5, 2) := by decide +kernel
theorem dX12_stood_29 : decode cX12_stood 29 = .ok (.aload_n 0, 1) := by decide +kernel
theorem dX12_stood_30 : decode cX12_stood 30 = .ok (.getfield 429, 3) := by decide +kernel
theorem dX12_stood_33 : decode cX12_stood 33 = .ok (.if_icmp .ge 80, 3) := by decide +kernel
theorem dX12_stood_113 : decode cX12_stood 113 = .ok (.lload_n 3, 1) := by decide +kernel
theorem dX12_stood_114 : decode cX12_stood 114 = .ok (.lreturn, 1) := by decide +kernel
theorem dX12_test_0 : decode cX12_test 0 = .ok (.iload_n 1, 1) := by decide +kernel
theorem dX12_test_1 : decode cX12_test 1 = .ok (.i2l, 1) := by decide +kernel
theorem dX12_test_2 : decode cX12_test 2 = .ok (.lconst 0, 1) := by decide +kernel
theorem dX12_test_3 : decode cX12_test 3 = .ok (.ldc2_w 190, 3) := by decide +kernel
theorem dX12_test_6 : decode cX12_test 6 = .ok (.invokestatic 167, 3) := by decide +kernel
theorem dX12_test_9 : decode cX12_test 9 = .ok (.ifCond .eq 17, 3) := by decide +kernel
theorem dX12_test_12 : decode cX12_test 12 = .ok (.iload_n 2, 1) := by decide +kernel
theorem dX12_test_13 : decode cX12_test 13 = .ok (.invokestatic 210, 3) := by decide +kernel
theorem dX12_test_16 : decode cX12_test 16 = .ok (.ifCond .eq 10, 3) := by decide +kernel
theorem dX12_test_19 : decode cX12_test 19 = .ok (.iload_n 3, 1) := by decide +kernel
theorem dX12_test_20 : decode cX12_test 20 = .ok (.invokestatic 210, 3) := by decide +kernel
theorem dX12_test_23 : decode cX12_test 23 = .ok (.ifCond .ne 6, 3) := by decide +kernel
theorem dX12_test_26 : decode cX12_test 26 = .ok (.ldc 178, 2) := by decide +kernel
theorem dX12_test_28 : decode cX12_test 28 = .ok (.ireturn, 1) := by decide +kernel
theorem dX12_test_29 : decode cX12_test 29 = .ok (.aload_n 0, 1) := by decide +kernel
theorem dX12_test_30 : decode cX12_test 30 = .ok (.getfield 213, 3) := by decide +kernel
theorem dX12_test_33 : decode cX12_test 33 = .ok (.bipush 30, 2) := by decide +kernel
theorem dX12_test_35 : decode cX12_test 35 = .ok (.if_icmp .ne 6, 3) := by decide +kernel
theorem dX12_test_41 : decode cX12_test 41 = .ok (.aload_n 0, 1) := by decide +kernel
theorem dX12_test_42 : decode cX12_test 42 = .ok (.getfield 40, 3) := by decide +kernel
theorem dX12_test_45 : decode cX12_test 45 = .ok (.aload_n 0, 1) := by decide +kernel
theorem dX12_test_46 : decode cX12_test 46 = .ok (.getfield 213, 3) := by decide +kernel
theorem dX12_test_49 : decode cX12_test 49 = .ok (.iload_n 1, 1) := by decide +kernel
theorem dX12_test_50 : decode cX12_test 50 = .ok (.iastore, 1) := by decide +kernel
theorem dX12_test_51 : decode cX12_test 51 = .ok (.aload_n 0, 1) := by decide +kernel
theorem dX12_test_52 : decode cX12_test 52 = .ok (.getfield 43, 3) := by decide +kernel
theorem dX12_test_55 : decode cX12_test 55 = .ok (.aload_n 0, 1) := by decide +kernel
theorem dX12_test_56 : decode cX12_test 56 = .ok (.getfield 213, 3) := by decide +kernel
theorem dX12_test_59 : decode cX12_test 59 = .ok (.iload_n 2, 1) := by decide +kernel
theorem dX12_test_60 : decode cX12_test 60 = .ok (.iload_n 3, 1) := by decide +kernel
theorem dX12_test_61 : decode cX12_test 61 = .ok (.isub, 1) := by decide +kernel
theorem dX12_test_62 : decode cX12_test 62 = .ok (.iastore, 1) := by decide +kernel
theorem dX12_test_63 : decode cX12_test 63 = .ok (.aload_n 0, 1) := by decide +kernel
theorem dX12_test_64 : decode cX12_test 64 = .ok (.getfield 46, 3) := by decide +kernel
theorem dX12_test_67 : decode cX12_test 67 = .ok (.aload_n 0, 1) := by decide +kernel
theorem dX12_test_68 : decode cX12_test 68 = .ok (.getfield 213, 3) := by decide +kernel
theorem dX12_test_71 : decode cX12_test 71 = .ok (.aload_n 0, 1) := by decide +kernel
theorem dX12_test_72 : decode cX12_test 72 = .ok (.getfield 171, 3) := by decide +kernel
theorem dX12_test_75 : decode cX12_test 75 = .ok (.iastore, 1) := by decide +kernel
theorem dX12_test_76 : decode cX12_test 76 = .ok (.aload_n 0, 1) := by decide +kernel
theorem dX12_test_77 : decode cX12_test 77 = .ok (.dup, 1) := by decide +kernel
theorem dX12_test_78 : decode cX12_test 78 = .ok (.getfield 213, 3) := by decide +kernel
theorem dX12_test_81 : decode cX12_test 81 = .ok (.iconst 1, 1) := by decide +kernel
theorem dX12_test_82 : decode cX12_test 82 = .ok (.iadd, 1) := by decide +kernel
theorem dX12_test_83 : decode cX12_test 83 = .ok (.putfield 213, 3) := by decide +kernel
theorem dX12_test_86 : decode cX12_test 86 = .ok (.aload_n 0, 1) := by decide +kernel
theorem dX12_test_87 : decode cX12_test 87 = .ok (.getfield 213, 3) := by decide +kernel
theorem dX12_test_90 : decode cX12_test 90 = .ok (.ireturn, 1) := by decide +kernel
theorem dX12_thread_0 : decode cX12_thread 0 = .ok (.aload_n 0, 1) := by decide +kernel
theorem dX12_thread_1 : decode cX12_thread 1 = .ok (.iload_n 1, 1) := by decide +kernel
theorem dX12_thread_2 : decode cX12_thread 2 = .ok (.invokevirtual 183, 3) := by decide +kernel
theorem dX12_thread_5 : decode cX12_thread 5 = .ok (.ifCond .eq 6, 3) := by decide +kernel
theorem dX12_thread_8 : decode cX12_thread 8 = .ok (.ldc 187, 2) := by decide +kernel
theorem dX12_thread_10 : decode cX12_thread 10 = .ok (.ireturn, 1) := by decide +kernel
theorem dX12_told_0 : decode cX12_told 0 = .ok (.aload_n 0, 1) := by decide +kernel
theorem dX12_told_1 : decode cX12_told 1 = .ok (.iload_n 1, 1) := by decide +kernel
theorem dX12_told_2 : decode cX12_told 2 = .ok (.invokevirtual 207, 3) := by decide +kernel
theorem dX12_told_5 : decode cX12_told 5 = .ok (.ifCond .eq 6, 3) := by decide +kernel
theorem dX12_told_8 : decode cX12_told 8 = .ok (.ldc 187, 2) := by decide +kernel
theorem dX12_told_10 : decode cX12_told 10 = .ok (.ireturn, 1) := by decide +kernel
theorem dX12_turns_0 : decode cX12_turns 0 = .ok (.aload_n 0, 1) := by decide +kernel
theorem dX12_turns_1 : decode cX12_turns 1 = .ok (.iload_n 1, 1) := by decide +kernel
theorem dX12_turns_2 : decode cX12_turns 2 = .ok (.invokevirtual 183, 3) := by decide +kernel
theorem dX12_turns_5 : decode cX12_turns 5 = .ok (.ifCond .eq 6, 3) := by decide +kernel
theorem dX12_turns_8 : decode cX12_turns 8 = .ok (.ldc 187, 2) := by decide +kernel
theorem dX12_turns_10 : decode cX12_turns 10 = .ok (.ireturn, 1) := by decide +kernel
theorem dX12_twist_0 : decode cX12_twist 0 = .ok (.aload_n 0, 1) := by decide +kernel
theorem dX12_twist_1 : decode cX12_twist 1 = .ok (.iload_n 1, 1) := by decide +kernel
theorem dX12_twist_2 : decode cX12_twist 2 = .ok (.invokevirtual 183, 3) := by decide +kernel
theorem dX12_twist_5 : decode cX12_twist 5 = .ok (.ifCond .eq 6, 3) := by decide +kernel
theorem dX12_twist_8 : decode cX12_twist 8 = .ok (.ldc 187, 2) := by decide +kernel
theorem dX12_twist_10 : decode cX12_twist 10 = .ok (.ireturn, 1) := by decide +kernel
theorem dX12_undo_0 : decode cX12_undo 0 = .ok (.aload_n 0, 1) := by decide +kernel
theorem dX12_undo_1 : decode cX12_undo 1 = .ok (.iload_n 1, 1) := by decide +kernel
theorem dX12_undo_2 : decode cX12_undo 2 = .ok (.invokevirtual 436, 3) := by decide +kernel
theorem dX12_undo_5 : decode cX12_undo 5 = .ok (.ifCond .eq 6, 3) := by decide +kernel
theorem dX12_undo_8 : decode cX12_undo 8 = .ok (.ldc 187, 2) := by decide +kernel
theorem dX12_undo_10 : decode cX12_undo 10 = .ok (.ireturn, 1) := by decide +kernel
theorem dX1_enact_0 : decode cX1_enact 0 = .ok (.aload_n 0, 1) := by decide +kernel
theorem dX1_enact_1 : decode cX1_enact 1 = .ok (.getfield 11, 3) := by decide +kernel
theorem dX1_enact_4 : decode cX1_enact 4 = .ok (.aload_n 0, 1) := by decide +kernel
theorem dX1_enact_5 : decode cX1_enact 5 = .ok (.getfield 35, 3) := by decide +kernel
theorem dX1_enact_8 : decode cX1_enact 8 = .ok (.iload_n 1, 1) := by decide +kernel
theorem dX1_enact_9 : decode cX1_enact 9 = .ok (.iastore, 1) := by decide +kernel
theorem dX1_enact_10 : decode cX1_enact 10 = .ok (.aload_n 0, 1) := by decide +kernel
theorem dX1_enact_11 : decode cX1_enact 11 = .ok (.getfield 15, 3) := by decide +kernel
theorem dX1_enact_14 : decode cX1_enact 14 = .ok (.aload_n 0, 1) := by decide +kernel
theorem dX1_enact_15 : decode cX1_enact 15 = .ok (.getfield 35, 3) := by decide +kernel
theorem dX1_enact_18 : decode cX1_enact 18 = .ok (.aload_n 0, 1) := by decide +kernel
theorem dX1_enact_19 : decode cX1_enact 19 = .ok (.getfield 39, 3) := by decide +kernel
theorem dX1_enact_22 : decode cX1_enact 22 = .ok (.iastore, 1) := by decide +kernel
theorem dX1_enact_23 : decode cX1_enact 23 = .ok (.aload_n 0, 1) := by decide +kernel
theorem dX1_enact_24 : decode cX1_enact 24 = .ok (.dup, 1) := by decide +kernel
theorem dX1_enact_25 : decode cX1_enact 25 = .ok (.getfield 35, 3) := by decide +kernel
theorem dX1_enact_28 : decode cX1_enact 28 = .ok (.iconst 1, 1) := by decide +kernel
theorem dX1_enact_29 : decode cX1_enact 29 = .ok (.iadd, 1) := by decide +kernel
theorem dX1_enact_30 : decode cX1_enact 30 = .ok (.putfield 35, 3) := by decide +kernel
theorem dX1_enact_33 : decode cX1_enact 33 = .ok (.aload_n 0, 1) := by decide +kernel
theorem dX1_enact_34 : decode cX1_enact 34 = .ok (.getfield 35, 3) := by decide +kernel
theorem dX1_enact_37 : decode cX1_enact 37 = .ok (.iconst 1, 1) := by decide +kernel
theorem dX1_enact_38 : decode cX1_enact 38 = .ok (.isub, 1) := by decide +kernel
theorem dX1_enact_39 : decode cX1_enact 39 = .ok (.ireturn, 1) := by decide +kernel
theorem dX1_findCounting_0 : decode cX1_findCounting 0 = .ok (.aload_n 0, 1) := by decide +kernel
theorem dX1_findCounting_1 : decode cX1_findCounting 1 = .ok (.getfield 35, 3) := by decide +kernel
theorem dX1_findCounting_4 : decode cX1_findCounting 4 = .ok (.iconst 1, 1) := by decide +kernel
theorem dX1_findCounting_5 : decode cX1_findCounting 5 = .ok (.isub, 1) := by decide +kernel
theorem dX1_findCounting_6 : decode cX1_findCounting 6 = .ok (.istore_n 2, 1) := by decide +kernel
theorem dX1_findCounting_7 : decode cX1_findCounting 7 = .ok (.iload_n 2, 1) := by decide +kernel
theorem dX1_findCounting_8 : decode cX1_findCounting 8 = .ok (.ifCond .lt 38, 3) := by decide +kernel
theorem dX1_findCounting_46 : decode cX1_findCounting 46 = .ok (.return_, 1) := by decide +kernel
theorem dX1_has_0 : decode cX1_has 0 = .ok (.iload_n 1, 1) := by decide +kernel
theorem dX1_has_1 : decode cX1_has 1 = .ok (.ifCond .lt 34, 3) := by decide +kernel
theorem dX1_has_4 : decode cX1_has 4 = .ok (.iload_n 1, 1) := by decide +kernel
theorem dX1_has_5 : decode cX1_has 5 = .ok (.bipush 100, 2) := by decide +kernel
theorem dX1_has_7 : decode cX1_has 7 = .ok (.idiv, 1) := by decide +kernel
theorem dX1_has_8 : decode cX1_has 8 = .ok (.aload_n 0, 1) := by decide +kernel
theorem dX1_has_9 : decode cX1_has 9 = .ok (.getfield 35, 3) := by decide +kernel
theorem dX1_has_12 : decode cX1_has 12 = .ok (.if_icmp .ge 23, 3) := by decide +kernel
theorem dX1_has_35 : decode cX1_has 35 = .ok (.iconst 0, 1) := by decide +kernel
theorem dX1_has_36 : decode cX1_has 36 = .ok (.ireturn, 1) := by decide +kernel
theorem dX1_holding_0 : decode cX1_holding 0 = .ok (.aload_n 0, 1) := by decide +kernel
theorem dX1_holding_1 : decode cX1_holding 1 = .ok (.iload_n 2, 1) := by decide +kernel
theorem dX1_holding_2 : decode cX1_holding 2 = .ok (.invokevirtual 42, 3) := by decide +kernel
theorem dX1_holding_5 : decode cX1_holding 5 = .ok (.getstatic 46, 3) := by decide +kernel
theorem dX1_holding_8 : decode cX1_holding 8 = .ok (.iload_n 1, 1) := by decide +kernel
theorem dX1_holding_9 : decode cX1_holding 9 = .ok (.iaload, 1) := by decide +kernel
theorem dX1_holding_10 : decode cX1_holding 10 = .ok (.istore_n 3, 1) := by decide +kernel
theorem dX1_holding_11 : decode cX1_holding 11 = .ok (.iconst (-1), 1) := by decide +kernel
theorem dX1_holding_12 : decode cX1_holding 12 = .ok (.istore 4, 2) := by decide +kernel
theorem dX1_holding_14 : decode cX1_holding 14 = .ok (.iconst 0, 1) := by decide +kernel
theorem dX1_holding_15 : decode cX1_holding 15 = .ok (.istore 5, 2) := by decide +kernel
theorem dX1_holding_17 : decode cX1_holding 17 = .ok (.iload 5, 2) := by decide +kernel
theorem dX1_holding_19 : decode cX1_holding 19 = .ok (.aload_n 0, 1) := by decide +kernel
theorem dX1_holding_20 : decode cX1_holding 20 = .ok (.getfield 35, 3) := by decide +kernel
theorem dX1_holding_23 : decode cX1_holding 23 = .ok (.if_icmp .ge 63, 3) := by decide +kernel
theorem dX1_holding_86 : decode cX1_holding 86 = .ok (.iload_n 3, 1) := by decide +kernel
theorem dX1_holding_87 : decode cX1_holding 87 = .ok (.ireturn, 1) := by decide +kernel
theorem dX1_startDraft_0 : decode cX1_startDraft 0 = .ok (.aload_n 0, 1) := by decide +kernel
theorem dX1_startDraft_1 : decode cX1_startDraft 1 = .ok (.iconst 0, 1) := by decide +kernel
theorem dX1_startDraft_2 : decode cX1_startDraft 2 = .ok (.putfield 39, 3) := by decide +kernel
theorem dX1_startDraft_5 : decode cX1_startDraft 5 = .ok (.return_, 1) := by decide +kernel
theorem dX4_compare_0 : decode cX4_compare 0 = .ok (.aload_n 0, 1) := by decide +kernel
theorem dX4_compare_1 : decode cX4_compare 1 = .ok (.getfield 9, 3) := by decide +kernel
theorem dX4_compare_4 : decode cX4_compare 4 = .ok (.aload_n 0, 1) := by decide +kernel
theorem dX4_compare_5 : decode cX4_compare 5 = .ok (.getfield 16, 3) := by decide +kernel
theorem dX4_compare_8 : decode cX4_compare 8 = .ok (.iload_n 1, 1) := by decide +kernel
theorem dX4_compare_9 : decode cX4_compare 9 = .ok (.iastore, 1) := by decide +kernel
theorem dX4_compare_10 : decode cX4_compare 10 = .ok (.aload_n 0, 1) := by decide +kernel
theorem dX4_compare_11 : decode cX4_compare 11 = .ok (.getfield 13, 3) := by decide +kernel
theorem dX4_compare_14 : decode cX4_compare 14 = .ok (.aload_n 0, 1) := by decide +kernel
theorem dX4_compare_15 : decode cX4_compare 15 = .ok (.getfield 16, 3) := by decide +kernel
theorem dX4_compare_18 : decode cX4_compare 18 = .ok (.iload_n 2, 1) := by decide +kernel
theorem dX4_compare_19 : decode cX4_compare 19 = .ok (.iastore, 1) := by decide +kernel
theorem dX4_compare_20 : decode cX4_compare 20 = .ok (.aload_n 0, 1) := by decide +kernel
theorem dX4_compare_21 : decode cX4_compare 21 = .ok (.dup, 1) := by decide +kernel
theorem dX4_compare_22 : decode cX4_compare 22 = .ok (.getfield 16, 3) := by decide +kernel
theorem dX4_compare_25 : decode cX4_compare 25 = .ok (.iconst 1, 1) := by decide +kernel
theorem dX4_compare_26 : decode cX4_compare 26 = .ok (.iadd, 1) := by decide +kernel
theorem dX4_compare_27 : decode cX4_compare 27 = .ok (.putfield 16, 3) := by decide +kernel
theorem dX4_compare_30 : decode cX4_compare 30 = .ok (.aload_n 0, 1) := by decide +kernel
theorem dX4_compare_31 : decode cX4_compare 31 = .ok (.getfield 16, 3) := by decide +kernel
theorem dX4_compare_34 : decode cX4_compare 34 = .ok (.ireturn, 1) := by decide +kernel
theorem dX5_arrange_0 : decode cX5_arrange 0 = .ok (.iload_n 1, 1) := by decide +kernel
theorem dX5_arrange_1 : decode cX5_arrange 1 = .ok (.aload_n 0, 1) := by decide +kernel
theorem dX5_arrange_2 : decode cX5_arrange 2 = .ok (.getfield 29, 3) := by decide +kernel
theorem dX5_arrange_5 : decode cX5_arrange 5 = .ok (.if_icmp .ne 4, 3) := by decide +kernel
theorem dX5_arrange_9 : decode cX5_arrange 9 = .ok (.aload_n 0, 1) := by decide +kernel
theorem dX5_arrange_10 : decode cX5_arrange 10 = .ok (.ldc 32, 2) := by decide +kernel
theorem dX5_arrange_12 : decode cX5_arrange 12 = .ok (.putfield 26, 3) := by decide +kernel
theorem dX5_arrange_15 : decode cX5_arrange 15 = .ok (.aload_n 0, 1) := by decide +kernel
theorem dX5_arrange_16 : decode cX5_arrange 16 = .ok (.iconst 0, 1) := by decide +kernel
theorem dX5_arrange_17 : decode cX5_arrange 17 = .ok (.iload_n 1, 1) := by decide +kernel
theorem dX5_arrange_18 : decode cX5_arrange 18 = .ok (.iconst 0, 1) := by decide +kernel
theorem dX5_arrange_19 : decode cX5_arrange 19 = .ok (.invokevirtual 33, 3) := by decide +kernel
theorem dX5_arrange_22 : decode cX5_arrange 22 = .ok (.aload_n 0, 1) := by decide +kernel
theorem dX5_arrange_23 : decode cX5_arrange 23 = .ok (.iload_n 1, 1) := by decide +kernel
theorem dX5_arrange_24 : decode cX5_arrange 24 = .ok (.putfield 29, 3) := by decide +kernel
theorem dX5_arrange_27 : decode cX5_arrange 27 = .ok (.return_, 1) := by decide +kernel
theorem dX5_bring_0 : decode cX5_bring 0 = .ok (.aload_n 0, 1) := by decide +kernel
theorem dX5_bring_1 : decode cX5_bring 1 = .ok (.getfield 9, 3) := by decide +kernel
theorem dX5_bring_4 : decode cX5_bring 4 = .ok (.aload_n 0, 1) := by decide +kernel
theorem dX5_bring_5 : decode cX5_bring 5 = .ok (.getfield 22, 3) := by decide +kernel
theorem dX5_bring_8 : decode cX5_bring 8 = .ok (.iload_n 1, 1) := by decide +kernel
theorem dX5_bring_9 : decode cX5_bring 9 = .ok (.iastore, 1) := by decide +kernel
theorem dX5_bring_10 : decode cX5_bring 10 = .ok (.aload_n 0, 1) := by decide +kernel
theorem dX5_bring_11 : decode cX5_bring 11 = .ok (.dup, 1) := by decide +kernel
theorem dX5_bring_12 : decode cX5_bring 12 = .ok (.getfield 22, 3) := by decide +kernel
theorem dX5_bring_15 : decode cX5_bring 15 = .ok (.iconst 1, 1) := by decide +kernel
theorem dX5_bring_16 : decode cX5_bring 16 = .ok (.iadd, 1) := by decide +kernel
theorem dX5_bring_17 : decode cX5_bring 17 = .ok (.putfield 22, 3) := by decide +kernel
theorem dX5_bring_20 : decode cX5_bring 20 = .ok (.aload_n 0, 1) := by decide +kernel
theorem dX5_bring_21 : decode cX5_bring 21 = .ok (.iconst 0, 1) := by decide +kernel
theorem dX5_bring_22 : decode cX5_bring 22 = .ok (.putfield 29, 3) := by decide +kernel
theorem dX5_bring_25 : decode cX5_bring 25 = .ok (.aload_n 0, 1) := by decide +kernel
theorem dX5_bring_26 : decode cX5_bring 26 = .ok (.getfield 22, 3) := by decide +kernel
theorem dX5_bring_29 : decode cX5_bring 29 = .ok (.ireturn, 1) := by decide +kernel
theorem dX5_clear_0 : decode cX5_clear 0 = .ok (.aload_n 0, 1) := by decide +kernel
theorem dX5_clear_1 : decode cX5_clear 1 = .ok (.getfield 22, 3) := by decide +kernel
theorem dX5_clear_4 : decode cX5_clear 4 = .ok (.istore_n 1, 1) := by decide +kernel
theorem dX5_clear_5 : decode cX5_clear 5 = .ok (.aload_n 0, 1) := by decide +kernel
theorem dX5_clear_6 : decode cX5_clear 6 = .ok (.iconst 0, 1) := by decide +kernel
theorem dX5_clear_7 : decode cX5_clear 7 = .ok (.putfield 22, 3) := by decide +kernel
theorem dX5_clear_10 : decode cX5_clear 10 = .ok (.aload_n 0, 1) := by decide +kernel
theorem dX5_clear_11 : decode cX5_clear 11 = .ok (.iconst 0, 1) := by decide +kernel
theorem dX5_clear_12 : decode cX5_clear 12 = .ok (.putfield 29, 3) := by decide +kernel
theorem dX5_clear_15 : decode cX5_clear 15 = .ok (.iload_n 1, 1) := by decide +kernel
theorem dX5_clear_16 : decode cX5_clear 16 = .ok (.ireturn, 1) := by decide +kernel
theorem dX5_place_0 : decode cX5_place 0 = .ok (.iload_n 3, 1) := by decide +kernel
theorem dX5_place_1 : decode cX5_place 1 = .ok (.aload_n 0, 1) := by decide +kernel
theorem dX5_place_2 : decode cX5_place 2 = .ok (.getfield 26, 3) := by decide +kernel
theorem dX5_place_5 : decode cX5_place 5 = .ok (.if_icmp .lt 4, 3) := by decide +kernel
theorem dX5_place_9 : decode cX5_place 9 = .ok (.iload_n 1, 1) := by decide +kernel
theorem dX5_place_10 : decode cX5_place 10 = .ok (.aload_n 0, 1) := by decide +kernel
theorem dX5_place_11 : decode cX5_place 11 = .ok (.getfield 22, 3) := by decide +kernel
theorem dX5_place_14 : decode cX5_place 14 = .ok (.if_icmp .lt 26, 3) := by decide +kernel
theorem dX5_place_17 : decode cX5_place 17 = .ok (.aload_n 0, 1) := by decide +kernel
theorem dX5_place_18 : decode cX5_place 18 = .ok (.iload_n 3, 1) := by decide +kernel
theorem dX5_place_19 : decode cX5_place 19 = .ok (.putfield 26, 3) := by decide +kernel
theorem dX5_place_22 : decode cX5_place 22 = .ok (.aload_n 0, 1) := by decide +kernel
theorem dX5_place_23 : decode cX5_place 23 = .ok (.getfield 13, 3) := by decide +kernel
theorem dX5_place_26 : decode cX5_place 26 = .ok (.iconst 0, 1) := by decide +kernel
theorem dX5_place_27 : decode cX5_place 27 = .ok (.aload_n 0, 1) := by decide +kernel
theorem dX5_place_28 : decode cX5_place 28 = .ok (.getfield 19, 3) := by decide +kernel
theorem dX5_place_31 : decode cX5_place 31 = .ok (.iconst 0, 1) := by decide +kernel
theorem dX5_place_32 : decode cX5_place 32 = .ok (.aload_n 0, 1) := by decide +kernel
theorem dX5_place_33 : decode cX5_place 33 = .ok (.getfield 22, 3) := by decide +kernel
theorem dX5_place_36 : decode cX5_place 36 = .ok (.invokestatic 37, 3) := by decide +kernel
theorem dX5_place_39 : decode cX5_place 39 = .ok (.return_, 1) := by decide +kernel
theorem dX6_has_0 : decode cX6_has 0 = .ok (.iload_n 1, 1) := by decide +kernel
theorem dX6_has_1 : decode cX6_has 1 = .ok (.ifCond .lt 15, 3) := by decide +kernel
theorem dX6_has_4 : decode cX6_has 4 = .ok (.iload_n 1, 1) := by decide +kernel
theorem dX6_has_5 : decode cX6_has 5 = .ok (.aload_n 0, 1) := by decide +kernel
theorem dX6_has_6 : decode cX6_has 6 = .ok (.getfield 34, 3) := by decide +kernel
theorem dX6_has_9 : decode cX6_has 9 = .ok (.if_icmp .ge 7, 3) := by decide +kernel
theorem dX6_has_16 : decode cX6_has 16 = .ok (.iconst 0, 1) := by decide +kernel
theorem dX6_has_17 : decode cX6_has 17 = .ok (.ireturn, 1) := by decide +kernel
theorem dX6_standing_0 : decode cX6_standing 0 = .ok (.lconst 0, 1) := by decide +kernel
theorem dX6_standing_1 : decode cX6_standing 1 = .ok (.lstore_n 3, 1) := by decide +kernel
theorem dX6_standing_2 : decode cX6_standing 2 = .ok (.iconst 0, 1) := by decide +kernel
theorem dX6_standing_3 : decode cX6_standing 3 = .ok (.istore 5, 2) := by decide +kernel
theorem dX6_standing_5 : decode cX6_standing 5 = .ok (.iload 5, 2) := by decide +kernel
theorem dX6_standing_7 : decode cX6_standing 7 = .ok (.aload_n 0, 1) := by decide +kernel
theorem dX6_standing_8 : decode cX6_standing 8 = .ok (.getfield 34, 3) := by decide +kernel
theorem dX6_standing_11 : decode cX6_standing 11 = .ok (.if_icmp .ge 76, 3) := by decide +kernel
theorem dX6_standing_87 : decode cX6_standing 87 = .ok (.lload_n 3, 1) := by decide +kernel
theorem dX6_standing_88 : decode cX6_standing 88 = .ok (.lreturn, 1) := by decide +kernel
theorem dX8_read_0 : decode cX8_read 0 = .ok (.aload_n 0, 1) := by decide +kernel
theorem dX8_read_1 : decode cX8_read 1 = .ok (.iconst 0, 1) := by decide +kernel
theorem dX8_read_2 : decode cX8_read 2 = .ok (.putfield 25, 3) := by decide +kernel
theorem dX8_read_5 : decode cX8_read 5 = .ok (.aload_n 0, 1) := by decide +kernel
theorem dX8_read_6 : decode cX8_read 6 = .ok (.iconst 0, 1) := by decide +kernel
theorem dX8_read_7 : decode cX8_read 7 = .ok (.putfield 22, 3) := by decide +kernel
theorem dX8_read_10 : decode cX8_read 10 = .ok (.aload_n 0, 1) := by decide +kernel
theorem dX8_read_11 : decode cX8_read 11 = .ok (.iconst (-1), 1) := by decide +kernel
theorem dX8_read_12 : decode cX8_read 12 = .ok (.putfield 19, 3) := by decide +kernel
theorem dX8_read_15 : decode cX8_read 15 = .ok (.aload_n 0, 1) := by decide +kernel
theorem dX8_read_16 : decode cX8_read 16 = .ok (.getfield 28, 3) := by decide +kernel
theorem dX8_read_19 : decode cX8_read 19 = .ok (.invokevirtual 32, 3) := by decide +kernel
theorem dX8_read_22 : decode cX8_read 22 = .ok (.aload_n 0, 1) := by decide +kernel
theorem dX8_read_23 : decode cX8_read 23 = .ok (.invokevirtual 37, 3) := by decide +kernel
theorem dX8_read_26 : decode cX8_read 26 = .ok (.istore_n 1, 1) := by decide +kernel
theorem dX8_read_27 : decode cX8_read 27 = .ok (.iconst 0, 1) := by decide +kernel
theorem dX8_read_28 : decode cX8_read 28 = .ok (.istore_n 2, 1) := by decide +kernel
theorem dX8_read_29 : decode cX8_read 29 = .ok (.iload_n 1, 1) := by decide +kernel
theorem dX8_read_30 : decode cX8_read 30 = .ok (.ifCond .eq 35, 3) := by decide +kernel
theorem dX8_read_65 : decode cX8_read 65 = .ok (.aload_n 0, 1) := by decide +kernel
theorem dX8_read_66 : decode cX8_read 66 = .ok (.iconst 0, 1) := by decide +kernel
theorem dX8_read_67 : decode cX8_read 67 = .ok (.putfield 15, 3) := by decide +kernel
theorem dX8_read_70 : decode cX8_read 70 = .ok (.aload_n 0, 1) := by decide +kernel
theorem dX8_read_71 : decode cX8_read 71 = .ok (.getfield 22, 3) := by decide +kernel
theorem dX8_read_74 : decode cX8_read 74 = .ok (.ireturn, 1) := by decide +kernel
theorem dX8_skipBlanks_0 : decode cX8_skipBlanks 0 = .ok (.aload_n 0, 1) := by decide +kernel
theorem dX8_skipBlanks_1 : decode cX8_skipBlanks 1 = .ok (.getfield 25, 3) := by decide +kernel
theorem dX8_skipBlanks_4 : decode cX8_skipBlanks 4 = .ok (.aload_n 0, 1) := by decide +kernel
theorem dX8_skipBlanks_5 : decode cX8_skipBlanks 5 = .ok (.getfield 15, 3) := by decide +kernel
theorem dX8_skipBlanks_8 : decode cX8_skipBlanks 8 = .ok (.if_icmp .ge 30, 3) := by decide +kernel
theorem dX8_skipBlanks_38 : decode cX8_skipBlanks 38 = .ok (.aload_n 0, 1) := by decide +kernel
theorem dX8_skipBlanks_39 : decode cX8_skipBlanks 39 = .ok (.getfield 25, 3) := by decide +kernel
theorem dX8_skipBlanks_42 : decode cX8_skipBlanks 42 = .ok (.aload_n 0, 1) := by decide +kernel
theorem dX8_skipBlanks_43 : decode cX8_skipBlanks 43 = .ok (.getfield 15, 3) := by decide +kernel
theorem dX8_skipBlanks_46 : decode cX8_skipBlanks 46 = .ok (.if_icmp .ge 7, 3) := by decide +kernel
theorem dX8_skipBlanks_53 : decode cX8_skipBlanks 53 = .ok (.iconst 0, 1) := by decide +kernel
theorem dX8_skipBlanks_54 : decode cX8_skipBlanks 54 = .ok (.ireturn, 1) := by decide +kernel
theorem dX8_take_0 : decode cX8_take 0 = .ok (.iload_n 1, 1) := by decide +kernel
theorem dX8_take_1 : decode cX8_take 1 = .ok (.iconst 1, 1) := by decide +kernel
theorem dX8_take_2 : decode cX8_take 2 = .ok (.isub, 1) := by decide +kernel
theorem dX8_take_3 : decode cX8_take 3 = .ok (.istore 4, 2) := by decide +kernel
theorem dX8_take_5 : decode cX8_take 5 = .ok (.iload 4, 2) := by decide +kernel
theorem dX8_take_7 : decode cX8_take 7 = .ok (.ifCond .lt 37, 3) := by decide +kernel
theorem dX8_take_10 : decode cX8_take 10 = .ok (.aload_n 0, 1) := by decide +kernel
theorem dX8_take_11 : decode cX8_take 11 = .ok (.getfield 11, 3) := by decide +kernel
theorem dX8_take_14 : decode cX8_take 14 = .ok (.aload_n 0, 1) := by decide +kernel
theorem dX8_take_15 : decode cX8_take 15 = .ok (.getfield 15, 3) := by decide +kernel
theorem dX8_take_18 : decode cX8_take 18 = .ok (.lload_n 2, 1) := by decide +kernel
theorem dX8_take_19 : decode cX8_take 19 = .ok (.bipush 8, 2) := by decide +kernel
theorem dX8_take_21 : decode cX8_take 21 = .ok (.iload 4, 2) := by decide +kernel
theorem dX8_take_23 : decode cX8_take 23 = .ok (.imul, 1) := by decide +kernel
theorem dX8_take_24 : decode cX8_take 24 = .ok (.lushr, 1) := by decide +kernel
theorem dX8_take_25 : decode cX8_take 25 = .ok (.l2i, 1) := by decide +kernel
theorem dX8_take_26 : decode cX8_take 26 = .ok (.i2b, 1) := by decide +kernel
theorem dX8_take_27 : decode cX8_take 27 = .ok (.bastore, 1) := by decide +kernel
theorem dX8_take_28 : decode cX8_take 28 = .ok (.aload_n 0, 1) := by decide +kernel
theorem dX8_take_29 : decode cX8_take 29 = .ok (.dup, 1) := by decide +kernel
theorem dX8_take_30 : decode cX8_take 30 = .ok (.getfield 15, 3) := by decide +kernel
theorem dX8_take_33 : decode cX8_take 33 = .ok (.iconst 1, 1) := by decide +kernel
theorem dX8_take_34 : decode cX8_take 34 = .ok (.iadd, 1) := by decide +kernel
theorem dX8_take_35 : decode cX8_take 35 = .ok (.putfield 15, 3) := by decide +kernel
theorem dX8_take_38 : decode cX8_take 38 = .ok (.iinc 4 (-1), 3) := by decide +kernel
theorem dX8_take_41 : decode cX8_take 41 = .ok (.goto (-36), 3) := by decide +kernel
theorem dX8_take_44 : decode cX8_take 44 = .ok (.aload_n 0, 1) := by decide +kernel
theorem dX8_take_45 : decode cX8_take 45 = .ok (.getfield 15, 3) := by decide +kernel
theorem dX8_take_48 : decode cX8_take 48 = .ok (.ireturn, 1) := by decide +kernel
theorem dX9_driftOf_0 : decode cX9_driftOf 0 = .ok (.iload_n 1, 1) := by decide +kernel
theorem dX9_driftOf_1 : decode cX9_driftOf 1 = .ok (.iconst (-1), 1) := by decide +kernel
theorem dX9_driftOf_2 : decode cX9_driftOf 2 = .ok (.if_icmp .eq 10, 3) := by decide +kernel
theorem dX9_driftOf_12 : decode cX9_driftOf 12 = .ok (.iload_n 2, 1) := by decide +kernel
theorem dX9_driftOf_13 : decode cX9_driftOf 13 = .ok (.iconst (-1), 1) := by decide +kernel
theorem dX9_driftOf_14 : decode cX9_driftOf 14 = .ok (.if_icmp .ne 7, 3) := by decide +kernel
theorem dX9_driftOf_17 : decode cX9_driftOf 17 = .ok (.iconst 0, 1) := by decide +kernel
theorem dX9_driftOf_18 : decode cX9_driftOf 18 = .ok (.goto 9, 3) := by decide +kernel
theorem dX9_driftOf_27 : decode cX9_driftOf 27 = .ok (.ireturn, 1) := by decide +kernel
theorem dX9_firstAfter_0 : decode cX9_firstAfter 0 = .ok (.iconst 0, 1) := by decide +kernel
theorem dX9_firstAfter_1 : decode cX9_firstAfter 1 = .ok (.istore_n 3, 1) := by decide +kernel
theorem dX9_firstAfter_2 : decode cX9_firstAfter 2 = .ok (.iload_n 3, 1) := by decide +kernel
theorem dX9_firstAfter_3 : decode cX9_firstAfter 3 = .ok (.aload_n 0, 1) := by decide +kernel
theorem dX9_firstAfter_4 : decode cX9_firstAfter 4 = .ok (.getfield 21, 3) := by decide +kernel
theorem dX9_firstAfter_7 : decode cX9_firstAfter 7 = .ok (.if_icmp .ge 31, 3) := by decide +kernel
theorem dX9_firstAfter_38 : decode cX9_firstAfter 38 = .ok (.iconst (-1), 1) := by decide +kernel
theorem dX9_firstAfter_39 : decode cX9_firstAfter 39 = .ok (.ireturn, 1) := by decide +kernel
theorem dX9_greatest_0 : decode cX9_greatest 0 = .ok (.aload_n 0, 1) := by decide +kernel
theorem dX9_greatest_1 : decode cX9_greatest 1 = .ok (.iload_n 1, 1) := by decide +kernel
theorem dX9_greatest_2 : decode cX9_greatest 2 = .ok (.iload_n 2, 1) := by decide +kernel
theorem dX9_greatest_3 : decode cX9_greatest 3 = .ok (.invokevirtual 25, 3) := by decide +kernel
theorem dX9_greatest_6 : decode cX9_greatest 6 = .ok (.istore_n 3, 1) := by decide +kernel
theorem dX9_greatest_7 : decode cX9_greatest 7 = .ok (.aload_n 0, 1) := by decide +kernel
theorem dX9_greatest_8 : decode cX9_greatest 8 = .ok (.iload_n 1, 1) := by decide +kernel
theorem dX9_greatest_9 : decode cX9_greatest 9 = .ok (.iload_n 2, 1) := by decide +kernel
theorem dX9_greatest_10 : decode cX9_greatest 10 = .ok (.invokevirtual 29, 3) := by decide +kernel
theorem dX9_greatest_13 : decode cX9_greatest 13 = .ok (.istore 4, 2) := by decide +kernel
theorem dX9_greatest_15 : decode cX9_greatest 15 = .ok (.aload_n 0, 1) := by decide +kernel
theorem dX9_greatest_16 : decode cX9_greatest 16 = .ok (.iload_n 3, 1) := by decide +kernel
theorem dX9_greatest_17 : decode cX9_greatest 17 = .ok (.iload 4, 2) := by decide +kernel
theorem dX9_greatest_19 : decode cX9_greatest 19 = .ok (.invokevirtual 32, 3) := by decide +kernel
theorem dX9_greatest_22 : decode cX9_greatest 22 = .ok (.aload_n 0, 1) := by decide +kernel
theorem dX9_greatest_23 : decode cX9_greatest 23 = .ok (.iload 4, 2) := by decide +kernel
theorem dX9_greatest_25 : decode cX9_greatest 25 = .ok (.iload_n 3, 1) := by decide +kernel
theorem dX9_greatest_26 : decode cX9_greatest 26 = .ok (.invokevirtual 32, 3) := by decide +kernel
theorem dX9_greatest_29 : decode cX9_greatest 29 = .ok (.invokestatic 40, 3) := by decide +kernel
theorem dX9_greatest_32 : decode cX9_greatest 32 = .ok (.ireturn, 1) := by decide +kernel
theorem dX9_lastBy_0 : decode cX9_lastBy 0 = .ok (.iconst (-1), 1) := by decide +kernel
theorem dX9_lastBy_1 : decode cX9_lastBy 1 = .ok (.istore_n 3, 1) := by decide +kernel
theorem dX9_lastBy_2 : decode cX9_lastBy 2 = .ok (.iconst 0, 1) := by decide +kernel
theorem dX9_lastBy_3 : decode cX9_lastBy 3 = .ok (.istore 4, 2) := by decide +kernel
theorem dX9_lastBy_5 : decode cX9_lastBy 5 = .ok (.iload 4, 2) := by decide +kernel
theorem dX9_lastBy_7 : decode cX9_lastBy 7 = .ok (.aload_n 0, 1) := by decide +kernel
theorem dX9_lastBy_8 : decode cX9_lastBy 8 = .ok (.getfield 21, 3) := by decide +kernel
theorem dX9_lastBy_11 : decode cX9_lastBy 11 = .ok (.if_icmp .ge 34, 3) := by decide +kernel
theorem dX9_lastBy_45 : decode cX9_lastBy 45 = .ok (.iload_n 3, 1) := by decide +kernel
theorem dX9_lastBy_46 : decode cX9_lastBy 46 = .ok (.ireturn, 1) := by decide +kernel
theorem dX9_least_0 : decode cX9_least 0 = .ok (.aload_n 0, 1) := by decide +kernel
theorem dX9_least_1 : decode cX9_least 1 = .ok (.iload_n 1, 1) := by decide +kernel
theorem dX9_least_2 : decode cX9_least 2 = .ok (.iload_n 2, 1) := by decide +kernel
theorem dX9_least_3 : decode cX9_least 3 = .ok (.invokevirtual 25, 3) := by decide +kernel
theorem dX9_least_6 : decode cX9_least 6 = .ok (.istore_n 3, 1) := by decide +kernel
theorem dX9_least_7 : decode cX9_least 7 = .ok (.aload_n 0, 1) := by decide +kernel
theorem dX9_least_8 : decode cX9_least 8 = .ok (.iload_n 1, 1) := by decide +kernel
theorem dX9_least_9 : decode cX9_least 9 = .ok (.iload_n 2, 1) := by decide +kernel
theorem dX9_least_10 : decode cX9_least 10 = .ok (.invokevirtual 29, 3) := by decide +kernel
theorem dX9_least_13 : decode cX9_least 13 = .ok (.istore 4, 2) := by decide +kernel
theorem dX9_least_15 : decode cX9_least 15 = .ok (.aload_n 0, 1) := by decide +kernel
theorem dX9_least_16 : decode cX9_least 16 = .ok (.iload_n 3, 1) := by decide +kernel
theorem dX9_least_17 : decode cX9_least 17 = .ok (.iload 4, 2) := by decide +kernel
theorem dX9_least_19 : decode cX9_least 19 = .ok (.invokevirtual 32, 3) := by decide +kernel
theorem dX9_least_22 : decode cX9_least 22 = .ok (.aload_n 0, 1) := by decide +kernel
theorem dX9_least_23 : decode cX9_least 23 = .ok (.iload 4, 2) := by decide +kernel
theorem dX9_least_25 : decode cX9_least 25 = .ok (.iload_n 3, 1) := by decide +kernel
theorem dX9_least_26 : decode cX9_least 26 = .ok (.invokevirtual 32, 3) := by decide +kernel
theorem dX9_least_29 : decode cX9_least 29 = .ok (.invokestatic 35, 3) := by decide +kernel
theorem dX9_least_32 : decode cX9_least 32 = .ok (.ireturn, 1) := by decide +kernel
theorem dX9_note_0 : decode cX9_note 0 = .ok (.aload_n 0, 1) := by decide +kernel
theorem dX9_note_1 : decode cX9_note 1 = .ok (.getfield 11, 3) := by decide +kernel
theorem dX9_note_4 : decode cX9_note 4 = .ok (.aload_n 0, 1) := by decide +kernel
theorem dX9_note_5 : decode cX9_note 5 = .ok (.getfield 21, 3) := by decide +kernel
theorem dX9_note_8 : decode cX9_note 8 = .ok (.iload_n 1, 1) := by decide +kernel
theorem dX9_note_9 : decode cX9_note 9 = .ok (.iastore, 1) := by decide +kernel
theorem dX9_note_10 : decode cX9_note 10 = .ok (.aload_n 0, 1) := by decide +kernel
theorem dX9_note_11 : decode cX9_note 11 = .ok (.getfield 15, 3) := by decide +kernel
theorem dX9_note_14 : decode cX9_note 14 = .ok (.aload_n 0, 1) := by decide +kernel
theorem dX9_note_15 : decode cX9_note 15 = .ok (.getfield 21, 3) := by decide +kernel
theorem dX9_note_18 : decode cX9_note 18 = .ok (.iload_n 2, 1) := by decide +kernel
theorem dX9_note_19 : decode cX9_note 19 = .ok (.iastore, 1) := by decide +kernel
theorem dX9_note_20 : decode cX9_note 20 = .ok (.aload_n 0, 1) := by decide +kernel
theorem dX9_note_21 : decode cX9_note 21 = .ok (.getfield 18, 3) := by decide +kernel
theorem dX9_note_24 : decode cX9_note 24 = .ok (.aload_n 0, 1) := by decide +kernel
theorem dX9_note_25 : decode cX9_note 25 = .ok (.getfield 21, 3) := by decide +kernel
theorem dX9_note_28 : decode cX9_note 28 = .ok (.iload_n 3, 1) := by decide +kernel
theorem dX9_note_29 : decode cX9_note 29 = .ok (.iastore, 1) := by decide +kernel
theorem dX9_note_30 : decode cX9_note 30 = .ok (.aload_n 0, 1) := by decide +kernel
theorem dX9_note_31 : decode cX9_note 31 = .ok (.dup, 1) := by decide +kernel
theorem dX9_note_32 : decode cX9_note 32 = .ok (.getfield 21, 3) := by decide +kernel
theorem dX9_note_35 : decode cX9_note 35 = .ok (.iconst 1, 1) := by decide +kernel
theorem dX9_note_36 : decode cX9_note 36 = .ok (.iadd, 1) := by decide +kernel
theorem dX9_note_37 : decode cX9_note 37 = .ok (.putfield 21, 3) := by decide +kernel
theorem dX9_note_40 : decode cX9_note 40 = .ok (.aload_n 0, 1) := by decide +kernel
theorem dX9_note_41 : decode cX9_note 41 = .ok (.getfield 21, 3) := by decide +kernel
theorem dX9_note_44 : decode cX9_note 44 = .ok (.ireturn, 1) := by decide +kernel
end
section
set_option maxHeartbeats 4000000 in
set_option maxRecDepth 100000 in
/-- X11_within -/
theorem c_X11_within (l : Launch) (dC : Nat → ClassId) (dI : Nat → Nat → Nat) (n : Int32) (lo : Int32) (hi : Int32) (N L M : Int) (hn : n.toInt = N) (hlo : lo.toInt = L) (hhi : hi.toInt = M) : Met l yX11_within (wc yX11_within cX11_within 3 (some .boolean)) ({ frames := 0, cells := 0, slots := 0, locals := 0 } : Room) (pR (dC, dI) classes [] [] [.int n, .int lo, .int hi]) (vp_Si (fun r => (r = 1 ∧ (L ≤ N ∧ N ≤ M)) ∨ (r = 0 ∧ ¬ (L ≤ N ∧ N ≤ M)))) 0 0 (fun _ => False) := by
  refine Met.ofW (cc := cX11_within) (maxL := 3) (ret := (some .boolean)) (by decide) rfl ?_
  intro p e s m args below meth c s₁ B hml hv
  obtain ⟨rfl, hP, hK⟩ := hv
  have hx := B.exec
  have hb := B.bytes
  have hr := B.returns
  have ht := tb_tl (atoms_spec (ws := wc yX11_within cX11_within 3 (some .boolean)) B.pre)
  have hown : s.vm.findClass RX11 = some m.cls := findClass_of_methodNamed B.named
  have hlocks := B.notSynchronized
  have hl := lv_entry [.int n, .int lo, .int hi] (n := 3) (Nat.le_of_ble_eq_true rfl)
  rw [lg_entry_eq]
  generalize (lg_sl [.int n, .int lo, .int hi] ++ List.replicate (3 - (lg_sl [.int n, .int lo, .int hi]).length) Slot.unset).toArray = ls at hl ⊢
  have hl : lv_has ls 3 [(0, .int n), (1, .int lo), (2, .int hi)] := hl
  refine lv_iload_n hx hb dX11_within_0 rfl (lv_at hl 0 rfl) ?_
  refine lv_iload_n hx hb dX11_within_1 rfl (lv_at hl 1 rfl) ?_
  refine lv_icmp_lt (tgt := 14) hx hb dX11_within_2 (by decide) (fun c1 => ?_) (fun c1 => ?_)
  · have fc1 := z_lt hn hlo c1
    refine lv_iconst (v := 0) hx hb dX11_within_14 (by decide) ?_
    exact W.zret (v := 0) hx hb hr rfl (fun t ht9 hW => ⟨0, rfl, Or.inr ⟨rfl, by omega⟩, ht9⟩) (fun q hq => by cases hq) dX11_within_15
  · have fc1 := z_nlt hn hlo c1
    refine lv_iload_n hx hb dX11_within_5 rfl (lv_at hl 0 rfl) ?_
    refine lv_iload_n hx hb dX11_within_6 rfl (lv_at hl 2 rfl) ?_
    refine lv_icmp_gt (tgt := 14) hx hb dX11_within_7 (by decide) (fun c2 => ?_) (fun c2 => ?_)
    · have fc2 := z_lt hhi hn c2
      refine lv_iconst (v := 0) hx hb dX11_within_14 (by decide) ?_
      exact W.zret (v := 0) hx hb hr rfl (fun t ht9 hW => ⟨0, rfl, Or.inr ⟨rfl, by omega⟩, ht9⟩) (fun q hq => by cases hq) dX11_within_15
    · have fc2 := z_nlt hhi hn c2
      refine lv_iconst (v := 1) hx hb dX11_within_10 (by decide) ?_
      refine lv_goto (tgt := 15) hx hb dX11_within_11 (by decide) ?_
      exact W.zret (v := 1) hx hb hr rfl (fun t ht9 hW => ⟨1, rfl, Or.inl ⟨rfl, by omega⟩, ht9⟩) (fun q hq => by cases hq) dX11_within_15
set_option maxHeartbeats 4000000 in
set_option maxRecDepth 100000 in
/-- X12_in -/
theorem c_X12_in (l : Launch) (dC : Nat → ClassId) (dI : Nat → Nat → Nat) (n : Int64) (lo : Int64) (hi : Int64) (N L M : Int) (hn : n.toInt = N) (hlo : lo.toInt = L) (hhi : hi.toInt = M) : Met l yX12_in (wc yX12_in cX12_in 6 (some .boolean)) ({ frames := 0, cells := 0, slots := 0, locals := 0 } : Room) (pR (dC, dI) classes [] [] [.long n, .long lo, .long hi]) (vp_Si (fun r => (r = 1 ∧ (L ≤ N ∧ N ≤ M)) ∨ (r = 0 ∧ ¬ (L ≤ N ∧ N ≤ M)))) 0 0 (fun _ => False) := by
  refine Met.ofW (cc := cX12_in) (maxL := 6) (ret := (some .boolean)) (by decide) rfl ?_
  intro p e s m args below meth c s₁ B hml hv
  obtain ⟨rfl, hP, hK⟩ := hv
  have hx := B.exec
  have hb := B.bytes
  have hr := B.returns
  have ht := tb_tl (atoms_spec (ws := wc yX12_in cX12_in 6 (some .boolean)) B.pre)
  have hown : s.vm.findClass RX12 = some m.cls := findClass_of_methodNamed B.named
  have hlocks := B.notSynchronized
  have hl := lv_entry [.long n, .long lo, .long hi] (n := 6) (Nat.le_of_ble_eq_true rfl)
  rw [lg_entry_eq]
  generalize (lg_sl [.long n, .long lo, .long hi] ++ List.replicate (6 - (lg_sl [.long n, .long lo, .long hi]).length) Slot.unset).toArray = ls at hl ⊢
  have hl : lv_has ls 6 [(0, .long n), (2, .long lo), (4, .long hi)] := hl
  refine lv_lload_n hx hb dX12_in_0 rfl (lv_at hl 0 rfl) ?_
  refine lv_lload_n hx hb dX12_in_1 rfl (lv_at hl 1 rfl) ?_
  refine W.lcmp hx hb dX12_in_2 ?_
  refine lv_topi (fun v1 ev1 => ?_)
  refine lv_if_lt (tgt := 17) hx hb dX12_in_3 (by decide) (fun c2 => ?_) (fun c2 => ?_)
  · have fc2 := zc_lt ev1 hn hlo c2
    refine lv_iconst (v := 0) hx hb dX12_in_17 (by decide) ?_
    exact W.zret (v := 0) hx hb hr rfl (fun t ht9 hW => ⟨0, rfl, Or.inr ⟨rfl, by omega⟩, ht9⟩) (fun q hq => by cases hq) dX12_in_18
  · have fc2 := zc_nlt ev1 hn hlo c2
    refine lv_lload_n hx hb dX12_in_6 rfl (lv_at hl 0 rfl) ?_
    refine lv_lload hx hb dX12_in_7 (lv_at hl 2 rfl) ?_
    refine W.lcmp hx hb dX12_in_9 ?_
    refine lv_topi (fun v3 ev3 => ?_)
    refine lv_if_gt (tgt := 17) hx hb dX12_in_10 (by decide) (fun c4 => ?_) (fun c4 => ?_)
    · have fc4 := zc_gt ev3 hn hhi c4
      refine lv_iconst (v := 0) hx hb dX12_in_17 (by decide) ?_
      exact W.zret (v := 0) hx hb hr rfl (fun t ht9 hW => ⟨0, rfl, Or.inr ⟨rfl, by omega⟩, ht9⟩) (fun q hq => by cases hq) dX12_in_18
    · have fc4 := zc_ngt ev3 hn hhi c4
      refine lv_iconst (v := 1) hx hb dX12_in_13 (by decide) ?_
      refine lv_goto (tgt := 18) hx hb dX12_in_14 (by decide) ?_
      exact W.zret (v := 1) hx hb hr rfl (fun t ht9 hW => ⟨1, rfl, Or.inl ⟨rfl, by omega⟩, ht9⟩) (fun q hq => by cases hq) dX12_in_18
set_option maxHeartbeats 4000000 in
set_option maxRecDepth 100000 in
/-- X0_has -/
theorem c_X0_has (l : Launch) (dC : Nat → ClassId) (dI : Nat → Nat → Nat) (h : Nat) (g : Nat → Nat → Nat) (ca : Nat → Nat → ClassId) (b : Int32) : Met l yX0_has (wc yX0_has cX0_has 2 (some .boolean)) ({ frames := 0, cells := 0, slots := 0, locals := 0 } : Room) (pR (dC, dI) classes [((g 11 2), .inr (0, (o0 h g)))] [] [.ref (g 11 2), .int b]) (vp_Si (fun r => r = 0)) 0 0 (fun _ => False) := by
  refine Met.ofW (cc := cX0_has) (maxL := 2) (ret := (some .boolean)) (by decide) rfl ?_
  intro p e s m args below meth c s₁ B hml hv
  obtain ⟨rfl, hP, hK⟩ := hv
  have hx := B.exec
  have hb := B.bytes
  have hr := B.returns
  have ht := tb_tl (atoms_spec (ws := wc yX0_has cX0_has 2 (some .boolean)) B.pre)
  have hown : s.vm.findClass RX0 = some m.cls := findClass_of_methodNamed B.named
  have hlocks := B.notSynchronized
  have hl := lv_entry [.ref (g 11 2), .int b] (n := 2) (Nat.le_of_ble_eq_true rfl)
  rw [lg_entry_eq]
  generalize (lg_sl [.ref (g 11 2), .int b] ++ List.replicate (2 - (lg_sl [.ref (g 11 2), .int b]).length) Slot.unset).toArray = ls at hl ⊢
  have hl : lv_has ls 2 [(0, .ref (g 11 2)), (1, .int b)] := hl
  refine lv_iload_n hx hb dX0_has_0 rfl (lv_at hl 1 rfl) ?_
  refine lv_if_lt (tgt := 16) hx hb dX0_has_1 (by decide) (fun c1 => ?_) (fun c1 => ?_)
  · have fc1 := z_lt (rfl : (b).toInt = _) (by decide : (0 : Int32).toInt = 0) c1
    refine lv_iconst (v := 0) hx hb dX0_has_16 (by decide) ?_
    exact W.zret (v := 0) hx hb hr rfl (fun t ht9 hW => ⟨0, rfl, rfl, ht9⟩) (fun q hq => by cases hq) dX0_has_17
  · have fc1 := z_nlt (rfl : (b).toInt = _) (by decide : (0 : Int32).toInt = 0) c1
    refine lv_iload_n hx hb dX0_has_4 rfl (lv_at hl 1 rfl) ?_
    refine lv_aload_n hx hb dX0_has_5 rfl (lv_at hl 0 rfl) ?_
    refine va_get (D := (dC, dI)) (ci := 0) (v := .int 0) (C := RX0) (T := TX0) (N := 8) hx hb ht inX0 hown hK hP 0 rfl rfl 7 (by decide) (ht _ m_164) (fun _ h9 => h9) rfl dX0_has_6 ?_
    refine lv_icmp_ge (tgt := 16) hx hb dX0_has_9 (by decide) (fun c2 => ?_) (fun c2 => ?_)
    · skip
      refine lv_iconst (v := 0) hx hb dX0_has_16 (by decide) ?_
      exact W.zret (v := 0) hx hb hr rfl (fun t ht9 hW => ⟨0, rfl, rfl, ht9⟩) (fun q hq => by cases hq) dX0_has_17
    · have fc2 := z_nle (by decide : (0 : Int32).toInt = 0) (rfl : (b).toInt = _) c2; exfalso; omega
set_option maxHeartbeats 4000000 in
set_option maxRecDepth 100000 in
/-- X10_has -/
theorem c_X10_has (l : Launch) (dC : Nat → ClassId) (dI : Nat → Nat → Nat) (h : Nat) (g : Nat → Nat → Nat) (ca : Nat → Nat → ClassId) (b : Int32) : Met l yX10_has (wc yX10_has cX10_has 2 (some .boolean)) ({ frames := 0, cells := 0, slots := 0, locals := 0 } : Room) (pR (dC, dI) classes [((g 11 0), .inr (10, (o10 h g)))] [] [.ref (g 11 0), .int b]) (vp_Si (fun r => r = 0)) 0 0 (fun _ => False) := by
  refine Met.ofW (cc := cX10_has) (maxL := 2) (ret := (some .boolean)) (by decide) rfl ?_
  intro p e s m args below meth c s₁ B hml hv
  obtain ⟨rfl, hP, hK⟩ := hv
  have hx := B.exec
  have hb := B.bytes
  have hr := B.returns
  have ht := tb_tl (atoms_spec (ws := wc yX10_has cX10_has 2 (some .boolean)) B.pre)
  have hown : s.vm.findClass RX10 = some m.cls := findClass_of_methodNamed B.named
  have hlocks := B.notSynchronized
  have hl := lv_entry [.ref (g 11 0), .int b] (n := 2) (Nat.le_of_ble_eq_true rfl)
  rw [lg_entry_eq]
  generalize (lg_sl [.ref (g 11 0), .int b] ++ List.replicate (2 - (lg_sl [.ref (g 11 0), .int b]).length) Slot.unset).toArray = ls at hl ⊢
  have hl : lv_has ls 2 [(0, .ref (g 11 0)), (1, .int b)] := hl
  refine lv_iload_n hx hb dX10_has_0 rfl (lv_at hl 1 rfl) ?_
  refine lv_if_lt (tgt := 16) hx hb dX10_has_1 (by decide) (fun c1 => ?_) (fun c1 => ?_)
  · have fc1 := z_lt (rfl : (b).toInt = _) (by decide : (0 : Int32).toInt = 0) c1
    refine lv_iconst (v := 0) hx hb dX10_has_16 (by decide) ?_
    exact W.zret (v := 0) hx hb hr rfl (fun t ht9 hW => ⟨0, rfl, rfl, ht9⟩) (fun q hq => by cases hq) dX10_has_17
  · have fc1 := z_nlt (rfl : (b).toInt = _) (by decide : (0 : Int32).toInt = 0) c1
    refine lv_iload_n hx hb dX10_has_4 rfl (lv_at hl 1 rfl) ?_
    refine lv_aload_n hx hb dX10_has_5 rfl (lv_at hl 0 rfl) ?_
    refine va_get (D := (dC, dI)) (ci := 10) (v := .int 0) (C := RX10) (T := TX10) (N := 3) hx hb ht inX10 hown hK hP 0 rfl rfl 1 (by decide) (ht _ m_112) (fun _ h9 => h9) rfl dX10_has_6 ?_
    refine lv_icmp_ge (tgt := 16) hx hb dX10_has_9 (by decide) (fun c2 => ?_) (fun c2 => ?_)
    · skip
      refine lv_iconst (v := 0) hx hb dX10_has_16 (by decide) ?_
      exact W.zret (v := 0) hx hb hr rfl (fun t ht9 hW => ⟨0, rfl, rfl, ht9⟩) (fun q hq => by cases hq) dX10_has_17
    · have fc2 := z_nle (by decide : (0 : Int32).toInt = 0) (rfl : (b).toInt = _) c2; exfalso; omega
set_option maxHeartbeats 4000000 in
set_option maxRecDepth 100000 in
/-- X6_has -/
theorem c_X6_has (l : Launch) (dC : Nat → ClassId) (dI : Nat → Nat → Nat) (h : Nat) (g : Nat → Nat → Nat) (ca : Nat → Nat → ClassId) (b : Int32) : Met l yX6_has (wc yX6_has cX6_has 2 (some .boolean)) ({ frames := 0, cells := 0, slots := 0, locals := 0 } : Room) (pR (dC, dI) classes [((g 11 9), .inr (6, (o6 h g)))] [] [.ref (g 11 9), .int b]) (vp_Si (fun r => r = 0)) 0 0 (fun _ => False) := by
  refine Met.ofW (cc := cX6_has) (maxL := 2) (ret := (some .boolean)) (by decide) rfl ?_
  intro p e s m args below meth c s₁ B hml hv
  obtain ⟨rfl, hP, hK⟩ := hv
  have hx := B.exec
  have hb := B.bytes
  have hr := B.returns
  have ht := tb_tl (atoms_spec (ws := wc yX6_has cX6_has 2 (some .boolean)) B.pre)
  have hown : s.vm.findClass RX6 = some m.cls := findClass_of_methodNamed B.named
  have hlocks := B.notSynchronized
  have hl := lv_entry [.ref (g 11 9), .int b] (n := 2) (Nat.le_of_ble_eq_true rfl)
  rw [lg_entry_eq]
  generalize (lg_sl [.ref (g 11 9), .int b] ++ List.replicate (2 - (lg_sl [.ref (g 11 9), .int b]).length) Slot.unset).toArray = ls at hl ⊢
  have hl : lv_has ls 2 [(0, .ref (g 11 9)), (1, .int b)] := hl
  refine lv_iload_n hx hb dX6_has_0 rfl (lv_at hl 1 rfl) ?_
  refine lv_if_lt (tgt := 16) hx hb dX6_has_1 (by decide) (fun c1 => ?_) (fun c1 => ?_)
  · have fc1 := z_lt (rfl : (b).toInt = _) (by decide : (0 : Int32).toInt = 0) c1
    refine lv_iconst (v := 0) hx hb dX6_has_16 (by decide) ?_
    exact W.zret (v := 0) hx hb hr rfl (fun t ht9 hW => ⟨0, rfl, rfl, ht9⟩) (fun q hq => by cases hq) dX6_has_17
  · have fc1 := z_nlt (rfl : (b).toInt = _) (by decide : (0 : Int32).toInt = 0) c1
    refine lv_iload_n hx hb dX6_has_4 rfl (lv_at hl 1 rfl) ?_
    refine lv_aload_n hx hb dX6_has_5 rfl (lv_at hl 0 rfl) ?_
    refine va_get (D := (dC, dI)) (ci := 6) (v := .int 0) (C := RX6) (T := TX6) (N := 8) hx hb ht inX6 hown hK hP 0 rfl rfl 7 (by decide) (ht _ m_396) (fun _ h9 => h9) rfl dX6_has_6 ?_
    refine lv_icmp_ge (tgt := 16) hx hb dX6_has_9 (by decide) (fun c2 => ?_) (fun c2 => ?_)
    · skip
      refine lv_iconst (v := 0) hx hb dX6_has_16 (by decide) ?_
      exact W.zret (v := 0) hx hb hr rfl (fun t ht9 hW => ⟨0, rfl, rfl, ht9⟩) (fun q hq => by cases hq) dX6_has_17
    · have fc2 := z_nle (by decide : (0 : Int32).toInt = 0) (rfl : (b).toInt = _) c2; exfalso; omega
set_option maxHeartbeats 4000000 in
set_option maxRecDepth 100000 in
/-- X1_has -/
theorem c_X1_has (l : Launch) (dC : Nat → ClassId) (dI : Nat → Nat → Nat) (h : Nat) (g : Nat → Nat → Nat) (ca : Nat → Nat → ClassId) (b : Int32) : Met l yX1_has (wc yX1_has cX1_has 2 (some .boolean)) ({ frames := 0, cells := 0, slots := 0, locals := 0 } : Room) (pR (dC, dI) classes [((g 11 3), .inr (1, (o1 h g)))] [] [.ref (g 11 3), .int b]) (vp_Si (fun r => r = 0)) 0 0 (fun _ => False) := by
  refine Met.ofW (cc := cX1_has) (maxL := 2) (ret := (some .boolean)) (by decide) rfl ?_
  intro p e s m args below meth c s₁ B hml hv
  obtain ⟨rfl, hP, hK⟩ := hv
  have hx := B.exec
  have hb := B.bytes
  have hr := B.returns
  have ht := tb_tl (atoms_spec (ws := wc yX1_has cX1_has 2 (some .boolean)) B.pre)
  have hown : s.vm.findClass RX1 = some m.cls := findClass_of_methodNamed B.named
  have hlocks := B.notSynchronized
  have hl := lv_entry [.ref (g 11 3), .int b] (n := 2) (Nat.le_of_ble_eq_true rfl)
  rw [lg_entry_eq]
  generalize (lg_sl [.ref (g 11 3), .int b] ++ List.replicate (2 - (lg_sl [.ref (g 11 3), .int b]).length) Slot.unset).toArray = ls at hl ⊢
  have hl : lv_has ls 2 [(0, .ref (g 11 3)), (1, .int b)] := hl
  refine lv_iload_n hx hb dX1_has_0 rfl (lv_at hl 1 rfl) ?_
  refine lv_if_lt (tgt := 35) hx hb dX1_has_1 (by decide) (fun c1 => ?_) (fun c1 => ?_)
  · have fc1 := z_lt (rfl : (b).toInt = _) (by decide : (0 : Int32).toInt = 0) c1
    refine lv_iconst (v := 0) hx hb dX1_has_35 (by decide) ?_
    exact W.zret (v := 0) hx hb hr rfl (fun t ht9 hW => ⟨0, rfl, rfl, ht9⟩) (fun q hq => by cases hq) dX1_has_36
  · have fc1 := z_nlt (rfl : (b).toInt = _) (by decide : (0 : Int32).toInt = 0) c1
    refine lv_iload_n hx hb dX1_has_4 rfl (lv_at hl 1 rfl) ?_
    refine lv_bipush (v := 100) hx hb dX1_has_5 (by decide) ?_
    refine lv_idiv hx hb dX1_has_7 (by decide) ?_
    refine lv_topi (fun v2 ev2 => ?_)
    have tv2 := z_div100 ev2 (by omega)
    refine lv_aload_n hx hb dX1_has_8 rfl (lv_at hl 0 rfl) ?_
    refine va_get (D := (dC, dI)) (ci := 1) (v := .int 0) (C := RX1) (T := TX1) (N := 9) hx hb ht inX1 hown hK hP 0 rfl rfl 7 (by decide) (ht _ m_196) (fun _ h9 => h9) rfl dX1_has_9 ?_
    refine lv_icmp_ge (tgt := 35) hx hb dX1_has_12 (by decide) (fun c3 => ?_) (fun c3 => ?_)
    · skip
      refine lv_iconst (v := 0) hx hb dX1_has_35 (by decide) ?_
      exact W.zret (v := 0) hx hb hr rfl (fun t ht9 hW => ⟨0, rfl, rfl, ht9⟩) (fun q hq => by cases hq) dX1_has_36
    · have fc3 := z_nle (by decide : (0 : Int32).toInt = 0) (rfl : (v2).toInt = _) c3; exfalso; omega
set_option maxHeartbeats 4000000 in
set_option maxRecDepth 100000 in
/-- X9_lastBy -/
theorem c_X9_lastBy (l : Launch) (dC : Nat → ClassId) (dI : Nat → Nat → Nat) (h : Nat) (g : Nat → Nat → Nat) (ca : Nat → Nat → ClassId) (a : Int32) (b : Int32) : Met l yX9_lastBy (wc yX9_lastBy cX9_lastBy 5 (some .int)) ({ frames := 0, cells := 0, slots := 0, locals := 0 } : Room) (pR (dC, dI) classes [((g 11 1), .inr (9, (o9 h g)))] [] [.ref (g 11 1), .int a, .int b]) (vp_Si (fun r => r = -1)) 0 0 (fun _ => False) := by
  refine Met.ofW (cc := cX9_lastBy) (maxL := 5) (ret := (some .int)) (by decide) rfl ?_
  intro p e s m args below meth c s₁ B hml hv
  obtain ⟨rfl, hP, hK⟩ := hv
  have hx := B.exec
  have hb := B.bytes
  have hr := B.returns
  have ht := tb_tl (atoms_spec (ws := wc yX9_lastBy cX9_lastBy 5 (some .int)) B.pre)
  have hown : s.vm.findClass RX9 = some m.cls := findClass_of_methodNamed B.named
  have hlocks := B.notSynchronized
  have hl := lv_entry [.ref (g 11 1), .int a, .int b] (n := 5) (Nat.le_of_ble_eq_true rfl)
  rw [lg_entry_eq]
  generalize (lg_sl [.ref (g 11 1), .int a, .int b] ++ List.replicate (5 - (lg_sl [.ref (g 11 1), .int a, .int b]).length) Slot.unset).toArray = ls at hl ⊢
  have hl : lv_has ls 5 [(0, .ref (g 11 1)), (1, .int a), (2, .int b)] := hl
  refine lv_iconst (v := (-1)) hx hb dX9_lastBy_0 (by decide) ?_
  refine lv_istore_n (lv' := [(3, .int (-1)), (0, .ref (g 11 1)), (1, .int a), (2, .int b)]) hx hb dX9_lastBy_1 rfl hl (by decide) rfl (fun ls hl => ?_)
  refine lv_iconst (v := 0) hx hb dX9_lastBy_2 (by decide) ?_
  refine lv_istore (lv' := [(4, .int 0), (3, .int (-1)), (0, .ref (g 11 1)), (1, .int a), (2, .int b)]) hx hb dX9_lastBy_3 hl (by decide) rfl (fun ls hl => ?_)
  refine lv_iload hx hb dX9_lastBy_5 (lv_at hl 0 rfl) ?_
  refine lv_aload_n hx hb dX9_lastBy_7 rfl (lv_at hl 2 rfl) ?_
  refine va_get (D := (dC, dI)) (ci := 9) (v := .int 0) (C := RX9) (T := TX9) (N := 4) hx hb ht inX9 hown hK hP 0 rfl rfl 3 (by decide) (ht _ m_135) (fun _ h9 => h9) rfl dX9_lastBy_8 ?_
  refine lv_icmp_ge (tgt := 45) hx hb dX9_lastBy_11 (by decide) (fun c1 => ?_) (fun c1 => ?_)
  · skip
    refine lv_iload_n hx hb dX9_lastBy_45 rfl (lv_at hl 1 rfl) ?_
    exact W.iret (v := (-1)) hx hb hr (fun t ht9 hW => ⟨(-1), rfl, rfl, ht9⟩) (fun q hq => by cases hq) dX9_lastBy_46
  · exact absurd rfl c1
set_option maxHeartbeats 4000000 in
set_option maxRecDepth 100000 in
/-- X9_firstAfter -/
theorem c_X9_firstAfter (l : Launch) (dC : Nat → ClassId) (dI : Nat → Nat → Nat) (h : Nat) (g : Nat → Nat → Nat) (ca : Nat → Nat → ClassId) (a : Int32) (b : Int32) : Met l yX9_firstAfter (wc yX9_firstAfter cX9_firstAfter 4 (some .int)) ({ frames := 0, cells := 0, slots := 0, locals := 0 } : Room) (pR (dC, dI) classes [((g 11 1), .inr (9, (o9 h g)))] [] [.ref (g 11 1), .int a, .int b]) (vp_Si (fun r => r = -1)) 0 0 (fun _ => False) := by
  refine Met.ofW (cc := cX9_firstAfter) (maxL := 4) (ret := (some .int)) (by decide) rfl ?_
  intro p e s m args below meth c s₁ B hml hv
  obtain ⟨rfl, hP, hK⟩ := hv
  have hx := B.exec
  have hb := B.bytes
  have hr := B.returns
  have ht := tb_tl (atoms_spec (ws := wc yX9_firstAfter cX9_firstAfter 4 (some .int)) B.pre)
  have hown : s.vm.findClass RX9 = some m.cls := findClass_of_methodNamed B.named
  have hlocks := B.notSynchronized
  have hl := lv_entry [.ref (g 11 1), .int a, .int b] (n := 4) (Nat.le_of_ble_eq_true rfl)
  rw [lg_entry_eq]
  generalize (lg_sl [.ref (g 11 1), .int a, .int b] ++ List.replicate (4 - (lg_sl [.ref (g 11 1), .int a, .int b]).length) Slot.unset).toArray = ls at hl ⊢
  have hl : lv_has ls 4 [(0, .ref (g 11 1)), (1, .int a), (2, .int b)] := hl
  refine lv_iconst (v := 0) hx hb dX9_firstAfter_0 (by decide) ?_
  refine lv_istore_n (lv' := [(3, .int 0), (0, .ref (g 11 1)), (1, .int a), (2, .int b)]) hx hb dX9_firstAfter_1 rfl hl (by decide) rfl (fun ls hl => ?_)
  refine lv_iload_n hx hb dX9_firstAfter_2 rfl (lv_at hl 0 rfl) ?_
  refine lv_aload_n hx hb dX9_firstAfter_3 rfl (lv_at hl 1 rfl) ?_
  refine va_get (D := (dC, dI)) (ci := 9) (v := .int 0) (C := RX9) (T := TX9) (N := 4) hx hb ht inX9 hown hK hP 0 rfl rfl 3 (by decide) (ht _ m_135) (fun _ h9 => h9) rfl dX9_firstAfter_4 ?_
  refine lv_icmp_ge (tgt := 38) hx hb dX9_firstAfter_7 (by decide) (fun c1 => ?_) (fun c1 => ?_)
  · skip
    refine lv_iconst (v := (-1)) hx hb dX9_firstAfter_38 (by decide) ?_
    exact W.iret (v := (-1)) hx hb hr (fun t ht9 hW => ⟨(-1), rfl, rfl, ht9⟩) (fun q hq => by cases hq) dX9_firstAfter_39
  · exact absurd rfl c1
set_option maxHeartbeats 4000000 in
set_option maxRecDepth 100000 in
/-- X9_driftOf -/
theorem c_X9_driftOf (l : Launch) (dC : Nat → ClassId) (dI : Nat → Nat → Nat) (h : Nat) (g : Nat → Nat → Nat) (ca : Nat → Nat → ClassId) : Met l yX9_driftOf (wc yX9_driftOf cX9_driftOf 3 (some .int)) ({ frames := 0, cells := 0, slots := 0, locals := 0 } : Room) (pR (dC, dI) classes [((g 11 1), .inr (9, (o9 h g)))] [] [.ref (g 11 1), .int (-1), .int (-1)]) (vp_Si (fun r => r = 0)) 0 0 (fun _ => False) := by
  refine Met.ofW (cc := cX9_driftOf) (maxL := 3) (ret := (some .int)) (by decide) rfl ?_
  intro p e s m args below meth c s₁ B hml hv
  obtain ⟨rfl, hP, hK⟩ := hv
  have hx := B.exec
  have hb := B.bytes
  have hr := B.returns
  have ht := tb_tl (atoms_spec (ws := wc yX9_driftOf cX9_driftOf 3 (some .int)) B.pre)
  have hown : s.vm.findClass RX9 = some m.cls := findClass_of_methodNamed B.named
  have hlocks := B.notSynchronized
  have hl := lv_entry [.ref (g 11 1), .int (-1), .int (-1)] (n := 3) (Nat.le_of_ble_eq_true rfl)
  rw [lg_entry_eq]
  generalize (lg_sl [.ref (g 11 1), .int (-1), .int (-1)] ++ List.replicate (3 - (lg_sl [.ref (g 11 1), .int (-1), .int (-1)]).length) Slot.unset).toArray = ls at hl ⊢
  have hl : lv_has ls 3 [(0, .ref (g 11 1)), (1, .int (-1)), (2, .int (-1))] := hl
  refine lv_iload_n hx hb dX9_driftOf_0 rfl (lv_at hl 1 rfl) ?_
  refine lv_iconst (v := (-1)) hx hb dX9_driftOf_1 (by decide) ?_
  refine lv_icmp_eq (tgt := 12) hx hb dX9_driftOf_2 (by decide) (fun c1 => ?_) (fun c1 => ?_)
  · skip
    refine lv_iload_n hx hb dX9_driftOf_12 rfl (lv_at hl 2 rfl) ?_
    refine lv_iconst (v := (-1)) hx hb dX9_driftOf_13 (by decide) ?_
    refine lv_icmp_ne (tgt := 21) hx hb dX9_driftOf_14 (by decide) (fun c2 => ?_) (fun c2 => ?_)
    · exact absurd rfl c2
    · skip
      refine lv_iconst (v := 0) hx hb dX9_driftOf_17 (by decide) ?_
      refine lv_goto (tgt := 27) hx hb dX9_driftOf_18 (by decide) ?_
      exact W.iret (v := 0) hx hb hr (fun t ht9 hW => ⟨0, rfl, rfl, ht9⟩) (fun q hq => by cases hq) dX9_driftOf_27
  · exact absurd rfl c1
set_option maxHeartbeats 4000000 in
set_option maxRecDepth 100000 in
/-- X9_least -/
theorem c_X9_least (l : Launch) (dC : Nat → ClassId) (dI : Nat → Nat → Nat) (h : Nat) (g : Nat → Nat → Nat) (ca : Nat → Nat → ClassId) (a : Int32) (b : Int32) : Met l yX9_least (wc yX9_least cX9_least 5 (some .int)) ({ frames := 1, cells := 0, slots := 0, locals := 40 } : Room) (pR (dC, dI) classes [((g 11 1), .inr (9, (o9 h g)))] [] [.ref (g 11 1), .int a, .int b]) (vp_Si (fun r => r = 0)) 0 0 (fun _ => False) := by
  refine Met.ofW (cc := cX9_least) (maxL := 5) (ret := (some .int)) (by decide) rfl ?_
  intro p e s m args below meth c s₁ B hml hv
  obtain ⟨rfl, hP, hK⟩ := hv
  have hx := B.exec
  have hb := B.bytes
  have hr := B.returns
  have ht := tb_tl (atoms_spec (ws := wc yX9_least cX9_least 5 (some .int)) B.pre)
  have hown : s.vm.findClass RX9 = some m.cls := findClass_of_methodNamed B.named
  have hlocks := B.notSynchronized
  have hl := lv_entry [.ref (g 11 1), .int a, .int b] (n := 5) (Nat.le_of_ble_eq_true rfl)
  rw [lg_entry_eq]
  generalize (lg_sl [.ref (g 11 1), .int a, .int b] ++ List.replicate (5 - (lg_sl [.ref (g 11 1), .int a, .int b]).length) Slot.unset).toArray = ls at hl ⊢
  have hl : lv_has ls 5 [(0, .ref (g 11 1)), (1, .int a), (2, .int b)] := hl
  refine lv_aload_n hx hb dX9_least_0 rfl (lv_at hl 0 rfl) ?_
  refine lv_iload_n hx hb dX9_least_1 rfl (lv_at hl 1 rfl) ?_
  refine lv_iload_n hx hb dX9_least_2 rfl (lv_at hl 2 rfl) ?_
  have hPc := hP.sub (ws' := [((g 11 1), .inr (9, (o9 h g)))]) [0] rfl
  have hKc := hK.sub (tys' := []) [] rfl
  refine vp_callSi (W.runV (As := [.int a, .int b]) (rest := []) ⟨hx, hb, hml, hown, ht⟩ (c_X9_lastBy l dC dI h g ca a b) (kV 2 ht m_538 m_540 m_1 m_79 m_541 rfl rfl hd_X9_lastBy_v ⟨Nat.le_of_ble_eq_true rfl, Nat.le_of_ble_eq_true rfl⟩) (vR hPc hKc (va_recv hKc hPc (ci := 9) (q0 := 0) rfl rfl)) rfl rfl hl.1 rfl (lv_room (Nat.le_of_ble_eq_true rfl)) dX9_least_3 ⟨Nat.le_of_ble_eq_true rfl, Nat.le_of_ble_eq_true rfl⟩) (fun r1 hr1 => ?_)
  obtain rfl : (-1) = r1 := hr1.symm
  refine lv_istore_n (lv' := [(3, .int (-1)), (0, .ref (g 11 1)), (1, .int a), (2, .int b)]) hx hb dX9_least_6 rfl hl (by decide) rfl (fun ls hl => ?_)
  refine lv_aload_n hx hb dX9_least_7 rfl (lv_at hl 1 rfl) ?_
  refine lv_iload_n hx hb dX9_least_8 rfl (lv_at hl 2 rfl) ?_
  refine lv_iload_n hx hb dX9_least_9 rfl (lv_at hl 3 rfl) ?_
  have hPc := hP.sub (ws' := [((g 11 1), .inr (9, (o9 h g)))]) [0] rfl
  have hKc := hK.sub (tys' := []) [] rfl
  refine vp_callSi (W.runV (As := [.int a, .int b]) (rest := []) ⟨hx, hb, hml, hown, ht⟩ (c_X9_firstAfter l dC dI h g ca a b) (kV 2 ht m_542 m_544 m_2 m_79 m_545 rfl rfl hd_X9_firstAfter_v ⟨Nat.le_of_ble_eq_true rfl, Nat.le_of_ble_eq_true rfl⟩) (vR hPc hKc (va_recv hKc hPc (ci := 9) (q0 := 0) rfl rfl)) rfl rfl hl.1 rfl (lv_room (Nat.le_of_ble_eq_true rfl)) dX9_least_10 ⟨Nat.le_of_ble_eq_true rfl, Nat.le_of_ble_eq_true rfl⟩) (fun r2 hr2 => ?_)
  obtain rfl : (-1) = r2 := hr2.symm
  refine lv_istore (lv' := [(4, .int (-1)), (3, .int (-1)), (0, .ref (g 11 1)), (1, .int a), (2, .int b)]) hx hb dX9_least_13 hl (by decide) rfl (fun ls hl => ?_)
  refine lv_aload_n hx hb dX9_least_15 rfl (lv_at hl 2 rfl) ?_
  refine lv_iload_n hx hb dX9_least_16 rfl (lv_at hl 1 rfl) ?_
  refine lv_iload hx hb dX9_least_17 (lv_at hl 0 rfl) ?_
  have hPc := hP.sub (ws' := [((g 11 1), .inr (9, (o9 h g)))]) [0] rfl
  have hKc := hK.sub (tys' := []) [] rfl
  refine vp_callSi (W.runV (As := [.int (-1), .int (-1)]) (rest := []) ⟨hx, hb, hml, hown, ht⟩ (c_X9_driftOf l dC dI h g ca) (kV 2 ht m_546 m_548 m_3 m_79 m_549 rfl rfl hd_X9_driftOf_v ⟨Nat.le_of_ble_eq_true rfl, Nat.le_of_ble_eq_true rfl⟩) (vR hPc hKc (va_recv hKc hPc (ci := 9) (q0 := 0) rfl rfl)) rfl rfl hl.1 rfl (lv_room (Nat.le_of_ble_eq_true rfl)) dX9_least_19 ⟨Nat.le_of_ble_eq_true rfl, Nat.le_of_ble_eq_true rfl⟩) (fun r3 hr3 => ?_)
  obtain rfl : 0 = r3 := hr3.symm
  refine lv_aload_n hx hb dX9_least_22 rfl (lv_at hl 2 rfl) ?_
  refine lv_iload hx hb dX9_least_23 (lv_at hl 0 rfl) ?_
  refine lv_iload_n hx hb dX9_least_25 rfl (lv_at hl 1 rfl) ?_
  have hPc := hP.sub (ws' := [((g 11 1), .inr (9, (o9 h g)))]) [0] rfl
  have hKc := hK.sub (tys' := []) [] rfl
  refine vp_callSi (W.runV (As := [.int (-1), .int (-1)]) (rest := [.int 0]) ⟨hx, hb, hml, hown, ht⟩ (c_X9_driftOf l dC dI h g ca) (kV 2 ht m_546 m_548 m_3 m_79 m_549 rfl rfl hd_X9_driftOf_v ⟨Nat.le_of_ble_eq_true rfl, Nat.le_of_ble_eq_true rfl⟩) (vR hPc hKc (va_recv hKc hPc (ci := 9) (q0 := 0) rfl rfl)) rfl rfl hl.1 rfl (lv_room (Nat.le_of_ble_eq_true rfl)) dX9_least_26 ⟨Nat.le_of_ble_eq_true rfl, Nat.le_of_ble_eq_true rfl⟩) (fun r4 hr4 => ?_)
  obtain rfl : 0 = r4 := hr4.symm
  refine va_mmin hx hb (hml.trans hl.1.symm) hown (ht _ m_550) (ht _ m_551) (ht _ m_90) (ht _ m_552) (Nat.le_of_ble_eq_true rfl) (Nat.le_of_ble_eq_true rfl) (Nat.le_of_ble_eq_true rfl) (Nat.le_of_ble_eq_true rfl) dX9_least_29 ?_
  refine lv_topi (fun v5 ev5 => ?_)
  obtain rfl : 0 = v5 := (ev5.trans (by decide)).symm
  exact W.iret (v := 0) hx hb hr (fun t ht9 hW => ⟨0, rfl, rfl, ht9⟩) (fun q hq => by cases hq) dX9_least_32
set_option maxHeartbeats 4000000 in
set_option maxRecDepth 100000 in
/-- X9_greatest -/
theorem c_X9_greatest (l : Launch) (dC : Nat → ClassId) (dI : Nat → Nat → Nat) (h : Nat) (g : Nat → Nat → Nat) (ca : Nat → Nat → ClassId) (a : Int32) (b : Int32) : Met l yX9_greatest (wc yX9_greatest cX9_greatest 5 (some .int)) ({ frames := 1, cells := 0, slots := 0, locals := 40 } : Room) (pR (dC, dI) classes [((g 11 1), .inr (9, (o9 h g)))] [] [.ref (g 11 1), .int a, .int b]) (vp_Si (fun r => r = 0)) 0 0 (fun _ => False) := by
  refine Met.ofW (cc := cX9_greatest) (maxL := 5) (ret := (some .int)) (by decide) rfl ?_
  intro p e s m args below meth c s₁ B hml hv
  obtain ⟨rfl, hP, hK⟩ := hv
  have hx := B.exec
  have hb := B.bytes
  have hr := B.returns
  have ht := tb_tl (atoms_spec (ws := wc yX9_greatest cX9_greatest 5 (some .int)) B.pre)
  have hown : s.vm.findClass RX9 = some m.cls := findClass_of_methodNamed B.named
  have hlocks := B.notSynchronized
  have hl := lv_entry [.ref (g 11 1), .int a, .int b] (n := 5) (Nat.le_of_ble_eq_true rfl)
  rw [lg_entry_eq]
  generalize (lg_sl [.ref (g 11 1), .int a, .int b] ++ List.replicate (5 - (lg_sl [.ref (g 11 1), .int a, .int b]).length) Slot.unset).toArray = ls at hl ⊢
  have hl : lv_has ls 5 [(0, .ref (g 11 1)), (1, .int a), (2, .int b)] := hl
  refine lv_aload_n hx hb dX9_greatest_0 rfl (lv_at hl 0 rfl) ?_
  refine lv_iload_n hx hb dX9_greatest_1 rfl (lv_at hl 1 rfl) ?_
  refine lv_iload_n hx hb dX9_greatest_2 rfl (lv_at hl 2 rfl) ?_
  have hPc := hP.sub (ws' := [((g 11 1), .inr (9, (o9 h g)))]) [0] rfl
  have hKc := hK.sub (tys' := []) [] rfl
  refine vp_callSi (W.runV (As := [.int a, .int b]) (rest := []) ⟨hx, hb, hml, hown, ht⟩ (c_X9_lastBy l dC dI h g ca a b) (kV 2 ht m_538 m_540 m_1 m_79 m_541 rfl rfl hd_X9_lastBy_v ⟨Nat.le_of_ble_eq_true rfl, Nat.le_of_ble_eq_true rfl⟩) (vR hPc hKc (va_recv hKc hPc (ci := 9) (q0 := 0) rfl rfl)) rfl rfl hl.1 rfl (lv_room (Nat.le_of_ble_eq_true rfl)) dX9_greatest_3 ⟨Nat.le_of_ble_eq_true rfl, Nat.le_of_ble_eq_true rfl⟩) (fun r1 hr1 => ?_)
  obtain rfl : (-1) = r1 := hr1.symm
  refine lv_istore_n (lv' := [(3, .int (-1)), (0, .ref (g 11 1)), (1, .int a), (2, .int b)]) hx hb dX9_greatest_6 rfl hl (by decide) rfl (fun ls hl => ?_)
  refine lv_aload_n hx hb dX9_greatest_7 rfl (lv_at hl 1 rfl) ?_
  refine lv_iload_n hx hb dX9_greatest_8 rfl (lv_at hl 2 rfl) ?_
  refine lv_iload_n hx hb dX9_greatest_9 rfl (lv_at hl 3 rfl) ?_
  have hPc := hP.sub (ws' := [((g 11 1), .inr (9, (o9 h g)))]) [0] rfl
  have hKc := hK.sub (tys' := []) [] rfl
  refine vp_callSi (W.runV (As := [.int a, .int b]) (rest := []) ⟨hx, hb, hml, hown, ht⟩ (c_X9_firstAfter l dC dI h g ca a b) (kV 2 ht m_542 m_544 m_2 m_79 m_545 rfl rfl hd_X9_firstAfter_v ⟨Nat.le_of_ble_eq_true rfl, Nat.le_of_ble_eq_true rfl⟩) (vR hPc hKc (va_recv hKc hPc (ci := 9) (q0 := 0) rfl rfl)) rfl rfl hl.1 rfl (lv_room (Nat.le_of_ble_eq_true rfl)) dX9_greatest_10 ⟨Nat.le_of_ble_eq_true rfl, Nat.le_of_ble_eq_true rfl⟩) (fun r2 hr2 => ?_)
  obtain rfl : (-1) = r2 := hr2.symm
  refine lv_istore (lv' := [(4, .int (-1)), (3, .int (-1)), (0, .ref (g 11 1)), (1, .int a), (2, .int b)]) hx hb dX9_greatest_13 hl (by decide) rfl (fun ls hl => ?_)
  refine lv_aload_n hx hb dX9_greatest_15 rfl (lv_at hl 2 rfl) ?_
  refine lv_iload_n hx hb dX9_greatest_16 rfl (lv_at hl 1 rfl) ?_
  refine lv_iload hx hb dX9_greatest_17 (lv_at hl 0 rfl) ?_
  have hPc := hP.sub (ws' := [((g 11 1), .inr (9, (o9 h g)))]) [0] rfl
  have hKc := hK.sub (tys' := []) [] rfl
  refine vp_callSi (W.runV (As := [.int (-1), .int (-1)]) (rest := []) ⟨hx, hb, hml, hown, ht⟩ (c_X9_driftOf l dC dI h g ca) (kV 2 ht m_546 m_548 m_3 m_79 m_549 rfl rfl hd_X9_driftOf_v ⟨Nat.le_of_ble_eq_true rfl, Nat.le_of_ble_eq_true rfl⟩) (vR hPc hKc (va_recv hKc hPc (ci := 9) (q0 := 0) rfl rfl)) rfl rfl hl.1 rfl (lv_room (Nat.le_of_ble_eq_true rfl)) dX9_greatest_19 ⟨Nat.le_of_ble_eq_true rfl, Nat.le_of_ble_eq_true rfl⟩) (fun r3 hr3 => ?_)
  obtain rfl : 0 = r3 := hr3.symm
  refine lv_aload_n hx hb dX9_greatest_22 rfl (lv_at hl 2 rfl) ?_
  refine lv_iload hx hb dX9_greatest_23 (lv_at hl 0 rfl) ?_
  refine lv_iload_n hx hb dX9_greatest_25 rfl (lv_at hl 1 rfl) ?_
  have hPc := hP.sub (ws' := [((g 11 1), .inr (9, (o9 h g)))]) [0] rfl
  have hKc := hK.sub (tys' := []) [] rfl
  refine vp_callSi (W.runV (As := [.int (-1), .int (-1)]) (rest := [.int 0]) ⟨hx, hb, hml, hown, ht⟩ (c_X9_driftOf l dC dI h g ca) (kV 2 ht m_546 m_548 m_3 m_79 m_549 rfl rfl hd_X9_driftOf_v ⟨Nat.le_of_ble_eq_true rfl, Nat.le_of_ble_eq_true rfl⟩) (vR hPc hKc (va_recv hKc hPc (ci := 9) (q0 := 0) rfl rfl)) rfl rfl hl.1 rfl (lv_room (Nat.le_of_ble_eq_true rfl)) dX9_greatest_26 ⟨Nat.le_of_ble_eq_true rfl, Nat.le_of_ble_eq_true rfl⟩) (fun r4 hr4 => ?_)
  obtain rfl : 0 = r4 := hr4.symm
  refine va_mmax hx hb (hml.trans hl.1.symm) hown (ht _ m_557) (ht _ m_558) (ht _ m_90) (ht _ m_559) (Nat.le_of_ble_eq_true rfl) (Nat.le_of_ble_eq_true rfl) (Nat.le_of_ble_eq_true rfl) (Nat.le_of_ble_eq_true rfl) dX9_greatest_29 ?_
  refine lv_topi (fun v5 ev5 => ?_)
  obtain rfl : 0 = v5 := (ev5.trans (by decide)).symm
  exact W.iret (v := 0) hx hb hr (fun t ht9 hW => ⟨0, rfl, rfl, ht9⟩) (fun q hq => by cases hq) dX9_greatest_32
set_option maxHeartbeats 4000000 in
set_option maxRecDepth 100000 in
/-- X0_bring -/
theorem c_X0_bring (l : Launch) (dC : Nat → ClassId) (dI : Nat → Nat → Nat) (sz : Nat) (h : Nat) (g : Nat → Nat → Nat) (ca : Nat → Nat → ClassId) (a : Int32) : Met l yX0_bring (wc yX0_bring cX0_bring 2 (some .int)) ({ frames := 0, cells := 0, slots := 0, locals := 0 } : Room) (pW (dC, dI) classes [((g 11 2), .inr (0, (o0 h g))), ((g 0 0), .inl ((ca 0 0), 10, .inl (fun _ => 0)))] [((ca 0 0), .int)] sz [.ref (g 11 2), .int a]) (va_Qi (fun r (_ : Unit) => r = 0) (fun _ _ => True) (va_A [((g 11 2), .inr (0, (o0 h g))), ((g 0 0), .inl ((ca 0 0), 10, .inl (fun _ => 0)))] sz)) 0 0 (va_A [((g 11 2), .inr (0, (o0 h g))), ((g 0 0), .inl ((ca 0 0), 10, .inl (fun _ => 0)))] sz) := by
  refine Met.ofW (cc := cX0_bring) (maxL := 2) (ret := (some .int)) (by decide) rfl ?_
  intro p e s m args below meth c s₁ B hml hv
  obtain ⟨rfl, hsz, hP, hK, hD0⟩ := hv
  have hx := B.exec
  have hb := B.bytes
  have hr := B.returns
  have ht := tb_tl (atoms_spec (ws := wc yX0_bring cX0_bring 2 (some .int)) B.pre)
  have hown : s.vm.findClass RX0 = some m.cls := findClass_of_methodNamed B.named
  have hlocks := B.notSynchronized
  subst hsz
  have hD := hD0.self (sz := s.heap.size)
  generalize hAe : va_A [((g 11 2), .inr (0, (o0 h g))), ((g 0 0), .inl ((ca 0 0), 10, .inl (fun _ => 0)))] s.heap.size = A at hD ⊢
  have hA : ∀ q : Nat, s.heap.size ≤ q → A q := fun q h => by rw [← hAe]; exact Or.inr h
  have hS : va_S A s.heap s.heap [] := va_S.rf
  have hP : va_P (dC, dI) classes [((g 11 2), .inr (0, (o0 h g))), ((g 0 0), .inl ((ca 0 0), 10, .inl (fun _ => 0)))] s.heap := hP
  have hl := lv_entry [.ref (g 11 2), .int a] (n := 2) (Nat.le_of_ble_eq_true rfl)
  rw [lg_entry_eq]
  generalize (lg_sl [.ref (g 11 2), .int a] ++ List.replicate (2 - (lg_sl [.ref (g 11 2), .int a]).length) Slot.unset).toArray = ls at hl ⊢
  have hl : lv_has ls 2 [(0, .ref (g 11 2)), (1, .int a)] := hl
  refine lv_aload_n hx hb dX0_bring_0 rfl (lv_at hl 0 rfl) ?_
  refine va_get (D := (dC, dI)) (ci := 0) (v := .ref (g 0 0)) (C := RX0) (T := TX0) (N := 8) hx hb ht inX0 hown hK hP 0 rfl rfl 0 (by decide) (ht _ m_152) (fun _ h9 => h9) rfl dX0_bring_1 ?_
  refine lv_aload_n hx hb dX0_bring_4 rfl (lv_at hl 0 rfl) ?_
  refine va_get (D := (dC, dI)) (ci := 0) (v := .int 0) (C := RX0) (T := TX0) (N := 8) hx hb ht inX0 hown hK hP 0 rfl rfl 7 (by decide) (ht _ m_164) (fun _ h9 => h9) rfl dX0_bring_5 ?_
  refine lv_iload_n hx hb dX0_bring_8 rfl (lv_at hl 1 rfl) ?_
  refine va_iast (D := (dC, dI)) hx hb hK hP hD hS 1 0 rfl rfl (by decide) dX0_bring_9 (fun H locs hP hD hS => ?_)
  obtain ⟨f1, hP, hD⟩ : ∃ f1 : Nat → Int32, va_P (dC, dI) classes [((g 11 2), .inr (0, (o0 h g))), ((g 0 0), .inl ((ca 0 0), 10, .inl f1))] H ∧ va_D A [((g 11 2), .inr (0, (o0 h g))), ((g 0 0), .inl ((ca 0 0), 10, .inl f1))] := ⟨_, hP, hD⟩
  refine lv_aload_n hx hb dX0_bring_10 rfl (lv_at hl 0 rfl) ?_
  refine lv_dup hx hb dX0_bring_11 rfl ?_
  refine va_get (D := (dC, dI)) (ci := 0) (v := .int 0) (C := RX0) (T := TX0) (N := 8) hx hb ht inX0 hown hK hP 0 rfl rfl 7 (by decide) (ht _ m_164) (fun _ h9 => h9) rfl dX0_bring_12 ?_
  refine lv_iconst (v := 1) hx hb dX0_bring_15 (by decide) ?_
  refine lv_iadd hx hb dX0_bring_16 ?_
  refine lv_topi (fun v2 ev2 => ?_)
  obtain rfl : 1 = v2 := (ev2.trans (by decide)).symm
  refine va_put (D := (dC, dI)) (ci := 0) (v := .int 1) (ty := (.int)) (C := RX0) (T := TX0) (N := 8) hx hb ht inX0 tyX0 tyX0_ok nmX0 hown hK hP hD hS 0 rfl rfl 7 (by decide) (ht _ m_164) (fun _ h9 => h9) rfl (by decide +kernel) rfl rfl (Nat.le_of_ble_eq_true rfl) dX0_bring_17 (fun H locs hP hD hS => ?_)
  have hP : va_P (dC, dI) classes [((g 11 2), .inr (0, [.ref (g 0 0), .ref (g 0 1), .ref (g 0 2), .ref (g 0 3), .ref (g 0 4), .ref (g 0 5), .ref (g 0 6), .int 1])), ((g 0 0), .inl ((ca 0 0), 10, .inl f1))] H := hP
  have hD : va_D A [((g 11 2), .inr (0, [.ref (g 0 0), .ref (g 0 1), .ref (g 0 2), .ref (g 0 3), .ref (g 0 4), .ref (g 0 5), .ref (g 0 6), .int 1])), ((g 0 0), .inl ((ca 0 0), 10, .inl f1))] := hD
  refine lv_aload_n hx hb dX0_bring_20 rfl (lv_at hl 0 rfl) ?_
  refine va_get (D := (dC, dI)) (ci := 0) (v := .int 1) (C := RX0) (T := TX0) (N := 8) hx hb ht inX0 hown hK hP 0 rfl rfl 7 (by decide) (ht _ m_164) (fun _ h9 => h9) rfl dX0_bring_21 ?_
  refine lv_iconst (v := 1) hx hb dX0_bring_24 (by decide) ?_
  refine lv_isub hx hb dX0_bring_25 ?_
  refine lv_topi (fun v3 ev3 => ?_)
  obtain rfl : 0 = v3 := (ev3.trans (by decide)).symm
  exact W.iret (v := 0) hx hb hr (fun t ht9 hW => ⟨⟨0, (), rfl, rfl, trivial⟩, hS.F ht9⟩) hS.2.2 dX0_bring_26
set_option maxHeartbeats 4000000 in
set_option maxRecDepth 100000 in
/-- X9_note -/
theorem c_X9_note (l : Launch) (dC : Nat → ClassId) (dI : Nat → Nat → Nat) (sz : Nat) (h : Nat) (g : Nat → Nat → Nat) (ca : Nat → Nat → ClassId) (a : Int32) (b : Int32) : Met l yX9_note (wc yX9_note cX9_note 4 (some .int)) ({ frames := 0, cells := 0, slots := 0, locals := 0 } : Room) (pW (dC, dI) classes [((g 11 1), .inr (9, (o9 h g))), ((g 9 0), .inl ((ca 9 0), 30, .inl (fun _ => 0))), ((g 9 1), .inl ((ca 9 1), 30, .inl (fun _ => 0))), ((g 9 2), .inl ((ca 9 2), 30, .inl (fun _ => 0)))] [((ca 9 0), .int), ((ca 9 1), .int), ((ca 9 2), .int)] sz [.ref (g 11 1), .int a, .int 0, .int b]) (va_Qi (fun r (_ : Unit) => r = 1) (fun _ _ => True) (va_A [((g 11 1), .inr (9, (o9 h g))), ((g 9 0), .inl ((ca 9 0), 30, .inl (fun _ => 0))), ((g 9 1), .inl ((ca 9 1), 30, .inl (fun _ => 0))), ((g 9 2), .inl ((ca 9 2), 30, .inl (fun _ => 0)))] sz)) 0 0 (va_A [((g 11 1), .inr (9, (o9 h g))), ((g 9 0), .inl ((ca 9 0), 30, .inl (fun _ => 0))), ((g 9 1), .inl ((ca 9 1), 30, .inl (fun _ => 0))), ((g 9 2), .inl ((ca 9 2), 30, .inl (fun _ => 0)))] sz) := by
  refine Met.ofW (cc := cX9_note) (maxL := 4) (ret := (some .int)) (by decide) rfl ?_
  intro p e s m args below meth c s₁ B hml hv
  obtain ⟨rfl, hsz, hP, hK, hD0⟩ := hv
  have hx := B.exec
  have hb := B.bytes
  have hr := B.returns
  have ht := tb_tl (atoms_spec (ws := wc yX9_note cX9_note 4 (some .int)) B.pre)
  have hown : s.vm.findClass RX9 = some m.cls := findClass_of_methodNamed B.named
  have hlocks := B.notSynchronized
  subst hsz
  have hD := hD0.self (sz := s.heap.size)
  generalize hAe : va_A [((g 11 1), .inr (9, (o9 h g))), ((g 9 0), .inl ((ca 9 0), 30, .inl (fun _ => 0))), ((g 9 1), .inl ((ca 9 1), 30, .inl (fun _ => 0))), ((g 9 2), .inl ((ca 9 2), 30, .inl (fun _ => 0)))] s.heap.size = A at hD ⊢
  have hA : ∀ q : Nat, s.heap.size ≤ q → A q := fun q h => by rw [← hAe]; exact Or.inr h
  have hS : va_S A s.heap s.heap [] := va_S.rf
  have hP : va_P (dC, dI) classes [((g 11 1), .inr (9, (o9 h g))), ((g 9 0), .inl ((ca 9 0), 30, .inl (fun _ => 0))), ((g 9 1), .inl ((ca 9 1), 30, .inl (fun _ => 0))), ((g 9 2), .inl ((ca 9 2), 30, .inl (fun _ => 0)))] s.heap := hP
  have hl := lv_entry [.ref (g 11 1), .int a, .int 0, .int b] (n := 4) (Nat.le_of_ble_eq_true rfl)
  rw [lg_entry_eq]
  generalize (lg_sl [.ref (g 11 1), .int a, .int 0, .int b] ++ List.replicate (4 - (lg_sl [.ref (g 11 1), .int a, .int 0, .int b]).length) Slot.unset).toArray = ls at hl ⊢
  have hl : lv_has ls 4 [(0, .ref (g 11 1)), (1, .int a), (2, .int 0), (3, .int b)] := hl
  refine lv_aload_n hx hb dX9_note_0 rfl (lv_at hl 0 rfl) ?_
  refine va_get (D := (dC, dI)) (ci := 9) (v := .ref (g 9 0)) (C := RX9) (T := TX9) (N := 4) hx hb ht inX9 hown hK hP 0 rfl rfl 0 (by decide) (ht _ m_132) (fun _ h9 => h9) rfl dX9_note_1 ?_
  refine lv_aload_n hx hb dX9_note_4 rfl (lv_at hl 0 rfl) ?_
  refine va_get (D := (dC, dI)) (ci := 9) (v := .int 0) (C := RX9) (T := TX9) (N := 4) hx hb ht inX9 hown hK hP 0 rfl rfl 3 (by decide) (ht _ m_135) (fun _ h9 => h9) rfl dX9_note_5 ?_
  refine lv_iload_n hx hb dX9_note_8 rfl (lv_at hl 1 rfl) ?_
  refine va_iast (D := (dC, dI)) hx hb hK hP hD hS 1 0 rfl rfl (by decide) dX9_note_9 (fun H locs hP hD hS => ?_)
  obtain ⟨f1, hP, hD⟩ : ∃ f1 : Nat → Int32, va_P (dC, dI) classes [((g 11 1), .inr (9, (o9 h g))), ((g 9 0), .inl ((ca 9 0), 30, .inl f1)), ((g 9 1), .inl ((ca 9 1), 30, .inl (fun _ => 0))), ((g 9 2), .inl ((ca 9 2), 30, .inl (fun _ => 0)))] H ∧ va_D A [((g 11 1), .inr (9, (o9 h g))), ((g 9 0), .inl ((ca 9 0), 30, .inl f1)), ((g 9 1), .inl ((ca 9 1), 30, .inl (fun _ => 0))), ((g 9 2), .inl ((ca 9 2), 30, .inl (fun _ => 0)))] := ⟨_, hP, hD⟩
  refine lv_aload_n hx hb dX9_note_10 rfl (lv_at hl 0 rfl) ?_
  refine va_get (D := (dC, dI)) (ci := 9) (v := .ref (g 9 1)) (C := RX9) (T := TX9) (N := 4) hx hb ht inX9 hown hK hP 0 rfl rfl 1 (by decide) (ht _ m_133) (fun _ h9 => h9) rfl dX9_note_11 ?_
  refine lv_aload_n hx hb dX9_note_14 rfl (lv_at hl 0 rfl) ?_
  refine va_get (D := (dC, dI)) (ci := 9) (v := .int 0) (C := RX9) (T := TX9) (N := 4) hx hb ht inX9 hown hK hP 0 rfl rfl 3 (by decide) (ht _ m_135) (fun _ h9 => h9) rfl dX9_note_15 ?_
  refine lv_iload_n hx hb dX9_note_18 rfl (lv_at hl 2 rfl) ?_
  refine va_iast (D := (dC, dI)) hx hb hK hP hD hS 2 1 rfl rfl (by decide) dX9_note_19 (fun H locs hP hD hS => ?_)
  obtain ⟨f2, hP, hD⟩ : ∃ f2 : Nat → Int32, va_P (dC, dI) classes [((g 11 1), .inr (9, (o9 h g))), ((g 9 0), .inl ((ca 9 0), 30, .inl f1)), ((g 9 1), .inl ((ca 9 1), 30, .inl f2)), ((g 9 2), .inl ((ca 9 2), 30, .inl (fun _ => 0)))] H ∧ va_D A [((g 11 1), .inr (9, (o9 h g))), ((g 9 0), .inl ((ca 9 0), 30, .inl f1)), ((g 9 1), .inl ((ca 9 1), 30, .inl f2)), ((g 9 2), .inl ((ca 9 2), 30, .inl (fun _ => 0)))] := ⟨_, hP, hD⟩
  refine lv_aload_n hx hb dX9_note_20 rfl (lv_at hl 0 rfl) ?_
  refine va_get (D := (dC, dI)) (ci := 9) (v := .ref (g 9 2)) (C := RX9) (T := TX9) (N := 4) hx hb ht inX9 hown hK hP 0 rfl rfl 2 (by decide) (ht _ m_134) (fun _ h9 => h9) rfl dX9_note_21 ?_
  refine lv_aload_n hx hb dX9_note_24 rfl (lv_at hl 0 rfl) ?_
  refine va_get (D := (dC, dI)) (ci := 9) (v := .int 0) (C := RX9) (T := TX9) (N := 4) hx hb ht inX9 hown hK hP 0 rfl rfl 3 (by decide) (ht _ m_135) (fun _ h9 => h9) rfl dX9_note_25 ?_
  refine lv_iload_n hx hb dX9_note_28 rfl (lv_at hl 3 rfl) ?_
  refine va_iast (D := (dC, dI)) hx hb hK hP hD hS 3 2 rfl rfl (by decide) dX9_note_29 (fun H locs hP hD hS => ?_)
  obtain ⟨f3, hP, hD⟩ : ∃ f3 : Nat → Int32, va_P (dC, dI) classes [((g 11 1), .inr (9, (o9 h g))), ((g 9 0), .inl ((ca 9 0), 30, .inl f1)), ((g 9 1), .inl ((ca 9 1), 30, .inl f2)), ((g 9 2), .inl ((ca 9 2), 30, .inl f3))] H ∧ va_D A [((g 11 1), .inr (9, (o9 h g))), ((g 9 0), .inl ((ca 9 0), 30, .inl f1)), ((g 9 1), .inl ((ca 9 1), 30, .inl f2)), ((g 9 2), .inl ((ca 9 2), 30, .inl f3))] := ⟨_, hP, hD⟩
  refine lv_aload_n hx hb dX9_note_30 rfl (lv_at hl 0 rfl) ?_
  refine lv_dup hx hb dX9_note_31 rfl ?_
  refine va_get (D := (dC, dI)) (ci := 9) (v := .int 0) (C := RX9) (T := TX9) (N := 4) hx hb ht inX9 hown hK hP 0 rfl rfl 3 (by decide) (ht _ m_135) (fun _ h9 => h9) rfl dX9_note_32 ?_
  refine lv_iconst (v := 1) hx hb dX9_note_35 (by decide) ?_
  refine lv_iadd hx hb dX9_note_36 ?_
  refine lv_topi (fun v4 ev4 => ?_)
  obtain rfl : 1 = v4 := (ev4.trans (by decide)).symm
  refine va_put (D := (dC, dI)) (ci := 9) (v := .int 1) (ty := (.int)) (C := RX9) (T := TX9) (N := 4) hx hb ht inX9 tyX9 tyX9_ok nmX9 hown hK hP hD hS 0 rfl rfl 3 (by decide) (ht _ m_135) (fun _ h9 => h9) rfl (by decide +kernel) rfl rfl (Nat.le_of_ble_eq_true rfl) dX9_note_37 (fun H locs hP hD hS => ?_)
  have hP : va_P (dC, dI) classes [((g 11 1), .inr (9, [.ref (g 9 0), .ref (g 9 1), .ref (g 9 2), .int 1])), ((g 9 0), .inl ((ca 9 0), 30, .inl f1)), ((g 9 1), .inl ((ca 9 1), 30, .inl f2)), ((g 9 2), .inl ((ca 9 2), 30, .inl f3))] H := hP
  have hD : va_D A [((g 11 1), .inr (9, [.ref (g 9 0), .ref (g 9 1), .ref (g 9 2), .int 1])), ((g 9 0), .inl ((ca 9 0), 30, .inl f1)), ((g 9 1), .inl ((ca 9 1), 30, .inl f2)), ((g 9 2), .inl ((ca 9 2), 30, .inl f3))] := hD
  refine lv_aload_n hx hb dX9_note_40 rfl (lv_at hl 0 rfl) ?_
  refine va_get (D := (dC, dI)) (ci := 9) (v := .int 1) (C := RX9) (T := TX9) (N := 4) hx hb ht inX9 hown hK hP 0 rfl rfl 3 (by decide) (ht _ m_135) (fun _ h9 => h9) rfl dX9_note_41 ?_
  exact W.iret (v := 1) hx hb hr (fun t ht9 hW => ⟨⟨1, (), rfl, rfl, trivial⟩, hS.F ht9⟩) hS.2.2 dX9_note_44
set_option maxHeartbeats 4000000 in
set_option maxRecDepth 100000 in
/-- X8_take -/
theorem c_X8_take (l : Launch) (dC : Nat → ClassId) (dI : Nat → Nat → Nat) (sz : Nat) (h : Nat) (g : Nat → Nat → Nat) (ca : Nat → Nat → ClassId) (n : Int32) (k : Int64) (h_n : 1 ≤ n.toInt ∧ n.toInt ≤ 8) : Met l yX8_take (wc yX8_take cX8_take 5 (some .int)) ({ frames := 0, cells := 0, slots := 0, locals := 0 } : Room) (pW (dC, dI) classes [((g 11 4), .inr (8, (o8 h g))), ((g 8 1), .inl ((ca 8 1), 200, .inl (fun _ => 0)))] [((ca 8 1), .byte)] sz [.ref (g 11 4), .int n, .long k]) (va_Qi (fun r (_ : Unit) => r = n) (fun _ _ => True) (va_A [((g 11 4), .inr (8, (o8 h g))), ((g 8 1), .inl ((ca 8 1), 200, .inl (fun _ => 0)))] sz)) 0 0 (va_A [((g 11 4), .inr (8, (o8 h g))), ((g 8 1), .inl ((ca 8 1), 200, .inl (fun _ => 0)))] sz) := by
  refine Met.ofW (cc := cX8_take) (maxL := 5) (ret := (some .int)) (by decide) rfl ?_
  intro p e s m args below meth c s₁ B hml hv
  obtain ⟨rfl, hsz, hP, hK, hD0⟩ := hv
  have hx := B.exec
  have hb := B.bytes
  have hr := B.returns
  have ht := tb_tl (atoms_spec (ws := wc yX8_take cX8_take 5 (some .int)) B.pre)
  have hown : s.vm.findClass RX8 = some m.cls := findClass_of_methodNamed B.named
  have hlocks := B.notSynchronized
  subst hsz
  have hD := hD0.self (sz := s.heap.size)
  generalize hAe : va_A [((g 11 4), .inr (8, (o8 h g))), ((g 8 1), .inl ((ca 8 1), 200, .inl (fun _ => 0)))] s.heap.size = A at hD ⊢
  have hA : ∀ q : Nat, s.heap.size ≤ q → A q := fun q h => by rw [← hAe]; exact Or.inr h
  have hS : va_S A s.heap s.heap [] := va_S.rf
  have hP : va_P (dC, dI) classes [((g 11 4), .inr (8, (o8 h g))), ((g 8 1), .inl ((ca 8 1), 200, .inl (fun _ => 0)))] s.heap := hP
  have hl := lv_entry [.ref (g 11 4), .int n, .long k] (n := 5) (Nat.le_of_ble_eq_true rfl)
  rw [lg_entry_eq]
  generalize (lg_sl [.ref (g 11 4), .int n, .long k] ++ List.replicate (5 - (lg_sl [.ref (g 11 4), .int n, .long k]).length) Slot.unset).toArray = ls at hl ⊢
  have hl : lv_has ls 5 [(0, .ref (g 11 4)), (1, .int n), (2, .long k)] := hl
  refine lv_iload_n hx hb dX8_take_0 rfl (lv_at hl 1 rfl) ?_
  refine lv_iconst (v := 1) hx hb dX8_take_1 (by decide) ?_
  refine lv_isub hx hb dX8_take_2 ?_
  refine lv_topi (fun v1 ev1 => ?_)
  have tv1 := z_sub ev1 (rfl : (n).toInt = _) (by decide : (1 : Int32).toInt = 1) (by omega) (by omega)
  refine lv_istore (lv' := [(4, .int v1), (0, .ref (g 11 4)), (1, .int n), (2, .long k)]) hx hb dX8_take_3 hl (by decide) rfl (fun ls hl => ?_)
  refine lv_iload hx hb dX8_take_5 (lv_at hl 0 rfl) ?_
  refine lv_if_lt (tgt := 44) hx hb dX8_take_7 (by decide) (fun c2 => ?_) (fun c2 => ?_)
  · have fc2 := z_lt (rfl : (v1).toInt = _) (by decide : (0 : Int32).toInt = 0) c2; exfalso; omega
  · skip
    refine lv_aload_n hx hb dX8_take_10 rfl (lv_at hl 1 rfl) ?_
    refine va_get (D := (dC, dI)) (ci := 8) (v := .ref (g 8 1)) (C := RX8) (T := TX8) (N := 6) hx hb ht inX8 hown hK hP 0 rfl rfl 1 (by decide) (ht _ m_229) (fun _ h9 => h9) rfl dX8_take_11 ?_
    refine lv_aload_n hx hb dX8_take_14 rfl (lv_at hl 1 rfl) ?_
    refine va_get (D := (dC, dI)) (ci := 8) (v := .int 0) (C := RX8) (T := TX8) (N := 6) hx hb ht inX8 hown hK hP 0 rfl rfl 2 (by decide) (ht _ m_230) (fun _ h9 => h9) rfl dX8_take_15 ?_
    refine lv_lload_n hx hb dX8_take_18 rfl (lv_at hl 3 rfl) ?_
    refine lv_bipush (v := 8) hx hb dX8_take_19 (by decide) ?_
    refine lv_iload hx hb dX8_take_21 (lv_at hl 0 rfl) ?_
    refine lv_imul hx hb dX8_take_23 ?_
    refine lv_topi (fun v3 ev3 => ?_)
    obtain ⟨w4, ew4⟩ : ∃ y : Int64, (k.toUInt64 >>> ((v3 : Int32).toInt64.toUInt64 &&& Int64.toUInt64 63)).toInt64 = y := ⟨_, rfl⟩
    refine lv_lushr (v := w4) hx hb dX8_take_24 ew4 ?_
    obtain ⟨v5, ev5⟩ : ∃ y : Int32, w4.toInt32 = y := ⟨_, rfl⟩
    refine lv_l2i (v := v5) hx hb dX8_take_25 ev5 ?_
    obtain ⟨v6, ev6⟩ : ∃ y : Int32, v5.toInt8.toInt32 = y := ⟨_, rfl⟩
    refine lv_i2b (v := v6) hx hb dX8_take_26 ev6 ?_
    refine va_bast (D := (dC, dI)) hx hb hK hP hD hS 1 0 rfl rfl (by decide) dX8_take_27 (fun H locs hP hD hS => ?_)
    obtain ⟨f7, hP, hD⟩ : ∃ f7 : Nat → Int32, va_P (dC, dI) classes [((g 11 4), .inr (8, (o8 h g))), ((g 8 1), .inl ((ca 8 1), 200, .inl f7))] H ∧ va_D A [((g 11 4), .inr (8, (o8 h g))), ((g 8 1), .inl ((ca 8 1), 200, .inl f7))] := ⟨_, hP, hD⟩
    refine lv_aload_n hx hb dX8_take_28 rfl (lv_at hl 1 rfl) ?_
    refine lv_dup hx hb dX8_take_29 rfl ?_
    refine va_get (D := (dC, dI)) (ci := 8) (v := .int 0) (C := RX8) (T := TX8) (N := 6) hx hb ht inX8 hown hK hP 0 rfl rfl 2 (by decide) (ht _ m_230) (fun _ h9 => h9) rfl dX8_take_30 ?_
    refine lv_iconst (v := 1) hx hb dX8_take_33 (by decide) ?_
    refine lv_iadd hx hb dX8_take_34 ?_
    refine lv_topi (fun v8 ev8 => ?_)
    obtain rfl : 1 = v8 := (ev8.trans (by decide)).symm
    refine va_put (D := (dC, dI)) (ci := 8) (v := .int 1) (ty := (.int)) (C := RX8) (T := TX8) (N := 6) hx hb ht inX8 tyX8 tyX8_ok nmX8 hown hK hP hD hS 0 rfl rfl 2 (by decide) (ht _ m_230) (fun _ h9 => h9) rfl (by decide +kernel) rfl rfl (Nat.le_of_ble_eq_true rfl) dX8_take_35 (fun H locs hP hD hS => ?_)
    have hP : va_P (dC, dI) classes [((g 11 4), .inr (8, [.ref (g 11 3), .ref (g 8 1), .int 1, .int (-1), .int 0, .int 0])), ((g 8 1), .inl ((ca 8 1), 200, .inl f7))] H := hP
    have hD : va_D A [((g 11 4), .inr (8, [.ref (g 11 3), .ref (g 8 1), .int 1, .int (-1), .int 0, .int 0])), ((g 8 1), .inl ((ca 8 1), 200, .inl f7))] := hD
    obtain ⟨v9, ev9⟩ : ∃ y : Int32, y = v1 + (-1) := ⟨_, rfl⟩
    have tv9 := z_add ev9 rfl (by decide : ((-1) : Int32).toInt = (-1)) (by omega) (by omega)
    refine lv_iinc (v := v9) (lv' := [(4, .int v9), (0, .ref (g 11 4)), (1, .int n), (2, .long k)]) hx hb dX8_take_38 hl (k := 0) rfl (by rw [ev9]; rfl) (by decide) rfl (fun ls hl => ?_)
    refine lv_goto (tgt := 5) hx hb dX8_take_41 (by decide) ?_
    refine lv_iload hx hb dX8_take_5 (lv_at hl 0 rfl) ?_
    refine lv_if_lt (tgt := 44) hx hb dX8_take_7 (by decide) (fun c10 => ?_) (fun c10 => ?_)
    · have fc10 := z_lt (rfl : (v9).toInt = _) (by decide : (0 : Int32).toInt = 0) c10
      refine lv_aload_n hx hb dX8_take_44 rfl (lv_at hl 1 rfl) ?_
      refine va_get (D := (dC, dI)) (ci := 8) (v := .int 1) (C := RX8) (T := TX8) (N := 6) hx hb ht inX8 hown hK hP 0 rfl rfl 2 (by decide) (ht _ m_230) (fun _ h9 => h9) rfl dX8_take_45 ?_
      exact W.iret (v := 1) hx hb hr (fun t ht9 hW => ⟨⟨1, (), rfl, (z_of (x := 1) (by omega) (by decide)), trivial⟩, hS.F ht9⟩) hS.2.2 dX8_take_48
    · have fc10 := z_nlt (rfl : (v9).toInt = _) (by decide : (0 : Int32).toInt = 0) c10
      refine lv_aload_n hx hb dX8_take_10 rfl (lv_at hl 1 rfl) ?_
      refine va_get (D := (dC, dI)) (ci := 8) (v := .ref (g 8 1)) (C := RX8) (T := TX8) (N := 6) hx hb ht inX8 hown hK hP 0 rfl rfl 1 (by decide) (ht _ m_229) (fun _ h9 => h9) rfl dX8_take_11 ?_
      refine lv_aload_n hx hb dX8_take_14 rfl (lv_at hl 1 rfl) ?_
      refine va_get (D := (dC, dI)) (ci := 8) (v := .int 1) (C := RX8) (T := TX8) (N := 6) hx hb ht inX8 hown hK hP 0 rfl rfl 2 (by decide) (ht _ m_230) (fun _ h9 => h9) rfl dX8_take_15 ?_
      refine lv_lload_n hx hb dX8_take_18 rfl (lv_at hl 3 rfl) ?_
      refine lv_bipush (v := 8) hx hb dX8_take_19 (by decide) ?_
      refine lv_iload hx hb dX8_take_21 (lv_at hl 0 rfl) ?_
      refine lv_imul hx hb dX8_take_23 ?_
      refine lv_topi (fun v11 ev11 => ?_)
      obtain ⟨w12, ew12⟩ : ∃ y : Int64, (k.toUInt64 >>> ((v11 : Int32).toInt64.toUInt64 &&& Int64.toUInt64 63)).toInt64 = y := ⟨_, rfl⟩
      refine lv_lushr (v := w12) hx hb dX8_take_24 ew12 ?_
      obtain ⟨v13, ev13⟩ : ∃ y : Int32, w12.toInt32 = y := ⟨_, rfl⟩
      refine lv_l2i (v := v13) hx hb dX8_take_25 ev13 ?_
      obtain ⟨v14, ev14⟩ : ∃ y : Int32, v13.toInt8.toInt32 = y := ⟨_, rfl⟩
      refine lv_i2b (v := v14) hx hb dX8_take_26 ev14 ?_
      refine va_bast (D := (dC, dI)) hx hb hK hP hD hS 1 0 rfl rfl (by decide) dX8_take_27 (fun H locs hP hD hS => ?_)
      obtain ⟨f15, hP, hD⟩ : ∃ f15 : Nat → Int32, va_P (dC, dI) classes [((g 11 4), .inr (8, [.ref (g 11 3), .ref (g 8 1), .int 1, .int (-1), .int 0, .int 0])), ((g 8 1), .inl ((ca 8 1), 200, .inl f15))] H ∧ va_D A [((g 11 4), .inr (8, [.ref (g 11 3), .ref (g 8 1), .int 1, .int (-1), .int 0, .int 0])), ((g 8 1), .inl ((ca 8 1), 200, .inl f15))] := ⟨_, hP, hD⟩
      refine lv_aload_n hx hb dX8_take_28 rfl (lv_at hl 1 rfl) ?_
      refine lv_dup hx hb dX8_take_29 rfl ?_
      refine va_get (D := (dC, dI)) (ci := 8) (v := .int 1) (C := RX8) (T := TX8) (N := 6) hx hb ht inX8 hown hK hP 0 rfl rfl 2 (by decide) (ht _ m_230) (fun _ h9 => h9) rfl dX8_take_30 ?_
      refine lv_iconst (v := 1) hx hb dX8_take_33 (by decide) ?_
      refine lv_iadd hx hb dX8_take_34 ?_
      refine lv_topi (fun v16 ev16 => ?_)
      obtain rfl : 2 = v16 := (ev16.trans (by decide)).symm
      refine va_put (D := (dC, dI)) (ci := 8) (v := .int 2) (ty := (.int)) (C := RX8) (T := TX8) (N := 6) hx hb ht inX8 tyX8 tyX8_ok nmX8 hown hK hP hD hS 0 rfl rfl 2 (by decide) (ht _ m_230) (fun _ h9 => h9) rfl (by decide +kernel) rfl rfl (Nat.le_of_ble_eq_true rfl) dX8_take_35 (fun H locs hP hD hS => ?_)
      have hP : va_P (dC, dI) classes [((g 11 4), .inr (8, [.ref (g 11 3), .ref (g 8 1), .int 2, .int (-1), .int 0, .int 0])), ((g 8 1), .inl ((ca 8 1), 200, .inl f15))] H := hP
      have hD : va_D A [((g 11 4), .inr (8, [.ref (g 11 3), .ref (g 8 1), .int 2, .int (-1), .int 0, .int 0])), ((g 8 1), .inl ((ca 8 1), 200, .inl f15))] := hD
      obtain ⟨v17, ev17⟩ : ∃ y : Int32, y = v9 + (-1) := ⟨_, rfl⟩
      have tv17 := z_add ev17 rfl (by decide : ((-1) : Int32).toInt = (-1)) (by omega) (by omega)
      refine lv_iinc (v := v17) (lv' := [(4, .int v17), (0, .ref (g 11 4)), (1, .int n), (2, .long k)]) hx hb dX8_take_38 hl (k := 0) rfl (by rw [ev17]; rfl) (by decide) rfl (fun ls hl => ?_)
      refine lv_goto (tgt := 5) hx hb dX8_take_41 (by decide) ?_
      refine lv_iload hx hb dX8_take_5 (lv_at hl 0 rfl) ?_
      refine lv_if_lt (tgt := 44) hx hb dX8_take_7 (by decide) (fun c18 => ?_) (fun c18 => ?_)
      · have fc18 := z_lt (rfl : (v17).toInt = _) (by decide : (0 : Int32).toInt = 0) c18
        refine lv_aload_n hx hb dX8_take_44 rfl (lv_at hl 1 rfl) ?_
        refine va_get (D := (dC, dI)) (ci := 8) (v := .int 2) (C := RX8) (T := TX8) (N := 6) hx hb ht inX8 hown hK hP 0 rfl rfl 2 (by decide) (ht _ m_230) (fun _ h9 => h9) rfl dX8_take_45 ?_
        exact W.iret (v := 2) hx hb hr (fun t ht9 hW => ⟨⟨2, (), rfl, (z_of (x := 2) (by omega) (by decide)), trivial⟩, hS.F ht9⟩) hS.2.2 dX8_take_48
      · have fc18 := z_nlt (rfl : (v17).toInt = _) (by decide : (0 : Int32).toInt = 0) c18
        refine lv_aload_n hx hb dX8_take_10 rfl (lv_at hl 1 rfl) ?_
        refine va_get (D := (dC, dI)) (ci := 8) (v := .ref (g 8 1)) (C := RX8) (T := TX8) (N := 6) hx hb ht inX8 hown hK hP 0 rfl rfl 1 (by decide) (ht _ m_229) (fun _ h9 => h9) rfl dX8_take_11 ?_
        refine lv_aload_n hx hb dX8_take_14 rfl (lv_at hl 1 rfl) ?_
        refine va_get (D := (dC, dI)) (ci := 8) (v := .int 2) (C := RX8) (T := TX8) (N := 6) hx hb ht inX8 hown hK hP 0 rfl rfl 2 (by decide) (ht _ m_230) (fun _ h9 => h9) rfl dX8_take_15 ?_
        refine lv_lload_n hx hb dX8_take_18 rfl (lv_at hl 3 rfl) ?_
        refine lv_bipush (v := 8) hx hb dX8_take_19 (by decide) ?_
        refine lv_iload hx hb dX8_take_21 (lv_at hl 0 rfl) ?_
        refine lv_imul hx hb dX8_take_23 ?_
        refine lv_topi (fun v19 ev19 => ?_)
        obtain ⟨w20, ew20⟩ : ∃ y : Int64, (k.toUInt64 >>> ((v19 : Int32).toInt64.toUInt64 &&& Int64.toUInt64 63)).toInt64 = y := ⟨_, rfl⟩
        refine lv_lushr (v := w20) hx hb dX8_take_24 ew20 ?_
        obtain ⟨v21, ev21⟩ : ∃ y : Int32, w20.toInt32 = y := ⟨_, rfl⟩
        refine lv_l2i (v := v21) hx hb dX8_take_25 ev21 ?_
        obtain ⟨v22, ev22⟩ : ∃ y : Int32, v21.toInt8.toInt32 = y := ⟨_, rfl⟩
        refine lv_i2b (v := v22) hx hb dX8_take_26 ev22 ?_
        refine va_bast (D := (dC, dI)) hx hb hK hP hD hS 1 0 rfl rfl (by decide) dX8_take_27 (fun H locs hP hD hS => ?_)
        obtain ⟨f23, hP, hD⟩ : ∃ f23 : Nat → Int32, va_P (dC, dI) classes [((g 11 4), .inr (8, [.ref (g 11 3), .ref (g 8 1), .int 2, .int (-1), .int 0, .int 0])), ((g 8 1), .inl ((ca 8 1), 200, .inl f23))] H ∧ va_D A [((g 11 4), .inr (8, [.ref (g 11 3), .ref (g 8 1), .int 2, .int (-1), .int 0, .int 0])), ((g 8 1), .inl ((ca 8 1), 200, .inl f23))] := ⟨_, hP, hD⟩
        refine lv_aload_n hx hb dX8_take_28 rfl (lv_at hl 1 rfl) ?_
        refine lv_dup hx hb dX8_take_29 rfl ?_
        refine va_get (D := (dC, dI)) (ci := 8) (v := .int 2) (C := RX8) (T := TX8) (N := 6) hx hb ht inX8 hown hK hP 0 rfl rfl 2 (by decide) (ht _ m_230) (fun _ h9 => h9) rfl dX8_take_30 ?_
        refine lv_iconst (v := 1) hx hb dX8_take_33 (by decide) ?_
        refine lv_iadd hx hb dX8_take_34 ?_
        refine lv_topi (fun v24 ev24 => ?_)
        obtain rfl : 3 = v24 := (ev24.trans (by decide)).symm
        refine va_put (D := (dC, dI)) (ci := 8) (v := .int 3) (ty := (.int)) (C := RX8) (T := TX8) (N := 6) hx hb ht inX8 tyX8 tyX8_ok nmX8 hown hK hP hD hS 0 rfl rfl 2 (by decide) (ht _ m_230) (fun _ h9 => h9) rfl (by decide +kernel) rfl rfl (Nat.le_of_ble_eq_true rfl) dX8_take_35 (fun H locs hP hD hS => ?_)
        have hP : va_P (dC, dI) classes [((g 11 4), .inr (8, [.ref (g 11 3), .ref (g 8 1), .int 3, .int (-1), .int 0, .int 0])), ((g 8 1), .inl ((ca 8 1), 200, .inl f23))] H := hP
        have hD : va_D A [((g 11 4), .inr (8, [.ref (g 11 3), .ref (g 8 1), .int 3, .int (-1), .int 0, .int 0])), ((g 8 1), .inl ((ca 8 1), 200, .inl f23))] := hD
        obtain ⟨v25, ev25⟩ : ∃ y : Int32, y = v17 + (-1) := ⟨_, rfl⟩
        have tv25 := z_add ev25 rfl (by decide : ((-1) : Int32).toInt = (-1)) (by omega) (by omega)
        refine lv_iinc (v := v25) (lv' := [(4, .int v25), (0, .ref (g 11 4)), (1, .int n), (2, .long k)]) hx hb dX8_take_38 hl (k := 0) rfl (by rw [ev25]; rfl) (by decide) rfl (fun ls hl => ?_)
        refine lv_goto (tgt := 5) hx hb dX8_take_41 (by decide) ?_
        refine lv_iload hx hb dX8_take_5 (lv_at hl 0 rfl) ?_
        refine lv_if_lt (tgt := 44) hx hb dX8_take_7 (by decide) (fun c26 => ?_) (fun c26 => ?_)
        · have fc26 := z_lt (rfl : (v25).toInt = _) (by decide : (0 : Int32).toInt = 0) c26
          refine lv_aload_n hx hb dX8_take_44 rfl (lv_at hl 1 rfl) ?_
          refine va_get (D := (dC, dI)) (ci := 8) (v := .int 3) (C := RX8) (T := TX8) (N := 6) hx hb ht inX8 hown hK hP 0 rfl rfl 2 (by decide) (ht _ m_230) (fun _ h9 => h9) rfl dX8_take_45 ?_
          exact W.iret (v := 3) hx hb hr (fun t ht9 hW => ⟨⟨3, (), rfl, (z_of (x := 3) (by omega) (by decide)), trivial⟩, hS.F ht9⟩) hS.2.2 dX8_take_48
        · have fc26 := z_nlt (rfl : (v25).toInt = _) (by decide : (0 : Int32).toInt = 0) c26
          refine lv_aload_n hx hb dX8_take_10 rfl (lv_at hl 1 rfl) ?_
          refine va_get (D := (dC, dI)) (ci := 8) (v := .ref (g 8 1)) (C := RX8) (T := TX8) (N := 6) hx hb ht inX8 hown hK hP 0 rfl rfl 1 (by decide) (ht _ m_229) (fun _ h9 => h9) rfl dX8_take_11 ?_
          refine lv_aload_n hx hb dX8_take_14 rfl (lv_at hl 1 rfl) ?_
          refine va_get (D := (dC, dI)) (ci := 8) (v := .int 3) (C := RX8) (T := TX8) (N := 6) hx hb ht inX8 hown hK hP 0 rfl rfl 2 (by decide) (ht _ m_230) (fun _ h9 => h9) rfl dX8_take_15 ?_
          refine lv_lload_n hx hb dX8_take_18 rfl (lv_at hl 3 rfl) ?_
          refine lv_bipush (v := 8) hx hb dX8_take_19 (by decide) ?_
          refine lv_iload hx hb dX8_take_21 (lv_at hl 0 rfl) ?_
          refine lv_imul hx hb dX8_take_23 ?_
          refine lv_topi (fun v27 ev27 => ?_)
          obtain ⟨w28, ew28⟩ : ∃ y : Int64, (k.toUInt64 >>> ((v27 : Int32).toInt64.toUInt64 &&& Int64.toUInt64 63)).toInt64 = y := ⟨_, rfl⟩
          refine lv_lushr (v := w28) hx hb dX8_take_24 ew28 ?_
          obtain ⟨v29, ev29⟩ : ∃ y : Int32, w28.toInt32 = y := ⟨_, rfl⟩
          refine lv_l2i (v := v29) hx hb dX8_take_25 ev29 ?_
          obtain ⟨v30, ev30⟩ : ∃ y : Int32, v29.toInt8.toInt32 = y := ⟨_, rfl⟩
          refine lv_i2b (v := v30) hx hb dX8_take_26 ev30 ?_
          refine va_bast (D := (dC, dI)) hx hb hK hP hD hS 1 0 rfl rfl (by decide) dX8_take_27 (fun H locs hP hD hS => ?_)
          obtain ⟨f31, hP, hD⟩ : ∃ f31 : Nat → Int32, va_P (dC, dI) classes [((g 11 4), .inr (8, [.ref (g 11 3), .ref (g 8 1), .int 3, .int (-1), .int 0, .int 0])), ((g 8 1), .inl ((ca 8 1), 200, .inl f31))] H ∧ va_D A [((g 11 4), .inr (8, [.ref (g 11 3), .ref (g 8 1), .int 3, .int (-1), .int 0, .int 0])), ((g 8 1), .inl ((ca 8 1), 200, .inl f31))] := ⟨_, hP, hD⟩
          refine lv_aload_n hx hb dX8_take_28 rfl (lv_at hl 1 rfl) ?_
          refine lv_dup hx hb dX8_take_29 rfl ?_
          refine va_get (D := (dC, dI)) (ci := 8) (v := .int 3) (C := RX8) (T := TX8) (N := 6) hx hb ht inX8 hown hK hP 0 rfl rfl 2 (by decide) (ht _ m_230) (fun _ h9 => h9) rfl dX8_take_30 ?_
          refine lv_iconst (v := 1) hx hb dX8_take_33 (by decide) ?_
          refine lv_iadd hx hb dX8_take_34 ?_
          refine lv_topi (fun v32 ev32 => ?_)
          obtain rfl : 4 = v32 := (ev32.trans (by decide)).symm
          refine va_put (D := (dC, dI)) (ci := 8) (v := .int 4) (ty := (.int)) (C := RX8) (T := TX8) (N := 6) hx hb ht inX8 tyX8 tyX8_ok nmX8 hown hK hP hD hS 0 rfl rfl 2 (by decide) (ht _ m_230) (fun _ h9 => h9) rfl (by decide +kernel) rfl rfl (Nat.le_of_ble_eq_true rfl) dX8_take_35 (fun H locs hP hD hS => ?_)
          have hP : va_P (dC, dI) classes [((g 11 4), .inr (8, [.ref (g 11 3), .ref (g 8 1), .int 4, .int (-1), .int 0, .int 0])), ((g 8 1), .inl ((ca 8 1), 200, .inl f31))] H := hP
          have hD : va_D A [((g 11 4), .inr (8, [.ref (g 11 3), .ref (g 8 1), .int 4, .int (-1), .int 0, .int 0])), ((g 8 1), .inl ((ca 8 1), 200, .inl f31))] := hD
          obtain ⟨v33, ev33⟩ : ∃ y : Int32, y = v25 + (-1) := ⟨_, rfl⟩
          have tv33 := z_add ev33 rfl (by decide : ((-1) : Int32).toInt = (-1)) (by omega) (by omega)
          refine lv_iinc (v := v33) (lv' := [(4, .int v33), (0, .ref (g 11 4)), (1, .int n), (2, .long k)]) hx hb dX8_take_38 hl (k := 0) rfl (by rw [ev33]; rfl) (by decide) rfl (fun ls hl => ?_)
          refine lv_goto (tgt := 5) hx hb dX8_take_41 (by decide) ?_
          refine lv_iload hx hb dX8_take_5 (lv_at hl 0 rfl) ?_
          refine lv_if_lt (tgt := 44) hx hb dX8_take_7 (by decide) (fun c34 => ?_) (fun c34 => ?_)
          · have fc34 := z_lt (rfl : (v33).toInt = _) (by decide : (0 : Int32).toInt = 0) c34
            refine lv_aload_n hx hb dX8_take_44 rfl (lv_at hl 1 rfl) ?_
            refine va_get (D := (dC, dI)) (ci := 8) (v := .int 4) (C := RX8) (T := TX8) (N := 6) hx hb ht inX8 hown hK hP 0 rfl rfl 2 (by decide) (ht _ m_230) (fun _ h9 => h9) rfl dX8_take_45 ?_
            exact W.iret (v := 4) hx hb hr (fun t ht9 hW => ⟨⟨4, (), rfl, (z_of (x := 4) (by omega) (by decide)), trivial⟩, hS.F ht9⟩) hS.2.2 dX8_take_48
          · have fc34 := z_nlt (rfl : (v33).toInt = _) (by decide : (0 : Int32).toInt = 0) c34
            refine lv_aload_n hx hb dX8_take_10 rfl (lv_at hl 1 rfl) ?_
            refine va_get (D := (dC, dI)) (ci := 8) (v := .ref (g 8 1)) (C := RX8) (T := TX8) (N := 6) hx hb ht inX8 hown hK hP 0 rfl rfl 1 (by decide) (ht _ m_229) (fun _ h9 => h9) rfl dX8_take_11 ?_
            refine lv_aload_n hx hb dX8_take_14 rfl (lv_at hl 1 rfl) ?_
            refine va_get (D := (dC, dI)) (ci := 8) (v := .int 4) (C := RX8) (T := TX8) (N := 6) hx hb ht inX8 hown hK hP 0 rfl rfl 2 (by decide) (ht _ m_230) (fun _ h9 => h9) rfl dX8_take_15 ?_
            refine lv_lload_n hx hb dX8_take_18 rfl (lv_at hl 3 rfl) ?_
            refine lv_bipush (v := 8) hx hb dX8_take_19 (by decide) ?_
            refine lv_iload hx hb dX8_take_21 (lv_at hl 0 rfl) ?_
            refine lv_imul hx hb dX8_take_23 ?_
            refine lv_topi (fun v35 ev35 => ?_)
            obtain ⟨w36, ew36⟩ : ∃ y : Int64, (k.toUInt64 >>> ((v35 : Int32).toInt64.toUInt64 &&& Int64.toUInt64 63)).toInt64 = y := ⟨_, rfl⟩
            refine lv_lushr (v := w36) hx hb dX8_take_24 ew36 ?_
            obtain ⟨v37, ev37⟩ : ∃ y : Int32, w36.toInt32 = y := ⟨_, rfl⟩
            refine lv_l2i (v := v37) hx hb dX8_take_25 ev37 ?_
            obtain ⟨v38, ev38⟩ : ∃ y : Int32, v37.toInt8.toInt32 = y := ⟨_, rfl⟩
            refine lv_i2b (v := v38) hx hb dX8_take_26 ev38 ?_
            refine va_bast (D := (dC, dI)) hx hb hK hP hD hS 1 0 rfl rfl (by decide) dX8_take_27 (fun H locs hP hD hS => ?_)
            obtain ⟨f39, hP, hD⟩ : ∃ f39 : Nat → Int32, va_P (dC, dI) classes [((g 11 4), .inr (8, [.ref (g 11 3), .ref (g 8 1), .int 4, .int (-1), .int 0, .int 0])), ((g 8 1), .inl ((ca 8 1), 200, .inl f39))] H ∧ va_D A [((g 11 4), .inr (8, [.ref (g 11 3), .ref (g 8 1), .int 4, .int (-1), .int 0, .int 0])), ((g 8 1), .inl ((ca 8 1), 200, .inl f39))] := ⟨_, hP, hD⟩
            refine lv_aload_n hx hb dX8_take_28 rfl (lv_at hl 1 rfl) ?_
            refine lv_dup hx hb dX8_take_29 rfl ?_
            refine va_get (D := (dC, dI)) (ci := 8) (v := .int 4) (C := RX8) (T := TX8) (N := 6) hx hb ht inX8 hown hK hP 0 rfl rfl 2 (by decide) (ht _ m_230) (fun _ h9 => h9) rfl dX8_take_30 ?_
            refine lv_iconst (v := 1) hx hb dX8_take_33 (by decide) ?_
            refine lv_iadd hx hb dX8_take_34 ?_
            refine lv_topi (fun v40 ev40 => ?_)
            obtain rfl : 5 = v40 := (ev40.trans (by decide)).symm
            refine va_put (D := (dC, dI)) (ci := 8) (v := .int 5) (ty := (.int)) (C := RX8) (T := TX8) (N := 6) hx hb ht inX8 tyX8 tyX8_ok nmX8 hown hK hP hD hS 0 rfl rfl 2 (by decide) (ht _ m_230) (fun _ h9 => h9) rfl (by decide +kernel) rfl rfl (Nat.le_of_ble_eq_true rfl) dX8_take_35 (fun H locs hP hD hS => ?_)
            have hP : va_P (dC, dI) classes [((g 11 4), .inr (8, [.ref (g 11 3), .ref (g 8 1), .int 5, .int (-1), .int 0, .int 0])), ((g 8 1), .inl ((ca 8 1), 200, .inl f39))] H := hP
            have hD : va_D A [((g 11 4), .inr (8, [.ref (g 11 3), .ref (g 8 1), .int 5, .int (-1), .int 0, .int 0])), ((g 8 1), .inl ((ca 8 1), 200, .inl f39))] := hD
            obtain ⟨v41, ev41⟩ : ∃ y : Int32, y = v33 + (-1) := ⟨_, rfl⟩
            have tv41 := z_add ev41 rfl (by decide : ((-1) : Int32).toInt = (-1)) (by omega) (by omega)
            refine lv_iinc (v := v41) (lv' := [(4, .int v41), (0, .ref (g 11 4)), (1, .int n), (2, .long k)]) hx hb dX8_take_38 hl (k := 0) rfl (by rw [ev41]; rfl) (by decide) rfl (fun ls hl => ?_)
            refine lv_goto (tgt := 5) hx hb dX8_take_41 (by decide) ?_
            refine lv_iload hx hb dX8_take_5 (lv_at hl 0 rfl) ?_
            refine lv_if_lt (tgt := 44) hx hb dX8_take_7 (by decide) (fun c42 => ?_) (fun c42 => ?_)
            · have fc42 := z_lt (rfl : (v41).toInt = _) (by decide : (0 : Int32).toInt = 0) c42
              refine lv_aload_n hx hb dX8_take_44 rfl (lv_at hl 1 rfl) ?_
              refine va_get (D := (dC, dI)) (ci := 8) (v := .int 5) (C := RX8) (T := TX8) (N := 6) hx hb ht inX8 hown hK hP 0 rfl rfl 2 (by decide) (ht _ m_230) (fun _ h9 => h9) rfl dX8_take_45 ?_
              exact W.iret (v := 5) hx hb hr (fun t ht9 hW => ⟨⟨5, (), rfl, (z_of (x := 5) (by omega) (by decide)), trivial⟩, hS.F ht9⟩) hS.2.2 dX8_take_48
            · have fc42 := z_nlt (rfl : (v41).toInt = _) (by decide : (0 : Int32).toInt = 0) c42
              refine lv_aload_n hx hb dX8_take_10 rfl (lv_at hl 1 rfl) ?_
              refine va_get (D := (dC, dI)) (ci := 8) (v := .ref (g 8 1)) (C := RX8) (T := TX8) (N := 6) hx hb ht inX8 hown hK hP 0 rfl rfl 1 (by decide) (ht _ m_229) (fun _ h9 => h9) rfl dX8_take_11 ?_
              refine lv_aload_n hx hb dX8_take_14 rfl (lv_at hl 1 rfl) ?_
              refine va_get (D := (dC, dI)) (ci := 8) (v := .int 5) (C := RX8) (T := TX8) (N := 6) hx hb ht inX8 hown hK hP 0 rfl rfl 2 (by decide) (ht _ m_230) (fun _ h9 => h9) rfl dX8_take_15 ?_
              refine lv_lload_n hx hb dX8_take_18 rfl (lv_at hl 3 rfl) ?_
              refine lv_bipush (v := 8) hx hb dX8_take_19 (by decide) ?_
              refine lv_iload hx hb dX8_take_21 (lv_at hl 0 rfl) ?_
              refine lv_imul hx hb dX8_take_23 ?_
              refine lv_topi (fun v43 ev43 => ?_)
              obtain ⟨w44, ew44⟩ : ∃ y : Int64, (k.toUInt64 >>> ((v43 : Int32).toInt64.toUInt64 &&& Int64.toUInt64 63)).toInt64 = y := ⟨_, rfl⟩
              refine lv_lushr (v := w44) hx hb dX8_take_24 ew44 ?_
              obtain ⟨v45, ev45⟩ : ∃ y : Int32, w44.toInt32 = y := ⟨_, rfl⟩
              refine lv_l2i (v := v45) hx hb dX8_take_25 ev45 ?_
              obtain ⟨v46, ev46⟩ : ∃ y : Int32, v45.toInt8.toInt32 = y := ⟨_, rfl⟩
              refine lv_i2b (v := v46) hx hb dX8_take_26 ev46 ?_
              refine va_bast (D := (dC, dI)) hx hb hK hP hD hS 1 0 rfl rfl (by decide) dX8_take_27 (fun H locs hP hD hS => ?_)
              obtain ⟨f47, hP, hD⟩ : ∃ f47 : Nat → Int32, va_P (dC, dI) classes [((g 11 4), .inr (8, [.ref (g 11 3), .ref (g 8 1), .int 5, .int (-1), .int 0, .int 0])), ((g 8 1), .inl ((ca 8 1), 200, .inl f47))] H ∧ va_D A [((g 11 4), .inr (8, [.ref (g 11 3), .ref (g 8 1), .int 5, .int (-1), .int 0, .int 0])), ((g 8 1), .inl ((ca 8 1), 200, .inl f47))] := ⟨_, hP, hD⟩
              refine lv_aload_n hx hb dX8_take_28 rfl (lv_at hl 1 rfl) ?_
              refine lv_dup hx hb dX8_take_29 rfl ?_
              refine va_get (D := (dC, dI)) (ci := 8) (v := .int 5) (C := RX8) (T := TX8) (N := 6) hx hb ht inX8 hown hK hP 0 rfl rfl 2 (by decide) (ht _ m_230) (fun _ h9 => h9) rfl dX8_take_30 ?_
              refine lv_iconst (v := 1) hx hb dX8_take_33 (by decide) ?_
              refine lv_iadd hx hb dX8_take_34 ?_
              refine lv_topi (fun v48 ev48 => ?_)
              obtain rfl : 6 = v48 := (ev48.trans (by decide)).symm
              refine va_put (D := (dC, dI)) (ci := 8) (v := .int 6) (ty := (.int)) (C := RX8) (T := TX8) (N := 6) hx hb ht inX8 tyX8 tyX8_ok nmX8 hown hK hP hD hS 0 rfl rfl 2 (by decide) (ht _ m_230) (fun _ h9 => h9) rfl (by decide +kernel) rfl rfl (Nat.le_of_ble_eq_true rfl) dX8_take_35 (fun H locs hP hD hS => ?_)
              have hP : va_P (dC, dI) classes [((g 11 4), .inr (8, [.ref (g 11 3), .ref (g 8 1), .int 6, .int (-1), .int 0, .int 0])), ((g 8 1), .inl ((ca 8 1), 200, .inl f47))] H := hP
              have hD : va_D A [((g 11 4), .inr (8, [.ref (g 11 3), .ref (g 8 1), .int 6, .int (-1), .int 0, .int 0])), ((g 8 1), .inl ((ca 8 1), 200, .inl f47))] := hD
              obtain ⟨v49, ev49⟩ : ∃ y : Int32, y = v41 + (-1) := ⟨_, rfl⟩
              have tv49 := z_add ev49 rfl (by decide : ((-1) : Int32).toInt = (-1)) (by omega) (by omega)
              refine lv_iinc (v := v49) (lv' := [(4, .int v49), (0, .ref (g 11 4)), (1, .int n), (2, .long k)]) hx hb dX8_take_38 hl (k := 0) rfl (by rw [ev49]; rfl) (by decide) rfl (fun ls hl => ?_)
              refine lv_goto (tgt := 5) hx hb dX8_take_41 (by decide) ?_
              refine lv_iload hx hb dX8_take_5 (lv_at hl 0 rfl) ?_
              refine lv_if_lt (tgt := 44) hx hb dX8_take_7 (by decide) (fun c50 => ?_) (fun c50 => ?_)
              · have fc50 := z_lt (rfl : (v49).toInt = _) (by decide : (0 : Int32).toInt = 0) c50
                refine lv_aload_n hx hb dX8_take_44 rfl (lv_at hl 1 rfl) ?_
                refine va_get (D := (dC, dI)) (ci := 8) (v := .int 6) (C := RX8) (T := TX8) (N := 6) hx hb ht inX8 hown hK hP 0 rfl rfl 2 (by decide) (ht _ m_230) (fun _ h9 => h9) rfl dX8_take_45 ?_
                exact W.iret (v := 6) hx hb hr (fun t ht9 hW => ⟨⟨6, (), rfl, (z_of (x := 6) (by omega) (by decide)), trivial⟩, hS.F ht9⟩) hS.2.2 dX8_take_48
              · have fc50 := z_nlt (rfl : (v49).toInt = _) (by decide : (0 : Int32).toInt = 0) c50
                refine lv_aload_n hx hb dX8_take_10 rfl (lv_at hl 1 rfl) ?_
                refine va_get (D := (dC, dI)) (ci := 8) (v := .ref (g 8 1)) (C := RX8) (T := TX8) (N := 6) hx hb ht inX8 hown hK hP 0 rfl rfl 1 (by decide) (ht _ m_229) (fun _ h9 => h9) rfl dX8_take_11 ?_
                refine lv_aload_n hx hb dX8_take_14 rfl (lv_at hl 1 rfl) ?_
                refine va_get (D := (dC, dI)) (ci := 8) (v := .int 6) (C := RX8) (T := TX8) (N := 6) hx hb ht inX8 hown hK hP 0 rfl rfl 2 (by decide) (ht _ m_230) (fun _ h9 => h9) rfl dX8_take_15 ?_
                refine lv_lload_n hx hb dX8_take_18 rfl (lv_at hl 3 rfl) ?_
                refine lv_bipush (v := 8) hx hb dX8_take_19 (by decide) ?_
                refine lv_iload hx hb dX8_take_21 (lv_at hl 0 rfl) ?_
                refine lv_imul hx hb dX8_take_23 ?_
                refine lv_topi (fun v51 ev51 => ?_)
                obtain ⟨w52, ew52⟩ : ∃ y : Int64, (k.toUInt64 >>> ((v51 : Int32).toInt64.toUInt64 &&& Int64.toUInt64 63)).toInt64 = y := ⟨_, rfl⟩
                refine lv_lushr (v := w52) hx hb dX8_take_24 ew52 ?_
                obtain ⟨v53, ev53⟩ : ∃ y : Int32, w52.toInt32 = y := ⟨_, rfl⟩
                refine lv_l2i (v := v53) hx hb dX8_take_25 ev53 ?_
                obtain ⟨v54, ev54⟩ : ∃ y : Int32, v53.toInt8.toInt32 = y := ⟨_, rfl⟩
                refine lv_i2b (v := v54) hx hb dX8_take_26 ev54 ?_
                refine va_bast (D := (dC, dI)) hx hb hK hP hD hS 1 0 rfl rfl (by decide) dX8_take_27 (fun H locs hP hD hS => ?_)
                obtain ⟨f55, hP, hD⟩ : ∃ f55 : Nat → Int32, va_P (dC, dI) classes [((g 11 4), .inr (8, [.ref (g 11 3), .ref (g 8 1), .int 6, .int (-1), .int 0, .int 0])), ((g 8 1), .inl ((ca 8 1), 200, .inl f55))] H ∧ va_D A [((g 11 4), .inr (8, [.ref (g 11 3), .ref (g 8 1), .int 6, .int (-1), .int 0, .int 0])), ((g 8 1), .inl ((ca 8 1), 200, .inl f55))] := ⟨_, hP, hD⟩
                refine lv_aload_n hx hb dX8_take_28 rfl (lv_at hl 1 rfl) ?_
                refine lv_dup hx hb dX8_take_29 rfl ?_
                refine va_get (D := (dC, dI)) (ci := 8) (v := .int 6) (C := RX8) (T := TX8) (N := 6) hx hb ht inX8 hown hK hP 0 rfl rfl 2 (by decide) (ht _ m_230) (fun _ h9 => h9) rfl dX8_take_30 ?_
                refine lv_iconst (v := 1) hx hb dX8_take_33 (by decide) ?_
                refine lv_iadd hx hb dX8_take_34 ?_
                refine lv_topi (fun v56 ev56 => ?_)
                obtain rfl : 7 = v56 := (ev56.trans (by decide)).symm
                refine va_put (D := (dC, dI)) (ci := 8) (v := .int 7) (ty := (.int)) (C := RX8) (T := TX8) (N := 6) hx hb ht inX8 tyX8 tyX8_ok nmX8 hown hK hP hD hS 0 rfl rfl 2 (by decide) (ht _ m_230) (fun _ h9 => h9) rfl (by decide +kernel) rfl rfl (Nat.le_of_ble_eq_true rfl) dX8_take_35 (fun H locs hP hD hS => ?_)
                have hP : va_P (dC, dI) classes [((g 11 4), .inr (8, [.ref (g 11 3), .ref (g 8 1), .int 7, .int (-1), .int 0, .int 0])), ((g 8 1), .inl ((ca 8 1), 200, .inl f55))] H := hP
                have hD : va_D A [((g 11 4), .inr (8, [.ref (g 11 3), .ref (g 8 1), .int 7, .int (-1), .int 0, .int 0])), ((g 8 1), .inl ((ca 8 1), 200, .inl f55))] := hD
                obtain ⟨v57, ev57⟩ : ∃ y : Int32, y = v49 + (-1) := ⟨_, rfl⟩
                have tv57 := z_add ev57 rfl (by decide : ((-1) : Int32).toInt = (-1)) (by omega) (by omega)
                refine lv_iinc (v := v57) (lv' := [(4, .int v57), (0, .ref (g 11 4)), (1, .int n), (2, .long k)]) hx hb dX8_take_38 hl (k := 0) rfl (by rw [ev57]; rfl) (by decide) rfl (fun ls hl => ?_)
                refine lv_goto (tgt := 5) hx hb dX8_take_41 (by decide) ?_
                refine lv_iload hx hb dX8_take_5 (lv_at hl 0 rfl) ?_
                refine lv_if_lt (tgt := 44) hx hb dX8_take_7 (by decide) (fun c58 => ?_) (fun c58 => ?_)
                · have fc58 := z_lt (rfl : (v57).toInt = _) (by decide : (0 : Int32).toInt = 0) c58
                  refine lv_aload_n hx hb dX8_take_44 rfl (lv_at hl 1 rfl) ?_
                  refine va_get (D := (dC, dI)) (ci := 8) (v := .int 7) (C := RX8) (T := TX8) (N := 6) hx hb ht inX8 hown hK hP 0 rfl rfl 2 (by decide) (ht _ m_230) (fun _ h9 => h9) rfl dX8_take_45 ?_
                  exact W.iret (v := 7) hx hb hr (fun t ht9 hW => ⟨⟨7, (), rfl, (z_of (x := 7) (by omega) (by decide)), trivial⟩, hS.F ht9⟩) hS.2.2 dX8_take_48
                · have fc58 := z_nlt (rfl : (v57).toInt = _) (by decide : (0 : Int32).toInt = 0) c58
                  refine lv_aload_n hx hb dX8_take_10 rfl (lv_at hl 1 rfl) ?_
                  refine va_get (D := (dC, dI)) (ci := 8) (v := .ref (g 8 1)) (C := RX8) (T := TX8) (N := 6) hx hb ht inX8 hown hK hP 0 rfl rfl 1 (by decide) (ht _ m_229) (fun _ h9 => h9) rfl dX8_take_11 ?_
                  refine lv_aload_n hx hb dX8_take_14 rfl (lv_at hl 1 rfl) ?_
                  refine va_get (D := (dC, dI)) (ci := 8) (v := .int 7) (C := RX8) (T := TX8) (N := 6) hx hb ht inX8 hown hK hP 0 rfl rfl 2 (by decide) (ht _ m_230) (fun _ h9 => h9) rfl dX8_take_15 ?_
                  refine lv_lload_n hx hb dX8_take_18 rfl (lv_at hl 3 rfl) ?_
                  refine lv_bipush (v := 8) hx hb dX8_take_19 (by decide) ?_
                  refine lv_iload hx hb dX8_take_21 (lv_at hl 0 rfl) ?_
                  refine lv_imul hx hb dX8_take_23 ?_
                  refine lv_topi (fun v59 ev59 => ?_)
                  obtain ⟨w60, ew60⟩ : ∃ y : Int64, (k.toUInt64 >>> ((v59 : Int32).toInt64.toUInt64 &&& Int64.toUInt64 63)).toInt64 = y := ⟨_, rfl⟩
                  refine lv_lushr (v := w60) hx hb dX8_take_24 ew60 ?_
                  obtain ⟨v61, ev61⟩ : ∃ y : Int32, w60.toInt32 = y := ⟨_, rfl⟩
                  refine lv_l2i (v := v61) hx hb dX8_take_25 ev61 ?_
                  obtain ⟨v62, ev62⟩ : ∃ y : Int32, v61.toInt8.toInt32 = y := ⟨_, rfl⟩
                  refine lv_i2b (v := v62) hx hb dX8_take_26 ev62 ?_
                  refine va_bast (D := (dC, dI)) hx hb hK hP hD hS 1 0 rfl rfl (by decide) dX8_take_27 (fun H locs hP hD hS => ?_)
                  obtain ⟨f63, hP, hD⟩ : ∃ f63 : Nat → Int32, va_P (dC, dI) classes [((g 11 4), .inr (8, [.ref (g 11 3), .ref (g 8 1), .int 7, .int (-1), .int 0, .int 0])), ((g 8 1), .inl ((ca 8 1), 200, .inl f63))] H ∧ va_D A [((g 11 4), .inr (8, [.ref (g 11 3), .ref (g 8 1), .int 7, .int (-1), .int 0, .int 0])), ((g 8 1), .inl ((ca 8 1), 200, .inl f63))] := ⟨_, hP, hD⟩
                  refine lv_aload_n hx hb dX8_take_28 rfl (lv_at hl 1 rfl) ?_
                  refine lv_dup hx hb dX8_take_29 rfl ?_
                  refine va_get (D := (dC, dI)) (ci := 8) (v := .int 7) (C := RX8) (T := TX8) (N := 6) hx hb ht inX8 hown hK hP 0 rfl rfl 2 (by decide) (ht _ m_230) (fun _ h9 => h9) rfl dX8_take_30 ?_
                  refine lv_iconst (v := 1) hx hb dX8_take_33 (by decide) ?_
                  refine lv_iadd hx hb dX8_take_34 ?_
                  refine lv_topi (fun v64 ev64 => ?_)
                  obtain rfl : 8 = v64 := (ev64.trans (by decide)).symm
                  refine va_put (D := (dC, dI)) (ci := 8) (v := .int 8) (ty := (.int)) (C := RX8) (T := TX8) (N := 6) hx hb ht inX8 tyX8 tyX8_ok nmX8 hown hK hP hD hS 0 rfl rfl 2 (by decide) (ht _ m_230) (fun _ h9 => h9) rfl (by decide +kernel) rfl rfl (Nat.le_of_ble_eq_true rfl) dX8_take_35 (fun H locs hP hD hS => ?_)
                  have hP : va_P (dC, dI) classes [((g 11 4), .inr (8, [.ref (g 11 3), .ref (g 8 1), .int 8, .int (-1), .int 0, .int 0])), ((g 8 1), .inl ((ca 8 1), 200, .inl f63))] H := hP
                  have hD : va_D A [((g 11 4), .inr (8, [.ref (g 11 3), .ref (g 8 1), .int 8, .int (-1), .int 0, .int 0])), ((g 8 1), .inl ((ca 8 1), 200, .inl f63))] := hD
                  obtain ⟨v65, ev65⟩ : ∃ y : Int32, y = v57 + (-1) := ⟨_, rfl⟩
                  have tv65 := z_add ev65 rfl (by decide : ((-1) : Int32).toInt = (-1)) (by omega) (by omega)
                  refine lv_iinc (v := v65) (lv' := [(4, .int v65), (0, .ref (g 11 4)), (1, .int n), (2, .long k)]) hx hb dX8_take_38 hl (k := 0) rfl (by rw [ev65]; rfl) (by decide) rfl (fun ls hl => ?_)
                  refine lv_goto (tgt := 5) hx hb dX8_take_41 (by decide) ?_
                  refine lv_iload hx hb dX8_take_5 (lv_at hl 0 rfl) ?_
                  refine lv_if_lt (tgt := 44) hx hb dX8_take_7 (by decide) (fun c66 => ?_) (fun c66 => ?_)
                  · skip
                    refine lv_aload_n hx hb dX8_take_44 rfl (lv_at hl 1 rfl) ?_
                    refine va_get (D := (dC, dI)) (ci := 8) (v := .int 8) (C := RX8) (T := TX8) (N := 6) hx hb ht inX8 hown hK hP 0 rfl rfl 2 (by decide) (ht _ m_230) (fun _ h9 => h9) rfl dX8_take_45 ?_
                    exact W.iret (v := 8) hx hb hr (fun t ht9 hW => ⟨⟨8, (), rfl, (z_of (x := 8) (by omega) (by decide)), trivial⟩, hS.F ht9⟩) hS.2.2 dX8_take_48
                  · have fc66 := z_nlt (rfl : (v65).toInt = _) (by decide : (0 : Int32).toInt = 0) c66; exfalso; omega
end
section
set_option maxHeartbeats 4000000 in
set_option maxRecDepth 100000 in
/-- X1_startDraft -/
theorem c_X1_startDraft (l : Launch) (dC : Nat → ClassId) (dI : Nat → Nat → Nat) (sz : Nat) (h : Nat) (g : Nat → Nat → Nat) (ca : Nat → Nat → ClassId) : Met l yX1_startDraft (wc yX1_startDraft cX1_startDraft 1 none) ({ frames := 0, cells := 0, slots := 0, locals := 0 } : Room) (pW (dC, dI) classes [((g 11 3), .inr (1, (o1 h g)))] [] sz [.ref (g 11 3)]) (va_Qv (fun _ : Unit => True) (fun _ t => va_P (dC, dI) classes [((g 11 3), .inr (1, (o1 h g)))] t.heap ∧ va_D (va_A [((g 11 3), .inr (1, (o1 h g)))] sz) [((g 11 3), .inr (1, (o1 h g)))]) (va_A [((g 11 3), .inr (1, (o1 h g)))] sz)) 0 0 (va_A [((g 11 3), .inr (1, (o1 h g)))] sz) := by
  refine Met.ofW (cc := cX1_startDraft) (maxL := 1) (ret := none) (by decide) rfl ?_
  intro p e s m args below meth c s₁ B hml hv
  obtain ⟨rfl, hsz, hP, hK, hD0⟩ := hv
  have hx := B.exec
  have hb := B.bytes
  have hr := B.returns
  have ht := tb_tl (atoms_spec (ws := wc yX1_startDraft cX1_startDraft 1 none) B.pre)
  have hown : s.vm.findClass RX1 = some m.cls := findClass_of_methodNamed B.named
  have hlocks := B.notSynchronized
  subst hsz
  have hD := hD0.self (sz := s.heap.size)
  generalize hAe : va_A [((g 11 3), .inr (1, (o1 h g)))] s.heap.size = A at hD ⊢
  have hA : ∀ q : Nat, s.heap.size ≤ q → A q := fun q h => by rw [← hAe]; exact Or.inr h
  have hS : va_S A s.heap s.heap [] := va_S.rf
  have hP : va_P (dC, dI) classes [((g 11 3), .inr (1, (o1 h g)))] s.heap := hP
  have hl := lv_entry [.ref (g 11 3)] (n := 1) (Nat.le_of_ble_eq_true rfl)
  rw [lg_entry_eq]
  generalize (lg_sl [.ref (g 11 3)] ++ List.replicate (1 - (lg_sl [.ref (g 11 3)]).length) Slot.unset).toArray = ls at hl ⊢
  have hl : lv_has ls 1 [(0, .ref (g 11 3))] := hl
  refine lv_aload_n hx hb dX1_startDraft_0 rfl (lv_at hl 0 rfl) ?_
  refine lv_iconst (v := 0) hx hb dX1_startDraft_1 (by decide) ?_
  refine va_put (D := (dC, dI)) (ci := 1) (v := .int 0) (ty := (.int)) (C := RX1) (T := TX1) (N := 9) hx hb ht inX1 tyX1 tyX1_ok nmX1 hown hK hP hD hS 0 rfl rfl 8 (by decide) (ht _ m_199) (fun _ h9 => h9) rfl (by decide +kernel) rfl rfl (Nat.le_of_ble_eq_true rfl) dX1_startDraft_2 (fun H locs hP hD hS => ?_)
  have hP : va_P (dC, dI) classes [((g 11 3), .inr (1, (o1 h g)))] H := hP
  have hD : va_D A [((g 11 3), .inr (1, (o1 h g)))] := hD
  have hP9 : va_P (dC, dI) classes [((g 11 3), .inr (1, (o1 h g)))] H := hP
  have hD9 : va_D A [((g 11 3), .inr (1, (o1 h g)))] := hD
  exact W.vret hx hb hr (fun t ht9 hW => ⟨⟨(), rfl, trivial, by rw [ht9]; exact hP9, hD9⟩, hS.F ht9⟩) hS.2.2 dX1_startDraft_5
set_option maxHeartbeats 4000000 in
set_option maxRecDepth 100000 in
/-- X8_skipBlanks -/
theorem c_X8_skipBlanks (l : Launch) (dC : Nat → ClassId) (dI : Nat → Nat → Nat) (h : Nat) (g : Nat → Nat → Nat) (ca : Nat → Nat → ClassId) : Met l yX8_skipBlanks (wc yX8_skipBlanks cX8_skipBlanks 1 (some .boolean)) ({ frames := 0, cells := 0, slots := 0, locals := 0 } : Room) (pR (dC, dI) classes [((g 11 4), .inr (8, (o8 h g)))] [] [.ref (g 11 4)]) (vp_Si (fun r => r = 0)) 0 0 (fun _ => False) := by
  refine Met.ofW (cc := cX8_skipBlanks) (maxL := 1) (ret := (some .boolean)) (by decide) rfl ?_
  intro p e s m args below meth c s₁ B hml hv
  obtain ⟨rfl, hP, hK⟩ := hv
  have hx := B.exec
  have hb := B.bytes
  have hr := B.returns
  have ht := tb_tl (atoms_spec (ws := wc yX8_skipBlanks cX8_skipBlanks 1 (some .boolean)) B.pre)
  have hown : s.vm.findClass RX8 = some m.cls := findClass_of_methodNamed B.named
  have hlocks := B.notSynchronized
  have hl := lv_entry [.ref (g 11 4)] (n := 1) (Nat.le_of_ble_eq_true rfl)
  rw [lg_entry_eq]
  generalize (lg_sl [.ref (g 11 4)] ++ List.replicate (1 - (lg_sl [.ref (g 11 4)]).length) Slot.unset).toArray = ls at hl ⊢
  have hl : lv_has ls 1 [(0, .ref (g 11 4))] := hl
  refine lv_aload_n hx hb dX8_skipBlanks_0 rfl (lv_at hl 0 rfl) ?_
  refine va_get (D := (dC, dI)) (ci := 8) (v := .int 0) (C := RX8) (T := TX8) (N := 6) hx hb ht inX8 hown hK hP 0 rfl rfl 5 (by decide) (ht _ m_235) (fun _ h9 => h9) rfl dX8_skipBlanks_1 ?_
  refine lv_aload_n hx hb dX8_skipBlanks_4 rfl (lv_at hl 0 rfl) ?_
  refine va_get (D := (dC, dI)) (ci := 8) (v := .int 0) (C := RX8) (T := TX8) (N := 6) hx hb ht inX8 hown hK hP 0 rfl rfl 2 (by decide) (ht _ m_230) (fun _ h9 => h9) rfl dX8_skipBlanks_5 ?_
  refine lv_icmp_ge (tgt := 38) hx hb dX8_skipBlanks_8 (by decide) (fun c1 => ?_) (fun c1 => ?_)
  · skip
    refine lv_aload_n hx hb dX8_skipBlanks_38 rfl (lv_at hl 0 rfl) ?_
    refine va_get (D := (dC, dI)) (ci := 8) (v := .int 0) (C := RX8) (T := TX8) (N := 6) hx hb ht inX8 hown hK hP 0 rfl rfl 5 (by decide) (ht _ m_235) (fun _ h9 => h9) rfl dX8_skipBlanks_39 ?_
    refine lv_aload_n hx hb dX8_skipBlanks_42 rfl (lv_at hl 0 rfl) ?_
    refine va_get (D := (dC, dI)) (ci := 8) (v := .int 0) (C := RX8) (T := TX8) (N := 6) hx hb ht inX8 hown hK hP 0 rfl rfl 2 (by decide) (ht _ m_230) (fun _ h9 => h9) rfl dX8_skipBlanks_43 ?_
    refine lv_icmp_ge (tgt := 53) hx hb dX8_skipBlanks_46 (by decide) (fun c2 => ?_) (fun c2 => ?_)
    · skip
      refine lv_iconst (v := 0) hx hb dX8_skipBlanks_53 (by decide) ?_
      exact W.zret (v := 0) hx hb hr rfl (fun t ht9 hW => ⟨0, rfl, rfl, ht9⟩) (fun q hq => by cases hq) dX8_skipBlanks_54
    · exact absurd rfl c2
  · exact absurd rfl c1
set_option maxHeartbeats 4000000 in
set_option maxRecDepth 100000 in
/-- X8_read -/
theorem c_X8_read (l : Launch) (dC : Nat → ClassId) (dI : Nat → Nat → Nat) (sz : Nat) (h : Nat) (g : Nat → Nat → Nat) (ca : Nat → Nat → ClassId) : Met l yX8_read (wc yX8_read cX8_read 3 (some .int)) ({ frames := 1, cells := 0, slots := 0, locals := 20 } : Room) (pW (dC, dI) classes [((g 11 4), .inr (8, (o8 h g))), ((g 11 3), .inr (1, (o1 h g)))] [] sz [.ref (g 11 4)]) (va_Qi (fun r (_ : Unit) => r = 0) (fun _ t => va_P (dC, dI) classes [((g 11 4), .inr (8, (o8 h g))), ((g 11 3), .inr (1, (o1 h g)))] t.heap ∧ va_D (va_A [((g 11 4), .inr (8, (o8 h g))), ((g 11 3), .inr (1, (o1 h g)))] sz) [((g 11 4), .inr (8, (o8 h g))), ((g 11 3), .inr (1, (o1 h g)))]) (va_A [((g 11 4), .inr (8, (o8 h g))), ((g 11 3), .inr (1, (o1 h g)))] sz)) 0 0 (va_A [((g 11 4), .inr (8, (o8 h g))), ((g 11 3), .inr (1, (o1 h g)))] sz) := by
  refine Met.ofW (cc := cX8_read) (maxL := 3) (ret := (some .int)) (by decide) rfl ?_
  intro p e s m args below meth c s₁ B hml hv
  obtain ⟨rfl, hsz, hP, hK, hD0⟩ := hv
  have hx := B.exec
  have hb := B.bytes
  have hr := B.returns
  have ht := tb_tl (atoms_spec (ws := wc yX8_read cX8_read 3 (some .int)) B.pre)
  have hown : s.vm.findClass RX8 = some m.cls := findClass_of_methodNamed B.named
  have hlocks := B.notSynchronized
  subst hsz
  have hD := hD0.self (sz := s.heap.size)
  generalize hAe : va_A [((g 11 4), .inr (8, (o8 h g))), ((g 11 3), .inr (1, (o1 h g)))] s.heap.size = A at hD ⊢
  have hA : ∀ q : Nat, s.heap.size ≤ q → A q := fun q h => by rw [← hAe]; exact Or.inr h
  have hS : va_S A s.heap s.heap [] := va_S.rf
  have hP : va_P (dC, dI) classes [((g 11 4), .inr (8, (o8 h g))), ((g 11 3), .inr (1, (o1 h g)))] s.heap := hP
  have hl := lv_entry [.ref (g 11 4)] (n := 3) (Nat.le_of_ble_eq_true rfl)
  rw [lg_entry_eq]
  generalize (lg_sl [.ref (g 11 4)] ++ List.replicate (3 - (lg_sl [.ref (g 11 4)]).length) Slot.unset).toArray = ls at hl ⊢
  have hl : lv_has ls 3 [(0, .ref (g 11 4))] := hl
  refine lv_aload_n hx hb dX8_read_0 rfl (lv_at hl 0 rfl) ?_
  refine lv_iconst (v := 0) hx hb dX8_read_1 (by decide) ?_
  refine va_put (D := (dC, dI)) (ci := 8) (v := .int 0) (ty := (.int)) (C := RX8) (T := TX8) (N := 6) hx hb ht inX8 tyX8 tyX8_ok nmX8 hown hK hP hD hS 0 rfl rfl 5 (by decide) (ht _ m_235) (fun _ h9 => h9) rfl (by decide +kernel) rfl rfl (Nat.le_of_ble_eq_true rfl) dX8_read_2 (fun H locs hP hD hS => ?_)
  have hP : va_P (dC, dI) classes [((g 11 4), .inr (8, (o8 h g))), ((g 11 3), .inr (1, (o1 h g)))] H := hP
  have hD : va_D A [((g 11 4), .inr (8, (o8 h g))), ((g 11 3), .inr (1, (o1 h g)))] := hD
  refine lv_aload_n hx hb dX8_read_5 rfl (lv_at hl 0 rfl) ?_
  refine lv_iconst (v := 0) hx hb dX8_read_6 (by decide) ?_
  refine va_put (D := (dC, dI)) (ci := 8) (v := .int 0) (ty := (.int)) (C := RX8) (T := TX8) (N := 6) hx hb ht inX8 tyX8 tyX8_ok nmX8 hown hK hP hD hS 0 rfl rfl 4 (by decide) (ht _ m_234) (fun _ h9 => h9) rfl (by decide +kernel) rfl rfl (Nat.le_of_ble_eq_true rfl) dX8_read_7 (fun H locs hP hD hS => ?_)
  have hP : va_P (dC, dI) classes [((g 11 4), .inr (8, (o8 h g))), ((g 11 3), .inr (1, (o1 h g)))] H := hP
  have hD : va_D A [((g 11 4), .inr (8, (o8 h g))), ((g 11 3), .inr (1, (o1 h g)))] := hD
  refine lv_aload_n hx hb dX8_read_10 rfl (lv_at hl 0 rfl) ?_
  refine lv_iconst (v := (-1)) hx hb dX8_read_11 (by decide) ?_
  refine va_put (D := (dC, dI)) (ci := 8) (v := .int (-1)) (ty := (.int)) (C := RX8) (T := TX8) (N := 6) hx hb ht inX8 tyX8 tyX8_ok nmX8 hown hK hP hD hS 0 rfl rfl 3 (by decide) (ht _ m_232) (fun _ h9 => h9) rfl (by decide +kernel) rfl rfl (Nat.le_of_ble_eq_true rfl) dX8_read_12 (fun H locs hP hD hS => ?_)
  have hP : va_P (dC, dI) classes [((g 11 4), .inr (8, (o8 h g))), ((g 11 3), .inr (1, (o1 h g)))] H := hP
  have hD : va_D A [((g 11 4), .inr (8, (o8 h g))), ((g 11 3), .inr (1, (o1 h g)))] := hD
  refine lv_aload_n hx hb dX8_read_15 rfl (lv_at hl 0 rfl) ?_
  refine va_get (D := (dC, dI)) (ci := 8) (v := .ref (g 11 3)) (C := RX8) (T := TX8) (N := 6) hx hb ht inX8 hown hK hP 0 rfl rfl 0 (by decide) (ht _ m_228) (fun _ h9 => h9) rfl dX8_read_16 ?_
  have hPc := hP.sub (ws' := [((g 11 3), .inr (1, (o1 h g)))]) [1] rfl
  have hKc := hK.sub (tys' := []) [] rfl
  have hDc := hD.sub (ws' := [((g 11 3), .inr (1, (o1 h g)))]) [1] (by decide) rfl
  have hFc := va_free (wc := [((g 11 3), .inr (1, (o1 h g)))]) hD hS hA [1] rfl
  refine va_callv (va_runV (As := []) (rest := []) ⟨hx, hb, hml, hown, ht⟩ (c_X1_startDraft l dC dI H.size h g ca) (kV 0 ht m_684 m_685 m_686 m_81 m_687 rfl rfl hd_X1_startDraft_v ⟨Nat.le_of_ble_eq_true rfl, Nat.le_of_ble_eq_true rfl⟩) (vW hPc hKc hDc (va_recv hKc hPc (ci := 1) (q0 := 0) rfl rfl)) rfl rfl hl.1 rfl (lv_room (Nat.le_of_ble_eq_true rfl)) dX8_read_19 ⟨Nat.le_of_ble_eq_true rfl, Nat.le_of_ble_eq_true rfl⟩) hS (fun q _ h => hFc q h) hFc (fun u t H1 locs ht9 hvm hw hB hz1 hk1 hS => ?_)
  obtain ⟨hP1, hD1⟩ := hB
  rw [ht9] at hP1
  obtain ⟨hP, hD⟩ := va_join (wr := [((g 11 4), .inr (8, (o8 h g)))]) (w1 := [((g 11 3), .inr (1, (o1 h g)))]) hP hD [1] [0] rfl rfl (by decide) (by decide) hk1 hFc hP1 hD1
  generalize H1 = H at hP hS ⊢
  have hP : va_P (dC, dI) classes [((g 11 4), .inr (8, (o8 h g))), ((g 11 3), .inr (1, (o1 h g)))] H := hP
  have hD : va_D A [((g 11 4), .inr (8, (o8 h g))), ((g 11 3), .inr (1, (o1 h g)))] := hD
  refine lv_aload_n hx hb dX8_read_22 rfl (lv_at hl 0 rfl) ?_
  have hPc := hP.sub (ws' := [((g 11 4), .inr (8, (o8 h g)))]) [0] rfl
  have hKc := hK.sub (tys' := []) [] rfl
  refine vp_callSi (W.runV (As := []) (rest := []) ⟨hx, hb, hml, hown, ht⟩ (c_X8_skipBlanks l dC dI h g ca) (kV 0 ht m_688 m_690 m_16 m_82 m_691 rfl rfl hd_X8_skipBlanks_v ⟨Nat.le_of_ble_eq_true rfl, Nat.le_of_ble_eq_true rfl⟩) (vR hPc hKc (va_recv hKc hPc (ci := 8) (q0 := 0) rfl rfl)) rfl rfl hl.1 rfl (lv_room (Nat.le_of_ble_eq_true rfl)) dX8_read_23 ⟨Nat.le_of_ble_eq_true rfl, Nat.le_of_ble_eq_true rfl⟩) (fun r2 hr2 => ?_)
  obtain rfl : 0 = r2 := hr2.symm
  refine lv_istore_n (lv' := [(1, .int 0), (0, .ref (g 11 4))]) hx hb dX8_read_26 rfl hl (by decide) rfl (fun ls hl => ?_)
  refine lv_iconst (v := 0) hx hb dX8_read_27 (by decide) ?_
  refine lv_istore_n (lv' := [(2, .int 0), (1, .int 0), (0, .ref (g 11 4))]) hx hb dX8_read_28 rfl hl (by decide) rfl (fun ls hl => ?_)
  refine lv_iload_n hx hb dX8_read_29 rfl (lv_at hl 1 rfl) ?_
  refine lv_if_eq (tgt := 65) hx hb dX8_read_30 (by decide) (fun c3 => ?_) (fun c3 => ?_)
  · skip
    refine lv_aload_n hx hb dX8_read_65 rfl (lv_at hl 2 rfl) ?_
    refine lv_iconst (v := 0) hx hb dX8_read_66 (by decide) ?_
    refine va_put (D := (dC, dI)) (ci := 8) (v := .int 0) (ty := (.int)) (C := RX8) (T := TX8) (N := 6) hx hb ht inX8 tyX8 tyX8_ok nmX8 hown hK hP hD hS 0 rfl rfl 2 (by decide) (ht _ m_230) (fun _ h9 => h9) rfl (by decide +kernel) rfl rfl (Nat.le_of_ble_eq_true rfl) dX8_read_67 (fun H locs hP hD hS => ?_)
    have hP : va_P (dC, dI) classes [((g 11 4), .inr (8, (o8 h g))), ((g 11 3), .inr (1, (o1 h g)))] H := hP
    have hD : va_D A [((g 11 4), .inr (8, (o8 h g))), ((g 11 3), .inr (1, (o1 h g)))] := hD
    refine lv_aload_n hx hb dX8_read_70 rfl (lv_at hl 2 rfl) ?_
    refine va_get (D := (dC, dI)) (ci := 8) (v := .int 0) (C := RX8) (T := TX8) (N := 6) hx hb ht inX8 hown hK hP 0 rfl rfl 4 (by decide) (ht _ m_234) (fun _ h9 => h9) rfl dX8_read_71 ?_
    have hP9 : va_P (dC, dI) classes [((g 11 4), .inr (8, (o8 h g))), ((g 11 3), .inr (1, (o1 h g)))] H := hP
    have hD9 : va_D A [((g 11 4), .inr (8, (o8 h g))), ((g 11 3), .inr (1, (o1 h g)))] := hD
    exact W.iret (v := 0) hx hb hr (fun t ht9 hW => ⟨⟨0, (), rfl, rfl, by rw [ht9]; exact hP9, hD9⟩, hS.F ht9⟩) hS.2.2 dX8_read_74
  · exact absurd rfl c3
set_option maxHeartbeats 4000000 in
set_option maxRecDepth 100000 in
/-- X1_enact -/
theorem c_X1_enact (l : Launch) (dC : Nat → ClassId) (dI : Nat → Nat → Nat) (sz : Nat) (h : Nat) (g : Nat → Nat → Nat) (ca : Nat → Nat → ClassId) (a : Int32) : Met l yX1_enact (wc yX1_enact cX1_enact 2 (some .int)) ({ frames := 0, cells := 0, slots := 0, locals := 0 } : Room) (pW (dC, dI) classes [((g 11 3), .inr (1, (o1 h g))), ((g 1 0), .inl ((ca 1 0), 8, .inl (fun _ => 0))), ((g 1 1), .inl ((ca 1 1), 8, .inl (fun _ => 0)))] [((ca 1 0), .int), ((ca 1 1), .int)] sz [.ref (g 11 3), .int a]) (va_Qi (fun r (_ : Unit) => r = 0) (fun _ _ => True) (va_A [((g 11 3), .inr (1, (o1 h g))), ((g 1 0), .inl ((ca 1 0), 8, .inl (fun _ => 0))), ((g 1 1), .inl ((ca 1 1), 8, .inl (fun _ => 0)))] sz)) 0 0 (va_A [((g 11 3), .inr (1, (o1 h g))), ((g 1 0), .inl ((ca 1 0), 8, .inl (fun _ => 0))), ((g 1 1), .inl ((ca 1 1), 8, .inl (fun _ => 0)))] sz) := by
  refine Met.ofW (cc := cX1_enact) (maxL := 2) (ret := (some .int)) (by decide) rfl ?_
  intro p e s m args below meth c s₁ B hml hv
  obtain ⟨rfl, hsz, hP, hK, hD0⟩ := hv
  have hx := B.exec
  have hb := B.bytes
  have hr := B.returns
  have ht := tb_tl (atoms_spec (ws := wc yX1_enact cX1_enact 2 (some .int)) B.pre)
  have hown : s.vm.findClass RX1 = some m.cls := findClass_of_methodNamed B.named
  have hlocks := B.notSynchronized
  subst hsz
  have hD := hD0.self (sz := s.heap.size)
  generalize hAe : va_A [((g 11 3), .inr (1, (o1 h g))), ((g 1 0), .inl ((ca 1 0), 8, .inl (fun _ => 0))), ((g 1 1), .inl ((ca 1 1), 8, .inl (fun _ => 0)))] s.heap.size = A at hD ⊢
  have hA : ∀ q : Nat, s.heap.size ≤ q → A q := fun q h => by rw [← hAe]; exact Or.inr h
  have hS : va_S A s.heap s.heap [] := va_S.rf
  have hP : va_P (dC, dI) classes [((g 11 3), .inr (1, (o1 h g))), ((g 1 0), .inl ((ca 1 0), 8, .inl (fun _ => 0))), ((g 1 1), .inl ((ca 1 1), 8, .inl (fun _ => 0)))] s.heap := hP
  have hl := lv_entry [.ref (g 11 3), .int a] (n := 2) (Nat.le_of_ble_eq_true rfl)
  rw [lg_entry_eq]
  generalize (lg_sl [.ref (g 11 3), .int a] ++ List.replicate (2 - (lg_sl [.ref (g 11 3), .int a]).length) Slot.unset).toArray = ls at hl ⊢
  have hl : lv_has ls 2 [(0, .ref (g 11 3)), (1, .int a)] := hl
  refine lv_aload_n hx hb dX1_enact_0 rfl (lv_at hl 0 rfl) ?_
  refine va_get (D := (dC, dI)) (ci := 1) (v := .ref (g 1 0)) (C := RX1) (T := TX1) (N := 9) hx hb ht inX1 hown hK hP 0 rfl rfl 0 (by decide) (ht _ m_189) (fun _ h9 => h9) rfl dX1_enact_1 ?_
  refine lv_aload_n hx hb dX1_enact_4 rfl (lv_at hl 0 rfl) ?_
  refine va_get (D := (dC, dI)) (ci := 1) (v := .int 0) (C := RX1) (T := TX1) (N := 9) hx hb ht inX1 hown hK hP 0 rfl rfl 7 (by decide) (ht _ m_196) (fun _ h9 => h9) rfl dX1_enact_5 ?_
  refine lv_iload_n hx hb dX1_enact_8 rfl (lv_at hl 1 rfl) ?_
  refine va_iast (D := (dC, dI)) hx hb hK hP hD hS 1 0 rfl rfl (by decide) dX1_enact_9 (fun H locs hP hD hS => ?_)
  obtain ⟨f1, hP, hD⟩ : ∃ f1 : Nat → Int32, va_P (dC, dI) classes [((g 11 3), .inr (1, (o1 h g))), ((g 1 0), .inl ((ca 1 0), 8, .inl f1)), ((g 1 1), .inl ((ca 1 1), 8, .inl (fun _ => 0)))] H ∧ va_D A [((g 11 3), .inr (1, (o1 h g))), ((g 1 0), .inl ((ca 1 0), 8, .inl f1)), ((g 1 1), .inl ((ca 1 1), 8, .inl (fun _ => 0)))] := ⟨_, hP, hD⟩
  refine lv_aload_n hx hb dX1_enact_10 rfl (lv_at hl 0 rfl) ?_
  refine va_get (D := (dC, dI)) (ci := 1) (v := .ref (g 1 1)) (C := RX1) (T := TX1) (N := 9) hx hb ht inX1 hown hK hP 0 rfl rfl 1 (by decide) (ht _ m_190) (fun _ h9 => h9) rfl dX1_enact_11 ?_
  refine lv_aload_n hx hb dX1_enact_14 rfl (lv_at hl 0 rfl) ?_
  refine va_get (D := (dC, dI)) (ci := 1) (v := .int 0) (C := RX1) (T := TX1) (N := 9) hx hb ht inX1 hown hK hP 0 rfl rfl 7 (by decide) (ht _ m_196) (fun _ h9 => h9) rfl dX1_enact_15 ?_
  refine lv_aload_n hx hb dX1_enact_18 rfl (lv_at hl 0 rfl) ?_
  refine va_get (D := (dC, dI)) (ci := 1) (v := .int 0) (C := RX1) (T := TX1) (N := 9) hx hb ht inX1 hown hK hP 0 rfl rfl 8 (by decide) (ht _ m_199) (fun _ h9 => h9) rfl dX1_enact_19 ?_
  refine va_iast (D := (dC, dI)) hx hb hK hP hD hS 2 1 rfl rfl (by decide) dX1_enact_22 (fun H locs hP hD hS => ?_)
  obtain ⟨f2, hP, hD⟩ : ∃ f2 : Nat → Int32, va_P (dC, dI) classes [((g 11 3), .inr (1, (o1 h g))), ((g 1 0), .inl ((ca 1 0), 8, .inl f1)), ((g 1 1), .inl ((ca 1 1), 8, .inl f2))] H ∧ va_D A [((g 11 3), .inr (1, (o1 h g))), ((g 1 0), .inl ((ca 1 0), 8, .inl f1)), ((g 1 1), .inl ((ca 1 1), 8, .inl f2))] := ⟨_, hP, hD⟩
  refine lv_aload_n hx hb dX1_enact_23 rfl (lv_at hl 0 rfl) ?_
  refine lv_dup hx hb dX1_enact_24 rfl ?_
  refine va_get (D := (dC, dI)) (ci := 1) (v := .int 0) (C := RX1) (T := TX1) (N := 9) hx hb ht inX1 hown hK hP 0 rfl rfl 7 (by decide) (ht _ m_196) (fun _ h9 => h9) rfl dX1_enact_25 ?_
  refine lv_iconst (v := 1) hx hb dX1_enact_28 (by decide) ?_
  refine lv_iadd hx hb dX1_enact_29 ?_
  refine lv_topi (fun v3 ev3 => ?_)
  obtain rfl : 1 = v3 := (ev3.trans (by decide)).symm
  refine va_put (D := (dC, dI)) (ci := 1) (v := .int 1) (ty := (.int)) (C := RX1) (T := TX1) (N := 9) hx hb ht inX1 tyX1 tyX1_ok nmX1 hown hK hP hD hS 0 rfl rfl 7 (by decide) (ht _ m_196) (fun _ h9 => h9) rfl (by decide +kernel) rfl rfl (Nat.le_of_ble_eq_true rfl) dX1_enact_30 (fun H locs hP hD hS => ?_)
  have hP : va_P (dC, dI) classes [((g 11 3), .inr (1, [.ref (g 1 0), .ref (g 1 1), .ref (g 1 2), .ref (g 1 3), .ref (g 1 4), .ref (g 1 5), .ref (g 1 6), .int 1, .int 0])), ((g 1 0), .inl ((ca 1 0), 8, .inl f1)), ((g 1 1), .inl ((ca 1 1), 8, .inl f2))] H := hP
  have hD : va_D A [((g 11 3), .inr (1, [.ref (g 1 0), .ref (g 1 1), .ref (g 1 2), .ref (g 1 3), .ref (g 1 4), .ref (g 1 5), .ref (g 1 6), .int 1, .int 0])), ((g 1 0), .inl ((ca 1 0), 8, .inl f1)), ((g 1 1), .inl ((ca 1 1), 8, .inl f2))] := hD
  refine lv_aload_n hx hb dX1_enact_33 rfl (lv_at hl 0 rfl) ?_
  refine va_get (D := (dC, dI)) (ci := 1) (v := .int 1) (C := RX1) (T := TX1) (N := 9) hx hb ht inX1 hown hK hP 0 rfl rfl 7 (by decide) (ht _ m_196) (fun _ h9 => h9) rfl dX1_enact_34 ?_
  refine lv_iconst (v := 1) hx hb dX1_enact_37 (by decide) ?_
  refine lv_isub hx hb dX1_enact_38 ?_
  refine lv_topi (fun v4 ev4 => ?_)
  obtain rfl : 0 = v4 := (ev4.trans (by decide)).symm
  exact W.iret (v := 0) hx hb hr (fun t ht9 hW => ⟨⟨0, (), rfl, rfl, trivial⟩, hS.F ht9⟩) hS.2.2 dX1_enact_39
set_option maxHeartbeats 4000000 in
set_option maxRecDepth 100000 in
/-- X1_findCounting -/
theorem c_X1_findCounting (l : Launch) (dC : Nat → ClassId) (dI : Nat → Nat → Nat) (h : Nat) (g : Nat → Nat → Nat) (ca : Nat → Nat → ClassId) (a : Int32) : Met l yX1_findCounting (wc yX1_findCounting cX1_findCounting 3 none) ({ frames := 0, cells := 0, slots := 0, locals := 0 } : Room) (pR (dC, dI) classes [((g 11 3), .inr (1, (o1 h g)))] [] [.ref (g 11 3), .int a]) (va_Sv (fun _ => True)) 0 0 (fun _ => False) := by
  refine Met.ofW (cc := cX1_findCounting) (maxL := 3) (ret := none) (by decide) rfl ?_
  intro p e s m args below meth c s₁ B hml hv
  obtain ⟨rfl, hP, hK⟩ := hv
  have hx := B.exec
  have hb := B.bytes
  have hr := B.returns
  have ht := tb_tl (atoms_spec (ws := wc yX1_findCounting cX1_findCounting 3 none) B.pre)
  have hown : s.vm.findClass RX1 = some m.cls := findClass_of_methodNamed B.named
  have hlocks := B.notSynchronized
  have hl := lv_entry [.ref (g 11 3), .int a] (n := 3) (Nat.le_of_ble_eq_true rfl)
  rw [lg_entry_eq]
  generalize (lg_sl [.ref (g 11 3), .int a] ++ List.replicate (3 - (lg_sl [.ref (g 11 3), .int a]).length) Slot.unset).toArray = ls at hl ⊢
  have hl : lv_has ls 3 [(0, .ref (g 11 3)), (1, .int a)] := hl
  refine lv_aload_n hx hb dX1_findCounting_0 rfl (lv_at hl 0 rfl) ?_
  refine va_get (D := (dC, dI)) (ci := 1) (v := .int 0) (C := RX1) (T := TX1) (N := 9) hx hb ht inX1 hown hK hP 0 rfl rfl 7 (by decide) (ht _ m_196) (fun _ h9 => h9) rfl dX1_findCounting_1 ?_
  refine lv_iconst (v := 1) hx hb dX1_findCounting_4 (by decide) ?_
  refine lv_isub hx hb dX1_findCounting_5 ?_
  refine lv_topi (fun v1 ev1 => ?_)
  obtain rfl : (-1) = v1 := (ev1.trans (by decide)).symm
  refine lv_istore_n (lv' := [(2, .int (-1)), (0, .ref (g 11 3)), (1, .int a)]) hx hb dX1_findCounting_6 rfl hl (by decide) rfl (fun ls hl => ?_)
  refine lv_iload_n hx hb dX1_findCounting_7 rfl (lv_at hl 0 rfl) ?_
  refine lv_if_lt (tgt := 46) hx hb dX1_findCounting_8 (by decide) (fun c2 => ?_) (fun c2 => ?_)
  · skip
    exact W.vret hx hb hr (fun t ht9 hW => ⟨rfl, trivial, ht9⟩) (fun q hq => by cases hq) dX1_findCounting_46
  · exact absurd c2 (by decide)
set_option maxHeartbeats 4000000 in
set_option maxRecDepth 100000 in
/-- X1_holding -/
theorem c_X1_holding (l : Launch) (dC : Nat → ClassId) (dI : Nat → Nat → Nat) (h : Nat) (g : Nat → Nat → Nat) (ca : Nat → Nat → ClassId) (a : Int32) (b : Int32) (h_a : 0 ≤ a.toInt ∧ a.toInt ≤ 5) : Met l yX1_holding (wc yX1_holding cX1_holding 7 (some .int)) ({ frames := 1, cells := 0, slots := 0, locals := 22 } : Room) (va_Pc [.ref (g 11 3), .int a, .int b] (fun U => va_P (dC, dI) classes [((g 11 3), .inr (1, (o1 h g)))] U.heap ∧ va_K (dC, dI) classes [] U ∧ zAF U)) (vp_Si (fun r => r = F_atF a)) 0 0 (fun _ => False) := by
  refine Met.ofW (cc := cX1_holding) (maxL := 7) (ret := (some .int)) (by decide) rfl ?_
  intro p e s m args below meth c s₁ B hml hv
  obtain ⟨rfl, hP, hK, hZ⟩ := hv
  have hx := B.exec
  have hb := B.bytes
  have hr := B.returns
  have ht := tb_tl (atoms_spec (ws := wc yX1_holding cX1_holding 7 (some .int)) B.pre)
  have hown : s.vm.findClass RX1 = some m.cls := findClass_of_methodNamed B.named
  have hlocks := B.notSynchronized
  have hl := lv_entry [.ref (g 11 3), .int a, .int b] (n := 7) (Nat.le_of_ble_eq_true rfl)
  rw [lg_entry_eq]
  generalize (lg_sl [.ref (g 11 3), .int a, .int b] ++ List.replicate (7 - (lg_sl [.ref (g 11 3), .int a, .int b]).length) Slot.unset).toArray = ls at hl ⊢
  have hl : lv_has ls 7 [(0, .ref (g 11 3)), (1, .int a), (2, .int b)] := hl
  refine lv_aload_n hx hb dX1_holding_0 rfl (lv_at hl 0 rfl) ?_
  refine lv_iload_n hx hb dX1_holding_1 rfl (lv_at hl 2 rfl) ?_
  have hPc := hP.sub (ws' := [((g 11 3), .inr (1, (o1 h g)))]) [0] rfl
  have hKc := hK.sub (tys' := []) [] rfl
  refine va_csv (W.runV (As := [.int b]) (rest := []) ⟨hx, hb, hml, hown, ht⟩ (c_X1_findCounting l dC dI h g ca b) (kV 1 ht m_604 m_606 m_5 m_81 m_607 rfl rfl hd_X1_findCounting_v ⟨Nat.le_of_ble_eq_true rfl, Nat.le_of_ble_eq_true rfl⟩) (vR hPc hKc (va_recv hKc hPc (ci := 1) (q0 := 0) rfl rfl)) rfl rfl hl.1 rfl (lv_room (Nat.le_of_ble_eq_true rfl)) dX1_holding_2 ⟨Nat.le_of_ble_eq_true rfl, Nat.le_of_ble_eq_true rfl⟩) (fun _ => ?_)
  obtain ⟨tz, hz1, hz2⟩ := hZ
  refine va_gets (A := fun _ => False) hx hb hz1 va_S.rf hown (ht _ m_616) (fun _ h9 => h9) dX1_holding_5 ?_
  refine lv_iload_n hx hb dX1_holding_8 rfl (lv_at hl 1 rfl) ?_
  refine va_ti (A := fun _ => False) (v := .int (F_AFT a.toNatClampNeg)) hx hb hz2 va_S.rf (vp_in_iff.mpr ⟨by omega, by omega⟩) rfl dX1_holding_9 ?_
  refine lv_topi (fun v2 ev2 => ?_)
  obtain rfl : F_atF a = v2 := (ev2.trans (F_AFT_eq (by omega))).symm
  refine lv_istore_n (lv' := [(3, .int (F_atF a)), (0, .ref (g 11 3)), (1, .int a), (2, .int b)]) hx hb dX1_holding_10 rfl hl (by decide) rfl (fun ls hl => ?_)
  refine lv_iconst (v := (-1)) hx hb dX1_holding_11 (by decide) ?_
  refine lv_istore (lv' := [(4, .int (-1)), (3, .int (F_atF a)), (0, .ref (g 11 3)), (1, .int a), (2, .int b)]) hx hb dX1_holding_12 hl (by decide) rfl (fun ls hl => ?_)
  refine lv_iconst (v := 0) hx hb dX1_holding_14 (by decide) ?_
  refine lv_istore (lv' := [(5, .int 0), (4, .int (-1)), (3, .int (F_atF a)), (0, .ref (g 11 3)), (1, .int a), (2, .int b)]) hx hb dX1_holding_15 hl (by decide) rfl (fun ls hl => ?_)
  refine lv_iload hx hb dX1_holding_17 (lv_at hl 0 rfl) ?_
  refine lv_aload_n hx hb dX1_holding_19 rfl (lv_at hl 3 rfl) ?_
  refine va_get (D := (dC, dI)) (ci := 1) (v := .int 0) (C := RX1) (T := TX1) (N := 9) hx hb ht inX1 hown hK hP 0 rfl rfl 7 (by decide) (ht _ m_196) (fun _ h9 => h9) rfl dX1_holding_20 ?_
  refine lv_icmp_ge (tgt := 86) hx hb dX1_holding_23 (by decide) (fun c3 => ?_) (fun c3 => ?_)
  · skip
    refine lv_iload_n hx hb dX1_holding_86 rfl (lv_at hl 2 rfl) ?_
    exact W.iret (v := (F_atF a)) hx hb hr (fun t ht9 hW => ⟨(F_atF a), rfl, rfl, ht9⟩) (fun q hq => by cases hq) dX1_holding_87
  · exact absurd rfl c3
set_option maxHeartbeats 4000000 in
set_option maxRecDepth 100000 in
/-- X5_bring -/
theorem c_X5_bring (l : Launch) (dC : Nat → ClassId) (dI : Nat → Nat → Nat) (sz : Nat) (h : Nat) (g : Nat → Nat → Nat) (ca : Nat → Nat → ClassId) (a : Int32) : Met l yX5_bring (wc yX5_bring cX5_bring 2 (some .int)) ({ frames := 0, cells := 0, slots := 0, locals := 0 } : Room) (pW (dC, dI) classes [((g 11 7), .inr (5, (o5 h g))), ((g 5 0), .inl ((ca 5 0), 8, .inl (fun _ => 0)))] [((ca 5 0), .int)] sz [.ref (g 11 7), .int a]) (va_Qi (fun r (_ : Unit) => r = 1) (fun _ _ => True) (va_A [((g 11 7), .inr (5, (o5 h g))), ((g 5 0), .inl ((ca 5 0), 8, .inl (fun _ => 0)))] sz)) 0 0 (va_A [((g 11 7), .inr (5, (o5 h g))), ((g 5 0), .inl ((ca 5 0), 8, .inl (fun _ => 0)))] sz) := by
  refine Met.ofW (cc := cX5_bring) (maxL := 2) (ret := (some .int)) (by decide) rfl ?_
  intro p e s m args below meth c s₁ B hml hv
  obtain ⟨rfl, hsz, hP, hK, hD0⟩ := hv
  have hx := B.exec
  have hb := B.bytes
  have hr := B.returns
  have ht := tb_tl (atoms_spec (ws := wc yX5_bring cX5_bring 2 (some .int)) B.pre)
  have hown : s.vm.findClass RX5 = some m.cls := findClass_of_methodNamed B.named
  have hlocks := B.notSynchronized
  subst hsz
  have hD := hD0.self (sz := s.heap.size)
  generalize hAe : va_A [((g 11 7), .inr (5, (o5 h g))), ((g 5 0), .inl ((ca 5 0), 8, .inl (fun _ => 0)))] s.heap.size = A at hD ⊢
  have hA : ∀ q : Nat, s.heap.size ≤ q → A q := fun q h => by rw [← hAe]; exact Or.inr h
  have hS : va_S A s.heap s.heap [] := va_S.rf
  have hP : va_P (dC, dI) classes [((g 11 7), .inr (5, (o5 h g))), ((g 5 0), .inl ((ca 5 0), 8, .inl (fun _ => 0)))] s.heap := hP
  have hl := lv_entry [.ref (g 11 7), .int a] (n := 2) (Nat.le_of_ble_eq_true rfl)
  rw [lg_entry_eq]
  generalize (lg_sl [.ref (g 11 7), .int a] ++ List.replicate (2 - (lg_sl [.ref (g 11 7), .int a]).length) Slot.unset).toArray = ls at hl ⊢
  have hl : lv_has ls 2 [(0, .ref (g 11 7)), (1, .int a)] := hl
  refine lv_aload_n hx hb dX5_bring_0 rfl (lv_at hl 0 rfl) ?_
  refine va_get (D := (dC, dI)) (ci := 5) (v := .ref (g 5 0)) (C := RX5) (T := TX5) (N := 7) hx hb ht inX5 hown hK hP 0 rfl rfl 0 (by decide) (ht _ m_335) (fun _ h9 => h9) rfl dX5_bring_1 ?_
  refine lv_aload_n hx hb dX5_bring_4 rfl (lv_at hl 0 rfl) ?_
  refine va_get (D := (dC, dI)) (ci := 5) (v := .int 0) (C := RX5) (T := TX5) (N := 7) hx hb ht inX5 hown hK hP 0 rfl rfl 4 (by decide) (ht _ m_340) (fun _ h9 => h9) rfl dX5_bring_5 ?_
  refine lv_iload_n hx hb dX5_bring_8 rfl (lv_at hl 1 rfl) ?_
  refine va_iast (D := (dC, dI)) hx hb hK hP hD hS 1 0 rfl rfl (by decide) dX5_bring_9 (fun H locs hP hD hS => ?_)
  obtain ⟨f1, hP, hD⟩ : ∃ f1 : Nat → Int32, va_P (dC, dI) classes [((g 11 7), .inr (5, (o5 h g))), ((g 5 0), .inl ((ca 5 0), 8, .inl f1))] H ∧ va_D A [((g 11 7), .inr (5, (o5 h g))), ((g 5 0), .inl ((ca 5 0), 8, .inl f1))] := ⟨_, hP, hD⟩
  refine lv_aload_n hx hb dX5_bring_10 rfl (lv_at hl 0 rfl) ?_
  refine lv_dup hx hb dX5_bring_11 rfl ?_
  refine va_get (D := (dC, dI)) (ci := 5) (v := .int 0) (C := RX5) (T := TX5) (N := 7) hx hb ht inX5 hown hK hP 0 rfl rfl 4 (by decide) (ht _ m_340) (fun _ h9 => h9) rfl dX5_bring_12 ?_
  refine lv_iconst (v := 1) hx hb dX5_bring_15 (by decide) ?_
  refine lv_iadd hx hb dX5_bring_16 ?_
  refine lv_topi (fun v2 ev2 => ?_)
  obtain rfl : 1 = v2 := (ev2.trans (by decide)).symm
  refine va_put (D := (dC, dI)) (ci := 5) (v := .int 1) (ty := (.int)) (C := RX5) (T := TX5) (N := 7) hx hb ht inX5 tyX5 tyX5_ok nmX5 hown hK hP hD hS 0 rfl rfl 4 (by decide) (ht _ m_340) (fun _ h9 => h9) rfl (by decide +kernel) rfl rfl (Nat.le_of_ble_eq_true rfl) dX5_bring_17 (fun H locs hP hD hS => ?_)
  have hP : va_P (dC, dI) classes [((g 11 7), .inr (5, [.ref (g 5 0), .ref (g 5 1), .ref (g 5 2), .ref (g 5 3), .int 1, .int 0, .int 0])), ((g 5 0), .inl ((ca 5 0), 8, .inl f1))] H := hP
  have hD : va_D A [((g 11 7), .inr (5, [.ref (g 5 0), .ref (g 5 1), .ref (g 5 2), .ref (g 5 3), .int 1, .int 0, .int 0])), ((g 5 0), .inl ((ca 5 0), 8, .inl f1))] := hD
  refine lv_aload_n hx hb dX5_bring_20 rfl (lv_at hl 0 rfl) ?_
  refine lv_iconst (v := 0) hx hb dX5_bring_21 (by decide) ?_
  refine va_put (D := (dC, dI)) (ci := 5) (v := .int 0) (ty := (.int)) (C := RX5) (T := TX5) (N := 7) hx hb ht inX5 tyX5 tyX5_ok nmX5 hown hK hP hD hS 0 rfl rfl 6 (by decide) (ht _ m_344) (fun _ h9 => h9) rfl (by decide +kernel) rfl rfl (Nat.le_of_ble_eq_true rfl) dX5_bring_22 (fun H locs hP hD hS => ?_)
  have hP : va_P (dC, dI) classes [((g 11 7), .inr (5, [.ref (g 5 0), .ref (g 5 1), .ref (g 5 2), .ref (g 5 3), .int 1, .int 0, .int 0])), ((g 5 0), .inl ((ca 5 0), 8, .inl f1))] H := hP
  have hD : va_D A [((g 11 7), .inr (5, [.ref (g 5 0), .ref (g 5 1), .ref (g 5 2), .ref (g 5 3), .int 1, .int 0, .int 0])), ((g 5 0), .inl ((ca 5 0), 8, .inl f1))] := hD
  refine lv_aload_n hx hb dX5_bring_25 rfl (lv_at hl 0 rfl) ?_
  refine va_get (D := (dC, dI)) (ci := 5) (v := .int 1) (C := RX5) (T := TX5) (N := 7) hx hb ht inX5 hown hK hP 0 rfl rfl 4 (by decide) (ht _ m_340) (fun _ h9 => h9) rfl dX5_bring_26 ?_
  exact W.iret (v := 1) hx hb hr (fun t ht9 hW => ⟨⟨1, (), rfl, rfl, trivial⟩, hS.F ht9⟩) hS.2.2 dX5_bring_29
set_option maxHeartbeats 4000000 in
set_option maxRecDepth 100000 in
/-- X5_clear -/
theorem c_X5_clear (l : Launch) (dC : Nat → ClassId) (dI : Nat → Nat → Nat) (sz : Nat) (h : Nat) (g : Nat → Nat → Nat) (ca : Nat → Nat → ClassId) : Met l yX5_clear (wc yX5_clear cX5_clear 2 (some .int)) ({ frames := 0, cells := 0, slots := 0, locals := 0 } : Room) (pW (dC, dI) classes [((g 11 7), .inr (5, (o5 h g)))] [] sz [.ref (g 11 7)]) (va_Qi (fun r (_ : Unit) => r = 0) (fun _ _ => True) (va_A [((g 11 7), .inr (5, (o5 h g)))] sz)) 0 0 (va_A [((g 11 7), .inr (5, (o5 h g)))] sz) := by
  refine Met.ofW (cc := cX5_clear) (maxL := 2) (ret := (some .int)) (by decide) rfl ?_
  intro p e s m args below meth c s₁ B hml hv
  obtain ⟨rfl, hsz, hP, hK, hD0⟩ := hv
  have hx := B.exec
  have hb := B.bytes
  have hr := B.returns
  have ht := tb_tl (atoms_spec (ws := wc yX5_clear cX5_clear 2 (some .int)) B.pre)
  have hown : s.vm.findClass RX5 = some m.cls := findClass_of_methodNamed B.named
  have hlocks := B.notSynchronized
  subst hsz
  have hD := hD0.self (sz := s.heap.size)
  generalize hAe : va_A [((g 11 7), .inr (5, (o5 h g)))] s.heap.size = A at hD ⊢
  have hA : ∀ q : Nat, s.heap.size ≤ q → A q := fun q h => by rw [← hAe]; exact Or.inr h
  have hS : va_S A s.heap s.heap [] := va_S.rf
  have hP : va_P (dC, dI) classes [((g 11 7), .inr (5, (o5 h g)))] s.heap := hP
  have hl := lv_entry [.ref (g 11 7)] (n := 2) (Nat.le_of_ble_eq_true rfl)
  rw [lg_entry_eq]
  generalize (lg_sl [.ref (g 11 7)] ++ List.replicate (2 - (lg_sl [.ref (g 11 7)]).length) Slot.unset).toArray = ls at hl ⊢
  have hl : lv_has ls 2 [(0, .ref (g 11 7))] := hl
  refine lv_aload_n hx hb dX5_clear_0 rfl (lv_at hl 0 rfl) ?_
  refine va_get (D := (dC, dI)) (ci := 5) (v := .int 0) (C := RX5) (T := TX5) (N := 7) hx hb ht inX5 hown hK hP 0 rfl rfl 4 (by decide) (ht _ m_340) (fun _ h9 => h9) rfl dX5_clear_1 ?_
  refine lv_istore_n (lv' := [(1, .int 0), (0, .ref (g 11 7))]) hx hb dX5_clear_4 rfl hl (by decide) rfl (fun ls hl => ?_)
  refine lv_aload_n hx hb dX5_clear_5 rfl (lv_at hl 1 rfl) ?_
  refine lv_iconst (v := 0) hx hb dX5_clear_6 (by decide) ?_
  refine va_put (D := (dC, dI)) (ci := 5) (v := .int 0) (ty := (.int)) (C := RX5) (T := TX5) (N := 7) hx hb ht inX5 tyX5 tyX5_ok nmX5 hown hK hP hD hS 0 rfl rfl 4 (by decide) (ht _ m_340) (fun _ h9 => h9) rfl (by decide +kernel) rfl rfl (Nat.le_of_ble_eq_true rfl) dX5_clear_7 (fun H locs hP hD hS => ?_)
  have hP : va_P (dC, dI) classes [((g 11 7), .inr (5, (o5 h g)))] H := hP
  have hD : va_D A [((g 11 7), .inr (5, (o5 h g)))] := hD
  refine lv_aload_n hx hb dX5_clear_10 rfl (lv_at hl 1 rfl) ?_
  refine lv_iconst (v := 0) hx hb dX5_clear_11 (by decide) ?_
  refine va_put (D := (dC, dI)) (ci := 5) (v := .int 0) (ty := (.int)) (C := RX5) (T := TX5) (N := 7) hx hb ht inX5 tyX5 tyX5_ok nmX5 hown hK hP hD hS 0 rfl rfl 6 (by decide) (ht _ m_344) (fun _ h9 => h9) rfl (by decide +kernel) rfl rfl (Nat.le_of_ble_eq_true rfl) dX5_clear_12 (fun H locs hP hD hS => ?_)
  have hP : va_P (dC, dI) classes [((g 11 7), .inr (5, (o5 h g)))] H := hP
  have hD : va_D A [((g 11 7), .inr (5, (o5 h g)))] := hD
  refine lv_iload_n hx hb dX5_clear_15 rfl (lv_at hl 0 rfl) ?_
  exact W.iret (v := 0) hx hb hr (fun t ht9 hW => ⟨⟨0, (), rfl, rfl, trivial⟩, hS.F ht9⟩) hS.2.2 dX5_clear_16
set_option maxHeartbeats 4000000 in
set_option maxRecDepth 100000 in
/-- X5_place -/
theorem c_X5_place (l : Launch) (dC : Nat → ClassId) (dI : Nat → Nat → Nat) (sz : Nat) (h : Nat) (g : Nat → Nat → Nat) (ca : Nat → Nat → ClassId) (m_ : Int32) : Met l yX5_place (wc yX5_place cX5_place 5 none) ({ frames := 1, cells := 0, slots := 0, locals := 60 } : Room) (pW (dC, dI) classes [((g 11 7), .inr (5, [.ref (g 5 0), .ref (g 5 1), .ref (g 5 2), .ref (g 5 3), .int 0, .int 1000000, .int 0])), ((g 5 1), .inl ((ca 5 1), 8, .inl (fun _ => 0))), ((g 5 3), .inl ((ca 5 3), 8, .inl (fun _ => 0)))] [((ca 5 1), .int), ((ca 5 3), .int)] sz [.ref (g 11 7), .int 0, .int m_, .int 0]) (va_Qv (fun _ : Unit => True) (fun _ t => va_P (dC, dI) classes [((g 11 7), .inr (5, [.ref (g 5 0), .ref (g 5 1), .ref (g 5 2), .ref (g 5 3), .int 0, .int 0, .int 0]))] t.heap ∧ va_D (va_A [((g 11 7), .inr (5, [.ref (g 5 0), .ref (g 5 1), .ref (g 5 2), .ref (g 5 3), .int 0, .int 1000000, .int 0])), ((g 5 1), .inl ((ca 5 1), 8, .inl (fun _ => 0))), ((g 5 3), .inl ((ca 5 3), 8, .inl (fun _ => 0)))] sz) [((g 11 7), .inr (5, [.ref (g 5 0), .ref (g 5 1), .ref (g 5 2), .ref (g 5 3), .int 0, .int 0, .int 0]))]) (va_A [((g 11 7), .inr (5, [.ref (g 5 0), .ref (g 5 1), .ref (g 5 2), .ref (g 5 3), .int 0, .int 1000000, .int 0])), ((g 5 1), .inl ((ca 5 1), 8, .inl (fun _ => 0))), ((g 5 3), .inl ((ca 5 3), 8, .inl (fun _ => 0)))] sz)) 0 0 (va_A [((g 11 7), .inr (5, [.ref (g 5 0), .ref (g 5 1), .ref (g 5 2), .ref (g 5 3), .int 0, .int 1000000, .int 0])), ((g 5 1), .inl ((ca 5 1), 8, .inl (fun _ => 0))), ((g 5 3), .inl ((ca 5 3), 8, .inl (fun _ => 0)))] sz) := by
  refine Met.ofW (cc := cX5_place) (maxL := 5) (ret := none) (by decide) rfl ?_
  intro p e s m args below meth c s₁ B hml hv
  obtain ⟨rfl, hsz, hP, hK, hD0⟩ := hv
  have hx := B.exec
  have hb := B.bytes
  have hr := B.returns
  have ht := tb_tl (atoms_spec (ws := wc yX5_place cX5_place 5 none) B.pre)
  have hown : s.vm.findClass RX5 = some m.cls := findClass_of_methodNamed B.named
  have hlocks := B.notSynchronized
  subst hsz
  have hD := hD0.self (sz := s.heap.size)
  generalize hAe : va_A [((g 11 7), .inr (5, [.ref (g 5 0), .ref (g 5 1), .ref (g 5 2), .ref (g 5 3), .int 0, .int 1000000, .int 0])), ((g 5 1), .inl ((ca 5 1), 8, .inl (fun _ => 0))), ((g 5 3), .inl ((ca 5 3), 8, .inl (fun _ => 0)))] s.heap.size = A at hD ⊢
  have hA : ∀ q : Nat, s.heap.size ≤ q → A q := fun q h => by rw [← hAe]; exact Or.inr h
  have hS : va_S A s.heap s.heap [] := va_S.rf
  have hP : va_P (dC, dI) classes [((g 11 7), .inr (5, [.ref (g 5 0), .ref (g 5 1), .ref (g 5 2), .ref (g 5 3), .int 0, .int 1000000, .int 0])), ((g 5 1), .inl ((ca 5 1), 8, .inl (fun _ => 0))), ((g 5 3), .inl ((ca 5 3), 8, .inl (fun _ => 0)))] s.heap := hP
  have hl := lv_entry [.ref (g 11 7), .int 0, .int m_, .int 0] (n := 5) (Nat.le_of_ble_eq_true rfl)
  rw [lg_entry_eq]
  generalize (lg_sl [.ref (g 11 7), .int 0, .int m_, .int 0] ++ List.replicate (5 - (lg_sl [.ref (g 11 7), .int 0, .int m_, .int 0]).length) Slot.unset).toArray = ls at hl ⊢
  have hl : lv_has ls 5 [(0, .ref (g 11 7)), (1, .int 0), (2, .int m_), (3, .int 0)] := hl
  refine lv_iload_n hx hb dX5_place_0 rfl (lv_at hl 3 rfl) ?_
  refine lv_aload_n hx hb dX5_place_1 rfl (lv_at hl 0 rfl) ?_
  refine va_get (D := (dC, dI)) (ci := 5) (v := .int 1000000) (C := RX5) (T := TX5) (N := 7) hx hb ht inX5 hown hK hP 0 rfl rfl 5 (by decide) (ht _ m_342) (fun _ h9 => h9) rfl dX5_place_2 ?_
  refine lv_icmp_lt (tgt := 9) hx hb dX5_place_5 (by decide) (fun c1 => ?_) (fun c1 => ?_)
  · skip
    refine lv_iload_n hx hb dX5_place_9 rfl (lv_at hl 1 rfl) ?_
    refine lv_aload_n hx hb dX5_place_10 rfl (lv_at hl 0 rfl) ?_
    refine va_get (D := (dC, dI)) (ci := 5) (v := .int 0) (C := RX5) (T := TX5) (N := 7) hx hb ht inX5 hown hK hP 0 rfl rfl 4 (by decide) (ht _ m_340) (fun _ h9 => h9) rfl dX5_place_11 ?_
    refine lv_icmp_lt (tgt := 40) hx hb dX5_place_14 (by decide) (fun c2 => ?_) (fun c2 => ?_)
    · exact absurd rfl c2
    · skip
      refine lv_aload_n hx hb dX5_place_17 rfl (lv_at hl 0 rfl) ?_
      refine lv_iload_n hx hb dX5_place_18 rfl (lv_at hl 3 rfl) ?_
      refine va_put (D := (dC, dI)) (ci := 5) (v := .int 0) (ty := (.int)) (C := RX5) (T := TX5) (N := 7) hx hb ht inX5 tyX5 tyX5_ok nmX5 hown hK hP hD hS 0 rfl rfl 5 (by decide) (ht _ m_342) (fun _ h9 => h9) rfl (by decide +kernel) rfl rfl (Nat.le_of_ble_eq_true rfl) dX5_place_19 (fun H locs hP hD hS => ?_)
      have hP : va_P (dC, dI) classes [((g 11 7), .inr (5, (o5 h g))), ((g 5 1), .inl ((ca 5 1), 8, .inl (fun _ => 0))), ((g 5 3), .inl ((ca 5 3), 8, .inl (fun _ => 0)))] H := hP
      have hD : va_D A [((g 11 7), .inr (5, (o5 h g))), ((g 5 1), .inl ((ca 5 1), 8, .inl (fun _ => 0))), ((g 5 3), .inl ((ca 5 3), 8, .inl (fun _ => 0)))] := hD
      refine lv_aload_n hx hb dX5_place_22 rfl (lv_at hl 0 rfl) ?_
      refine va_get (D := (dC, dI)) (ci := 5) (v := .ref (g 5 1)) (C := RX5) (T := TX5) (N := 7) hx hb ht inX5 hown hK hP 0 rfl rfl 1 (by decide) (ht _ m_336) (fun _ h9 => h9) rfl dX5_place_23 ?_
      refine lv_iconst (v := 0) hx hb dX5_place_26 (by decide) ?_
      refine lv_aload_n hx hb dX5_place_27 rfl (lv_at hl 0 rfl) ?_
      refine va_get (D := (dC, dI)) (ci := 5) (v := .ref (g 5 3)) (C := RX5) (T := TX5) (N := 7) hx hb ht inX5 hown hK hP 0 rfl rfl 3 (by decide) (ht _ m_338) (fun _ h9 => h9) rfl dX5_place_28 ?_
      refine lv_iconst (v := 0) hx hb dX5_place_31 (by decide) ?_
      refine lv_aload_n hx hb dX5_place_32 rfl (lv_at hl 0 rfl) ?_
      refine va_get (D := (dC, dI)) (ci := 5) (v := .int 0) (C := RX5) (T := TX5) (N := 7) hx hb ht inX5 hown hK hP 0 rfl rfl 4 (by decide) (ht _ m_340) (fun _ h9 => h9) rfl dX5_place_33 ?_
      refine va_copyi (D := (dC, dI)) (ty := .int) hx hb (hml.trans hl.1.symm) hown (ht _ m_1022) (ht _ m_1024) (ht _ m_1023) (ht _ m_95) hK hP hD hS 1 2 0 1 rfl rfl rfl rfl rfl (by decide) (by decide) (by decide) (by decide) (by decide) (fun i hi => rfl) (Nat.le_of_ble_eq_true rfl) (Nat.le_of_ble_eq_true rfl) dX5_place_36 (fun H locs hP hD hS => ?_)
      obtain ⟨f3, hP, hD⟩ : ∃ f3 : Nat → Int32, va_P (dC, dI) classes [((g 11 7), .inr (5, (o5 h g))), ((g 5 1), .inl ((ca 5 1), 8, .inl (fun _ => 0))), ((g 5 3), .inl ((ca 5 3), 8, .inl f3))] H ∧ va_D A [((g 11 7), .inr (5, (o5 h g))), ((g 5 1), .inl ((ca 5 1), 8, .inl (fun _ => 0))), ((g 5 3), .inl ((ca 5 3), 8, .inl f3))] := ⟨_, hP, hD⟩
      have hP9 : va_P (dC, dI) classes [((g 11 7), .inr (5, [.ref (g 5 0), .ref (g 5 1), .ref (g 5 2), .ref (g 5 3), .int 0, .int 0, .int 0]))] H := hP
      have hD9 : va_D A [((g 11 7), .inr (5, [.ref (g 5 0), .ref (g 5 1), .ref (g 5 2), .ref (g 5 3), .int 0, .int 0, .int 0]))] := hD
      exact W.vret hx hb hr (fun t ht9 hW => ⟨⟨(), rfl, trivial, by rw [ht9]; exact hP9, hD9⟩, hS.F ht9⟩) hS.2.2 dX5_place_39
  · exact absurd c1 (by decide)
set_option maxHeartbeats 4000000 in
set_option maxRecDepth 100000 in
/-- X5_arrange -/
theorem c_X5_arrange (l : Launch) (dC : Nat → ClassId) (dI : Nat → Nat → Nat) (sz : Nat) (h : Nat) (g : Nat → Nat → Nat) (ca : Nat → Nat → ClassId) (m_ : Int32) (h_m_ : 1 ≤ m_.toInt ∧ m_.toInt ≤ 3) : Met l yX5_arrange (wc yX5_arrange cX5_arrange 2 none) ({ frames := 2, cells := 0, slots := 0, locals := 84 } : Room) (pW (dC, dI) classes [((g 11 7), .inr (5, (o5 h g))), ((g 5 1), .inl ((ca 5 1), 8, .inl (fun _ => 0))), ((g 5 3), .inl ((ca 5 3), 8, .inl (fun _ => 0)))] [((ca 5 1), .int), ((ca 5 3), .int)] sz [.ref (g 11 7), .int m_]) (va_Qv (fun _ : Unit => True) (fun _ t => va_P (dC, dI) classes [((g 11 7), .inr (5, [.ref (g 5 0), .ref (g 5 1), .ref (g 5 2), .ref (g 5 3), .int 0, .int 0, .int m_]))] t.heap ∧ va_D (va_A [((g 11 7), .inr (5, (o5 h g))), ((g 5 1), .inl ((ca 5 1), 8, .inl (fun _ => 0))), ((g 5 3), .inl ((ca 5 3), 8, .inl (fun _ => 0)))] sz) [((g 11 7), .inr (5, [.ref (g 5 0), .ref (g 5 1), .ref (g 5 2), .ref (g 5 3), .int 0, .int 0, .int m_]))]) (va_A [((g 11 7), .inr (5, (o5 h g))), ((g 5 1), .inl ((ca 5 1), 8, .inl (fun _ => 0))), ((g 5 3), .inl ((ca 5 3), 8, .inl (fun _ => 0)))] sz)) 0 0 (va_A [((g 11 7), .inr (5, (o5 h g))), ((g 5 1), .inl ((ca 5 1), 8, .inl (fun _ => 0))), ((g 5 3), .inl ((ca 5 3), 8, .inl (fun _ => 0)))] sz) := by
  refine Met.ofW (cc := cX5_arrange) (maxL := 2) (ret := none) (by decide) rfl ?_
  intro p e s m args below meth c s₁ B hml hv
  obtain ⟨rfl, hsz, hP, hK, hD0⟩ := hv
  have hx := B.exec
  have hb := B.bytes
  have hr := B.returns
  have ht := tb_tl (atoms_spec (ws := wc yX5_arrange cX5_arrange 2 none) B.pre)
  have hown : s.vm.findClass RX5 = some m.cls := findClass_of_methodNamed B.named
  have hlocks := B.notSynchronized
  subst hsz
  have hD := hD0.self (sz := s.heap.size)
  generalize hAe : va_A [((g 11 7), .inr (5, (o5 h g))), ((g 5 1), .inl ((ca 5 1), 8, .inl (fun _ => 0))), ((g 5 3), .inl ((ca 5 3), 8, .inl (fun _ => 0)))] s.heap.size = A at hD ⊢
  have hA : ∀ q : Nat, s.heap.size ≤ q → A q := fun q h => by rw [← hAe]; exact Or.inr h
  have hS : va_S A s.heap s.heap [] := va_S.rf
  have hP : va_P (dC, dI) classes [((g 11 7), .inr (5, (o5 h g))), ((g 5 1), .inl ((ca 5 1), 8, .inl (fun _ => 0))), ((g 5 3), .inl ((ca 5 3), 8, .inl (fun _ => 0)))] s.heap := hP
  have hl := lv_entry [.ref (g 11 7), .int m_] (n := 2) (Nat.le_of_ble_eq_true rfl)
  rw [lg_entry_eq]
  generalize (lg_sl [.ref (g 11 7), .int m_] ++ List.replicate (2 - (lg_sl [.ref (g 11 7), .int m_]).length) Slot.unset).toArray = ls at hl ⊢
  have hl : lv_has ls 2 [(0, .ref (g 11 7)), (1, .int m_)] := hl
  refine lv_iload_n hx hb dX5_arrange_0 rfl (lv_at hl 1 rfl) ?_
  refine lv_aload_n hx hb dX5_arrange_1 rfl (lv_at hl 0 rfl) ?_
  refine va_get (D := (dC, dI)) (ci := 5) (v := .int 0) (C := RX5) (T := TX5) (N := 7) hx hb ht inX5 hown hK hP 0 rfl rfl 6 (by decide) (ht _ m_344) (fun _ h9 => h9) rfl dX5_arrange_2 ?_
  refine lv_icmp_ne (tgt := 9) hx hb dX5_arrange_5 (by decide) (fun c1 => ?_) (fun c1 => ?_)
  · skip
    refine lv_aload_n hx hb dX5_arrange_9 rfl (lv_at hl 0 rfl) ?_
    refine lv_ldc hx hb hown (ht _ m_1017) dX5_arrange_10 ?_
    refine va_put (D := (dC, dI)) (ci := 5) (v := .int 1000000) (ty := (.int)) (C := RX5) (T := TX5) (N := 7) hx hb ht inX5 tyX5 tyX5_ok nmX5 hown hK hP hD hS 0 rfl rfl 5 (by decide) (ht _ m_342) (fun _ h9 => h9) rfl (by decide +kernel) rfl rfl (Nat.le_of_ble_eq_true rfl) dX5_arrange_12 (fun H locs hP hD hS => ?_)
    have hP : va_P (dC, dI) classes [((g 11 7), .inr (5, [.ref (g 5 0), .ref (g 5 1), .ref (g 5 2), .ref (g 5 3), .int 0, .int 1000000, .int 0])), ((g 5 1), .inl ((ca 5 1), 8, .inl (fun _ => 0))), ((g 5 3), .inl ((ca 5 3), 8, .inl (fun _ => 0)))] H := hP
    have hD : va_D A [((g 11 7), .inr (5, [.ref (g 5 0), .ref (g 5 1), .ref (g 5 2), .ref (g 5 3), .int 0, .int 1000000, .int 0])), ((g 5 1), .inl ((ca 5 1), 8, .inl (fun _ => 0))), ((g 5 3), .inl ((ca 5 3), 8, .inl (fun _ => 0)))] := hD
    refine lv_aload_n hx hb dX5_arrange_15 rfl (lv_at hl 0 rfl) ?_
    refine lv_iconst (v := 0) hx hb dX5_arrange_16 (by decide) ?_
    refine lv_iload_n hx hb dX5_arrange_17 rfl (lv_at hl 1 rfl) ?_
    refine lv_iconst (v := 0) hx hb dX5_arrange_18 (by decide) ?_
    have hPc := hP.sub (ws' := [((g 11 7), .inr (5, [.ref (g 5 0), .ref (g 5 1), .ref (g 5 2), .ref (g 5 3), .int 0, .int 1000000, .int 0])), ((g 5 1), .inl ((ca 5 1), 8, .inl (fun _ => 0))), ((g 5 3), .inl ((ca 5 3), 8, .inl (fun _ => 0)))]) [0, 1, 2] rfl
    have hKc := hK.sub (tys' := [((ca 5 1), .int), ((ca 5 3), .int)]) [0, 1] rfl
    have hDc := hD.sub (ws' := [((g 11 7), .inr (5, [.ref (g 5 0), .ref (g 5 1), .ref (g 5 2), .ref (g 5 3), .int 0, .int 1000000, .int 0])), ((g 5 1), .inl ((ca 5 1), 8, .inl (fun _ => 0))), ((g 5 3), .inl ((ca 5 3), 8, .inl (fun _ => 0)))]) [0, 1, 2] (by decide) rfl
    have hFc := va_free (wc := [((g 11 7), .inr (5, [.ref (g 5 0), .ref (g 5 1), .ref (g 5 2), .ref (g 5 3), .int 0, .int 1000000, .int 0])), ((g 5 1), .inl ((ca 5 1), 8, .inl (fun _ => 0))), ((g 5 3), .inl ((ca 5 3), 8, .inl (fun _ => 0)))]) hD hS hA [0, 1, 2] rfl
    refine va_callv (va_runV (As := [.int 0, .int m_, .int 0]) (rest := []) ⟨hx, hb, hml, hown, ht⟩ (c_X5_place l dC dI H.size h g ca m_) (kV 3 ht m_1018 m_1020 m_41 m_86 m_1021 rfl rfl hd_X5_place_v ⟨Nat.le_of_ble_eq_true rfl, Nat.le_of_ble_eq_true rfl⟩) (vW hPc hKc hDc (va_recv hKc hPc (ci := 5) (q0 := 0) rfl rfl)) rfl rfl hl.1 rfl (lv_room (Nat.le_of_ble_eq_true rfl)) dX5_arrange_19 ⟨Nat.le_of_ble_eq_true rfl, Nat.le_of_ble_eq_true rfl⟩) hS (fun q _ h => hFc q h) hFc (fun u t H1 locs ht9 hvm hw hB hz1 hk1 hS => ?_)
    obtain ⟨hP1, hD1⟩ := hB
    rw [ht9] at hP1
    obtain ⟨hP, hD⟩ := va_join (wr := []) (w1 := [((g 11 7), .inr (5, [.ref (g 5 0), .ref (g 5 1), .ref (g 5 2), .ref (g 5 3), .int 0, .int 0, .int 0]))]) hP hD [0, 1, 2] [] rfl rfl (by decide) (by decide) hk1 hFc hP1 hD1
    generalize H1 = H at hP hS ⊢
    have hP : va_P (dC, dI) classes [((g 11 7), .inr (5, [.ref (g 5 0), .ref (g 5 1), .ref (g 5 2), .ref (g 5 3), .int 0, .int 0, .int 0]))] H := hP
    have hD : va_D A [((g 11 7), .inr (5, [.ref (g 5 0), .ref (g 5 1), .ref (g 5 2), .ref (g 5 3), .int 0, .int 0, .int 0]))] := hD
    refine lv_aload_n hx hb dX5_arrange_22 rfl (lv_at hl 0 rfl) ?_
    refine lv_iload_n hx hb dX5_arrange_23 rfl (lv_at hl 1 rfl) ?_
    refine va_put (D := (dC, dI)) (ci := 5) (v := .int m_) (ty := (.int)) (C := RX5) (T := TX5) (N := 7) hx hb ht inX5 tyX5 tyX5_ok nmX5 hown hK hP hD hS 0 rfl rfl 6 (by decide) (ht _ m_344) (fun _ h9 => h9) rfl (by decide +kernel) rfl rfl (Nat.le_of_ble_eq_true rfl) dX5_arrange_24 (fun H locs hP hD hS => ?_)
    have hP : va_P (dC, dI) classes [((g 11 7), .inr (5, [.ref (g 5 0), .ref (g 5 1), .ref (g 5 2), .ref (g 5 3), .int 0, .int 0, .int m_]))] H := hP
    have hD : va_D A [((g 11 7), .inr (5, [.ref (g 5 0), .ref (g 5 1), .ref (g 5 2), .ref (g 5 3), .int 0, .int 0, .int m_]))] := hD
    have hP9 : va_P (dC, dI) classes [((g 11 7), .inr (5, [.ref (g 5 0), .ref (g 5 1), .ref (g 5 2), .ref (g 5 3), .int 0, .int 0, .int m_]))] H := hP
    have hD9 : va_D A [((g 11 7), .inr (5, [.ref (g 5 0), .ref (g 5 1), .ref (g 5 2), .ref (g 5 3), .int 0, .int 0, .int m_]))] := hD
    exact W.vret hx hb hr (fun t ht9 hW => ⟨⟨(), rfl, trivial, by rw [ht9]; exact hP9, hD9⟩, hS.F ht9⟩) hS.2.2 dX5_arrange_27
  · have fc1 := z_eq (rfl : (m_).toInt = _) (by decide : (0 : Int32).toInt = 0) c1; exfalso; omega
set_option maxHeartbeats 4000000 in
set_option maxRecDepth 100000 in
/-- X4_compare -/
theorem c_X4_compare (l : Launch) (dC : Nat → ClassId) (dI : Nat → Nat → Nat) (sz : Nat) (h : Nat) (g : Nat → Nat → Nat) (ca : Nat → Nat → ClassId) (a : Int32) (b : Int32) : Met l yX4_compare (wc yX4_compare cX4_compare 3 (some .int)) ({ frames := 0, cells := 0, slots := 0, locals := 0 } : Room) (pW (dC, dI) classes [((g 11 8), .inr (4, (o4 h g))), ((g 4 0), .inl ((ca 4 0), 8, .inl (fun _ => 0))), ((g 4 1), .inl ((ca 4 1), 8, .inl (fun _ => 0)))] [((ca 4 0), .int), ((ca 4 1), .int)] sz [.ref (g 11 8), .int a, .int b]) (va_Qi (fun r (_ : Unit) => r = 1) (fun _ _ => True) (va_A [((g 11 8), .inr (4, (o4 h g))), ((g 4 0), .inl ((ca 4 0), 8, .inl (fun _ => 0))), ((g 4 1), .inl ((ca 4 1), 8, .inl (fun _ => 0)))] sz)) 0 0 (va_A [((g 11 8), .inr (4, (o4 h g))), ((g 4 0), .inl ((ca 4 0), 8, .inl (fun _ => 0))), ((g 4 1), .inl ((ca 4 1), 8, .inl (fun _ => 0)))] sz) := by
  refine Met.ofW (cc := cX4_compare) (maxL := 3) (ret := (some .int)) (by decide) rfl ?_
  intro p e s m args below meth c s₁ B hml hv
  obtain ⟨rfl, hsz, hP, hK, hD0⟩ := hv
  have hx := B.exec
  have hb := B.bytes
  have hr := B.returns
  have ht := tb_tl (atoms_spec (ws := wc yX4_compare cX4_compare 3 (some .int)) B.pre)
  have hown : s.vm.findClass RX4 = some m.cls := findClass_of_methodNamed B.named
  have hlocks := B.notSynchronized
  subst hsz
  have hD := hD0.self (sz := s.heap.size)
  generalize hAe : va_A [((g 11 8), .inr (4, (o4 h g))), ((g 4 0), .inl ((ca 4 0), 8, .inl (fun _ => 0))), ((g 4 1), .inl ((ca 4 1), 8, .inl (fun _ => 0)))] s.heap.size = A at hD ⊢
  have hA : ∀ q : Nat, s.heap.size ≤ q → A q := fun q h => by rw [← hAe]; exact Or.inr h
  have hS : va_S A s.heap s.heap [] := va_S.rf
  have hP : va_P (dC, dI) classes [((g 11 8), .inr (4, (o4 h g))), ((g 4 0), .inl ((ca 4 0), 8, .inl (fun _ => 0))), ((g 4 1), .inl ((ca 4 1), 8, .inl (fun _ => 0)))] s.heap := hP
  have hl := lv_entry [.ref (g 11 8), .int a, .int b] (n := 3) (Nat.le_of_ble_eq_true rfl)
  rw [lg_entry_eq]
  generalize (lg_sl [.ref (g 11 8), .int a, .int b] ++ List.replicate (3 - (lg_sl [.ref (g 11 8), .int a, .int b]).length) Slot.unset).toArray = ls at hl ⊢
  have hl : lv_has ls 3 [(0, .ref (g 11 8)), (1, .int a), (2, .int b)] := hl
  refine lv_aload_n hx hb dX4_compare_0 rfl (lv_at hl 0 rfl) ?_
  refine va_get (D := (dC, dI)) (ci := 4) (v := .ref (g 4 0)) (C := RX4) (T := TX4) (N := 3) hx hb ht inX4 hown hK hP 0 rfl rfl 0 (by decide) (ht _ m_366) (fun _ h9 => h9) rfl dX4_compare_1 ?_
  refine lv_aload_n hx hb dX4_compare_4 rfl (lv_at hl 0 rfl) ?_
  refine va_get (D := (dC, dI)) (ci := 4) (v := .int 0) (C := RX4) (T := TX4) (N := 3) hx hb ht inX4 hown hK hP 0 rfl rfl 2 (by decide) (ht _ m_368) (fun _ h9 => h9) rfl dX4_compare_5 ?_
  refine lv_iload_n hx hb dX4_compare_8 rfl (lv_at hl 1 rfl) ?_
  refine va_iast (D := (dC, dI)) hx hb hK hP hD hS 1 0 rfl rfl (by decide) dX4_compare_9 (fun H locs hP hD hS => ?_)
  obtain ⟨f1, hP, hD⟩ : ∃ f1 : Nat → Int32, va_P (dC, dI) classes [((g 11 8), .inr (4, (o4 h g))), ((g 4 0), .inl ((ca 4 0), 8, .inl f1)), ((g 4 1), .inl ((ca 4 1), 8, .inl (fun _ => 0)))] H ∧ va_D A [((g 11 8), .inr (4, (o4 h g))), ((g 4 0), .inl ((ca 4 0), 8, .inl f1)), ((g 4 1), .inl ((ca 4 1), 8, .inl (fun _ => 0)))] := ⟨_, hP, hD⟩
  refine lv_aload_n hx hb dX4_compare_10 rfl (lv_at hl 0 rfl) ?_
  refine va_get (D := (dC, dI)) (ci := 4) (v := .ref (g 4 1)) (C := RX4) (T := TX4) (N := 3) hx hb ht inX4 hown hK hP 0 rfl rfl 1 (by decide) (ht _ m_367) (fun _ h9 => h9) rfl dX4_compare_11 ?_
  refine lv_aload_n hx hb dX4_compare_14 rfl (lv_at hl 0 rfl) ?_
  refine va_get (D := (dC, dI)) (ci := 4) (v := .int 0) (C := RX4) (T := TX4) (N := 3) hx hb ht inX4 hown hK hP 0 rfl rfl 2 (by decide) (ht _ m_368) (fun _ h9 => h9) rfl dX4_compare_15 ?_
  refine lv_iload_n hx hb dX4_compare_18 rfl (lv_at hl 2 rfl) ?_
  refine va_iast (D := (dC, dI)) hx hb hK hP hD hS 2 1 rfl rfl (by decide) dX4_compare_19 (fun H locs hP hD hS => ?_)
  obtain ⟨f2, hP, hD⟩ : ∃ f2 : Nat → Int32, va_P (dC, dI) classes [((g 11 8), .inr (4, (o4 h g))), ((g 4 0), .inl ((ca 4 0), 8, .inl f1)), ((g 4 1), .inl ((ca 4 1), 8, .inl f2))] H ∧ va_D A [((g 11 8), .inr (4, (o4 h g))), ((g 4 0), .inl ((ca 4 0), 8, .inl f1)), ((g 4 1), .inl ((ca 4 1), 8, .inl f2))] := ⟨_, hP, hD⟩
  refine lv_aload_n hx hb dX4_compare_20 rfl (lv_at hl 0 rfl) ?_
  refine lv_dup hx hb dX4_compare_21 rfl ?_
  refine va_get (D := (dC, dI)) (ci := 4) (v := .int 0) (C := RX4) (T := TX4) (N := 3) hx hb ht inX4 hown hK hP 0 rfl rfl 2 (by decide) (ht _ m_368) (fun _ h9 => h9) rfl dX4_compare_22 ?_
  refine lv_iconst (v := 1) hx hb dX4_compare_25 (by decide) ?_
  refine lv_iadd hx hb dX4_compare_26 ?_
  refine lv_topi (fun v3 ev3 => ?_)
  obtain rfl : 1 = v3 := (ev3.trans (by decide)).symm
  refine va_put (D := (dC, dI)) (ci := 4) (v := .int 1) (ty := (.int)) (C := RX4) (T := TX4) (N := 3) hx hb ht inX4 tyX4 tyX4_ok nmX4 hown hK hP hD hS 0 rfl rfl 2 (by decide) (ht _ m_368) (fun _ h9 => h9) rfl (by decide +kernel) rfl rfl (Nat.le_of_ble_eq_true rfl) dX4_compare_27 (fun H locs hP hD hS => ?_)
  have hP : va_P (dC, dI) classes [((g 11 8), .inr (4, [.ref (g 4 0), .ref (g 4 1), .int 1])), ((g 4 0), .inl ((ca 4 0), 8, .inl f1)), ((g 4 1), .inl ((ca 4 1), 8, .inl f2))] H := hP
  have hD : va_D A [((g 11 8), .inr (4, [.ref (g 4 0), .ref (g 4 1), .int 1])), ((g 4 0), .inl ((ca 4 0), 8, .inl f1)), ((g 4 1), .inl ((ca 4 1), 8, .inl f2))] := hD
  refine lv_aload_n hx hb dX4_compare_30 rfl (lv_at hl 0 rfl) ?_
  refine va_get (D := (dC, dI)) (ci := 4) (v := .int 1) (C := RX4) (T := TX4) (N := 3) hx hb ht inX4 hown hK hP 0 rfl rfl 2 (by decide) (ht _ m_368) (fun _ h9 => h9) rfl dX4_compare_31 ?_
  exact W.iret (v := 1) hx hb hr (fun t ht9 hW => ⟨⟨1, (), rfl, rfl, trivial⟩, hS.F ht9⟩) hS.2.2 dX4_compare_34
set_option maxHeartbeats 4000000 in
set_option maxRecDepth 100000 in
/-- X6_standing -/
theorem c_X6_standing (l : Launch) (dC : Nat → ClassId) (dI : Nat → Nat → Nat) (h : Nat) (g : Nat → Nat → Nat) (ca : Nat → Nat → ClassId) (a : Int32) (b : Int32) : Met l yX6_standing (wc yX6_standing cX6_standing 7 (some .long)) ({ frames := 0, cells := 0, slots := 0, locals := 0 } : Room) (pR (dC, dI) classes [((g 11 9), .inr (6, (o6 h g)))] [] [.ref (g 11 9), .int a, .int b]) (vp_Sl (fun r => r = 0)) 0 0 (fun _ => False) := by
  refine Met.ofW (cc := cX6_standing) (maxL := 7) (ret := (some .long)) (by decide) rfl ?_
  intro p e s m args below meth c s₁ B hml hv
  obtain ⟨rfl, hP, hK⟩ := hv
  have hx := B.exec
  have hb := B.bytes
  have hr := B.returns
  have ht := tb_tl (atoms_spec (ws := wc yX6_standing cX6_standing 7 (some .long)) B.pre)
  have hown : s.vm.findClass RX6 = some m.cls := findClass_of_methodNamed B.named
  have hlocks := B.notSynchronized
  have hl := lv_entry [.ref (g 11 9), .int a, .int b] (n := 7) (Nat.le_of_ble_eq_true rfl)
  rw [lg_entry_eq]
  generalize (lg_sl [.ref (g 11 9), .int a, .int b] ++ List.replicate (7 - (lg_sl [.ref (g 11 9), .int a, .int b]).length) Slot.unset).toArray = ls at hl ⊢
  have hl : lv_has ls 7 [(0, .ref (g 11 9)), (1, .int a), (2, .int b)] := hl
  refine lv_lconst (v := 0) hx hb dX6_standing_0 (by decide) ?_
  refine lv_lstore_n (lv' := [(3, .long 0), (0, .ref (g 11 9)), (1, .int a), (2, .int b)]) hx hb dX6_standing_1 rfl hl (by decide) rfl (fun ls hl => ?_)
  refine lv_iconst (v := 0) hx hb dX6_standing_2 (by decide) ?_
  refine lv_istore (lv' := [(5, .int 0), (3, .long 0), (0, .ref (g 11 9)), (1, .int a), (2, .int b)]) hx hb dX6_standing_3 hl (by decide) rfl (fun ls hl => ?_)
  refine lv_iload hx hb dX6_standing_5 (lv_at hl 0 rfl) ?_
  refine lv_aload_n hx hb dX6_standing_7 rfl (lv_at hl 2 rfl) ?_
  refine va_get (D := (dC, dI)) (ci := 6) (v := .int 0) (C := RX6) (T := TX6) (N := 8) hx hb ht inX6 hown hK hP 0 rfl rfl 7 (by decide) (ht _ m_396) (fun _ h9 => h9) rfl dX6_standing_8 ?_
  refine lv_icmp_ge (tgt := 87) hx hb dX6_standing_11 (by decide) (fun c1 => ?_) (fun c1 => ?_)
  · skip
    refine lv_lload_n hx hb dX6_standing_87 rfl (lv_at hl 1 rfl) ?_
    exact W.lret (v := 0) hx hb hr (fun t ht9 hW => ⟨0, rfl, rfl, ht9⟩) (fun q hq => by cases hq) dX6_standing_88
  · exact absurd rfl c1
set_option maxHeartbeats 4000000 in
set_option maxRecDepth 100000 in
/-- X11_balesIn -/
theorem c_X11_balesIn (l : Launch) (dC : Nat → ClassId) (dI : Nat → Nat → Nat) (h : Nat) (g : Nat → Nat → Nat) (ca : Nat → Nat → ClassId) (a : Int32) : Met l yX11_balesIn (wc yX11_balesIn cX11_balesIn 4 (some .int)) ({ frames := 0, cells := 0, slots := 0, locals := 0 } : Room) (pR (dC, dI) classes [(h, .inr (11, (o11 h g))), ((g 11 2), .inr (0, (o0 h g)))] [] [.ref h, .int a]) (vp_Si (fun r => r = 0)) 0 0 (fun _ => False) := by
  refine Met.ofW (cc := cX11_balesIn) (maxL := 4) (ret := (some .int)) (by decide) rfl ?_
  intro p e s m args below meth c s₁ B hml hv
  obtain ⟨rfl, hP, hK⟩ := hv
  have hx := B.exec
  have hb := B.bytes
  have hr := B.returns
  have ht := tb_tl (atoms_spec (ws := wc yX11_balesIn cX11_balesIn 4 (some .int)) B.pre)
  have hown : s.vm.findClass RX11 = some m.cls := findClass_of_methodNamed B.named
  have hlocks := B.notSynchronized
  have hl := lv_entry [.ref h, .int a] (n := 4) (Nat.le_of_ble_eq_true rfl)
  rw [lg_entry_eq]
  generalize (lg_sl [.ref h, .int a] ++ List.replicate (4 - (lg_sl [.ref h, .int a]).length) Slot.unset).toArray = ls at hl ⊢
  have hl : lv_has ls 4 [(0, .ref h), (1, .int a)] := hl
  refine lv_iconst (v := 0) hx hb dX11_balesIn_0 (by decide) ?_
  refine lv_istore_n (lv' := [(2, .int 0), (0, .ref h), (1, .int a)]) hx hb dX11_balesIn_1 rfl hl (by decide) rfl (fun ls hl => ?_)
  refine lv_iconst (v := 0) hx hb dX11_balesIn_2 (by decide) ?_
  refine lv_istore_n (lv' := [(3, .int 0), (2, .int 0), (0, .ref h), (1, .int a)]) hx hb dX11_balesIn_3 rfl hl (by decide) rfl (fun ls hl => ?_)
  refine lv_iload_n hx hb dX11_balesIn_4 rfl (lv_at hl 0 rfl) ?_
  refine lv_aload_n hx hb dX11_balesIn_5 rfl (lv_at hl 2 rfl) ?_
  refine va_get (D := (dC, dI)) (ci := 11) (v := .ref (g 11 2)) (C := RX11) (T := TX11) (N := 11) hx hb ht inX11 hown hK hP 0 rfl rfl 2 (by decide) (ht _ m_417) (fun _ h9 => h9) rfl dX11_balesIn_6 ?_
  refine va_get (D := (dC, dI)) (ci := 0) (v := .int 0) (C := RX0) (T := TX0) (N := 8) hx hb ht inX0 hown hK hP 1 rfl rfl 7 (by decide) (ht _ m_165) (fun _ h9 => h9) rfl dX11_balesIn_9 ?_
  refine lv_icmp_ge (tgt := 40) hx hb dX11_balesIn_12 (by decide) (fun c1 => ?_) (fun c1 => ?_)
  · skip
    refine lv_iload_n hx hb dX11_balesIn_40 rfl (lv_at hl 1 rfl) ?_
    exact W.iret (v := 0) hx hb hr (fun t ht9 hW => ⟨0, rfl, rfl, ht9⟩) (fun q hq => by cases hq) dX11_balesIn_41
  · exact absurd rfl c1
set_option maxHeartbeats 4000000 in
set_option maxRecDepth 100000 in
/-- X11_fees -/
theorem c_X11_fees (l : Launch) (dC : Nat → ClassId) (dI : Nat → Nat → Nat) (h : Nat) (g : Nat → Nat → Nat) (ca : Nat → Nat → ClassId) : Met l yX11_fees (wc yX11_fees cX11_fees 3 (some .int)) ({ frames := 0, cells := 0, slots := 0, locals := 0 } : Room) (pR (dC, dI) classes [(h, .inr (11, (o11 h g))), ((g 11 9), .inr (6, (o6 h g)))] [] [.ref h]) (vp_Si (fun r => r = 0)) 0 0 (fun _ => False) := by
  refine Met.ofW (cc := cX11_fees) (maxL := 3) (ret := (some .int)) (by decide) rfl ?_
  intro p e s m args below meth c s₁ B hml hv
  obtain ⟨rfl, hP, hK⟩ := hv
  have hx := B.exec
  have hb := B.bytes
  have hr := B.returns
  have ht := tb_tl (atoms_spec (ws := wc yX11_fees cX11_fees 3 (some .int)) B.pre)
  have hown : s.vm.findClass RX11 = some m.cls := findClass_of_methodNamed B.named
  have hlocks := B.notSynchronized
  have hl := lv_entry [.ref h] (n := 3) (Nat.le_of_ble_eq_true rfl)
  rw [lg_entry_eq]
  generalize (lg_sl [.ref h] ++ List.replicate (3 - (lg_sl [.ref h]).length) Slot.unset).toArray = ls at hl ⊢
  have hl : lv_has ls 3 [(0, .ref h)] := hl
  refine lv_iconst (v := 0) hx hb dX11_fees_0 (by decide) ?_
  refine lv_istore_n (lv' := [(1, .int 0), (0, .ref h)]) hx hb dX11_fees_1 rfl hl (by decide) rfl (fun ls hl => ?_)
  refine lv_iconst (v := 0) hx hb dX11_fees_2 (by decide) ?_
  refine lv_istore_n (lv' := [(2, .int 0), (1, .int 0), (0, .ref h)]) hx hb dX11_fees_3 rfl hl (by decide) rfl (fun ls hl => ?_)
  refine lv_iload_n hx hb dX11_fees_4 rfl (lv_at hl 0 rfl) ?_
  refine lv_aload_n hx hb dX11_fees_5 rfl (lv_at hl 2 rfl) ?_
  refine va_get (D := (dC, dI)) (ci := 11) (v := .ref (g 11 9)) (C := RX11) (T := TX11) (N := 11) hx hb ht inX11 hown hK hP 0 rfl rfl 9 (by decide) (ht _ m_424) (fun _ h9 => h9) rfl dX11_fees_6 ?_
  refine va_get (D := (dC, dI)) (ci := 6) (v := .int 0) (C := RX6) (T := TX6) (N := 8) hx hb ht inX6 hown hK hP 1 rfl rfl 7 (by decide) (ht _ m_397) (fun _ h9 => h9) rfl dX11_fees_9 ?_
  refine lv_icmp_ge (tgt := 65) hx hb dX11_fees_12 (by decide) (fun c1 => ?_) (fun c1 => ?_)
  · skip
    refine lv_iload_n hx hb dX11_fees_65 rfl (lv_at hl 1 rfl) ?_
    exact W.iret (v := 0) hx hb hr (fun t ht9 hW => ⟨0, rfl, rfl, ht9⟩) (fun q hq => by cases hq) dX11_fees_66
  · exact absurd rfl c1
end
section
set_option maxHeartbeats 4000000 in
set_option maxRecDepth 100000 in
/-- X11_go -/
theorem c_X11_go (l : Launch) (dC : Nat → ClassId) (dI : Nat → Nat → Nat) (sz : Nat) (h : Nat) (g : Nat → Nat → Nat) (ca : Nat → Nat → ClassId) (n : Int32) : Met l yX11_go (wc yX11_go cX11_go 2 (some .int)) ({ frames := 1, cells := 0, slots := 0, locals := 22 } : Room) (pW (dC, dI) classes [(h, .inr (11, (o11 h g)))] [] sz [.ref h, .int n]) (va_Qi (fun r (_ : Unit) => r = F_go n) (fun _ _ => True) (va_A [(h, .inr (11, (o11 h g)))] sz)) 0 0 (va_A [(h, .inr (11, (o11 h g)))] sz) := by
  refine Met.ofW (cc := cX11_go) (maxL := 2) (ret := (some .int)) (by decide) rfl ?_
  intro p e s m args below meth c s₁ B hml hv
  obtain ⟨rfl, hsz, hP, hK, hD0⟩ := hv
  have hx := B.exec
  have hb := B.bytes
  have hr := B.returns
  have ht := tb_tl (atoms_spec (ws := wc yX11_go cX11_go 2 (some .int)) B.pre)
  have hown : s.vm.findClass RX11 = some m.cls := findClass_of_methodNamed B.named
  have hlocks := B.notSynchronized
  subst hsz
  have hD := hD0.self (sz := s.heap.size)
  generalize hAe : va_A [(h, .inr (11, (o11 h g)))] s.heap.size = A at hD ⊢
  have hA : ∀ q : Nat, s.heap.size ≤ q → A q := fun q h => by rw [← hAe]; exact Or.inr h
  have hS : va_S A s.heap s.heap [] := va_S.rf
  have hP : va_P (dC, dI) classes [(h, .inr (11, (o11 h g)))] s.heap := hP
  have hl := lv_entry [.ref h, .int n] (n := 2) (Nat.le_of_ble_eq_true rfl)
  rw [lg_entry_eq]
  generalize (lg_sl [.ref h, .int n] ++ List.replicate (2 - (lg_sl [.ref h, .int n]).length) Slot.unset).toArray = ls at hl ⊢
  have hl : lv_has ls 2 [(0, .ref h), (1, .int n)] := hl
  refine lv_iload_n hx hb dX11_go_0 rfl (lv_at hl 1 rfl) ?_
  refine lv_iconst (v := 0) hx hb dX11_go_1 (by decide) ?_
  refine lv_sipush (v := 999) hx hb dX11_go_2 (by decide) ?_
  have hPc := hP.sub (ws' := []) [] rfl
  have hKc := hK.sub (tys' := []) [] rfl
  refine vp_callSi (W.runS (As := [.int n, .int 0, .int 999]) (rest := []) ⟨hx, hb, hml, hown, ht⟩ (c_X11_within l dC dI n 0 999 (n.toInt) (0) (999) (rfl : (n).toInt = _) (by decide : (0 : Int32).toInt = 0) (by decide : (999 : Int32).toInt = 999)) (kS 3 ht m_453 m_454 m_77 m_455 rfl rfl hd_X11_within_v ⟨Nat.le_of_ble_eq_true rfl, Nat.le_of_ble_eq_true rfl⟩) (sR hPc hKc) rfl rfl hl.1 rfl (lv_room (Nat.le_of_ble_eq_true rfl)) dX11_go_5 ⟨Nat.le_of_ble_eq_true rfl, Nat.le_of_ble_eq_true rfl⟩) (fun r1 hr1 => ?_)
  rcases hr1 with ⟨rfl, fr1⟩ | ⟨rfl, fr1⟩
  · skip
    refine lv_if_ne (tgt := 14) hx hb dX11_go_8 (by decide) (fun c2 => ?_) (fun c2 => ?_)
    · skip
      refine lv_aload_n hx hb dX11_go_14 rfl (lv_at hl 0 rfl) ?_
      refine va_get (D := (dC, dI)) (ci := 11) (v := .int 0) (C := RX11) (T := TX11) (N := 11) hx hb ht inX11 hown hK hP 0 rfl rfl 10 (by decide) (ht _ m_425) (fun _ h9 => h9) rfl dX11_go_15 ?_
      refine lv_iload_n hx hb dX11_go_18 rfl (lv_at hl 1 rfl) ?_
      refine lv_iadd hx hb dX11_go_19 ?_
      refine lv_topi (fun v3 ev3 => ?_)
      obtain rfl : n = v3 := (ev3.trans (Int32.zero_add _)).symm
      refine lv_sipush (v := 3000) hx hb dX11_go_20 (by decide) ?_
      refine lv_icmp_le (tgt := 29) hx hb dX11_go_23 (by decide) (fun c4 => ?_) (fun c4 => ?_)
      · skip
        refine lv_aload_n hx hb dX11_go_29 rfl (lv_at hl 0 rfl) ?_
        refine lv_dup hx hb dX11_go_30 rfl ?_
        refine va_get (D := (dC, dI)) (ci := 11) (v := .int 0) (C := RX11) (T := TX11) (N := 11) hx hb ht inX11 hown hK hP 0 rfl rfl 10 (by decide) (ht _ m_425) (fun _ h9 => h9) rfl dX11_go_31 ?_
        refine lv_iload_n hx hb dX11_go_34 rfl (lv_at hl 1 rfl) ?_
        refine lv_iadd hx hb dX11_go_35 ?_
        refine lv_topi (fun v5 ev5 => ?_)
        obtain rfl : n = v5 := (ev5.trans (Int32.zero_add _)).symm
        refine va_put (D := (dC, dI)) (ci := 11) (v := .int n) (ty := (.int)) (C := RX11) (T := TX11) (N := 11) hx hb ht inX11 tyX11 tyX11_ok nmX11 hown hK hP hD hS 0 rfl rfl 10 (by decide) (ht _ m_425) (fun _ h9 => h9) rfl (by decide +kernel) rfl rfl (Nat.le_of_ble_eq_true rfl) dX11_go_36 (fun H locs hP hD hS => ?_)
        have hP : va_P (dC, dI) classes [(h, .inr (11, [.ref (g 11 0), .ref (g 11 1), .ref (g 11 2), .ref (g 11 3), .ref (g 11 4), .ref (g 11 5), .ref (g 11 6), .ref (g 11 7), .ref (g 11 8), .ref (g 11 9), .int n]))] H := hP
        have hD : va_D A [(h, .inr (11, [.ref (g 11 0), .ref (g 11 1), .ref (g 11 2), .ref (g 11 3), .ref (g 11 4), .ref (g 11 5), .ref (g 11 6), .ref (g 11 7), .ref (g 11 8), .ref (g 11 9), .int n]))] := hD
        refine lv_aload_n hx hb dX11_go_39 rfl (lv_at hl 0 rfl) ?_
        refine va_get (D := (dC, dI)) (ci := 11) (v := .int n) (C := RX11) (T := TX11) (N := 11) hx hb ht inX11 hown hK hP 0 rfl rfl 10 (by decide) (ht _ m_425) (fun _ h9 => h9) rfl dX11_go_40 ?_
        exact W.iret (v := n) hx hb hr (fun t ht9 hW => ⟨⟨n, (), rfl, (by unfold F_go; first | decide | ((repeat' split) <;> first | rfl | (exfalso; omega) | exact z_of (by decide) (by omega))), trivial⟩, hS.F ht9⟩) hS.2.2 dX11_go_43
      · have fc4 := z_nle (rfl : (n).toInt = _) (by decide : (3000 : Int32).toInt = 3000) c4; exfalso; omega
    · exact absurd c2 (by decide)
  · skip
    refine lv_if_ne (tgt := 14) hx hb dX11_go_8 (by decide) (fun c6 => ?_) (fun c6 => ?_)
    · exact absurd rfl c6
    · skip
      refine lv_ldc hx hb hown (ht _ m_456) dX11_go_11 ?_
      exact W.iret (v := (-100002)) hx hb hr (fun t ht9 hW => ⟨⟨(-100002), (), rfl, (by unfold F_go; first | decide | ((repeat' split) <;> first | rfl | (exfalso; omega) | exact z_of (by decide) (by omega))), trivial⟩, hS.F ht9⟩) hS.2.2 dX11_go_13
set_option maxHeartbeats 4000000 in
set_option maxRecDepth 100000 in
/-- X11_bale -/
theorem c_X11_bale (l : Launch) (dC : Nat → ClassId) (dI : Nat → Nat → Nat) (sz : Nat) (h : Nat) (g : Nat → Nat → Nat) (ca : Nat → Nat → ClassId) (n : Int32) : Met l yX11_bale (wc yX11_bale cX11_bale 2 (some .int)) ({ frames := 1, cells := 0, slots := 0, locals := 22 } : Room) (pW (dC, dI) classes [(h, .inr (11, (o11 h g))), ((g 11 2), .inr (0, (o0 h g))), ((g 0 0), .inl ((ca 0 0), 10, .inl (fun _ => 0)))] [((ca 0 0), .int)] sz [.ref h, .int n]) (va_Qi (fun r (_ : Unit) => r = F_bale n) (fun _ _ => True) (va_A [(h, .inr (11, (o11 h g))), ((g 11 2), .inr (0, (o0 h g))), ((g 0 0), .inl ((ca 0 0), 10, .inl (fun _ => 0)))] sz)) 0 0 (va_A [(h, .inr (11, (o11 h g))), ((g 11 2), .inr (0, (o0 h g))), ((g 0 0), .inl ((ca 0 0), 10, .inl (fun _ => 0)))] sz) := by
  refine Met.ofW (cc := cX11_bale) (maxL := 2) (ret := (some .int)) (by decide) rfl ?_
  intro p e s m args below meth c s₁ B hml hv
  obtain ⟨rfl, hsz, hP, hK, hD0⟩ := hv
  have hx := B.exec
  have hb := B.bytes
  have hr := B.returns
  have ht := tb_tl (atoms_spec (ws := wc yX11_bale cX11_bale 2 (some .int)) B.pre)
  have hown : s.vm.findClass RX11 = some m.cls := findClass_of_methodNamed B.named
  have hlocks := B.notSynchronized
  subst hsz
  have hD := hD0.self (sz := s.heap.size)
  generalize hAe : va_A [(h, .inr (11, (o11 h g))), ((g 11 2), .inr (0, (o0 h g))), ((g 0 0), .inl ((ca 0 0), 10, .inl (fun _ => 0)))] s.heap.size = A at hD ⊢
  have hA : ∀ q : Nat, s.heap.size ≤ q → A q := fun q h => by rw [← hAe]; exact Or.inr h
  have hS : va_S A s.heap s.heap [] := va_S.rf
  have hP : va_P (dC, dI) classes [(h, .inr (11, (o11 h g))), ((g 11 2), .inr (0, (o0 h g))), ((g 0 0), .inl ((ca 0 0), 10, .inl (fun _ => 0)))] s.heap := hP
  have hl := lv_entry [.ref h, .int n] (n := 2) (Nat.le_of_ble_eq_true rfl)
  rw [lg_entry_eq]
  generalize (lg_sl [.ref h, .int n] ++ List.replicate (2 - (lg_sl [.ref h, .int n]).length) Slot.unset).toArray = ls at hl ⊢
  have hl : lv_has ls 2 [(0, .ref h), (1, .int n)] := hl
  refine lv_iload_n hx hb dX11_bale_0 rfl (lv_at hl 1 rfl) ?_
  refine lv_iconst (v := 1) hx hb dX11_bale_1 (by decide) ?_
  refine lv_ldc hx hb hown (ht _ m_462) dX11_bale_2 ?_
  have hPc := hP.sub (ws' := []) [] rfl
  have hKc := hK.sub (tys' := []) [] rfl
  refine vp_callSi (W.runS (As := [.int n, .int 1, .int 99999]) (rest := []) ⟨hx, hb, hml, hown, ht⟩ (c_X11_within l dC dI n 1 99999 (n.toInt) (1) (99999) (rfl : (n).toInt = _) (by decide : (1 : Int32).toInt = 1) (by decide : (99999 : Int32).toInt = 99999)) (kS 3 ht m_453 m_454 m_77 m_455 rfl rfl hd_X11_within_v ⟨Nat.le_of_ble_eq_true rfl, Nat.le_of_ble_eq_true rfl⟩) (sR hPc hKc) rfl rfl hl.1 rfl (lv_room (Nat.le_of_ble_eq_true rfl)) dX11_bale_4 ⟨Nat.le_of_ble_eq_true rfl, Nat.le_of_ble_eq_true rfl⟩) (fun r1 hr1 => ?_)
  rcases hr1 with ⟨rfl, fr1⟩ | ⟨rfl, fr1⟩
  · skip
    refine lv_if_ne (tgt := 13) hx hb dX11_bale_7 (by decide) (fun c2 => ?_) (fun c2 => ?_)
    · skip
      refine lv_aload_n hx hb dX11_bale_13 rfl (lv_at hl 0 rfl) ?_
      refine va_get (D := (dC, dI)) (ci := 11) (v := .ref (g 11 2)) (C := RX11) (T := TX11) (N := 11) hx hb ht inX11 hown hK hP 0 rfl rfl 2 (by decide) (ht _ m_417) (fun _ h9 => h9) rfl dX11_bale_14 ?_
      refine va_get (D := (dC, dI)) (ci := 0) (v := .int 0) (C := RX0) (T := TX0) (N := 8) hx hb ht inX0 hown hK hP 1 rfl rfl 7 (by decide) (ht _ m_165) (fun _ h9 => h9) rfl dX11_bale_17 ?_
      refine lv_bipush (v := 10) hx hb dX11_bale_20 (by decide) ?_
      refine lv_icmp_lt (tgt := 28) hx hb dX11_bale_22 (by decide) (fun c3 => ?_) (fun c3 => ?_)
      · skip
        refine lv_aload_n hx hb dX11_bale_28 rfl (lv_at hl 0 rfl) ?_
        refine va_get (D := (dC, dI)) (ci := 11) (v := .ref (g 11 2)) (C := RX11) (T := TX11) (N := 11) hx hb ht inX11 hown hK hP 0 rfl rfl 2 (by decide) (ht _ m_417) (fun _ h9 => h9) rfl dX11_bale_29 ?_
        refine lv_iload_n hx hb dX11_bale_32 rfl (lv_at hl 1 rfl) ?_
        have hPc := hP.sub (ws' := [((g 11 2), .inr (0, (o0 h g))), ((g 0 0), .inl ((ca 0 0), 10, .inl (fun _ => 0)))]) [1, 2] rfl
        have hKc := hK.sub (tys' := [((ca 0 0), .int)]) [0] rfl
        have hDc := hD.sub (ws' := [((g 11 2), .inr (0, (o0 h g))), ((g 0 0), .inl ((ca 0 0), 10, .inl (fun _ => 0)))]) [1, 2] (by decide) rfl
        have hFc := va_free (wc := [((g 11 2), .inr (0, (o0 h g))), ((g 0 0), .inl ((ca 0 0), 10, .inl (fun _ => 0)))]) hD hS hA [1, 2] rfl
        refine va_calli (va_runV (As := [.int n]) (rest := []) ⟨hx, hb, hml, hown, ht⟩ (c_X0_bring l dC dI H.size h g ca n) (kV 1 ht m_464 m_465 m_466 m_80 m_467 rfl rfl hd_X0_bring_v ⟨Nat.le_of_ble_eq_true rfl, Nat.le_of_ble_eq_true rfl⟩) (vW hPc hKc hDc (va_recv hKc hPc (ci := 0) (q0 := 0) rfl rfl)) rfl rfl hl.1 rfl (lv_room (Nat.le_of_ble_eq_true rfl)) dX11_bale_33 ⟨Nat.le_of_ble_eq_true rfl, Nat.le_of_ble_eq_true rfl⟩) hS (fun q _ h => hFc q h) hFc (fun r4 u t H1 locs ht9 hvm hr4 hB hz1 hk1 hS => ?_)
        have hP1 : va_P (dC, dI) classes [] H1 := noP
        have hD1 : va_D (va_A [((g 11 2), .inr (0, (o0 h g))), ((g 0 0), .inl ((ca 0 0), 10, .inl (fun _ => 0)))] H.size) [] := noD
        obtain ⟨hP, hD⟩ := va_join (wr := [(h, .inr (11, (o11 h g)))]) (w1 := []) hP hD [1, 2] [0] rfl rfl (by decide) (by decide) hk1 hFc hP1 hD1
        generalize H1 = H at hP hS ⊢
        have hP : va_P (dC, dI) classes [(h, .inr (11, (o11 h g)))] H := hP
        have hD : va_D A [(h, .inr (11, (o11 h g)))] := hD
        obtain rfl : 0 = r4 := hr4.symm
        exact W.iret (v := 0) hx hb hr (fun t ht9 hW => ⟨⟨0, (), rfl, (by unfold F_bale; first | decide | ((repeat' split) <;> first | rfl | (exfalso; omega) | exact z_of (by decide) (by omega))), trivial⟩, hS.F ht9⟩) hS.2.2 dX11_bale_36
      · exact absurd c3 (by decide)
    · exact absurd c2 (by decide)
  · skip
    refine lv_if_ne (tgt := 13) hx hb dX11_bale_7 (by decide) (fun c5 => ?_) (fun c5 => ?_)
    · exact absurd rfl c5
    · skip
      refine lv_ldc hx hb hown (ht _ m_456) dX11_bale_10 ?_
      exact W.iret (v := (-100002)) hx hb hr (fun t ht9 hW => ⟨⟨(-100002), (), rfl, (by unfold F_bale; first | decide | ((repeat' split) <;> first | rfl | (exfalso; omega) | exact z_of (by decide) (by omega))), trivial⟩, hS.F ht9⟩) hS.2.2 dX11_bale_12
set_option maxHeartbeats 4000000 in
set_option maxRecDepth 100000 in
/-- X11_skein -/
theorem c_X11_skein (l : Launch) (dC : Nat → ClassId) (dI : Nat → Nat → Nat) (h : Nat) (g : Nat → Nat → Nat) (ca : Nat → Nat → ClassId) (a0 : Int32) (a1 : Int32) (a2 : Int32) (a3 : Int32) (a4 : Int32) (a5 : Int32) (a6 : Int32) : Met l yX11_skein (wc yX11_skein cX11_skein 9 (some .int)) ({ frames := 1, cells := 0, slots := 0, locals := 21 } : Room) (pR (dC, dI) classes [(h, .inr (11, (o11 h g))), ((g 11 2), .inr (0, (o0 h g)))] [] [.ref h, .int a0, .int a1, .int a2, .int a3, .int a4, .int a5, .int a6]) (vp_Si (fun r => r = -100001)) 0 0 (fun _ => False) := by
  refine Met.ofW (cc := cX11_skein) (maxL := 9) (ret := (some .int)) (by decide) rfl ?_
  intro p e s m args below meth c s₁ B hml hv
  obtain ⟨rfl, hP, hK⟩ := hv
  have hx := B.exec
  have hb := B.bytes
  have hr := B.returns
  have ht := tb_tl (atoms_spec (ws := wc yX11_skein cX11_skein 9 (some .int)) B.pre)
  have hown : s.vm.findClass RX11 = some m.cls := findClass_of_methodNamed B.named
  have hlocks := B.notSynchronized
  have hl := lv_entry [.ref h, .int a0, .int a1, .int a2, .int a3, .int a4, .int a5, .int a6] (n := 9) (Nat.le_of_ble_eq_true rfl)
  rw [lg_entry_eq]
  generalize (lg_sl [.ref h, .int a0, .int a1, .int a2, .int a3, .int a4, .int a5, .int a6] ++ List.replicate (9 - (lg_sl [.ref h, .int a0, .int a1, .int a2, .int a3, .int a4, .int a5, .int a6]).length) Slot.unset).toArray = ls at hl ⊢
  have hl : lv_has ls 9 [(0, .ref h), (1, .int a0), (2, .int a1), (3, .int a2), (4, .int a3), (5, .int a4), (6, .int a5), (7, .int a6)] := hl
  refine lv_aload_n hx hb dX11_skein_0 rfl (lv_at hl 0 rfl) ?_
  refine va_get (D := (dC, dI)) (ci := 11) (v := .ref (g 11 2)) (C := RX11) (T := TX11) (N := 11) hx hb ht inX11 hown hK hP 0 rfl rfl 2 (by decide) (ht _ m_417) (fun _ h9 => h9) rfl dX11_skein_1 ?_
  refine lv_iload_n hx hb dX11_skein_4 rfl (lv_at hl 1 rfl) ?_
  have hPc := hP.sub (ws' := [((g 11 2), .inr (0, (o0 h g)))]) [1] rfl
  have hKc := hK.sub (tys' := []) [] rfl
  refine vp_callSi (W.runV (As := [.int a0]) (rest := []) ⟨hx, hb, hml, hown, ht⟩ (c_X0_has l dC dI h g ca a0) (kV 1 ht m_472 m_473 m_474 m_80 m_475 rfl rfl hd_X0_has_v ⟨Nat.le_of_ble_eq_true rfl, Nat.le_of_ble_eq_true rfl⟩) (vR hPc hKc (va_recv hKc hPc (ci := 0) (q0 := 0) rfl rfl)) rfl rfl hl.1 rfl (lv_room (Nat.le_of_ble_eq_true rfl)) dX11_skein_5 ⟨Nat.le_of_ble_eq_true rfl, Nat.le_of_ble_eq_true rfl⟩) (fun r1 hr1 => ?_)
  obtain rfl : 0 = r1 := hr1.symm
  refine lv_if_ne (tgt := 14) hx hb dX11_skein_8 (by decide) (fun c2 => ?_) (fun c2 => ?_)
  · exact absurd rfl c2
  · skip
    refine lv_ldc hx hb hown (ht _ m_476) dX11_skein_11 ?_
    exact W.iret (v := (-100001)) hx hb hr (fun t ht9 hW => ⟨(-100001), rfl, rfl, ht9⟩) (fun q hq => by cases hq) dX11_skein_13
set_option maxHeartbeats 4000000 in
set_option maxRecDepth 100000 in
/-- X11_ratio -/
theorem c_X11_ratio (l : Launch) (dC : Nat → ClassId) (dI : Nat → Nat → Nat) (h : Nat) (g : Nat → Nat → Nat) (ca : Nat → Nat → ClassId) (a0 : Int32) (a1 : Int32) (a2 : Int32) : Met l yX11_ratio (wc yX11_ratio cX11_ratio 4 (some .int)) ({ frames := 1, cells := 0, slots := 0, locals := 21 } : Room) (pR (dC, dI) classes [(h, .inr (11, (o11 h g))), ((g 11 2), .inr (0, (o0 h g)))] [] [.ref h, .int a0, .int a1, .int a2]) (vp_Si (fun r => r = -100001)) 0 0 (fun _ => False) := by
  refine Met.ofW (cc := cX11_ratio) (maxL := 4) (ret := (some .int)) (by decide) rfl ?_
  intro p e s m args below meth c s₁ B hml hv
  obtain ⟨rfl, hP, hK⟩ := hv
  have hx := B.exec
  have hb := B.bytes
  have hr := B.returns
  have ht := tb_tl (atoms_spec (ws := wc yX11_ratio cX11_ratio 4 (some .int)) B.pre)
  have hown : s.vm.findClass RX11 = some m.cls := findClass_of_methodNamed B.named
  have hlocks := B.notSynchronized
  have hl := lv_entry [.ref h, .int a0, .int a1, .int a2] (n := 4) (Nat.le_of_ble_eq_true rfl)
  rw [lg_entry_eq]
  generalize (lg_sl [.ref h, .int a0, .int a1, .int a2] ++ List.replicate (4 - (lg_sl [.ref h, .int a0, .int a1, .int a2]).length) Slot.unset).toArray = ls at hl ⊢
  have hl : lv_has ls 4 [(0, .ref h), (1, .int a0), (2, .int a1), (3, .int a2)] := hl
  refine lv_aload_n hx hb dX11_ratio_0 rfl (lv_at hl 0 rfl) ?_
  refine va_get (D := (dC, dI)) (ci := 11) (v := .ref (g 11 2)) (C := RX11) (T := TX11) (N := 11) hx hb ht inX11 hown hK hP 0 rfl rfl 2 (by decide) (ht _ m_417) (fun _ h9 => h9) rfl dX11_ratio_1 ?_
  refine lv_iload_n hx hb dX11_ratio_4 rfl (lv_at hl 1 rfl) ?_
  have hPc := hP.sub (ws' := [((g 11 2), .inr (0, (o0 h g)))]) [1] rfl
  have hKc := hK.sub (tys' := []) [] rfl
  refine vp_callSi (W.runV (As := [.int a0]) (rest := []) ⟨hx, hb, hml, hown, ht⟩ (c_X0_has l dC dI h g ca a0) (kV 1 ht m_472 m_473 m_474 m_80 m_475 rfl rfl hd_X0_has_v ⟨Nat.le_of_ble_eq_true rfl, Nat.le_of_ble_eq_true rfl⟩) (vR hPc hKc (va_recv hKc hPc (ci := 0) (q0 := 0) rfl rfl)) rfl rfl hl.1 rfl (lv_room (Nat.le_of_ble_eq_true rfl)) dX11_ratio_5 ⟨Nat.le_of_ble_eq_true rfl, Nat.le_of_ble_eq_true rfl⟩) (fun r1 hr1 => ?_)
  obtain rfl : 0 = r1 := hr1.symm
  refine lv_if_ne (tgt := 14) hx hb dX11_ratio_8 (by decide) (fun c2 => ?_) (fun c2 => ?_)
  · exact absurd rfl c2
  · skip
    refine lv_ldc hx hb hown (ht _ m_476) dX11_ratio_11 ?_
    exact W.iret (v := (-100001)) hx hb hr (fun t ht9 hW => ⟨(-100001), rfl, rfl, ht9⟩) (fun q hq => by cases hq) dX11_ratio_13
set_option maxHeartbeats 4000000 in
set_option maxRecDepth 100000 in
/-- X11_state -/
theorem c_X11_state (l : Launch) (dC : Nat → ClassId) (dI : Nat → Nat → Nat) (h : Nat) (g : Nat → Nat → Nat) (ca : Nat → Nat → ClassId) (a0 : Int32) (a1 : Int32) : Met l yX11_state (wc yX11_state cX11_state 3 (some .int)) ({ frames := 1, cells := 0, slots := 0, locals := 21 } : Room) (pR (dC, dI) classes [(h, .inr (11, (o11 h g))), ((g 11 2), .inr (0, (o0 h g)))] [] [.ref h, .int a0, .int a1]) (vp_Si (fun r => r = -100001)) 0 0 (fun _ => False) := by
  refine Met.ofW (cc := cX11_state) (maxL := 3) (ret := (some .int)) (by decide) rfl ?_
  intro p e s m args below meth c s₁ B hml hv
  obtain ⟨rfl, hP, hK⟩ := hv
  have hx := B.exec
  have hb := B.bytes
  have hr := B.returns
  have ht := tb_tl (atoms_spec (ws := wc yX11_state cX11_state 3 (some .int)) B.pre)
  have hown : s.vm.findClass RX11 = some m.cls := findClass_of_methodNamed B.named
  have hlocks := B.notSynchronized
  have hl := lv_entry [.ref h, .int a0, .int a1] (n := 3) (Nat.le_of_ble_eq_true rfl)
  rw [lg_entry_eq]
  generalize (lg_sl [.ref h, .int a0, .int a1] ++ List.replicate (3 - (lg_sl [.ref h, .int a0, .int a1]).length) Slot.unset).toArray = ls at hl ⊢
  have hl : lv_has ls 3 [(0, .ref h), (1, .int a0), (2, .int a1)] := hl
  refine lv_aload_n hx hb dX11_state_0 rfl (lv_at hl 0 rfl) ?_
  refine va_get (D := (dC, dI)) (ci := 11) (v := .ref (g 11 2)) (C := RX11) (T := TX11) (N := 11) hx hb ht inX11 hown hK hP 0 rfl rfl 2 (by decide) (ht _ m_417) (fun _ h9 => h9) rfl dX11_state_1 ?_
  refine lv_iload_n hx hb dX11_state_4 rfl (lv_at hl 1 rfl) ?_
  have hPc := hP.sub (ws' := [((g 11 2), .inr (0, (o0 h g)))]) [1] rfl
  have hKc := hK.sub (tys' := []) [] rfl
  refine vp_callSi (W.runV (As := [.int a0]) (rest := []) ⟨hx, hb, hml, hown, ht⟩ (c_X0_has l dC dI h g ca a0) (kV 1 ht m_472 m_473 m_474 m_80 m_475 rfl rfl hd_X0_has_v ⟨Nat.le_of_ble_eq_true rfl, Nat.le_of_ble_eq_true rfl⟩) (vR hPc hKc (va_recv hKc hPc (ci := 0) (q0 := 0) rfl rfl)) rfl rfl hl.1 rfl (lv_room (Nat.le_of_ble_eq_true rfl)) dX11_state_5 ⟨Nat.le_of_ble_eq_true rfl, Nat.le_of_ble_eq_true rfl⟩) (fun r1 hr1 => ?_)
  obtain rfl : 0 = r1 := hr1.symm
  refine lv_if_ne (tgt := 14) hx hb dX11_state_8 (by decide) (fun c2 => ?_) (fun c2 => ?_)
  · exact absurd rfl c2
  · skip
    refine lv_ldc hx hb hown (ht _ m_476) dX11_state_11 ?_
    exact W.iret (v := (-100001)) hx hb hr (fun t ht9 hW => ⟨(-100001), rfl, rfl, ht9⟩) (fun q hq => by cases hq) dX11_state_13
set_option maxHeartbeats 4000000 in
set_option maxRecDepth 100000 in
/-- X11_lawful -/
theorem c_X11_lawful (l : Launch) (dC : Nat → ClassId) (dI : Nat → Nat → Nat) (h : Nat) (g : Nat → Nat → Nat) (ca : Nat → Nat → ClassId) (a0 : Int32) (a1 : Int32) (a2 : Int32) : Met l yX11_lawful (wc yX11_lawful cX11_lawful 4 (some .long)) ({ frames := 1, cells := 0, slots := 0, locals := 21 } : Room) (pR (dC, dI) classes [(h, .inr (11, (o11 h g))), ((g 11 2), .inr (0, (o0 h g)))] [] [.ref h, .int a0, .int a1, .int a2]) (vp_Sl (fun r => r = -100001)) 0 0 (fun _ => False) := by
  refine Met.ofW (cc := cX11_lawful) (maxL := 4) (ret := (some .long)) (by decide) rfl ?_
  intro p e s m args below meth c s₁ B hml hv
  obtain ⟨rfl, hP, hK⟩ := hv
  have hx := B.exec
  have hb := B.bytes
  have hr := B.returns
  have ht := tb_tl (atoms_spec (ws := wc yX11_lawful cX11_lawful 4 (some .long)) B.pre)
  have hown : s.vm.findClass RX11 = some m.cls := findClass_of_methodNamed B.named
  have hlocks := B.notSynchronized
  have hl := lv_entry [.ref h, .int a0, .int a1, .int a2] (n := 4) (Nat.le_of_ble_eq_true rfl)
  rw [lg_entry_eq]
  generalize (lg_sl [.ref h, .int a0, .int a1, .int a2] ++ List.replicate (4 - (lg_sl [.ref h, .int a0, .int a1, .int a2]).length) Slot.unset).toArray = ls at hl ⊢
  have hl : lv_has ls 4 [(0, .ref h), (1, .int a0), (2, .int a1), (3, .int a2)] := hl
  refine lv_aload_n hx hb dX11_lawful_0 rfl (lv_at hl 0 rfl) ?_
  refine va_get (D := (dC, dI)) (ci := 11) (v := .ref (g 11 2)) (C := RX11) (T := TX11) (N := 11) hx hb ht inX11 hown hK hP 0 rfl rfl 2 (by decide) (ht _ m_417) (fun _ h9 => h9) rfl dX11_lawful_1 ?_
  refine lv_iload_n hx hb dX11_lawful_4 rfl (lv_at hl 1 rfl) ?_
  have hPc := hP.sub (ws' := [((g 11 2), .inr (0, (o0 h g)))]) [1] rfl
  have hKc := hK.sub (tys' := []) [] rfl
  refine vp_callSi (W.runV (As := [.int a0]) (rest := []) ⟨hx, hb, hml, hown, ht⟩ (c_X0_has l dC dI h g ca a0) (kV 1 ht m_472 m_473 m_474 m_80 m_475 rfl rfl hd_X0_has_v ⟨Nat.le_of_ble_eq_true rfl, Nat.le_of_ble_eq_true rfl⟩) (vR hPc hKc (va_recv hKc hPc (ci := 0) (q0 := 0) rfl rfl)) rfl rfl hl.1 rfl (lv_room (Nat.le_of_ble_eq_true rfl)) dX11_lawful_5 ⟨Nat.le_of_ble_eq_true rfl, Nat.le_of_ble_eq_true rfl⟩) (fun r1 hr1 => ?_)
  obtain rfl : 0 = r1 := hr1.symm
  refine lv_if_ne (tgt := 15) hx hb dX11_lawful_8 (by decide) (fun c2 => ?_) (fun c2 => ?_)
  · exact absurd rfl c2
  · skip
    refine lv_ldc2 hx hb hown (ht _ m_837) dX11_lawful_11 ?_
    exact W.lret (v := (-100001)) hx hb hr (fun t ht9 hW => ⟨(-100001), rfl, rfl, ht9⟩) (fun q hq => by cases hq) dX11_lawful_14
set_option maxHeartbeats 4000000 in
set_option maxRecDepth 100000 in
/-- X11_span -/
theorem c_X11_span (l : Launch) (dC : Nat → ClassId) (dI : Nat → Nat → Nat) (h : Nat) (g : Nat → Nat → Nat) (ca : Nat → Nat → ClassId) (a0 : Int32) (a1 : Int32) : Met l yX11_span (wc yX11_span cX11_span 7 (some .long)) ({ frames := 1, cells := 0, slots := 0, locals := 21 } : Room) (pR (dC, dI) classes [(h, .inr (11, (o11 h g))), ((g 11 2), .inr (0, (o0 h g)))] [] [.ref h, .int a0, .int a1]) (vp_Sl (fun r => r = -100001)) 0 0 (fun _ => False) := by
  refine Met.ofW (cc := cX11_span) (maxL := 7) (ret := (some .long)) (by decide) rfl ?_
  intro p e s m args below meth c s₁ B hml hv
  obtain ⟨rfl, hP, hK⟩ := hv
  have hx := B.exec
  have hb := B.bytes
  have hr := B.returns
  have ht := tb_tl (atoms_spec (ws := wc yX11_span cX11_span 7 (some .long)) B.pre)
  have hown : s.vm.findClass RX11 = some m.cls := findClass_of_methodNamed B.named
  have hlocks := B.notSynchronized
  have hl := lv_entry [.ref h, .int a0, .int a1] (n := 7) (Nat.le_of_ble_eq_true rfl)
  rw [lg_entry_eq]
  generalize (lg_sl [.ref h, .int a0, .int a1] ++ List.replicate (7 - (lg_sl [.ref h, .int a0, .int a1]).length) Slot.unset).toArray = ls at hl ⊢
  have hl : lv_has ls 7 [(0, .ref h), (1, .int a0), (2, .int a1)] := hl
  refine lv_aload_n hx hb dX11_span_0 rfl (lv_at hl 0 rfl) ?_
  refine va_get (D := (dC, dI)) (ci := 11) (v := .ref (g 11 2)) (C := RX11) (T := TX11) (N := 11) hx hb ht inX11 hown hK hP 0 rfl rfl 2 (by decide) (ht _ m_417) (fun _ h9 => h9) rfl dX11_span_1 ?_
  refine lv_iload_n hx hb dX11_span_4 rfl (lv_at hl 1 rfl) ?_
  have hPc := hP.sub (ws' := [((g 11 2), .inr (0, (o0 h g)))]) [1] rfl
  have hKc := hK.sub (tys' := []) [] rfl
  refine vp_callSi (W.runV (As := [.int a0]) (rest := []) ⟨hx, hb, hml, hown, ht⟩ (c_X0_has l dC dI h g ca a0) (kV 1 ht m_472 m_473 m_474 m_80 m_475 rfl rfl hd_X0_has_v ⟨Nat.le_of_ble_eq_true rfl, Nat.le_of_ble_eq_true rfl⟩) (vR hPc hKc (va_recv hKc hPc (ci := 0) (q0 := 0) rfl rfl)) rfl rfl hl.1 rfl (lv_room (Nat.le_of_ble_eq_true rfl)) dX11_span_5 ⟨Nat.le_of_ble_eq_true rfl, Nat.le_of_ble_eq_true rfl⟩) (fun r1 hr1 => ?_)
  obtain rfl : 0 = r1 := hr1.symm
  refine lv_if_ne (tgt := 15) hx hb dX11_span_8 (by decide) (fun c2 => ?_) (fun c2 => ?_)
  · exact absurd rfl c2
  · skip
    refine lv_ldc2 hx hb hown (ht _ m_837) dX11_span_11 ?_
    exact W.lret (v := (-100001)) hx hb hr (fun t ht9 hW => ⟨(-100001), rfl, rfl, ht9⟩) (fun q hq => by cases hq) dX11_span_14
set_option maxHeartbeats 4000000 in
set_option maxRecDepth 100000 in
/-- X11_cause -/
theorem c_X11_cause (l : Launch) (dC : Nat → ClassId) (dI : Nat → Nat → Nat) (h : Nat) (g : Nat → Nat → Nat) (ca : Nat → Nat → ClassId) (a0 : Int32) (a1 : Int32) : Met l yX11_cause (wc yX11_cause cX11_cause 3 (some .int)) ({ frames := 1, cells := 0, slots := 0, locals := 21 } : Room) (pR (dC, dI) classes [(h, .inr (11, (o11 h g))), ((g 11 2), .inr (0, (o0 h g)))] [] [.ref h, .int a0, .int a1]) (vp_Si (fun r => r = -100001)) 0 0 (fun _ => False) := by
  refine Met.ofW (cc := cX11_cause) (maxL := 3) (ret := (some .int)) (by decide) rfl ?_
  intro p e s m args below meth c s₁ B hml hv
  obtain ⟨rfl, hP, hK⟩ := hv
  have hx := B.exec
  have hb := B.bytes
  have hr := B.returns
  have ht := tb_tl (atoms_spec (ws := wc yX11_cause cX11_cause 3 (some .int)) B.pre)
  have hown : s.vm.findClass RX11 = some m.cls := findClass_of_methodNamed B.named
  have hlocks := B.notSynchronized
  have hl := lv_entry [.ref h, .int a0, .int a1] (n := 3) (Nat.le_of_ble_eq_true rfl)
  rw [lg_entry_eq]
  generalize (lg_sl [.ref h, .int a0, .int a1] ++ List.replicate (3 - (lg_sl [.ref h, .int a0, .int a1]).length) Slot.unset).toArray = ls at hl ⊢
  have hl : lv_has ls 3 [(0, .ref h), (1, .int a0), (2, .int a1)] := hl
  refine lv_aload_n hx hb dX11_cause_0 rfl (lv_at hl 0 rfl) ?_
  refine va_get (D := (dC, dI)) (ci := 11) (v := .ref (g 11 2)) (C := RX11) (T := TX11) (N := 11) hx hb ht inX11 hown hK hP 0 rfl rfl 2 (by decide) (ht _ m_417) (fun _ h9 => h9) rfl dX11_cause_1 ?_
  refine lv_iload_n hx hb dX11_cause_4 rfl (lv_at hl 1 rfl) ?_
  have hPc := hP.sub (ws' := [((g 11 2), .inr (0, (o0 h g)))]) [1] rfl
  have hKc := hK.sub (tys' := []) [] rfl
  refine vp_callSi (W.runV (As := [.int a0]) (rest := []) ⟨hx, hb, hml, hown, ht⟩ (c_X0_has l dC dI h g ca a0) (kV 1 ht m_472 m_473 m_474 m_80 m_475 rfl rfl hd_X0_has_v ⟨Nat.le_of_ble_eq_true rfl, Nat.le_of_ble_eq_true rfl⟩) (vR hPc hKc (va_recv hKc hPc (ci := 0) (q0 := 0) rfl rfl)) rfl rfl hl.1 rfl (lv_room (Nat.le_of_ble_eq_true rfl)) dX11_cause_5 ⟨Nat.le_of_ble_eq_true rfl, Nat.le_of_ble_eq_true rfl⟩) (fun r1 hr1 => ?_)
  obtain rfl : 0 = r1 := hr1.symm
  refine lv_if_ne (tgt := 14) hx hb dX11_cause_8 (by decide) (fun c2 => ?_) (fun c2 => ?_)
  · exact absurd rfl c2
  · skip
    refine lv_ldc hx hb hown (ht _ m_476) dX11_cause_11 ?_
    exact W.iret (v := (-100001)) hx hb hr (fun t ht9 hW => ⟨(-100001), rfl, rfl, ht9⟩) (fun q hq => by cases hq) dX11_cause_13
set_option maxHeartbeats 4000000 in
set_option maxRecDepth 100000 in
/-- X11_odd -/
theorem c_X11_odd (l : Launch) (dC : Nat → ClassId) (dI : Nat → Nat → Nat) (h : Nat) (g : Nat → Nat → Nat) (ca : Nat → Nat → ClassId) (a0 : Int32) (a1 : Int32) : Met l yX11_odd (wc yX11_odd cX11_odd 3 (some .int)) ({ frames := 1, cells := 0, slots := 0, locals := 21 } : Room) (pR (dC, dI) classes [(h, .inr (11, (o11 h g))), ((g 11 2), .inr (0, (o0 h g)))] [] [.ref h, .int a0, .int a1]) (vp_Si (fun r => r = -100001)) 0 0 (fun _ => False) := by
  refine Met.ofW (cc := cX11_odd) (maxL := 3) (ret := (some .int)) (by decide) rfl ?_
  intro p e s m args below meth c s₁ B hml hv
  obtain ⟨rfl, hP, hK⟩ := hv
  have hx := B.exec
  have hb := B.bytes
  have hr := B.returns
  have ht := tb_tl (atoms_spec (ws := wc yX11_odd cX11_odd 3 (some .int)) B.pre)
  have hown : s.vm.findClass RX11 = some m.cls := findClass_of_methodNamed B.named
  have hlocks := B.notSynchronized
  have hl := lv_entry [.ref h, .int a0, .int a1] (n := 3) (Nat.le_of_ble_eq_true rfl)
  rw [lg_entry_eq]
  generalize (lg_sl [.ref h, .int a0, .int a1] ++ List.replicate (3 - (lg_sl [.ref h, .int a0, .int a1]).length) Slot.unset).toArray = ls at hl ⊢
  have hl : lv_has ls 3 [(0, .ref h), (1, .int a0), (2, .int a1)] := hl
  refine lv_aload_n hx hb dX11_odd_0 rfl (lv_at hl 0 rfl) ?_
  refine va_get (D := (dC, dI)) (ci := 11) (v := .ref (g 11 2)) (C := RX11) (T := TX11) (N := 11) hx hb ht inX11 hown hK hP 0 rfl rfl 2 (by decide) (ht _ m_417) (fun _ h9 => h9) rfl dX11_odd_1 ?_
  refine lv_iload_n hx hb dX11_odd_4 rfl (lv_at hl 1 rfl) ?_
  have hPc := hP.sub (ws' := [((g 11 2), .inr (0, (o0 h g)))]) [1] rfl
  have hKc := hK.sub (tys' := []) [] rfl
  refine vp_callSi (W.runV (As := [.int a0]) (rest := []) ⟨hx, hb, hml, hown, ht⟩ (c_X0_has l dC dI h g ca a0) (kV 1 ht m_472 m_473 m_474 m_80 m_475 rfl rfl hd_X0_has_v ⟨Nat.le_of_ble_eq_true rfl, Nat.le_of_ble_eq_true rfl⟩) (vR hPc hKc (va_recv hKc hPc (ci := 0) (q0 := 0) rfl rfl)) rfl rfl hl.1 rfl (lv_room (Nat.le_of_ble_eq_true rfl)) dX11_odd_5 ⟨Nat.le_of_ble_eq_true rfl, Nat.le_of_ble_eq_true rfl⟩) (fun r1 hr1 => ?_)
  obtain rfl : 0 = r1 := hr1.symm
  refine lv_if_ne (tgt := 14) hx hb dX11_odd_8 (by decide) (fun c2 => ?_) (fun c2 => ?_)
  · exact absurd rfl c2
  · skip
    refine lv_ldc hx hb hown (ht _ m_476) dX11_odd_11 ?_
    exact W.iret (v := (-100001)) hx hb hr (fun t ht9 hW => ⟨(-100001), rfl, rfl, ht9⟩) (fun q hq => by cases hq) dX11_odd_13
set_option maxHeartbeats 4000000 in
set_option maxRecDepth 100000 in
/-- X11_needed -/
theorem c_X11_needed (l : Launch) (dC : Nat → ClassId) (dI : Nat → Nat → Nat) (h : Nat) (g : Nat → Nat → Nat) (ca : Nat → Nat → ClassId) (a0 : Int32) (a1 : Int32) : Met l yX11_needed (wc yX11_needed cX11_needed 3 (some .int)) ({ frames := 1, cells := 0, slots := 0, locals := 21 } : Room) (pR (dC, dI) classes [(h, .inr (11, (o11 h g))), ((g 11 2), .inr (0, (o0 h g)))] [] [.ref h, .int a0, .int a1]) (vp_Si (fun r => r = -100001)) 0 0 (fun _ => False) := by
  refine Met.ofW (cc := cX11_needed) (maxL := 3) (ret := (some .int)) (by decide) rfl ?_
  intro p e s m args below meth c s₁ B hml hv
  obtain ⟨rfl, hP, hK⟩ := hv
  have hx := B.exec
  have hb := B.bytes
  have hr := B.returns
  have ht := tb_tl (atoms_spec (ws := wc yX11_needed cX11_needed 3 (some .int)) B.pre)
  have hown : s.vm.findClass RX11 = some m.cls := findClass_of_methodNamed B.named
  have hlocks := B.notSynchronized
  have hl := lv_entry [.ref h, .int a0, .int a1] (n := 3) (Nat.le_of_ble_eq_true rfl)
  rw [lg_entry_eq]
  generalize (lg_sl [.ref h, .int a0, .int a1] ++ List.replicate (3 - (lg_sl [.ref h, .int a0, .int a1]).length) Slot.unset).toArray = ls at hl ⊢
  have hl : lv_has ls 3 [(0, .ref h), (1, .int a0), (2, .int a1)] := hl
  refine lv_aload_n hx hb dX11_needed_0 rfl (lv_at hl 0 rfl) ?_
  refine va_get (D := (dC, dI)) (ci := 11) (v := .ref (g 11 2)) (C := RX11) (T := TX11) (N := 11) hx hb ht inX11 hown hK hP 0 rfl rfl 2 (by decide) (ht _ m_417) (fun _ h9 => h9) rfl dX11_needed_1 ?_
  refine lv_iload_n hx hb dX11_needed_4 rfl (lv_at hl 1 rfl) ?_
  have hPc := hP.sub (ws' := [((g 11 2), .inr (0, (o0 h g)))]) [1] rfl
  have hKc := hK.sub (tys' := []) [] rfl
  refine vp_callSi (W.runV (As := [.int a0]) (rest := []) ⟨hx, hb, hml, hown, ht⟩ (c_X0_has l dC dI h g ca a0) (kV 1 ht m_472 m_473 m_474 m_80 m_475 rfl rfl hd_X0_has_v ⟨Nat.le_of_ble_eq_true rfl, Nat.le_of_ble_eq_true rfl⟩) (vR hPc hKc (va_recv hKc hPc (ci := 0) (q0 := 0) rfl rfl)) rfl rfl hl.1 rfl (lv_room (Nat.le_of_ble_eq_true rfl)) dX11_needed_5 ⟨Nat.le_of_ble_eq_true rfl, Nat.le_of_ble_eq_true rfl⟩) (fun r1 hr1 => ?_)
  obtain rfl : 0 = r1 := hr1.symm
  refine lv_if_ne (tgt := 14) hx hb dX11_needed_8 (by decide) (fun c2 => ?_) (fun c2 => ?_)
  · exact absurd rfl c2
  · skip
    refine lv_ldc hx hb hown (ht _ m_476) dX11_needed_11 ?_
    exact W.iret (v := (-100001)) hx hb hr (fun t ht9 hW => ⟨(-100001), rfl, rfl, ht9⟩) (fun q hq => by cases hq) dX11_needed_13
set_option maxHeartbeats 4000000 in
set_option maxRecDepth 100000 in
/-- X11_thread -/
theorem c_X11_thread (l : Launch) (dC : Nat → ClassId) (dI : Nat → Nat → Nat) (h : Nat) (g : Nat → Nat → Nat) (ca : Nat → Nat → ClassId) (a0 : Int32) (a1 : Int32) : Met l yX11_thread (wc yX11_thread cX11_thread 3 (some .int)) ({ frames := 1, cells := 0, slots := 0, locals := 21 } : Room) (pR (dC, dI) classes [(h, .inr (11, (o11 h g))), ((g 11 2), .inr (0, (o0 h g)))] [] [.ref h, .int a0, .int a1]) (vp_Si (fun r => r = -100001)) 0 0 (fun _ => False) := by
  refine Met.ofW (cc := cX11_thread) (maxL := 3) (ret := (some .int)) (by decide) rfl ?_
  intro p e s m args below meth c s₁ B hml hv
  obtain ⟨rfl, hP, hK⟩ := hv
  have hx := B.exec
  have hb := B.bytes
  have hr := B.returns
  have ht := tb_tl (atoms_spec (ws := wc yX11_thread cX11_thread 3 (some .int)) B.pre)
  have hown : s.vm.findClass RX11 = some m.cls := findClass_of_methodNamed B.named
  have hlocks := B.notSynchronized
  have hl := lv_entry [.ref h, .int a0, .int a1] (n := 3) (Nat.le_of_ble_eq_true rfl)
  rw [lg_entry_eq]
  generalize (lg_sl [.ref h, .int a0, .int a1] ++ List.replicate (3 - (lg_sl [.ref h, .int a0, .int a1]).length) Slot.unset).toArray = ls at hl ⊢
  have hl : lv_has ls 3 [(0, .ref h), (1, .int a0), (2, .int a1)] := hl
  refine lv_aload_n hx hb dX11_thread_0 rfl (lv_at hl 0 rfl) ?_
  refine va_get (D := (dC, dI)) (ci := 11) (v := .ref (g 11 2)) (C := RX11) (T := TX11) (N := 11) hx hb ht inX11 hown hK hP 0 rfl rfl 2 (by decide) (ht _ m_417) (fun _ h9 => h9) rfl dX11_thread_1 ?_
  refine lv_iload_n hx hb dX11_thread_4 rfl (lv_at hl 1 rfl) ?_
  have hPc := hP.sub (ws' := [((g 11 2), .inr (0, (o0 h g)))]) [1] rfl
  have hKc := hK.sub (tys' := []) [] rfl
  refine vp_callSi (W.runV (As := [.int a0]) (rest := []) ⟨hx, hb, hml, hown, ht⟩ (c_X0_has l dC dI h g ca a0) (kV 1 ht m_472 m_473 m_474 m_80 m_475 rfl rfl hd_X0_has_v ⟨Nat.le_of_ble_eq_true rfl, Nat.le_of_ble_eq_true rfl⟩) (vR hPc hKc (va_recv hKc hPc (ci := 0) (q0 := 0) rfl rfl)) rfl rfl hl.1 rfl (lv_room (Nat.le_of_ble_eq_true rfl)) dX11_thread_5 ⟨Nat.le_of_ble_eq_true rfl, Nat.le_of_ble_eq_true rfl⟩) (fun r1 hr1 => ?_)
  obtain rfl : 0 = r1 := hr1.symm
  refine lv_if_ne (tgt := 14) hx hb dX11_thread_8 (by decide) (fun c2 => ?_) (fun c2 => ?_)
  · exact absurd rfl c2
  · skip
    refine lv_ldc hx hb hown (ht _ m_476) dX11_thread_11 ?_
    exact W.iret (v := (-100001)) hx hb hr (fun t ht9 hW => ⟨(-100001), rfl, rfl, ht9⟩) (fun q hq => by cases hq) dX11_thread_13
set_option maxHeartbeats 4000000 in
set_option maxRecDepth 100000 in
/-- X11_size -/
theorem c_X11_size (l : Launch) (dC : Nat → ClassId) (dI : Nat → Nat → Nat) (h : Nat) (g : Nat → Nat → Nat) (ca : Nat → Nat → ClassId) (a0 : Int32) (a1 : Int32) : Met l yX11_size (wc yX11_size cX11_size 7 (some .int)) ({ frames := 1, cells := 0, slots := 0, locals := 21 } : Room) (pR (dC, dI) classes [(h, .inr (11, (o11 h g))), ((g 11 2), .inr (0, (o0 h g)))] [] [.ref h, .int a0, .int a1]) (vp_Si (fun r => r = -100001)) 0 0 (fun _ => False) := by
  refine Met.ofW (cc := cX11_size) (maxL := 7) (ret := (some .int)) (by decide) rfl ?_
  intro p e s m args below meth c s₁ B hml hv
  obtain ⟨rfl, hP, hK⟩ := hv
  have hx := B.exec
  have hb := B.bytes
  have hr := B.returns
  have ht := tb_tl (atoms_spec (ws := wc yX11_size cX11_size 7 (some .int)) B.pre)
  have hown : s.vm.findClass RX11 = some m.cls := findClass_of_methodNamed B.named
  have hlocks := B.notSynchronized
  have hl := lv_entry [.ref h, .int a0, .int a1] (n := 7) (Nat.le_of_ble_eq_true rfl)
  rw [lg_entry_eq]
  generalize (lg_sl [.ref h, .int a0, .int a1] ++ List.replicate (7 - (lg_sl [.ref h, .int a0, .int a1]).length) Slot.unset).toArray = ls at hl ⊢
  have hl : lv_has ls 7 [(0, .ref h), (1, .int a0), (2, .int a1)] := hl
  refine lv_aload_n hx hb dX11_size_0 rfl (lv_at hl 0 rfl) ?_
  refine va_get (D := (dC, dI)) (ci := 11) (v := .ref (g 11 2)) (C := RX11) (T := TX11) (N := 11) hx hb ht inX11 hown hK hP 0 rfl rfl 2 (by decide) (ht _ m_417) (fun _ h9 => h9) rfl dX11_size_1 ?_
  refine lv_iload_n hx hb dX11_size_4 rfl (lv_at hl 1 rfl) ?_
  have hPc := hP.sub (ws' := [((g 11 2), .inr (0, (o0 h g)))]) [1] rfl
  have hKc := hK.sub (tys' := []) [] rfl
  refine vp_callSi (W.runV (As := [.int a0]) (rest := []) ⟨hx, hb, hml, hown, ht⟩ (c_X0_has l dC dI h g ca a0) (kV 1 ht m_472 m_473 m_474 m_80 m_475 rfl rfl hd_X0_has_v ⟨Nat.le_of_ble_eq_true rfl, Nat.le_of_ble_eq_true rfl⟩) (vR hPc hKc (va_recv hKc hPc (ci := 0) (q0 := 0) rfl rfl)) rfl rfl hl.1 rfl (lv_room (Nat.le_of_ble_eq_true rfl)) dX11_size_5 ⟨Nat.le_of_ble_eq_true rfl, Nat.le_of_ble_eq_true rfl⟩) (fun r1 hr1 => ?_)
  obtain rfl : 0 = r1 := hr1.symm
  refine lv_if_ne (tgt := 14) hx hb dX11_size_8 (by decide) (fun c2 => ?_) (fun c2 => ?_)
  · exact absurd rfl c2
  · skip
    refine lv_ldc hx hb hown (ht _ m_476) dX11_size_11 ?_
    exact W.iret (v := (-100001)) hx hb hr (fun t ht9 hW => ⟨(-100001), rfl, rfl, ht9⟩) (fun q hq => by cases hq) dX11_size_13
set_option maxHeartbeats 4000000 in
set_option maxRecDepth 100000 in
/-- X11_named -/
theorem c_X11_named (l : Launch) (dC : Nat → ClassId) (dI : Nat → Nat → Nat) (h : Nat) (g : Nat → Nat → Nat) (ca : Nat → Nat → ClassId) (a0 : Int32) (a1 : Int32) : Met l yX11_named (wc yX11_named cX11_named 3 (some .int)) ({ frames := 1, cells := 0, slots := 0, locals := 21 } : Room) (pR (dC, dI) classes [(h, .inr (11, (o11 h g))), ((g 11 2), .inr (0, (o0 h g)))] [] [.ref h, .int a0, .int a1]) (vp_Si (fun r => r = -100001)) 0 0 (fun _ => False) := by
  refine Met.ofW (cc := cX11_named) (maxL := 3) (ret := (some .int)) (by decide) rfl ?_
  intro p e s m args below meth c s₁ B hml hv
  obtain ⟨rfl, hP, hK⟩ := hv
  have hx := B.exec
  have hb := B.bytes
  have hr := B.returns
  have ht := tb_tl (atoms_spec (ws := wc yX11_named cX11_named 3 (some .int)) B.pre)
  have hown : s.vm.findClass RX11 = some m.cls := findClass_of_methodNamed B.named
  have hlocks := B.notSynchronized
  have hl := lv_entry [.ref h, .int a0, .int a1] (n := 3) (Nat.le_of_ble_eq_true rfl)
  rw [lg_entry_eq]
  generalize (lg_sl [.ref h, .int a0, .int a1] ++ List.replicate (3 - (lg_sl [.ref h, .int a0, .int a1]).length) Slot.unset).toArray = ls at hl ⊢
  have hl : lv_has ls 3 [(0, .ref h), (1, .int a0), (2, .int a1)] := hl
  refine lv_aload_n hx hb dX11_named_0 rfl (lv_at hl 0 rfl) ?_
  refine va_get (D := (dC, dI)) (ci := 11) (v := .ref (g 11 2)) (C := RX11) (T := TX11) (N := 11) hx hb ht inX11 hown hK hP 0 rfl rfl 2 (by decide) (ht _ m_417) (fun _ h9 => h9) rfl dX11_named_1 ?_
  refine lv_iload_n hx hb dX11_named_4 rfl (lv_at hl 1 rfl) ?_
  have hPc := hP.sub (ws' := [((g 11 2), .inr (0, (o0 h g)))]) [1] rfl
  have hKc := hK.sub (tys' := []) [] rfl
  refine vp_callSi (W.runV (As := [.int a0]) (rest := []) ⟨hx, hb, hml, hown, ht⟩ (c_X0_has l dC dI h g ca a0) (kV 1 ht m_472 m_473 m_474 m_80 m_475 rfl rfl hd_X0_has_v ⟨Nat.le_of_ble_eq_true rfl, Nat.le_of_ble_eq_true rfl⟩) (vR hPc hKc (va_recv hKc hPc (ci := 0) (q0 := 0) rfl rfl)) rfl rfl hl.1 rfl (lv_room (Nat.le_of_ble_eq_true rfl)) dX11_named_5 ⟨Nat.le_of_ble_eq_true rfl, Nat.le_of_ble_eq_true rfl⟩) (fun r1 hr1 => ?_)
  obtain rfl : 0 = r1 := hr1.symm
  refine lv_if_ne (tgt := 14) hx hb dX11_named_8 (by decide) (fun c2 => ?_) (fun c2 => ?_)
  · exact absurd rfl c2
  · skip
    refine lv_ldc hx hb hown (ht _ m_476) dX11_named_11 ?_
    exact W.iret (v := (-100001)) hx hb hr (fun t ht9 hW => ⟨(-100001), rfl, rfl, ht9⟩) (fun q hq => by cases hq) dX11_named_13
set_option maxHeartbeats 4000000 in
set_option maxRecDepth 100000 in
/-- X11_turns -/
theorem c_X11_turns (l : Launch) (dC : Nat → ClassId) (dI : Nat → Nat → Nat) (h : Nat) (g : Nat → Nat → Nat) (ca : Nat → Nat → ClassId) (a0 : Int32) (a1 : Int32) : Met l yX11_turns (wc yX11_turns cX11_turns 3 (some .int)) ({ frames := 1, cells := 0, slots := 0, locals := 21 } : Room) (pR (dC, dI) classes [(h, .inr (11, (o11 h g))), ((g 11 2), .inr (0, (o0 h g)))] [] [.ref h, .int a0, .int a1]) (vp_Si (fun r => r = -100001)) 0 0 (fun _ => False) := by
  refine Met.ofW (cc := cX11_turns) (maxL := 3) (ret := (some .int)) (by decide) rfl ?_
  intro p e s m args below meth c s₁ B hml hv
  obtain ⟨rfl, hP, hK⟩ := hv
  have hx := B.exec
  have hb := B.bytes
  have hr := B.returns
  have ht := tb_tl (atoms_spec (ws := wc yX11_turns cX11_turns 3 (some .int)) B.pre)
  have hown : s.vm.findClass RX11 = some m.cls := findClass_of_methodNamed B.named
  have hlocks := B.notSynchronized
  have hl := lv_entry [.ref h, .int a0, .int a1] (n := 3) (Nat.le_of_ble_eq_true rfl)
  rw [lg_entry_eq]
  generalize (lg_sl [.ref h, .int a0, .int a1] ++ List.replicate (3 - (lg_sl [.ref h, .int a0, .int a1]).length) Slot.unset).toArray = ls at hl ⊢
  have hl : lv_has ls 3 [(0, .ref h), (1, .int a0), (2, .int a1)] := hl
  refine lv_aload_n hx hb dX11_turns_0 rfl (lv_at hl 0 rfl) ?_
  refine va_get (D := (dC, dI)) (ci := 11) (v := .ref (g 11 2)) (C := RX11) (T := TX11) (N := 11) hx hb ht inX11 hown hK hP 0 rfl rfl 2 (by decide) (ht _ m_417) (fun _ h9 => h9) rfl dX11_turns_1 ?_
  refine lv_iload_n hx hb dX11_turns_4 rfl (lv_at hl 1 rfl) ?_
  have hPc := hP.sub (ws' := [((g 11 2), .inr (0, (o0 h g)))]) [1] rfl
  have hKc := hK.sub (tys' := []) [] rfl
  refine vp_callSi (W.runV (As := [.int a0]) (rest := []) ⟨hx, hb, hml, hown, ht⟩ (c_X0_has l dC dI h g ca a0) (kV 1 ht m_472 m_473 m_474 m_80 m_475 rfl rfl hd_X0_has_v ⟨Nat.le_of_ble_eq_true rfl, Nat.le_of_ble_eq_true rfl⟩) (vR hPc hKc (va_recv hKc hPc (ci := 0) (q0 := 0) rfl rfl)) rfl rfl hl.1 rfl (lv_room (Nat.le_of_ble_eq_true rfl)) dX11_turns_5 ⟨Nat.le_of_ble_eq_true rfl, Nat.le_of_ble_eq_true rfl⟩) (fun r1 hr1 => ?_)
  obtain rfl : 0 = r1 := hr1.symm
  refine lv_if_ne (tgt := 14) hx hb dX11_turns_8 (by decide) (fun c2 => ?_) (fun c2 => ?_)
  · exact absurd rfl c2
  · skip
    refine lv_ldc hx hb hown (ht _ m_476) dX11_turns_11 ?_
    exact W.iret (v := (-100001)) hx hb hr (fun t ht9 hW => ⟨(-100001), rfl, rfl, ht9⟩) (fun q hq => by cases hq) dX11_turns_13
set_option maxHeartbeats 4000000 in
set_option maxRecDepth 100000 in
/-- X11_twist -/
theorem c_X11_twist (l : Launch) (dC : Nat → ClassId) (dI : Nat → Nat → Nat) (h : Nat) (g : Nat → Nat → Nat) (ca : Nat → Nat → ClassId) (a0 : Int32) : Met l yX11_twist (wc yX11_twist cX11_twist 2 (some .int)) ({ frames := 1, cells := 0, slots := 0, locals := 21 } : Room) (pR (dC, dI) classes [(h, .inr (11, (o11 h g))), ((g 11 2), .inr (0, (o0 h g)))] [] [.ref h, .int a0]) (vp_Si (fun r => r = -100001)) 0 0 (fun _ => False) := by
  refine Met.ofW (cc := cX11_twist) (maxL := 2) (ret := (some .int)) (by decide) rfl ?_
  intro p e s m args below meth c s₁ B hml hv
  obtain ⟨rfl, hP, hK⟩ := hv
  have hx := B.exec
  have hb := B.bytes
  have hr := B.returns
  have ht := tb_tl (atoms_spec (ws := wc yX11_twist cX11_twist 2 (some .int)) B.pre)
  have hown : s.vm.findClass RX11 = some m.cls := findClass_of_methodNamed B.named
  have hlocks := B.notSynchronized
  have hl := lv_entry [.ref h, .int a0] (n := 2) (Nat.le_of_ble_eq_true rfl)
  rw [lg_entry_eq]
  generalize (lg_sl [.ref h, .int a0] ++ List.replicate (2 - (lg_sl [.ref h, .int a0]).length) Slot.unset).toArray = ls at hl ⊢
  have hl : lv_has ls 2 [(0, .ref h), (1, .int a0)] := hl
  refine lv_aload_n hx hb dX11_twist_0 rfl (lv_at hl 0 rfl) ?_
  refine va_get (D := (dC, dI)) (ci := 11) (v := .ref (g 11 2)) (C := RX11) (T := TX11) (N := 11) hx hb ht inX11 hown hK hP 0 rfl rfl 2 (by decide) (ht _ m_417) (fun _ h9 => h9) rfl dX11_twist_1 ?_
  refine lv_iload_n hx hb dX11_twist_4 rfl (lv_at hl 1 rfl) ?_
  have hPc := hP.sub (ws' := [((g 11 2), .inr (0, (o0 h g)))]) [1] rfl
  have hKc := hK.sub (tys' := []) [] rfl
  refine vp_callSi (W.runV (As := [.int a0]) (rest := []) ⟨hx, hb, hml, hown, ht⟩ (c_X0_has l dC dI h g ca a0) (kV 1 ht m_472 m_473 m_474 m_80 m_475 rfl rfl hd_X0_has_v ⟨Nat.le_of_ble_eq_true rfl, Nat.le_of_ble_eq_true rfl⟩) (vR hPc hKc (va_recv hKc hPc (ci := 0) (q0 := 0) rfl rfl)) rfl rfl hl.1 rfl (lv_room (Nat.le_of_ble_eq_true rfl)) dX11_twist_5 ⟨Nat.le_of_ble_eq_true rfl, Nat.le_of_ble_eq_true rfl⟩) (fun r1 hr1 => ?_)
  obtain rfl : 0 = r1 := hr1.symm
  refine lv_if_eq (tgt := 22) hx hb dX11_twist_8 (by decide) (fun c2 => ?_) (fun c2 => ?_)
  · skip
    refine lv_ldc hx hb hown (ht _ m_476) dX11_twist_22 ?_
    exact W.iret (v := (-100001)) hx hb hr (fun t ht9 hW => ⟨(-100001), rfl, rfl, ht9⟩) (fun q hq => by cases hq) dX11_twist_24
  · exact absurd rfl c2
set_option maxHeartbeats 4000000 in
set_option maxRecDepth 100000 in
/-- X11_burnt -/
theorem c_X11_burnt (l : Launch) (dC : Nat → ClassId) (dI : Nat → Nat → Nat) (h : Nat) (g : Nat → Nat → Nat) (ca : Nat → Nat → ClassId) (a0 : Int32) (a1 : Int32) (a2 : Int32) (a3 : Int32) : Met l yX11_burnt (wc yX11_burnt cX11_burnt 5 (some .int)) ({ frames := 1, cells := 0, slots := 0, locals := 21 } : Room) (pR (dC, dI) classes [(h, .inr (11, (o11 h g))), ((g 11 2), .inr (0, (o0 h g)))] [] [.ref h, .int a0, .int a1, .int a2, .int a3]) (vp_Si (fun r => r = -100001)) 0 0 (fun _ => False) := by
  refine Met.ofW (cc := cX11_burnt) (maxL := 5) (ret := (some .int)) (by decide) rfl ?_
  intro p e s m args below meth c s₁ B hml hv
  obtain ⟨rfl, hP, hK⟩ := hv
  have hx := B.exec
  have hb := B.bytes
  have hr := B.returns
  have ht := tb_tl (atoms_spec (ws := wc yX11_burnt cX11_burnt 5 (some .int)) B.pre)
  have hown : s.vm.findClass RX11 = some m.cls := findClass_of_methodNamed B.named
  have hlocks := B.notSynchronized
  have hl := lv_entry [.ref h, .int a0, .int a1, .int a2, .int a3] (n := 5) (Nat.le_of_ble_eq_true rfl)
  rw [lg_entry_eq]
  generalize (lg_sl [.ref h, .int a0, .int a1, .int a2, .int a3] ++ List.replicate (5 - (lg_sl [.ref h, .int a0, .int a1, .int a2, .int a3]).length) Slot.unset).toArray = ls at hl ⊢
  have hl : lv_has ls 5 [(0, .ref h), (1, .int a0), (2, .int a1), (3, .int a2), (4, .int a3)] := hl
  refine lv_aload_n hx hb dX11_burnt_0 rfl (lv_at hl 0 rfl) ?_
  refine va_get (D := (dC, dI)) (ci := 11) (v := .ref (g 11 2)) (C := RX11) (T := TX11) (N := 11) hx hb ht inX11 hown hK hP 0 rfl rfl 2 (by decide) (ht _ m_417) (fun _ h9 => h9) rfl dX11_burnt_1 ?_
  refine lv_iload_n hx hb dX11_burnt_4 rfl (lv_at hl 1 rfl) ?_
  have hPc := hP.sub (ws' := [((g 11 2), .inr (0, (o0 h g)))]) [1] rfl
  have hKc := hK.sub (tys' := []) [] rfl
  refine vp_callSi (W.runV (As := [.int a0]) (rest := []) ⟨hx, hb, hml, hown, ht⟩ (c_X0_has l dC dI h g ca a0) (kV 1 ht m_472 m_473 m_474 m_80 m_475 rfl rfl hd_X0_has_v ⟨Nat.le_of_ble_eq_true rfl, Nat.le_of_ble_eq_true rfl⟩) (vR hPc hKc (va_recv hKc hPc (ci := 0) (q0 := 0) rfl rfl)) rfl rfl hl.1 rfl (lv_room (Nat.le_of_ble_eq_true rfl)) dX11_burnt_5 ⟨Nat.le_of_ble_eq_true rfl, Nat.le_of_ble_eq_true rfl⟩) (fun r1 hr1 => ?_)
  obtain rfl : 0 = r1 := hr1.symm
  refine lv_if_ne (tgt := 14) hx hb dX11_burnt_8 (by decide) (fun c2 => ?_) (fun c2 => ?_)
  · exact absurd rfl c2
  · skip
    refine lv_ldc hx hb hown (ht _ m_476) dX11_burnt_11 ?_
    exact W.iret (v := (-100001)) hx hb hr (fun t ht9 hW => ⟨(-100001), rfl, rfl, ht9⟩) (fun q hq => by cases hq) dX11_burnt_13
set_option maxHeartbeats 4000000 in
set_option maxRecDepth 100000 in
/-- X11_cheat -/
theorem c_X11_cheat (l : Launch) (dC : Nat → ClassId) (dI : Nat → Nat → Nat) (h : Nat) (g : Nat → Nat → Nat) (ca : Nat → Nat → ClassId) (a0 : Int32) (a1 : Int32) (a2 : Int32) (a3 : Int32) : Met l yX11_cheat (wc yX11_cheat cX11_cheat 6 (some .int)) ({ frames := 1, cells := 0, slots := 0, locals := 21 } : Room) (pR (dC, dI) classes [(h, .inr (11, (o11 h g))), ((g 11 2), .inr (0, (o0 h g)))] [] [.ref h, .int a0, .int a1, .int a2, .int a3]) (vp_Si (fun r => r = -100001)) 0 0 (fun _ => False) := by
  refine Met.ofW (cc := cX11_cheat) (maxL := 6) (ret := (some .int)) (by decide) rfl ?_
  intro p e s m args below meth c s₁ B hml hv
  obtain ⟨rfl, hP, hK⟩ := hv
  have hx := B.exec
  have hb := B.bytes
  have hr := B.returns
  have ht := tb_tl (atoms_spec (ws := wc yX11_cheat cX11_cheat 6 (some .int)) B.pre)
  have hown : s.vm.findClass RX11 = some m.cls := findClass_of_methodNamed B.named
  have hlocks := B.notSynchronized
  have hl := lv_entry [.ref h, .int a0, .int a1, .int a2, .int a3] (n := 6) (Nat.le_of_ble_eq_true rfl)
  rw [lg_entry_eq]
  generalize (lg_sl [.ref h, .int a0, .int a1, .int a2, .int a3] ++ List.replicate (6 - (lg_sl [.ref h, .int a0, .int a1, .int a2, .int a3]).length) Slot.unset).toArray = ls at hl ⊢
  have hl : lv_has ls 6 [(0, .ref h), (1, .int a0), (2, .int a1), (3, .int a2), (4, .int a3)] := hl
  refine lv_aload_n hx hb dX11_cheat_0 rfl (lv_at hl 0 rfl) ?_
  refine va_get (D := (dC, dI)) (ci := 11) (v := .ref (g 11 2)) (C := RX11) (T := TX11) (N := 11) hx hb ht inX11 hown hK hP 0 rfl rfl 2 (by decide) (ht _ m_417) (fun _ h9 => h9) rfl dX11_cheat_1 ?_
  refine lv_iload_n hx hb dX11_cheat_4 rfl (lv_at hl 1 rfl) ?_
  have hPc := hP.sub (ws' := [((g 11 2), .inr (0, (o0 h g)))]) [1] rfl
  have hKc := hK.sub (tys' := []) [] rfl
  refine vp_callSi (W.runV (As := [.int a0]) (rest := []) ⟨hx, hb, hml, hown, ht⟩ (c_X0_has l dC dI h g ca a0) (kV 1 ht m_472 m_473 m_474 m_80 m_475 rfl rfl hd_X0_has_v ⟨Nat.le_of_ble_eq_true rfl, Nat.le_of_ble_eq_true rfl⟩) (vR hPc hKc (va_recv hKc hPc (ci := 0) (q0 := 0) rfl rfl)) rfl rfl hl.1 rfl (lv_room (Nat.le_of_ble_eq_true rfl)) dX11_cheat_5 ⟨Nat.le_of_ble_eq_true rfl, Nat.le_of_ble_eq_true rfl⟩) (fun r1 hr1 => ?_)
  obtain rfl : 0 = r1 := hr1.symm
  refine lv_if_ne (tgt := 14) hx hb dX11_cheat_8 (by decide) (fun c2 => ?_) (fun c2 => ?_)
  · exact absurd rfl c2
  · skip
    refine lv_ldc hx hb hown (ht _ m_476) dX11_cheat_11 ?_
    exact W.iret (v := (-100001)) hx hb hr (fun t ht9 hW => ⟨(-100001), rfl, rfl, ht9⟩) (fun q hq => by cases hq) dX11_cheat_13
set_option maxHeartbeats 4000000 in
set_option maxRecDepth 100000 in
/-- X11_certify -/
theorem c_X11_certify (l : Launch) (dC : Nat → ClassId) (dI : Nat → Nat → Nat) (h : Nat) (g : Nat → Nat → Nat) (ca : Nat → Nat → ClassId) (a0 : Int32) : Met l yX11_certify (wc yX11_certify cX11_certify 6 (some .int)) ({ frames := 1, cells := 0, slots := 0, locals := 21 } : Room) (pR (dC, dI) classes [(h, .inr (11, (o11 h g))), ((g 11 2), .inr (0, (o0 h g)))] [] [.ref h, .int a0]) (vp_Si (fun r => r = -100001)) 0 0 (fun _ => False) := by
  refine Met.ofW (cc := cX11_certify) (maxL := 6) (ret := (some .int)) (by decide) rfl ?_
  intro p e s m args below meth c s₁ B hml hv
  obtain ⟨rfl, hP, hK⟩ := hv
  have hx := B.exec
  have hb := B.bytes
  have hr := B.returns
  have ht := tb_tl (atoms_spec (ws := wc yX11_certify cX11_certify 6 (some .int)) B.pre)
  have hown : s.vm.findClass RX11 = some m.cls := findClass_of_methodNamed B.named
  have hlocks := B.notSynchronized
  have hl := lv_entry [.ref h, .int a0] (n := 6) (Nat.le_of_ble_eq_true rfl)
  rw [lg_entry_eq]
  generalize (lg_sl [.ref h, .int a0] ++ List.replicate (6 - (lg_sl [.ref h, .int a0]).length) Slot.unset).toArray = ls at hl ⊢
  have hl : lv_has ls 6 [(0, .ref h), (1, .int a0)] := hl
  refine lv_aload_n hx hb dX11_certify_0 rfl (lv_at hl 0 rfl) ?_
  refine va_get (D := (dC, dI)) (ci := 11) (v := .ref (g 11 2)) (C := RX11) (T := TX11) (N := 11) hx hb ht inX11 hown hK hP 0 rfl rfl 2 (by decide) (ht _ m_417) (fun _ h9 => h9) rfl dX11_certify_1 ?_
  refine lv_iload_n hx hb dX11_certify_4 rfl (lv_at hl 1 rfl) ?_
  have hPc := hP.sub (ws' := [((g 11 2), .inr (0, (o0 h g)))]) [1] rfl
  have hKc := hK.sub (tys' := []) [] rfl
  refine vp_callSi (W.runV (As := [.int a0]) (rest := []) ⟨hx, hb, hml, hown, ht⟩ (c_X0_has l dC dI h g ca a0) (kV 1 ht m_472 m_473 m_474 m_80 m_475 rfl rfl hd_X0_has_v ⟨Nat.le_of_ble_eq_true rfl, Nat.le_of_ble_eq_true rfl⟩) (vR hPc hKc (va_recv hKc hPc (ci := 0) (q0 := 0) rfl rfl)) rfl rfl hl.1 rfl (lv_room (Nat.le_of_ble_eq_true rfl)) dX11_certify_5 ⟨Nat.le_of_ble_eq_true rfl, Nat.le_of_ble_eq_true rfl⟩) (fun r1 hr1 => ?_)
  obtain rfl : 0 = r1 := hr1.symm
  refine lv_if_ne (tgt := 14) hx hb dX11_certify_8 (by decide) (fun c2 => ?_) (fun c2 => ?_)
  · exact absurd rfl c2
  · skip
    refine lv_ldc hx hb hown (ht _ m_476) dX11_certify_11 ?_
    exact W.iret (v := (-100001)) hx hb hr (fun t ht9 hW => ⟨(-100001), rfl, rfl, ht9⟩) (fun q hq => by cases hq) dX11_certify_13
set_option maxHeartbeats 4000000 in
set_option maxRecDepth 100000 in
/-- X11_lose -/
theorem c_X11_lose (l : Launch) (dC : Nat → ClassId) (dI : Nat → Nat → Nat) (h : Nat) (g : Nat → Nat → Nat) (ca : Nat → Nat → ClassId) (a0 : Int32) : Met l yX11_lose (wc yX11_lose cX11_lose 2 (some .int)) ({ frames := 1, cells := 0, slots := 0, locals := 21 } : Room) (pR (dC, dI) classes [(h, .inr (11, (o11 h g))), ((g 11 0), .inr (10, (o10 h g)))] [] [.ref h, .int a0]) (vp_Si (fun r => r = -100001)) 0 0 (fun _ => False) := by
  refine Met.ofW (cc := cX11_lose) (maxL := 2) (ret := (some .int)) (by decide) rfl ?_
  intro p e s m args below meth c s₁ B hml hv
  obtain ⟨rfl, hP, hK⟩ := hv
  have hx := B.exec
  have hb := B.bytes
  have hr := B.returns
  have ht := tb_tl (atoms_spec (ws := wc yX11_lose cX11_lose 2 (some .int)) B.pre)
  have hown : s.vm.findClass RX11 = some m.cls := findClass_of_methodNamed B.named
  have hlocks := B.notSynchronized
  have hl := lv_entry [.ref h, .int a0] (n := 2) (Nat.le_of_ble_eq_true rfl)
  rw [lg_entry_eq]
  generalize (lg_sl [.ref h, .int a0] ++ List.replicate (2 - (lg_sl [.ref h, .int a0]).length) Slot.unset).toArray = ls at hl ⊢
  have hl : lv_has ls 2 [(0, .ref h), (1, .int a0)] := hl
  refine lv_aload_n hx hb dX11_lose_0 rfl (lv_at hl 0 rfl) ?_
  refine va_get (D := (dC, dI)) (ci := 11) (v := .ref (g 11 0)) (C := RX11) (T := TX11) (N := 11) hx hb ht inX11 hown hK hP 0 rfl rfl 0 (by decide) (ht _ m_415) (fun _ h9 => h9) rfl dX11_lose_1 ?_
  refine lv_iload_n hx hb dX11_lose_4 rfl (lv_at hl 1 rfl) ?_
  have hPc := hP.sub (ws' := [((g 11 0), .inr (10, (o10 h g)))]) [1] rfl
  have hKc := hK.sub (tys' := []) [] rfl
  refine vp_callSi (W.runV (As := [.int a0]) (rest := []) ⟨hx, hb, hml, hown, ht⟩ (c_X10_has l dC dI h g ca a0) (kV 1 ht m_509 m_510 m_511 m_78 m_512 rfl rfl hd_X10_has_v ⟨Nat.le_of_ble_eq_true rfl, Nat.le_of_ble_eq_true rfl⟩) (vR hPc hKc (va_recv hKc hPc (ci := 10) (q0 := 0) rfl rfl)) rfl rfl hl.1 rfl (lv_room (Nat.le_of_ble_eq_true rfl)) dX11_lose_5 ⟨Nat.le_of_ble_eq_true rfl, Nat.le_of_ble_eq_true rfl⟩) (fun r1 hr1 => ?_)
  obtain rfl : 0 = r1 := hr1.symm
  refine lv_if_ne (tgt := 14) hx hb dX11_lose_8 (by decide) (fun c2 => ?_) (fun c2 => ?_)
  · exact absurd rfl c2
  · skip
    refine lv_ldc hx hb hown (ht _ m_476) dX11_lose_11 ?_
    exact W.iret (v := (-100001)) hx hb hr (fun t ht9 hW => ⟨(-100001), rfl, rfl, ht9⟩) (fun q hq => by cases hq) dX11_lose_13
set_option maxHeartbeats 4000000 in
set_option maxRecDepth 100000 in
/-- X11_told -/
theorem c_X11_told (l : Launch) (dC : Nat → ClassId) (dI : Nat → Nat → Nat) (h : Nat) (g : Nat → Nat → Nat) (ca : Nat → Nat → ClassId) (a0 : Int32) (a1 : Int32) : Met l yX11_told (wc yX11_told cX11_told 3 (some .int)) ({ frames := 1, cells := 0, slots := 0, locals := 21 } : Room) (pR (dC, dI) classes [(h, .inr (11, (o11 h g))), ((g 11 0), .inr (10, (o10 h g)))] [] [.ref h, .int a0, .int a1]) (vp_Si (fun r => r = -100001)) 0 0 (fun _ => False) := by
  refine Met.ofW (cc := cX11_told) (maxL := 3) (ret := (some .int)) (by decide) rfl ?_
  intro p e s m args below meth c s₁ B hml hv
  obtain ⟨rfl, hP, hK⟩ := hv
  have hx := B.exec
  have hb := B.bytes
  have hr := B.returns
  have ht := tb_tl (atoms_spec (ws := wc yX11_told cX11_told 3 (some .int)) B.pre)
  have hown : s.vm.findClass RX11 = some m.cls := findClass_of_methodNamed B.named
  have hlocks := B.notSynchronized
  have hl := lv_entry [.ref h, .int a0, .int a1] (n := 3) (Nat.le_of_ble_eq_true rfl)
  rw [lg_entry_eq]
  generalize (lg_sl [.ref h, .int a0, .int a1] ++ List.replicate (3 - (lg_sl [.ref h, .int a0, .int a1]).length) Slot.unset).toArray = ls at hl ⊢
  have hl : lv_has ls 3 [(0, .ref h), (1, .int a0), (2, .int a1)] := hl
  refine lv_aload_n hx hb dX11_told_0 rfl (lv_at hl 0 rfl) ?_
  refine va_get (D := (dC, dI)) (ci := 11) (v := .ref (g 11 0)) (C := RX11) (T := TX11) (N := 11) hx hb ht inX11 hown hK hP 0 rfl rfl 0 (by decide) (ht _ m_415) (fun _ h9 => h9) rfl dX11_told_1 ?_
  refine lv_iload_n hx hb dX11_told_4 rfl (lv_at hl 1 rfl) ?_
  have hPc := hP.sub (ws' := [((g 11 0), .inr (10, (o10 h g)))]) [1] rfl
  have hKc := hK.sub (tys' := []) [] rfl
  refine vp_callSi (W.runV (As := [.int a0]) (rest := []) ⟨hx, hb, hml, hown, ht⟩ (c_X10_has l dC dI h g ca a0) (kV 1 ht m_509 m_510 m_511 m_78 m_512 rfl rfl hd_X10_has_v ⟨Nat.le_of_ble_eq_true rfl, Nat.le_of_ble_eq_true rfl⟩) (vR hPc hKc (va_recv hKc hPc (ci := 10) (q0 := 0) rfl rfl)) rfl rfl hl.1 rfl (lv_room (Nat.le_of_ble_eq_true rfl)) dX11_told_5 ⟨Nat.le_of_ble_eq_true rfl, Nat.le_of_ble_eq_true rfl⟩) (fun r1 hr1 => ?_)
  obtain rfl : 0 = r1 := hr1.symm
  refine lv_if_ne (tgt := 14) hx hb dX11_told_8 (by decide) (fun c2 => ?_) (fun c2 => ?_)
  · exact absurd rfl c2
  · skip
    refine lv_ldc hx hb hown (ht _ m_476) dX11_told_11 ?_
    exact W.iret (v := (-100001)) hx hb hr (fun t ht9 hW => ⟨(-100001), rfl, rfl, ht9⟩) (fun q hq => by cases hq) dX11_told_13
set_option maxHeartbeats 4000000 in
set_option maxRecDepth 100000 in
/-- X11_letter -/
theorem c_X11_letter (l : Launch) (dC : Nat → ClassId) (dI : Nat → Nat → Nat) (h : Nat) (g : Nat → Nat → Nat) (ca : Nat → Nat → ClassId) (a0 : Int32) (a1 : Int32) : Met l yX11_letter (wc yX11_letter cX11_letter 3 (some .int)) ({ frames := 1, cells := 0, slots := 0, locals := 21 } : Room) (pR (dC, dI) classes [(h, .inr (11, (o11 h g))), ((g 11 3), .inr (1, (o1 h g)))] [] [.ref h, .int a0, .int a1]) (vp_Si (fun r => r = -100001)) 0 0 (fun _ => False) := by
  refine Met.ofW (cc := cX11_letter) (maxL := 3) (ret := (some .int)) (by decide) rfl ?_
  intro p e s m args below meth c s₁ B hml hv
  obtain ⟨rfl, hP, hK⟩ := hv
  have hx := B.exec
  have hb := B.bytes
  have hr := B.returns
  have ht := tb_tl (atoms_spec (ws := wc yX11_letter cX11_letter 3 (some .int)) B.pre)
  have hown : s.vm.findClass RX11 = some m.cls := findClass_of_methodNamed B.named
  have hlocks := B.notSynchronized
  have hl := lv_entry [.ref h, .int a0, .int a1] (n := 3) (Nat.le_of_ble_eq_true rfl)
  rw [lg_entry_eq]
  generalize (lg_sl [.ref h, .int a0, .int a1] ++ List.replicate (3 - (lg_sl [.ref h, .int a0, .int a1]).length) Slot.unset).toArray = ls at hl ⊢
  have hl : lv_has ls 3 [(0, .ref h), (1, .int a0), (2, .int a1)] := hl
  refine lv_aload_n hx hb dX11_letter_0 rfl (lv_at hl 0 rfl) ?_
  refine va_get (D := (dC, dI)) (ci := 11) (v := .ref (g 11 3)) (C := RX11) (T := TX11) (N := 11) hx hb ht inX11 hown hK hP 0 rfl rfl 3 (by decide) (ht _ m_418) (fun _ h9 => h9) rfl dX11_letter_1 ?_
  refine lv_iload_n hx hb dX11_letter_4 rfl (lv_at hl 1 rfl) ?_
  have hPc := hP.sub (ws' := [((g 11 3), .inr (1, (o1 h g)))]) [1] rfl
  have hKc := hK.sub (tys' := []) [] rfl
  refine vp_callSi (W.runV (As := [.int a0]) (rest := []) ⟨hx, hb, hml, hown, ht⟩ (c_X1_has l dC dI h g ca a0) (kV 1 ht m_821 m_822 m_823 m_81 m_824 rfl rfl hd_X1_has_v ⟨Nat.le_of_ble_eq_true rfl, Nat.le_of_ble_eq_true rfl⟩) (vR hPc hKc (va_recv hKc hPc (ci := 1) (q0 := 0) rfl rfl)) rfl rfl hl.1 rfl (lv_room (Nat.le_of_ble_eq_true rfl)) dX11_letter_5 ⟨Nat.le_of_ble_eq_true rfl, Nat.le_of_ble_eq_true rfl⟩) (fun r1 hr1 => ?_)
  obtain rfl : 0 = r1 := hr1.symm
  refine lv_if_eq (tgt := 23) hx hb dX11_letter_8 (by decide) (fun c2 => ?_) (fun c2 => ?_)
  · skip
    refine lv_ldc hx hb hown (ht _ m_476) dX11_letter_23 ?_
    exact W.iret (v := (-100001)) hx hb hr (fun t ht9 hW => ⟨(-100001), rfl, rfl, ht9⟩) (fun q hq => by cases hq) dX11_letter_25
  · exact absurd rfl c2
set_option maxHeartbeats 4000000 in
set_option maxRecDepth 100000 in
/-- X11_bill -/
theorem c_X11_bill (l : Launch) (dC : Nat → ClassId) (dI : Nat → Nat → Nat) (h : Nat) (g : Nat → Nat → Nat) (ca : Nat → Nat → ClassId) (a0 : Int32) (a1 : Int32) : Met l yX11_bill (wc yX11_bill cX11_bill 3 (some .int)) ({ frames := 1, cells := 0, slots := 0, locals := 21 } : Room) (pR (dC, dI) classes [(h, .inr (11, (o11 h g))), ((g 11 9), .inr (6, (o6 h g)))] [] [.ref h, .int a0, .int a1]) (vp_Si (fun r => r = -100001)) 0 0 (fun _ => False) := by
  refine Met.ofW (cc := cX11_bill) (maxL := 3) (ret := (some .int)) (by decide) rfl ?_
  intro p e s m args below meth c s₁ B hml hv
  obtain ⟨rfl, hP, hK⟩ := hv
  have hx := B.exec
  have hb := B.bytes
  have hr := B.returns
  have ht := tb_tl (atoms_spec (ws := wc yX11_bill cX11_bill 3 (some .int)) B.pre)
  have hown : s.vm.findClass RX11 = some m.cls := findClass_of_methodNamed B.named
  have hlocks := B.notSynchronized
  have hl := lv_entry [.ref h, .int a0, .int a1] (n := 3) (Nat.le_of_ble_eq_true rfl)
  rw [lg_entry_eq]
  generalize (lg_sl [.ref h, .int a0, .int a1] ++ List.replicate (3 - (lg_sl [.ref h, .int a0, .int a1]).length) Slot.unset).toArray = ls at hl ⊢
  have hl : lv_has ls 3 [(0, .ref h), (1, .int a0), (2, .int a1)] := hl
  refine lv_aload_n hx hb dX11_bill_0 rfl (lv_at hl 0 rfl) ?_
  refine va_get (D := (dC, dI)) (ci := 11) (v := .ref (g 11 9)) (C := RX11) (T := TX11) (N := 11) hx hb ht inX11 hown hK hP 0 rfl rfl 9 (by decide) (ht _ m_424) (fun _ h9 => h9) rfl dX11_bill_1 ?_
  refine lv_iload_n hx hb dX11_bill_4 rfl (lv_at hl 1 rfl) ?_
  have hPc := hP.sub (ws' := [((g 11 9), .inr (6, (o6 h g)))]) [1] rfl
  have hKc := hK.sub (tys' := []) [] rfl
  refine vp_callSi (W.runV (As := [.int a0]) (rest := []) ⟨hx, hb, hml, hown, ht⟩ (c_X6_has l dC dI h g ca a0) (kV 1 ht m_1095 m_1096 m_1097 m_88 m_1098 rfl rfl hd_X6_has_v ⟨Nat.le_of_ble_eq_true rfl, Nat.le_of_ble_eq_true rfl⟩) (vR hPc hKc (va_recv hKc hPc (ci := 6) (q0 := 0) rfl rfl)) rfl rfl hl.1 rfl (lv_room (Nat.le_of_ble_eq_true rfl)) dX11_bill_5 ⟨Nat.le_of_ble_eq_true rfl, Nat.le_of_ble_eq_true rfl⟩) (fun r1 hr1 => ?_)
  obtain rfl : 0 = r1 := hr1.symm
  refine lv_if_ne (tgt := 14) hx hb dX11_bill_8 (by decide) (fun c2 => ?_) (fun c2 => ?_)
  · exact absurd rfl c2
  · skip
    refine lv_ldc hx hb hown (ht _ m_476) dX11_bill_11 ?_
    exact W.iret (v := (-100001)) hx hb hr (fun t ht9 hW => ⟨(-100001), rfl, rfl, ht9⟩) (fun q hq => by cases hq) dX11_bill_13
end
section
set_option maxHeartbeats 4000000 in
set_option maxRecDepth 100000 in
/-- X11_cut -/
theorem c_X11_cut (l : Launch) (dC : Nat → ClassId) (dI : Nat → Nat → Nat) (h : Nat) (g : Nat → Nat → Nat) (ca : Nat → Nat → ClassId) (a0 : Int32) (a1 : Int32) (a2 : Int32) : Met l yX11_cut (wc yX11_cut cX11_cut 5 (some .int)) ({ frames := 1, cells := 0, slots := 0, locals := 21 } : Room) (pR (dC, dI) classes [(h, .inr (11, (o11 h g))), ((g 11 9), .inr (6, (o6 h g)))] [] [.ref h, .int a0, .int a1, .int a2]) (vp_Si (fun r => r = -100001)) 0 0 (fun _ => False) := by
  refine Met.ofW (cc := cX11_cut) (maxL := 5) (ret := (some .int)) (by decide) rfl ?_
  intro p e s m args below meth c s₁ B hml hv
  obtain ⟨rfl, hP, hK⟩ := hv
  have hx := B.exec
  have hb := B.bytes
  have hr := B.returns
  have ht := tb_tl (atoms_spec (ws := wc yX11_cut cX11_cut 5 (some .int)) B.pre)
  have hown : s.vm.findClass RX11 = some m.cls := findClass_of_methodNamed B.named
  have hlocks := B.notSynchronized
  have hl := lv_entry [.ref h, .int a0, .int a1, .int a2] (n := 5) (Nat.le_of_ble_eq_true rfl)
  rw [lg_entry_eq]
  generalize (lg_sl [.ref h, .int a0, .int a1, .int a2] ++ List.replicate (5 - (lg_sl [.ref h, .int a0, .int a1, .int a2]).length) Slot.unset).toArray = ls at hl ⊢
  have hl : lv_has ls 5 [(0, .ref h), (1, .int a0), (2, .int a1), (3, .int a2)] := hl
  refine lv_aload_n hx hb dX11_cut_0 rfl (lv_at hl 0 rfl) ?_
  refine va_get (D := (dC, dI)) (ci := 11) (v := .ref (g 11 9)) (C := RX11) (T := TX11) (N := 11) hx hb ht inX11 hown hK hP 0 rfl rfl 9 (by decide) (ht _ m_424) (fun _ h9 => h9) rfl dX11_cut_1 ?_
  refine lv_iload_n hx hb dX11_cut_4 rfl (lv_at hl 1 rfl) ?_
  have hPc := hP.sub (ws' := [((g 11 9), .inr (6, (o6 h g)))]) [1] rfl
  have hKc := hK.sub (tys' := []) [] rfl
  refine vp_callSi (W.runV (As := [.int a0]) (rest := []) ⟨hx, hb, hml, hown, ht⟩ (c_X6_has l dC dI h g ca a0) (kV 1 ht m_1095 m_1096 m_1097 m_88 m_1098 rfl rfl hd_X6_has_v ⟨Nat.le_of_ble_eq_true rfl, Nat.le_of_ble_eq_true rfl⟩) (vR hPc hKc (va_recv hKc hPc (ci := 6) (q0 := 0) rfl rfl)) rfl rfl hl.1 rfl (lv_room (Nat.le_of_ble_eq_true rfl)) dX11_cut_5 ⟨Nat.le_of_ble_eq_true rfl, Nat.le_of_ble_eq_true rfl⟩) (fun r1 hr1 => ?_)
  obtain rfl : 0 = r1 := hr1.symm
  refine lv_if_ne (tgt := 14) hx hb dX11_cut_8 (by decide) (fun c2 => ?_) (fun c2 => ?_)
  · exact absurd rfl c2
  · skip
    refine lv_ldc hx hb hown (ht _ m_476) dX11_cut_11 ?_
    exact W.iret (v := (-100001)) hx hb hr (fun t ht9 hW => ⟨(-100001), rfl, rfl, ht9⟩) (fun q hq => by cases hq) dX11_cut_13
set_option maxHeartbeats 4000000 in
set_option maxRecDepth 100000 in
/-- X11_undo -/
theorem c_X11_undo (l : Launch) (dC : Nat → ClassId) (dI : Nat → Nat → Nat) (h : Nat) (g : Nat → Nat → Nat) (ca : Nat → Nat → ClassId) (a0 : Int32) : Met l yX11_undo (wc yX11_undo cX11_undo 2 (some .int)) ({ frames := 1, cells := 0, slots := 0, locals := 21 } : Room) (pR (dC, dI) classes [(h, .inr (11, (o11 h g))), ((g 11 9), .inr (6, (o6 h g)))] [] [.ref h, .int a0]) (vp_Si (fun r => r = -100001)) 0 0 (fun _ => False) := by
  refine Met.ofW (cc := cX11_undo) (maxL := 2) (ret := (some .int)) (by decide) rfl ?_
  intro p e s m args below meth c s₁ B hml hv
  obtain ⟨rfl, hP, hK⟩ := hv
  have hx := B.exec
  have hb := B.bytes
  have hr := B.returns
  have ht := tb_tl (atoms_spec (ws := wc yX11_undo cX11_undo 2 (some .int)) B.pre)
  have hown : s.vm.findClass RX11 = some m.cls := findClass_of_methodNamed B.named
  have hlocks := B.notSynchronized
  have hl := lv_entry [.ref h, .int a0] (n := 2) (Nat.le_of_ble_eq_true rfl)
  rw [lg_entry_eq]
  generalize (lg_sl [.ref h, .int a0] ++ List.replicate (2 - (lg_sl [.ref h, .int a0]).length) Slot.unset).toArray = ls at hl ⊢
  have hl : lv_has ls 2 [(0, .ref h), (1, .int a0)] := hl
  refine lv_aload_n hx hb dX11_undo_0 rfl (lv_at hl 0 rfl) ?_
  refine va_get (D := (dC, dI)) (ci := 11) (v := .ref (g 11 9)) (C := RX11) (T := TX11) (N := 11) hx hb ht inX11 hown hK hP 0 rfl rfl 9 (by decide) (ht _ m_424) (fun _ h9 => h9) rfl dX11_undo_1 ?_
  refine lv_iload_n hx hb dX11_undo_4 rfl (lv_at hl 1 rfl) ?_
  have hPc := hP.sub (ws' := [((g 11 9), .inr (6, (o6 h g)))]) [1] rfl
  have hKc := hK.sub (tys' := []) [] rfl
  refine vp_callSi (W.runV (As := [.int a0]) (rest := []) ⟨hx, hb, hml, hown, ht⟩ (c_X6_has l dC dI h g ca a0) (kV 1 ht m_1095 m_1096 m_1097 m_88 m_1098 rfl rfl hd_X6_has_v ⟨Nat.le_of_ble_eq_true rfl, Nat.le_of_ble_eq_true rfl⟩) (vR hPc hKc (va_recv hKc hPc (ci := 6) (q0 := 0) rfl rfl)) rfl rfl hl.1 rfl (lv_room (Nat.le_of_ble_eq_true rfl)) dX11_undo_5 ⟨Nat.le_of_ble_eq_true rfl, Nat.le_of_ble_eq_true rfl⟩) (fun r1 hr1 => ?_)
  obtain rfl : 0 = r1 := hr1.symm
  refine lv_if_ne (tgt := 14) hx hb dX11_undo_8 (by decide) (fun c2 => ?_) (fun c2 => ?_)
  · exact absurd rfl c2
  · skip
    refine lv_ldc hx hb hown (ht _ m_476) dX11_undo_11 ?_
    exact W.iret (v := (-100001)) hx hb hr (fun t ht9 hW => ⟨(-100001), rfl, rfl, ht9⟩) (fun q hq => by cases hq) dX11_undo_13
set_option maxHeartbeats 4000000 in
set_option maxRecDepth 100000 in
/-- X11_paper -/
theorem c_X11_paper (l : Launch) (dC : Nat → ClassId) (dI : Nat → Nat → Nat) (h : Nat) (g : Nat → Nat → Nat) (ca : Nat → Nat → ClassId) (a0 : Int32) (a1 : Int32) : Met l yX11_paper (wc yX11_paper cX11_paper 3 (some .int)) ({ frames := 1, cells := 0, slots := 0, locals := 21 } : Room) (pR (dC, dI) classes [(h, .inr (11, (o11 h g))), ((g 11 9), .inr (6, (o6 h g)))] [] [.ref h, .int a0, .int a1]) (vp_Si (fun r => r = -100001)) 0 0 (fun _ => False) := by
  refine Met.ofW (cc := cX11_paper) (maxL := 3) (ret := (some .int)) (by decide) rfl ?_
  intro p e s m args below meth c s₁ B hml hv
  obtain ⟨rfl, hP, hK⟩ := hv
  have hx := B.exec
  have hb := B.bytes
  have hr := B.returns
  have ht := tb_tl (atoms_spec (ws := wc yX11_paper cX11_paper 3 (some .int)) B.pre)
  have hown : s.vm.findClass RX11 = some m.cls := findClass_of_methodNamed B.named
  have hlocks := B.notSynchronized
  have hl := lv_entry [.ref h, .int a0, .int a1] (n := 3) (Nat.le_of_ble_eq_true rfl)
  rw [lg_entry_eq]
  generalize (lg_sl [.ref h, .int a0, .int a1] ++ List.replicate (3 - (lg_sl [.ref h, .int a0, .int a1]).length) Slot.unset).toArray = ls at hl ⊢
  have hl : lv_has ls 3 [(0, .ref h), (1, .int a0), (2, .int a1)] := hl
  refine lv_aload_n hx hb dX11_paper_0 rfl (lv_at hl 0 rfl) ?_
  refine va_get (D := (dC, dI)) (ci := 11) (v := .ref (g 11 9)) (C := RX11) (T := TX11) (N := 11) hx hb ht inX11 hown hK hP 0 rfl rfl 9 (by decide) (ht _ m_424) (fun _ h9 => h9) rfl dX11_paper_1 ?_
  refine lv_iload_n hx hb dX11_paper_4 rfl (lv_at hl 1 rfl) ?_
  have hPc := hP.sub (ws' := [((g 11 9), .inr (6, (o6 h g)))]) [1] rfl
  have hKc := hK.sub (tys' := []) [] rfl
  refine vp_callSi (W.runV (As := [.int a0]) (rest := []) ⟨hx, hb, hml, hown, ht⟩ (c_X6_has l dC dI h g ca a0) (kV 1 ht m_1095 m_1096 m_1097 m_88 m_1098 rfl rfl hd_X6_has_v ⟨Nat.le_of_ble_eq_true rfl, Nat.le_of_ble_eq_true rfl⟩) (vR hPc hKc (va_recv hKc hPc (ci := 6) (q0 := 0) rfl rfl)) rfl rfl hl.1 rfl (lv_room (Nat.le_of_ble_eq_true rfl)) dX11_paper_5 ⟨Nat.le_of_ble_eq_true rfl, Nat.le_of_ble_eq_true rfl⟩) (fun r1 hr1 => ?_)
  obtain rfl : 0 = r1 := hr1.symm
  refine lv_if_ne (tgt := 14) hx hb dX11_paper_8 (by decide) (fun c2 => ?_) (fun c2 => ?_)
  · exact absurd rfl c2
  · skip
    refine lv_ldc hx hb hown (ht _ m_476) dX11_paper_11 ?_
    exact W.iret (v := (-100001)) hx hb hr (fun t ht9 hW => ⟨(-100001), rfl, rfl, ht9⟩) (fun q hq => by cases hq) dX11_paper_13
set_option maxHeartbeats 4000000 in
set_option maxRecDepth 100000 in
/-- X11_test -/
theorem c_X11_test (l : Launch) (dC : Nat → ClassId) (dI : Nat → Nat → Nat) (sz : Nat) (h : Nat) (g : Nat → Nat → Nat) (ca : Nat → Nat → ClassId) (a : Int32) (b : Int32) (d : Int32) : Met l yX11_test (wc yX11_test cX11_test 4 (some .int)) ({ frames := 1, cells := 0, slots := 0, locals := 23 } : Room) (pW (dC, dI) classes [(h, .inr (11, (o11 h g))), ((g 11 1), .inr (9, (o9 h g))), ((g 9 0), .inl ((ca 9 0), 30, .inl (fun _ => 0))), ((g 9 1), .inl ((ca 9 1), 30, .inl (fun _ => 0))), ((g 9 2), .inl ((ca 9 2), 30, .inl (fun _ => 0)))] [((ca 9 0), .int), ((ca 9 1), .int), ((ca 9 2), .int)] sz [.ref h, .int a, .int b, .int d]) (va_Qi (fun r (_ : Unit) => r = F_test a b d) (fun _ _ => True) (va_A [(h, .inr (11, (o11 h g))), ((g 11 1), .inr (9, (o9 h g))), ((g 9 0), .inl ((ca 9 0), 30, .inl (fun _ => 0))), ((g 9 1), .inl ((ca 9 1), 30, .inl (fun _ => 0))), ((g 9 2), .inl ((ca 9 2), 30, .inl (fun _ => 0)))] sz)) 0 0 (va_A [(h, .inr (11, (o11 h g))), ((g 11 1), .inr (9, (o9 h g))), ((g 9 0), .inl ((ca 9 0), 30, .inl (fun _ => 0))), ((g 9 1), .inl ((ca 9 1), 30, .inl (fun _ => 0))), ((g 9 2), .inl ((ca 9 2), 30, .inl (fun _ => 0)))] sz) := by
  refine Met.ofW (cc := cX11_test) (maxL := 4) (ret := (some .int)) (by decide) rfl ?_
  intro p e s m args below meth c s₁ B hml hv
  obtain ⟨rfl, hsz, hP, hK, hD0⟩ := hv
  have hx := B.exec
  have hb := B.bytes
  have hr := B.returns
  have ht := tb_tl (atoms_spec (ws := wc yX11_test cX11_test 4 (some .int)) B.pre)
  have hown : s.vm.findClass RX11 = some m.cls := findClass_of_methodNamed B.named
  have hlocks := B.notSynchronized
  subst hsz
  have hD := hD0.self (sz := s.heap.size)
  generalize hAe : va_A [(h, .inr (11, (o11 h g))), ((g 11 1), .inr (9, (o9 h g))), ((g 9 0), .inl ((ca 9 0), 30, .inl (fun _ => 0))), ((g 9 1), .inl ((ca 9 1), 30, .inl (fun _ => 0))), ((g 9 2), .inl ((ca 9 2), 30, .inl (fun _ => 0)))] s.heap.size = A at hD ⊢
  have hA : ∀ q : Nat, s.heap.size ≤ q → A q := fun q h => by rw [← hAe]; exact Or.inr h
  have hS : va_S A s.heap s.heap [] := va_S.rf
  have hP : va_P (dC, dI) classes [(h, .inr (11, (o11 h g))), ((g 11 1), .inr (9, (o9 h g))), ((g 9 0), .inl ((ca 9 0), 30, .inl (fun _ => 0))), ((g 9 1), .inl ((ca 9 1), 30, .inl (fun _ => 0))), ((g 9 2), .inl ((ca 9 2), 30, .inl (fun _ => 0)))] s.heap := hP
  have hl := lv_entry [.ref h, .int a, .int b, .int d] (n := 4) (Nat.le_of_ble_eq_true rfl)
  rw [lg_entry_eq]
  generalize (lg_sl [.ref h, .int a, .int b, .int d] ++ List.replicate (4 - (lg_sl [.ref h, .int a, .int b, .int d]).length) Slot.unset).toArray = ls at hl ⊢
  have hl : lv_has ls 4 [(0, .ref h), (1, .int a), (2, .int b), (3, .int d)] := hl
  refine lv_iload_n hx hb dX11_test_0 rfl (lv_at hl 1 rfl) ?_
  refine lv_iconst (v := 0) hx hb dX11_test_1 (by decide) ?_
  refine lv_iconst (v := 3) hx hb dX11_test_2 (by decide) ?_
  have hPc := hP.sub (ws' := []) [] rfl
  have hKc := hK.sub (tys' := []) [] rfl
  refine vp_callSi (W.runS (As := [.int a, .int 0, .int 3]) (rest := []) ⟨hx, hb, hml, hown, ht⟩ (c_X11_within l dC dI a 0 3 (a.toInt) (0) (3) (rfl : (a).toInt = _) (by decide : (0 : Int32).toInt = 0) (by decide : (3 : Int32).toInt = 3)) (kS 3 ht m_453 m_454 m_77 m_455 rfl rfl hd_X11_within_v ⟨Nat.le_of_ble_eq_true rfl, Nat.le_of_ble_eq_true rfl⟩) (sR hPc hKc) rfl rfl hl.1 rfl (lv_room (Nat.le_of_ble_eq_true rfl)) dX11_test_3 ⟨Nat.le_of_ble_eq_true rfl, Nat.le_of_ble_eq_true rfl⟩) (fun r1 hr1 => ?_)
  rcases hr1 with ⟨rfl, fr1⟩ | ⟨rfl, fr1⟩
  · skip
    refine lv_if_eq (tgt := 31) hx hb dX11_test_6 (by decide) (fun c2 => ?_) (fun c2 => ?_)
    · exact absurd c2 (by decide)
    · skip
      refine lv_iload_n hx hb dX11_test_9 rfl (lv_at hl 2 rfl) ?_
      refine lv_iconst (v := 1) hx hb dX11_test_10 (by decide) ?_
      refine lv_sipush (v := 9999) hx hb dX11_test_11 (by decide) ?_
      have hPc := hP.sub (ws' := []) [] rfl
      have hKc := hK.sub (tys' := []) [] rfl
      refine vp_callSi (W.runS (As := [.int b, .int 1, .int 9999]) (rest := []) ⟨hx, hb, hml, hown, ht⟩ (c_X11_within l dC dI b 1 9999 (b.toInt) (1) (9999) (rfl : (b).toInt = _) (by decide : (1 : Int32).toInt = 1) (by decide : (9999 : Int32).toInt = 9999)) (kS 3 ht m_453 m_454 m_77 m_455 rfl rfl hd_X11_within_v ⟨Nat.le_of_ble_eq_true rfl, Nat.le_of_ble_eq_true rfl⟩) (sR hPc hKc) rfl rfl hl.1 rfl (lv_room (Nat.le_of_ble_eq_true rfl)) dX11_test_14 ⟨Nat.le_of_ble_eq_true rfl, Nat.le_of_ble_eq_true rfl⟩) (fun r3 hr3 => ?_)
      rcases hr3 with ⟨rfl, fr3⟩ | ⟨rfl, fr3⟩
      · skip
        refine lv_if_eq (tgt := 31) hx hb dX11_test_17 (by decide) (fun c4 => ?_) (fun c4 => ?_)
        · exact absurd c4 (by decide)
        · skip
          refine lv_iload_n hx hb dX11_test_20 rfl (lv_at hl 3 rfl) ?_
          refine lv_iconst (v := 1) hx hb dX11_test_21 (by decide) ?_
          refine lv_sipush (v := 9999) hx hb dX11_test_22 (by decide) ?_
          have hPc := hP.sub (ws' := []) [] rfl
          have hKc := hK.sub (tys' := []) [] rfl
          refine vp_callSi (W.runS (As := [.int d, .int 1, .int 9999]) (rest := []) ⟨hx, hb, hml, hown, ht⟩ (c_X11_within l dC dI d 1 9999 (d.toInt) (1) (9999) (rfl : (d).toInt = _) (by decide : (1 : Int32).toInt = 1) (by decide : (9999 : Int32).toInt = 9999)) (kS 3 ht m_453 m_454 m_77 m_455 rfl rfl hd_X11_within_v ⟨Nat.le_of_ble_eq_true rfl, Nat.le_of_ble_eq_true rfl⟩) (sR hPc hKc) rfl rfl hl.1 rfl (lv_room (Nat.le_of_ble_eq_true rfl)) dX11_test_25 ⟨Nat.le_of_ble_eq_true rfl, Nat.le_of_ble_eq_true rfl⟩) (fun r5 hr5 => ?_)
          rcases hr5 with ⟨rfl, fr5⟩ | ⟨rfl, fr5⟩
          · skip
            refine lv_if_ne (tgt := 34) hx hb dX11_test_28 (by decide) (fun c6 => ?_) (fun c6 => ?_)
            · skip
              refine lv_aload_n hx hb dX11_test_34 rfl (lv_at hl 0 rfl) ?_
              refine va_get (D := (dC, dI)) (ci := 11) (v := .ref (g 11 1)) (C := RX11) (T := TX11) (N := 11) hx hb ht inX11 hown hK hP 0 rfl rfl 1 (by decide) (ht _ m_416) (fun _ h9 => h9) rfl dX11_test_35 ?_
              refine va_get (D := (dC, dI)) (ci := 9) (v := .int 0) (C := RX9) (T := TX9) (N := 4) hx hb ht inX9 hown hK hP 1 rfl rfl 3 (by decide) (ht _ m_136) (fun _ h9 => h9) rfl dX11_test_38 ?_
              refine lv_bipush (v := 30) hx hb dX11_test_41 (by decide) ?_
              refine lv_icmp_lt (tgt := 49) hx hb dX11_test_43 (by decide) (fun c7 => ?_) (fun c7 => ?_)
              · skip
                refine lv_aload_n hx hb dX11_test_49 rfl (lv_at hl 0 rfl) ?_
                refine va_get (D := (dC, dI)) (ci := 11) (v := .ref (g 11 1)) (C := RX11) (T := TX11) (N := 11) hx hb ht inX11 hown hK hP 0 rfl rfl 1 (by decide) (ht _ m_416) (fun _ h9 => h9) rfl dX11_test_50 ?_
                refine lv_iload_n hx hb dX11_test_53 rfl (lv_at hl 1 rfl) ?_
                refine lv_aload_n hx hb dX11_test_54 rfl (lv_at hl 0 rfl) ?_
                refine va_get (D := (dC, dI)) (ci := 11) (v := .int 0) (C := RX11) (T := TX11) (N := 11) hx hb ht inX11 hown hK hP 0 rfl rfl 10 (by decide) (ht _ m_425) (fun _ h9 => h9) rfl dX11_test_55 ?_
                refine lv_iload_n hx hb dX11_test_58 rfl (lv_at hl 2 rfl) ?_
                refine lv_iload_n hx hb dX11_test_59 rfl (lv_at hl 3 rfl) ?_
                refine lv_isub hx hb dX11_test_60 ?_
                refine lv_topi (fun v8 ev8 => ?_)
                have tv8 := z_sub ev8 (rfl : (b).toInt = _) (rfl : (d).toInt = _) (by omega) (by omega)
                have hPc := hP.sub (ws' := [((g 11 1), .inr (9, (o9 h g))), ((g 9 0), .inl ((ca 9 0), 30, .inl (fun _ => 0))), ((g 9 1), .inl ((ca 9 1), 30, .inl (fun _ => 0))), ((g 9 2), .inl ((ca 9 2), 30, .inl (fun _ => 0)))]) [1, 2, 3, 4] rfl
                have hKc := hK.sub (tys' := [((ca 9 0), .int), ((ca 9 1), .int), ((ca 9 2), .int)]) [0, 1, 2] rfl
                have hDc := hD.sub (ws' := [((g 11 1), .inr (9, (o9 h g))), ((g 9 0), .inl ((ca 9 0), 30, .inl (fun _ => 0))), ((g 9 1), .inl ((ca 9 1), 30, .inl (fun _ => 0))), ((g 9 2), .inl ((ca 9 2), 30, .inl (fun _ => 0)))]) [1, 2, 3, 4] (by decide) rfl
                have hFc := va_free (wc := [((g 11 1), .inr (9, (o9 h g))), ((g 9 0), .inl ((ca 9 0), 30, .inl (fun _ => 0))), ((g 9 1), .inl ((ca 9 1), 30, .inl (fun _ => 0))), ((g 9 2), .inl ((ca 9 2), 30, .inl (fun _ => 0)))]) hD hS hA [1, 2, 3, 4] rfl
                refine va_calli (va_runV (As := [.int a, .int 0, .int v8]) (rest := []) ⟨hx, hb, hml, hown, ht⟩ (c_X9_note l dC dI H.size h g ca a v8) (kV 3 ht m_526 m_527 m_528 m_79 m_529 rfl rfl hd_X9_note_v ⟨Nat.le_of_ble_eq_true rfl, Nat.le_of_ble_eq_true rfl⟩) (vW hPc hKc hDc (va_recv hKc hPc (ci := 9) (q0 := 0) rfl rfl)) rfl rfl hl.1 rfl (lv_room (Nat.le_of_ble_eq_true rfl)) dX11_test_61 ⟨Nat.le_of_ble_eq_true rfl, Nat.le_of_ble_eq_true rfl⟩) hS (fun q _ h => hFc q h) hFc (fun r9 u t H1 locs ht9 hvm hr9 hB hz1 hk1 hS => ?_)
                have hP1 : va_P (dC, dI) classes [] H1 := noP
                have hD1 : va_D (va_A [((g 11 1), .inr (9, (o9 h g))), ((g 9 0), .inl ((ca 9 0), 30, .inl (fun _ => 0))), ((g 9 1), .inl ((ca 9 1), 30, .inl (fun _ => 0))), ((g 9 2), .inl ((ca 9 2), 30, .inl (fun _ => 0)))] H.size) [] := noD
                obtain ⟨hP, hD⟩ := va_join (wr := [(h, .inr (11, (o11 h g)))]) (w1 := []) hP hD [1, 2, 3, 4] [0] rfl rfl (by decide) (by decide) hk1 hFc hP1 hD1
                generalize H1 = H at hP hS ⊢
                have hP : va_P (dC, dI) classes [(h, .inr (11, (o11 h g)))] H := hP
                have hD : va_D A [(h, .inr (11, (o11 h g)))] := hD
                obtain rfl : 1 = r9 := hr9.symm
                exact W.iret (v := 1) hx hb hr (fun t ht9 hW => ⟨⟨1, (), rfl, (by unfold F_test; first | decide | ((repeat' split) <;> first | rfl | (exfalso; omega) | exact z_of (by decide) (by omega))), trivial⟩, hS.F ht9⟩) hS.2.2 dX11_test_64
              · exact absurd c7 (by decide)
            · exact absurd c6 (by decide)
          · skip
            refine lv_if_ne (tgt := 34) hx hb dX11_test_28 (by decide) (fun c10 => ?_) (fun c10 => ?_)
            · exact absurd rfl c10
            · skip
              refine lv_ldc hx hb hown (ht _ m_456) dX11_test_31 ?_
              exact W.iret (v := (-100002)) hx hb hr (fun t ht9 hW => ⟨⟨(-100002), (), rfl, (by unfold F_test; first | decide | ((repeat' split) <;> first | rfl | (exfalso; omega) | exact z_of (by decide) (by omega))), trivial⟩, hS.F ht9⟩) hS.2.2 dX11_test_33
      · skip
        refine lv_if_eq (tgt := 31) hx hb dX11_test_17 (by decide) (fun c11 => ?_) (fun c11 => ?_)
        · skip
          refine lv_ldc hx hb hown (ht _ m_456) dX11_test_31 ?_
          exact W.iret (v := (-100002)) hx hb hr (fun t ht9 hW => ⟨⟨(-100002), (), rfl, (by unfold F_test; first | decide | ((repeat' split) <;> first | rfl | (exfalso; omega) | exact z_of (by decide) (by omega))), trivial⟩, hS.F ht9⟩) hS.2.2 dX11_test_33
        · exact absurd rfl c11
  · skip
    refine lv_if_eq (tgt := 31) hx hb dX11_test_6 (by decide) (fun c12 => ?_) (fun c12 => ?_)
    · skip
      refine lv_ldc hx hb hown (ht _ m_456) dX11_test_31 ?_
      exact W.iret (v := (-100002)) hx hb hr (fun t ht9 hW => ⟨⟨(-100002), (), rfl, (by unfold F_test; first | decide | ((repeat' split) <;> first | rfl | (exfalso; omega) | exact z_of (by decide) (by omega))), trivial⟩, hS.F ht9⟩) hS.2.2 dX11_test_33
    · exact absurd rfl c12
set_option maxHeartbeats 4000000 in
set_option maxRecDepth 100000 in
/-- X11_error -/
theorem c_X11_error (l : Launch) (dC : Nat → ClassId) (dI : Nat → Nat → Nat) (h : Nat) (g : Nat → Nat → Nat) (ca : Nat → Nat → ClassId) (a : Int32) (b : Int32) (d : Int32) : Met l yX11_error (wc yX11_error cX11_error 4 (some .int)) ({ frames := 2, cells := 0, slots := 0, locals := 64 } : Room) (pR (dC, dI) classes [(h, .inr (11, (o11 h g))), ((g 11 1), .inr (9, (o9 h g)))] [] [.ref h, .int a, .int b, .int d]) (vp_Si (fun r => r = F_error a b d)) 0 0 (fun _ => False) := by
  refine Met.ofW (cc := cX11_error) (maxL := 4) (ret := (some .int)) (by decide) rfl ?_
  intro p e s m args below meth c s₁ B hml hv
  obtain ⟨rfl, hP, hK⟩ := hv
  have hx := B.exec
  have hb := B.bytes
  have hr := B.returns
  have ht := tb_tl (atoms_spec (ws := wc yX11_error cX11_error 4 (some .int)) B.pre)
  have hown : s.vm.findClass RX11 = some m.cls := findClass_of_methodNamed B.named
  have hlocks := B.notSynchronized
  have hl := lv_entry [.ref h, .int a, .int b, .int d] (n := 4) (Nat.le_of_ble_eq_true rfl)
  rw [lg_entry_eq]
  generalize (lg_sl [.ref h, .int a, .int b, .int d] ++ List.replicate (4 - (lg_sl [.ref h, .int a, .int b, .int d]).length) Slot.unset).toArray = ls at hl ⊢
  have hl : lv_has ls 4 [(0, .ref h), (1, .int a), (2, .int b), (3, .int d)] := hl
  refine lv_iload_n hx hb dX11_error_0 rfl (lv_at hl 1 rfl) ?_
  refine lv_iconst (v := 0) hx hb dX11_error_1 (by decide) ?_
  refine lv_iconst (v := 3) hx hb dX11_error_2 (by decide) ?_
  have hPc := hP.sub (ws' := []) [] rfl
  have hKc := hK.sub (tys' := []) [] rfl
  refine vp_callSi (W.runS (As := [.int a, .int 0, .int 3]) (rest := []) ⟨hx, hb, hml, hown, ht⟩ (c_X11_within l dC dI a 0 3 (a.toInt) (0) (3) (rfl : (a).toInt = _) (by decide : (0 : Int32).toInt = 0) (by decide : (3 : Int32).toInt = 3)) (kS 3 ht m_453 m_454 m_77 m_455 rfl rfl hd_X11_within_v ⟨Nat.le_of_ble_eq_true rfl, Nat.le_of_ble_eq_true rfl⟩) (sR hPc hKc) rfl rfl hl.1 rfl (lv_room (Nat.le_of_ble_eq_true rfl)) dX11_error_3 ⟨Nat.le_of_ble_eq_true rfl, Nat.le_of_ble_eq_true rfl⟩) (fun r1 hr1 => ?_)
  rcases hr1 with ⟨rfl, fr1⟩ | ⟨rfl, fr1⟩
  · skip
    refine lv_if_eq (tgt := 29) hx hb dX11_error_6 (by decide) (fun c2 => ?_) (fun c2 => ?_)
    · exact absurd c2 (by decide)
    · skip
      refine lv_iload_n hx hb dX11_error_9 rfl (lv_at hl 2 rfl) ?_
      refine lv_iconst (v := 0) hx hb dX11_error_10 (by decide) ?_
      refine lv_sipush (v := 3000) hx hb dX11_error_11 (by decide) ?_
      have hPc := hP.sub (ws' := []) [] rfl
      have hKc := hK.sub (tys' := []) [] rfl
      refine vp_callSi (W.runS (As := [.int b, .int 0, .int 3000]) (rest := []) ⟨hx, hb, hml, hown, ht⟩ (c_X11_within l dC dI b 0 3000 (b.toInt) (0) (3000) (rfl : (b).toInt = _) (by decide : (0 : Int32).toInt = 0) (by decide : (3000 : Int32).toInt = 3000)) (kS 3 ht m_453 m_454 m_77 m_455 rfl rfl hd_X11_within_v ⟨Nat.le_of_ble_eq_true rfl, Nat.le_of_ble_eq_true rfl⟩) (sR hPc hKc) rfl rfl hl.1 rfl (lv_room (Nat.le_of_ble_eq_true rfl)) dX11_error_14 ⟨Nat.le_of_ble_eq_true rfl, Nat.le_of_ble_eq_true rfl⟩) (fun r3 hr3 => ?_)
      rcases hr3 with ⟨rfl, fr3⟩ | ⟨rfl, fr3⟩
      · skip
        refine lv_if_eq (tgt := 29) hx hb dX11_error_17 (by decide) (fun c4 => ?_) (fun c4 => ?_)
        · exact absurd c4 (by decide)
        · skip
          refine lv_iload_n hx hb dX11_error_20 rfl (lv_at hl 3 rfl) ?_
          refine lv_iconst (v := 0) hx hb dX11_error_21 (by decide) ?_
          refine lv_iconst (v := 1) hx hb dX11_error_22 (by decide) ?_
          have hPc := hP.sub (ws' := []) [] rfl
          have hKc := hK.sub (tys' := []) [] rfl
          refine vp_callSi (W.runS (As := [.int d, .int 0, .int 1]) (rest := []) ⟨hx, hb, hml, hown, ht⟩ (c_X11_within l dC dI d 0 1 (d.toInt) (0) (1) (rfl : (d).toInt = _) (by decide : (0 : Int32).toInt = 0) (by decide : (1 : Int32).toInt = 1)) (kS 3 ht m_453 m_454 m_77 m_455 rfl rfl hd_X11_within_v ⟨Nat.le_of_ble_eq_true rfl, Nat.le_of_ble_eq_true rfl⟩) (sR hPc hKc) rfl rfl hl.1 rfl (lv_room (Nat.le_of_ble_eq_true rfl)) dX11_error_23 ⟨Nat.le_of_ble_eq_true rfl, Nat.le_of_ble_eq_true rfl⟩) (fun r5 hr5 => ?_)
          rcases hr5 with ⟨rfl, fr5⟩ | ⟨rfl, fr5⟩
          · skip
            refine lv_if_ne (tgt := 32) hx hb dX11_error_26 (by decide) (fun c6 => ?_) (fun c6 => ?_)
            · skip
              refine lv_iload_n hx hb dX11_error_32 rfl (lv_at hl 3 rfl) ?_
              refine lv_if_ne (tgt := 48) hx hb dX11_error_33 (by decide) (fun c7 => ?_) (fun c7 => ?_)
              · have fc7 := z_ne (rfl : (d).toInt = _) (by decide : (0 : Int32).toInt = 0) c7
                refine lv_aload_n hx hb dX11_error_48 rfl (lv_at hl 0 rfl) ?_
                refine va_get (D := (dC, dI)) (ci := 11) (v := .ref (g 11 1)) (C := RX11) (T := TX11) (N := 11) hx hb ht inX11 hown hK hP 0 rfl rfl 1 (by decide) (ht _ m_416) (fun _ h9 => h9) rfl dX11_error_49 ?_
                refine lv_iload_n hx hb dX11_error_52 rfl (lv_at hl 1 rfl) ?_
                refine lv_iload_n hx hb dX11_error_53 rfl (lv_at hl 2 rfl) ?_
                have hPc := hP.sub (ws' := [((g 11 1), .inr (9, (o9 h g)))]) [1] rfl
                have hKc := hK.sub (tys' := []) [] rfl
                refine vp_callSi (W.runV (As := [.int a, .int b]) (rest := []) ⟨hx, hb, hml, hown, ht⟩ (c_X9_greatest l dC dI h g ca a b) (kV 2 ht m_553 m_554 m_555 m_79 m_556 rfl rfl hd_X9_greatest_v ⟨Nat.le_of_ble_eq_true rfl, Nat.le_of_ble_eq_true rfl⟩) (vR hPc hKc (va_recv hKc hPc (ci := 9) (q0 := 0) rfl rfl)) rfl rfl hl.1 rfl (lv_room (Nat.le_of_ble_eq_true rfl)) dX11_error_54 ⟨Nat.le_of_ble_eq_true rfl, Nat.le_of_ble_eq_true rfl⟩) (fun r8 hr8 => ?_)
                obtain rfl : 0 = r8 := hr8.symm
                exact W.iret (v := 0) hx hb hr (fun t ht9 hW => ⟨0, rfl, (by unfold F_error; first | decide | ((repeat' split) <;> first | rfl | (exfalso; omega) | exact z_of (by decide) (by omega))), ht9⟩) (fun q hq => by cases hq) dX11_error_57
              · have fc7 := z_eq (rfl : (d).toInt = _) (by decide : (0 : Int32).toInt = 0) c7
                refine lv_aload_n hx hb dX11_error_36 rfl (lv_at hl 0 rfl) ?_
                refine va_get (D := (dC, dI)) (ci := 11) (v := .ref (g 11 1)) (C := RX11) (T := TX11) (N := 11) hx hb ht inX11 hown hK hP 0 rfl rfl 1 (by decide) (ht _ m_416) (fun _ h9 => h9) rfl dX11_error_37 ?_
                refine lv_iload_n hx hb dX11_error_40 rfl (lv_at hl 1 rfl) ?_
                refine lv_iload_n hx hb dX11_error_41 rfl (lv_at hl 2 rfl) ?_
                have hPc := hP.sub (ws' := [((g 11 1), .inr (9, (o9 h g)))]) [1] rfl
                have hKc := hK.sub (tys' := []) [] rfl
                refine vp_callSi (W.runV (As := [.int a, .int b]) (rest := []) ⟨hx, hb, hml, hown, ht⟩ (c_X9_least l dC dI h g ca a b) (kV 2 ht m_534 m_535 m_536 m_79 m_537 rfl rfl hd_X9_least_v ⟨Nat.le_of_ble_eq_true rfl, Nat.le_of_ble_eq_true rfl⟩) (vR hPc hKc (va_recv hKc hPc (ci := 9) (q0 := 0) rfl rfl)) rfl rfl hl.1 rfl (lv_room (Nat.le_of_ble_eq_true rfl)) dX11_error_42 ⟨Nat.le_of_ble_eq_true rfl, Nat.le_of_ble_eq_true rfl⟩) (fun r9 hr9 => ?_)
                obtain rfl : 0 = r9 := hr9.symm
                refine lv_goto (tgt := 57) hx hb dX11_error_45 (by decide) ?_
                exact W.iret (v := 0) hx hb hr (fun t ht9 hW => ⟨0, rfl, (by unfold F_error; first | decide | ((repeat' split) <;> first | rfl | (exfalso; omega) | exact z_of (by decide) (by omega))), ht9⟩) (fun q hq => by cases hq) dX11_error_57
            · exact absurd c6 (by decide)
          · skip
            refine lv_if_ne (tgt := 32) hx hb dX11_error_26 (by decide) (fun c10 => ?_) (fun c10 => ?_)
            · exact absurd rfl c10
            · skip
              refine lv_ldc hx hb hown (ht _ m_456) dX11_error_29 ?_
              exact W.iret (v := (-100002)) hx hb hr (fun t ht9 hW => ⟨(-100002), rfl, (by unfold F_error; first | decide | ((repeat' split) <;> first | rfl | (exfalso; omega) | exact z_of (by decide) (by omega))), ht9⟩) (fun q hq => by cases hq) dX11_error_31
      · skip
        refine lv_if_eq (tgt := 29) hx hb dX11_error_17 (by decide) (fun c11 => ?_) (fun c11 => ?_)
        · skip
          refine lv_ldc hx hb hown (ht _ m_456) dX11_error_29 ?_
          exact W.iret (v := (-100002)) hx hb hr (fun t ht9 hW => ⟨(-100002), rfl, (by unfold F_error; first | decide | ((repeat' split) <;> first | rfl | (exfalso; omega) | exact z_of (by decide) (by omega))), ht9⟩) (fun q hq => by cases hq) dX11_error_31
        · exact absurd rfl c11
  · skip
    refine lv_if_eq (tgt := 29) hx hb dX11_error_6 (by decide) (fun c12 => ?_) (fun c12 => ?_)
    · skip
      refine lv_ldc hx hb hown (ht _ m_456) dX11_error_29 ?_
      exact W.iret (v := (-100002)) hx hb hr (fun t ht9 hW => ⟨(-100002), rfl, (by unfold F_error; first | decide | ((repeat' split) <;> first | rfl | (exfalso; omega) | exact z_of (by decide) (by omega))), ht9⟩) (fun q hq => by cases hq) dX11_error_31
    · exact absurd rfl c12
set_option maxHeartbeats 4000000 in
set_option maxRecDepth 100000 in
/-- X11_count -/
theorem c_X11_count (l : Launch) (dC : Nat → ClassId) (dI : Nat → Nat → Nat) (h : Nat) (g : Nat → Nat → Nat) (ca : Nat → Nat → ClassId) (n : Int32) : Met l yX11_count (wc yX11_count cX11_count 2 (some .int)) ({ frames := 1, cells := 0, slots := 0, locals := 23 } : Room) (pR (dC, dI) classes [(h, .inr (11, (o11 h g))), ((g 11 2), .inr (0, (o0 h g))), ((g 11 0), .inr (10, (o10 h g))), ((g 11 1), .inr (9, (o9 h g))), ((g 11 3), .inr (1, (o1 h g))), ((g 11 9), .inr (6, (o6 h g))), ((g 11 4), .inr (8, (o8 h g)))] [] [.ref h, .int n]) (vp_Si (fun r => r = F_count n)) 0 0 (fun _ => False) := by
  refine Met.ofW (cc := cX11_count) (maxL := 2) (ret := (some .int)) (by decide) rfl ?_
  intro p e s m args below meth c s₁ B hml hv
  obtain ⟨rfl, hP, hK⟩ := hv
  have hx := B.exec
  have hb := B.bytes
  have hr := B.returns
  have ht := tb_tl (atoms_spec (ws := wc yX11_count cX11_count 2 (some .int)) B.pre)
  have hown : s.vm.findClass RX11 = some m.cls := findClass_of_methodNamed B.named
  have hlocks := B.notSynchronized
  have hl := lv_entry [.ref h, .int n] (n := 2) (Nat.le_of_ble_eq_true rfl)
  rw [lg_entry_eq]
  generalize (lg_sl [.ref h, .int n] ++ List.replicate (2 - (lg_sl [.ref h, .int n]).length) Slot.unset).toArray = ls at hl ⊢
  have hl : lv_has ls 2 [(0, .ref h), (1, .int n)] := hl
  refine lv_iload_n hx hb dX11_count_0 rfl (lv_at hl 1 rfl) ?_
  rcases sw_0_10 n with h1 | rfl | rfl | rfl | rfl | rfl | rfl | rfl | rfl | rfl | rfl | rfl
  · refine lv_tableOut (tgt := 138) hx hb dX11_count_1 h1 (by decide) ?_
    refine lv_ldc hx hb hown (ht _ m_456) dX11_count_138 ?_
    exact W.iret (v := (-100002)) hx hb hr (fun t ht9 hW => ⟨(-100002), rfl, (by unfold F_count; first | decide | ((repeat' split) <;> first | rfl | (exfalso; omega) | exact z_of (by decide) (by omega))), ht9⟩) (fun q hq => by cases hq) dX11_count_140
  · refine lv_tableIn (tgt := 60) (off := 59) hx hb dX11_count_1 (by decide) (by decide) rfl (by decide) ?_
    refine lv_aload_n hx hb dX11_count_60 rfl (lv_at hl 0 rfl) ?_
    refine va_get (D := (dC, dI)) (ci := 11) (v := .int 0) (C := RX11) (T := TX11) (N := 11) hx hb ht inX11 hown hK hP 0 rfl rfl 10 (by decide) (ht _ m_425) (fun _ h9 => h9) rfl dX11_count_61 ?_
    exact W.iret (v := 0) hx hb hr (fun t ht9 hW => ⟨0, rfl, (by unfold F_count; first | decide | ((repeat' split) <;> first | rfl | (exfalso; omega) | exact z_of (by decide) (by omega))), ht9⟩) (fun q hq => by cases hq) dX11_count_64
  · refine lv_tableIn (tgt := 65) (off := 64) hx hb dX11_count_1 (by decide) (by decide) rfl (by decide) ?_
    refine lv_aload_n hx hb dX11_count_65 rfl (lv_at hl 0 rfl) ?_
    refine va_get (D := (dC, dI)) (ci := 11) (v := .ref (g 11 2)) (C := RX11) (T := TX11) (N := 11) hx hb ht inX11 hown hK hP 0 rfl rfl 2 (by decide) (ht _ m_417) (fun _ h9 => h9) rfl dX11_count_66 ?_
    refine va_get (D := (dC, dI)) (ci := 0) (v := .int 0) (C := RX0) (T := TX0) (N := 8) hx hb ht inX0 hown hK hP 1 rfl rfl 7 (by decide) (ht _ m_165) (fun _ h9 => h9) rfl dX11_count_69 ?_
    exact W.iret (v := 0) hx hb hr (fun t ht9 hW => ⟨0, rfl, (by unfold F_count; first | decide | ((repeat' split) <;> first | rfl | (exfalso; omega) | exact z_of (by decide) (by omega))), ht9⟩) (fun q hq => by cases hq) dX11_count_72
  · refine lv_tableIn (tgt := 73) (off := 72) hx hb dX11_count_1 (by decide) (by decide) rfl (by decide) ?_
    refine lv_aload_n hx hb dX11_count_73 rfl (lv_at hl 0 rfl) ?_
    refine va_get (D := (dC, dI)) (ci := 11) (v := .ref (g 11 0)) (C := RX11) (T := TX11) (N := 11) hx hb ht inX11 hown hK hP 0 rfl rfl 0 (by decide) (ht _ m_415) (fun _ h9 => h9) rfl dX11_count_74 ?_
    refine va_get (D := (dC, dI)) (ci := 10) (v := .int 0) (C := RX10) (T := TX10) (N := 3) hx hb ht inX10 hown hK hP 2 rfl rfl 1 (by decide) (ht _ m_114) (fun _ h9 => h9) rfl dX11_count_77 ?_
    exact W.iret (v := 0) hx hb hr (fun t ht9 hW => ⟨0, rfl, (by unfold F_count; first | decide | ((repeat' split) <;> first | rfl | (exfalso; omega) | exact z_of (by decide) (by omega))), ht9⟩) (fun q hq => by cases hq) dX11_count_80
  · refine lv_tableIn (tgt := 81) (off := 80) hx hb dX11_count_1 (by decide) (by decide) rfl (by decide) ?_
    refine lv_aload_n hx hb dX11_count_81 rfl (lv_at hl 0 rfl) ?_
    refine va_get (D := (dC, dI)) (ci := 11) (v := .ref (g 11 0)) (C := RX11) (T := TX11) (N := 11) hx hb ht inX11 hown hK hP 0 rfl rfl 0 (by decide) (ht _ m_415) (fun _ h9 => h9) rfl dX11_count_82 ?_
    refine va_get (D := (dC, dI)) (ci := 10) (v := .int 0) (C := RX10) (T := TX10) (N := 3) hx hb ht inX10 hown hK hP 2 rfl rfl 2 (by decide) (ht _ m_117) (fun _ h9 => h9) rfl dX11_count_85 ?_
    exact W.iret (v := 0) hx hb hr (fun t ht9 hW => ⟨0, rfl, (by unfold F_count; first | decide | ((repeat' split) <;> first | rfl | (exfalso; omega) | exact z_of (by decide) (by omega))), ht9⟩) (fun q hq => by cases hq) dX11_count_88
  · refine lv_tableIn (tgt := 89) (off := 88) hx hb dX11_count_1 (by decide) (by decide) rfl (by decide) ?_
    refine lv_aload_n hx hb dX11_count_89 rfl (lv_at hl 0 rfl) ?_
    refine va_get (D := (dC, dI)) (ci := 11) (v := .ref (g 11 1)) (C := RX11) (T := TX11) (N := 11) hx hb ht inX11 hown hK hP 0 rfl rfl 1 (by decide) (ht _ m_416) (fun _ h9 => h9) rfl dX11_count_90 ?_
    refine va_get (D := (dC, dI)) (ci := 9) (v := .int 0) (C := RX9) (T := TX9) (N := 4) hx hb ht inX9 hown hK hP 3 rfl rfl 3 (by decide) (ht _ m_136) (fun _ h9 => h9) rfl dX11_count_93 ?_
    exact W.iret (v := 0) hx hb hr (fun t ht9 hW => ⟨0, rfl, (by unfold F_count; first | decide | ((repeat' split) <;> first | rfl | (exfalso; omega) | exact z_of (by decide) (by omega))), ht9⟩) (fun q hq => by cases hq) dX11_count_96
  · refine lv_tableIn (tgt := 97) (off := 96) hx hb dX11_count_1 (by decide) (by decide) rfl (by decide) ?_
    refine lv_aload_n hx hb dX11_count_97 rfl (lv_at hl 0 rfl) ?_
    refine va_get (D := (dC, dI)) (ci := 11) (v := .ref (g 11 3)) (C := RX11) (T := TX11) (N := 11) hx hb ht inX11 hown hK hP 0 rfl rfl 3 (by decide) (ht _ m_418) (fun _ h9 => h9) rfl dX11_count_98 ?_
    refine va_get (D := (dC, dI)) (ci := 1) (v := .int 0) (C := RX1) (T := TX1) (N := 9) hx hb ht inX1 hown hK hP 4 rfl rfl 7 (by decide) (ht _ m_198) (fun _ h9 => h9) rfl dX11_count_101 ?_
    exact W.iret (v := 0) hx hb hr (fun t ht9 hW => ⟨0, rfl, (by unfold F_count; first | decide | ((repeat' split) <;> first | rfl | (exfalso; omega) | exact z_of (by decide) (by omega))), ht9⟩) (fun q hq => by cases hq) dX11_count_104
  · refine lv_tableIn (tgt := 105) (off := 104) hx hb dX11_count_1 (by decide) (by decide) rfl (by decide) ?_
    refine lv_aload_n hx hb dX11_count_105 rfl (lv_at hl 0 rfl) ?_
    refine va_get (D := (dC, dI)) (ci := 11) (v := .ref (g 11 9)) (C := RX11) (T := TX11) (N := 11) hx hb ht inX11 hown hK hP 0 rfl rfl 9 (by decide) (ht _ m_424) (fun _ h9 => h9) rfl dX11_count_106 ?_
    refine va_get (D := (dC, dI)) (ci := 6) (v := .int 0) (C := RX6) (T := TX6) (N := 8) hx hb ht inX6 hown hK hP 5 rfl rfl 7 (by decide) (ht _ m_397) (fun _ h9 => h9) rfl dX11_count_109 ?_
    exact W.iret (v := 0) hx hb hr (fun t ht9 hW => ⟨0, rfl, (by unfold F_count; first | decide | ((repeat' split) <;> first | rfl | (exfalso; omega) | exact z_of (by decide) (by omega))), ht9⟩) (fun q hq => by cases hq) dX11_count_112
  · refine lv_tableIn (tgt := 113) (off := 112) hx hb dX11_count_1 (by decide) (by decide) rfl (by decide) ?_
    refine lv_aload_n hx hb dX11_count_113 rfl (lv_at hl 0 rfl) ?_
    refine lv_iconst (v := 1) hx hb dX11_count_114 (by decide) ?_
    have hPc := hP.sub (ws' := [(h, .inr (11, (o11 h g))), ((g 11 2), .inr (0, (o0 h g)))]) [0, 1] rfl
    have hKc := hK.sub (tys' := []) [] rfl
    refine vp_callSi (W.runV (As := [.int 1]) (rest := []) ⟨hx, hb, hml, hown, ht⟩ (c_X11_balesIn l dC dI h g ca 1) (kV 1 ht m_591 m_593 m_4 m_77 m_594 rfl rfl hd_X11_balesIn_v ⟨Nat.le_of_ble_eq_true rfl, Nat.le_of_ble_eq_true rfl⟩) (vR hPc hKc (va_recv hKc hPc (ci := 11) (q0 := 0) rfl rfl)) rfl rfl hl.1 rfl (lv_room (Nat.le_of_ble_eq_true rfl)) dX11_count_115 ⟨Nat.le_of_ble_eq_true rfl, Nat.le_of_ble_eq_true rfl⟩) (fun r2 hr2 => ?_)
    obtain rfl : 0 = r2 := hr2.symm
    exact W.iret (v := 0) hx hb hr (fun t ht9 hW => ⟨0, rfl, (by unfold F_count; first | decide | ((repeat' split) <;> first | rfl | (exfalso; omega) | exact z_of (by decide) (by omega))), ht9⟩) (fun q hq => by cases hq) dX11_count_118
  · refine lv_tableIn (tgt := 119) (off := 118) hx hb dX11_count_1 (by decide) (by decide) rfl (by decide) ?_
    refine lv_aload_n hx hb dX11_count_119 rfl (lv_at hl 0 rfl) ?_
    refine lv_iconst (v := 2) hx hb dX11_count_120 (by decide) ?_
    have hPc := hP.sub (ws' := [(h, .inr (11, (o11 h g))), ((g 11 2), .inr (0, (o0 h g)))]) [0, 1] rfl
    have hKc := hK.sub (tys' := []) [] rfl
    refine vp_callSi (W.runV (As := [.int 2]) (rest := []) ⟨hx, hb, hml, hown, ht⟩ (c_X11_balesIn l dC dI h g ca 2) (kV 1 ht m_591 m_593 m_4 m_77 m_594 rfl rfl hd_X11_balesIn_v ⟨Nat.le_of_ble_eq_true rfl, Nat.le_of_ble_eq_true rfl⟩) (vR hPc hKc (va_recv hKc hPc (ci := 11) (q0 := 0) rfl rfl)) rfl rfl hl.1 rfl (lv_room (Nat.le_of_ble_eq_true rfl)) dX11_count_121 ⟨Nat.le_of_ble_eq_true rfl, Nat.le_of_ble_eq_true rfl⟩) (fun r3 hr3 => ?_)
    obtain rfl : 0 = r3 := hr3.symm
    exact W.iret (v := 0) hx hb hr (fun t ht9 hW => ⟨0, rfl, (by unfold F_count; first | decide | ((repeat' split) <;> first | rfl | (exfalso; omega) | exact z_of (by decide) (by omega))), ht9⟩) (fun q hq => by cases hq) dX11_count_124
  · refine lv_tableIn (tgt := 125) (off := 124) hx hb dX11_count_1 (by decide) (by decide) rfl (by decide) ?_
    refine lv_aload_n hx hb dX11_count_125 rfl (lv_at hl 0 rfl) ?_
    refine va_get (D := (dC, dI)) (ci := 11) (v := .ref (g 11 4)) (C := RX11) (T := TX11) (N := 11) hx hb ht inX11 hown hK hP 0 rfl rfl 4 (by decide) (ht _ m_419) (fun _ h9 => h9) rfl dX11_count_126 ?_
    refine va_get (D := (dC, dI)) (ci := 8) (v := .int 0) (C := RX8) (T := TX8) (N := 6) hx hb ht inX8 hown hK hP 6 rfl rfl 2 (by decide) (ht _ m_231) (fun _ h9 => h9) rfl dX11_count_129 ?_
    exact W.iret (v := 0) hx hb hr (fun t ht9 hW => ⟨0, rfl, (by unfold F_count; first | decide | ((repeat' split) <;> first | rfl | (exfalso; omega) | exact z_of (by decide) (by omega))), ht9⟩) (fun q hq => by cases hq) dX11_count_132
  · refine lv_tableIn (tgt := 133) (off := 132) hx hb dX11_count_1 (by decide) (by decide) rfl (by decide) ?_
    refine lv_aload_n hx hb dX11_count_133 rfl (lv_at hl 0 rfl) ?_
    have hPc := hP.sub (ws' := [(h, .inr (11, (o11 h g))), ((g 11 9), .inr (6, (o6 h g)))]) [0, 5] rfl
    have hKc := hK.sub (tys' := []) [] rfl
    refine vp_callSi (W.runV (As := []) (rest := []) ⟨hx, hb, hml, hown, ht⟩ (c_X11_fees l dC dI h g ca) (kV 0 ht m_659 m_661 m_15 m_77 m_662 rfl rfl hd_X11_fees_v ⟨Nat.le_of_ble_eq_true rfl, Nat.le_of_ble_eq_true rfl⟩) (vR hPc hKc (va_recv hKc hPc (ci := 11) (q0 := 0) rfl rfl)) rfl rfl hl.1 rfl (lv_room (Nat.le_of_ble_eq_true rfl)) dX11_count_134 ⟨Nat.le_of_ble_eq_true rfl, Nat.le_of_ble_eq_true rfl⟩) (fun r4 hr4 => ?_)
    obtain rfl : 0 = r4 := hr4.symm
    exact W.iret (v := 0) hx hb hr (fun t ht9 hW => ⟨0, rfl, (by unfold F_count; first | decide | ((repeat' split) <;> first | rfl | (exfalso; omega) | exact z_of (by decide) (by omega))), ht9⟩) (fun q hq => by cases hq) dX11_count_137
set_option maxHeartbeats 4000000 in
set_option maxRecDepth 100000 in
/-- X11_feed -/
theorem c_X11_feed (l : Launch) (dC : Nat → ClassId) (dI : Nat → Nat → Nat) (sz : Nat) (h : Nat) (g : Nat → Nat → Nat) (ca : Nat → Nat → ClassId) (n : Int32) (k : Int64) : Met l yX11_feed (wc yX11_feed cX11_feed 4 (some .int)) ({ frames := 1, cells := 0, slots := 0, locals := 24 } : Room) (pW (dC, dI) classes [(h, .inr (11, (o11 h g))), ((g 11 4), .inr (8, (o8 h g))), ((g 8 1), .inl ((ca 8 1), 200, .inl (fun _ => 0)))] [((ca 8 1), .byte)] sz [.ref h, .int n, .long k]) (va_Qi (fun r (_ : Unit) => r = F_feed n) (fun _ _ => True) (va_A [(h, .inr (11, (o11 h g))), ((g 11 4), .inr (8, (o8 h g))), ((g 8 1), .inl ((ca 8 1), 200, .inl (fun _ => 0)))] sz)) 0 0 (va_A [(h, .inr (11, (o11 h g))), ((g 11 4), .inr (8, (o8 h g))), ((g 8 1), .inl ((ca 8 1), 200, .inl (fun _ => 0)))] sz) := by
  refine Met.ofW (cc := cX11_feed) (maxL := 4) (ret := (some .int)) (by decide) rfl ?_
  intro p e s m args below meth c s₁ B hml hv
  obtain ⟨rfl, hsz, hP, hK, hD0⟩ := hv
  have hx := B.exec
  have hb := B.bytes
  have hr := B.returns
  have ht := tb_tl (atoms_spec (ws := wc yX11_feed cX11_feed 4 (some .int)) B.pre)
  have hown : s.vm.findClass RX11 = some m.cls := findClass_of_methodNamed B.named
  have hlocks := B.notSynchronized
  subst hsz
  have hD := hD0.self (sz := s.heap.size)
  generalize hAe : va_A [(h, .inr (11, (o11 h g))), ((g 11 4), .inr (8, (o8 h g))), ((g 8 1), .inl ((ca 8 1), 200, .inl (fun _ => 0)))] s.heap.size = A at hD ⊢
  have hA : ∀ q : Nat, s.heap.size ≤ q → A q := fun q h => by rw [← hAe]; exact Or.inr h
  have hS : va_S A s.heap s.heap [] := va_S.rf
  have hP : va_P (dC, dI) classes [(h, .inr (11, (o11 h g))), ((g 11 4), .inr (8, (o8 h g))), ((g 8 1), .inl ((ca 8 1), 200, .inl (fun _ => 0)))] s.heap := hP
  have hl := lv_entry [.ref h, .int n, .long k] (n := 4) (Nat.le_of_ble_eq_true rfl)
  rw [lg_entry_eq]
  generalize (lg_sl [.ref h, .int n, .long k] ++ List.replicate (4 - (lg_sl [.ref h, .int n, .long k]).length) Slot.unset).toArray = ls at hl ⊢
  have hl : lv_has ls 4 [(0, .ref h), (1, .int n), (2, .long k)] := hl
  refine lv_iload_n hx hb dX11_feed_0 rfl (lv_at hl 1 rfl) ?_
  refine lv_iconst (v := 1) hx hb dX11_feed_1 (by decide) ?_
  refine lv_bipush (v := 8) hx hb dX11_feed_2 (by decide) ?_
  have hPc := hP.sub (ws' := []) [] rfl
  have hKc := hK.sub (tys' := []) [] rfl
  refine vp_callSi (W.runS (As := [.int n, .int 1, .int 8]) (rest := []) ⟨hx, hb, hml, hown, ht⟩ (c_X11_within l dC dI n 1 8 (n.toInt) (1) (8) (rfl : (n).toInt = _) (by decide : (1 : Int32).toInt = 1) (by decide : (8 : Int32).toInt = 8)) (kS 3 ht m_453 m_454 m_77 m_455 rfl rfl hd_X11_within_v ⟨Nat.le_of_ble_eq_true rfl, Nat.le_of_ble_eq_true rfl⟩) (sR hPc hKc) rfl rfl hl.1 rfl (lv_room (Nat.le_of_ble_eq_true rfl)) dX11_feed_4 ⟨Nat.le_of_ble_eq_true rfl, Nat.le_of_ble_eq_true rfl⟩) (fun r1 hr1 => ?_)
  rcases hr1 with ⟨rfl, fr1⟩ | ⟨rfl, fr1⟩
  · skip
    refine lv_if_ne (tgt := 13) hx hb dX11_feed_7 (by decide) (fun c2 => ?_) (fun c2 => ?_)
    · skip
      refine lv_aload_n hx hb dX11_feed_13 rfl (lv_at hl 0 rfl) ?_
      refine va_get (D := (dC, dI)) (ci := 11) (v := .ref (g 11 4)) (C := RX11) (T := TX11) (N := 11) hx hb ht inX11 hown hK hP 0 rfl rfl 4 (by decide) (ht _ m_419) (fun _ h9 => h9) rfl dX11_feed_14 ?_
      refine va_get (D := (dC, dI)) (ci := 8) (v := .int 0) (C := RX8) (T := TX8) (N := 6) hx hb ht inX8 hown hK hP 1 rfl rfl 2 (by decide) (ht _ m_231) (fun _ h9 => h9) rfl dX11_feed_17 ?_
      refine lv_iload_n hx hb dX11_feed_20 rfl (lv_at hl 1 rfl) ?_
      refine lv_iadd hx hb dX11_feed_21 ?_
      refine lv_topi (fun v3 ev3 => ?_)
      obtain rfl : n = v3 := (ev3.trans (Int32.zero_add _)).symm
      refine lv_sipush (v := 200) hx hb dX11_feed_22 (by decide) ?_
      refine lv_icmp_le (tgt := 33) hx hb dX11_feed_25 (by decide) (fun c4 => ?_) (fun c4 => ?_)
      · skip
        refine lv_aload_n hx hb dX11_feed_33 rfl (lv_at hl 0 rfl) ?_
        refine va_get (D := (dC, dI)) (ci := 11) (v := .ref (g 11 4)) (C := RX11) (T := TX11) (N := 11) hx hb ht inX11 hown hK hP 0 rfl rfl 4 (by decide) (ht _ m_419) (fun _ h9 => h9) rfl dX11_feed_34 ?_
        refine lv_iload_n hx hb dX11_feed_37 rfl (lv_at hl 1 rfl) ?_
        refine lv_lload_n hx hb dX11_feed_38 rfl (lv_at hl 2 rfl) ?_
        have hPc := hP.sub (ws' := [((g 11 4), .inr (8, (o8 h g))), ((g 8 1), .inl ((ca 8 1), 200, .inl (fun _ => 0)))]) [1, 2] rfl
        have hKc := hK.sub (tys' := [((ca 8 1), .byte)]) [0] rfl
        have hDc := hD.sub (ws' := [((g 11 4), .inr (8, (o8 h g))), ((g 8 1), .inl ((ca 8 1), 200, .inl (fun _ => 0)))]) [1, 2] (by decide) rfl
        have hFc := va_free (wc := [((g 11 4), .inr (8, (o8 h g))), ((g 8 1), .inl ((ca 8 1), 200, .inl (fun _ => 0)))]) hD hS hA [1, 2] rfl
        refine va_calli (va_runV (As := [.int n, .long k]) (rest := []) ⟨hx, hb, hml, hown, ht⟩ (c_X8_take l dC dI H.size h g ca n k (by omega)) (kV 2 ht m_672 m_673 m_674 m_82 m_675 rfl rfl hd_X8_take_v ⟨Nat.le_of_ble_eq_true rfl, Nat.le_of_ble_eq_true rfl⟩) (vW hPc hKc hDc (va_recv hKc hPc (ci := 8) (q0 := 0) rfl rfl)) rfl rfl hl.1 rfl (lv_room (Nat.le_of_ble_eq_true rfl)) dX11_feed_39 ⟨Nat.le_of_ble_eq_true rfl, Nat.le_of_ble_eq_true rfl⟩) hS (fun q _ h => hFc q h) hFc (fun r5 u t H1 locs ht9 hvm hr5 hB hz1 hk1 hS => ?_)
        have hP1 : va_P (dC, dI) classes [] H1 := noP
        have hD1 : va_D (va_A [((g 11 4), .inr (8, (o8 h g))), ((g 8 1), .inl ((ca 8 1), 200, .inl (fun _ => 0)))] H.size) [] := noD
        obtain ⟨hP, hD⟩ := va_join (wr := [(h, .inr (11, (o11 h g)))]) (w1 := []) hP hD [1, 2] [0] rfl rfl (by decide) (by decide) hk1 hFc hP1 hD1
        generalize H1 = H at hP hS ⊢
        have hP : va_P (dC, dI) classes [(h, .inr (11, (o11 h g)))] H := hP
        have hD : va_D A [(h, .inr (11, (o11 h g)))] := hD
        obtain rfl : (n) = r5 := hr5.symm
        exact W.iret (v := (n)) hx hb hr (fun t ht9 hW => ⟨⟨(n), (), rfl, (by unfold F_feed; first | decide | ((repeat' split) <;> first | rfl | (exfalso; omega) | exact z_of (by decide) (by omega))), trivial⟩, hS.F ht9⟩) hS.2.2 dX11_feed_42
      · have fc4 := z_nle (rfl : (n).toInt = _) (by decide : (200 : Int32).toInt = 200) c4; exfalso; omega
    · exact absurd c2 (by decide)
  · skip
    refine lv_if_ne (tgt := 13) hx hb dX11_feed_7 (by decide) (fun c6 => ?_) (fun c6 => ?_)
    · exact absurd rfl c6
    · skip
      refine lv_ldc hx hb hown (ht _ m_456) dX11_feed_10 ?_
      exact W.iret (v := (-100002)) hx hb hr (fun t ht9 hW => ⟨⟨(-100002), (), rfl, (by unfold F_feed; first | decide | ((repeat' split) <;> first | rfl | (exfalso; omega) | exact z_of (by decide) (by omega))), trivial⟩, hS.F ht9⟩) hS.2.2 dX11_feed_12
set_option maxHeartbeats 4000000 in
set_option maxRecDepth 100000 in
/-- X11_rule -/
theorem c_X11_rule (l : Launch) (dC : Nat → ClassId) (dI : Nat → Nat → Nat) (sz : Nat) (h : Nat) (g : Nat → Nat → Nat) (ca : Nat → Nat → ClassId) (n : Int32) : Met l yX11_rule (wc yX11_rule cX11_rule 3 (some .int)) ({ frames := 2, cells := 0, slots := 0, locals := 42 } : Room) (pW (dC, dI) classes [(h, .inr (11, (o11 h g))), ((g 11 3), .inr (1, (o1 h g))), ((g 11 4), .inr (8, (o8 h g))), ((g 1 0), .inl ((ca 1 0), 8, .inl (fun _ => 0))), ((g 1 1), .inl ((ca 1 1), 8, .inl (fun _ => 0)))] [((ca 1 0), .int), ((ca 1 1), .int)] sz [.ref h, .int n]) (va_Qi (fun r (_ : Unit) => r = F_rule n) (fun _ _ => True) (va_A [(h, .inr (11, (o11 h g))), ((g 11 3), .inr (1, (o1 h g))), ((g 11 4), .inr (8, (o8 h g))), ((g 1 0), .inl ((ca 1 0), 8, .inl (fun _ => 0))), ((g 1 1), .inl ((ca 1 1), 8, .inl (fun _ => 0)))] sz)) 0 0 (va_A [(h, .inr (11, (o11 h g))), ((g 11 3), .inr (1, (o1 h g))), ((g 11 4), .inr (8, (o8 h g))), ((g 1 0), .inl ((ca 1 0), 8, .inl (fun _ => 0))), ((g 1 1), .inl ((ca 1 1), 8, .inl (fun _ => 0)))] sz) := by
  refine Met.ofW (cc := cX11_rule) (maxL := 3) (ret := (some .int)) (by decide) rfl ?_
  intro p e s m args below meth c s₁ B hml hv
  obtain ⟨rfl, hsz, hP, hK, hD0⟩ := hv
  have hx := B.exec
  have hb := B.bytes
  have hr := B.returns
  have ht := tb_tl (atoms_spec (ws := wc yX11_rule cX11_rule 3 (some .int)) B.pre)
  have hown : s.vm.findClass RX11 = some m.cls := findClass_of_methodNamed B.named
  have hlocks := B.notSynchronized
  subst hsz
  have hD := hD0.self (sz := s.heap.size)
  generalize hAe : va_A [(h, .inr (11, (o11 h g))), ((g 11 3), .inr (1, (o1 h g))), ((g 11 4), .inr (8, (o8 h g))), ((g 1 0), .inl ((ca 1 0), 8, .inl (fun _ => 0))), ((g 1 1), .inl ((ca 1 1), 8, .inl (fun _ => 0)))] s.heap.size = A at hD ⊢
  have hA : ∀ q : Nat, s.heap.size ≤ q → A q := fun q h => by rw [← hAe]; exact Or.inr h
  have hS : va_S A s.heap s.heap [] := va_S.rf
  have hP : va_P (dC, dI) classes [(h, .inr (11, (o11 h g))), ((g 11 3), .inr (1, (o1 h g))), ((g 11 4), .inr (8, (o8 h g))), ((g 1 0), .inl ((ca 1 0), 8, .inl (fun _ => 0))), ((g 1 1), .inl ((ca 1 1), 8, .inl (fun _ => 0)))] s.heap := hP
  have hl := lv_entry [.ref h, .int n] (n := 3) (Nat.le_of_ble_eq_true rfl)
  rw [lg_entry_eq]
  generalize (lg_sl [.ref h, .int n] ++ List.replicate (3 - (lg_sl [.ref h, .int n]).length) Slot.unset).toArray = ls at hl ⊢
  have hl : lv_has ls 3 [(0, .ref h), (1, .int n)] := hl
  refine lv_iload_n hx hb dX11_rule_0 rfl (lv_at hl 1 rfl) ?_
  refine lv_iconst (v := 0) hx hb dX11_rule_1 (by decide) ?_
  refine lv_sipush (v := 3000) hx hb dX11_rule_2 (by decide) ?_
  have hPc := hP.sub (ws' := []) [] rfl
  have hKc := hK.sub (tys' := []) [] rfl
  refine vp_callSi (W.runS (As := [.int n, .int 0, .int 3000]) (rest := []) ⟨hx, hb, hml, hown, ht⟩ (c_X11_within l dC dI n 0 3000 (n.toInt) (0) (3000) (rfl : (n).toInt = _) (by decide : (0 : Int32).toInt = 0) (by decide : (3000 : Int32).toInt = 3000)) (kS 3 ht m_453 m_454 m_77 m_455 rfl rfl hd_X11_within_v ⟨Nat.le_of_ble_eq_true rfl, Nat.le_of_ble_eq_true rfl⟩) (sR hPc hKc) rfl rfl hl.1 rfl (lv_room (Nat.le_of_ble_eq_true rfl)) dX11_rule_5 ⟨Nat.le_of_ble_eq_true rfl, Nat.le_of_ble_eq_true rfl⟩) (fun r1 hr1 => ?_)
  rcases hr1 with ⟨rfl, fr1⟩ | ⟨rfl, fr1⟩
  · skip
    refine lv_if_ne (tgt := 14) hx hb dX11_rule_8 (by decide) (fun c2 => ?_) (fun c2 => ?_)
    · skip
      refine lv_aload_n hx hb dX11_rule_14 rfl (lv_at hl 0 rfl) ?_
      refine va_get (D := (dC, dI)) (ci := 11) (v := .ref (g 11 3)) (C := RX11) (T := TX11) (N := 11) hx hb ht inX11 hown hK hP 0 rfl rfl 3 (by decide) (ht _ m_418) (fun _ h9 => h9) rfl dX11_rule_15 ?_
      refine va_get (D := (dC, dI)) (ci := 1) (v := .int 0) (C := RX1) (T := TX1) (N := 9) hx hb ht inX1 hown hK hP 1 rfl rfl 7 (by decide) (ht _ m_198) (fun _ h9 => h9) rfl dX11_rule_18 ?_
      refine lv_bipush (v := 8) hx hb dX11_rule_21 (by decide) ?_
      refine lv_icmp_lt (tgt := 29) hx hb dX11_rule_23 (by decide) (fun c3 => ?_) (fun c3 => ?_)
      · skip
        refine lv_aload_n hx hb dX11_rule_29 rfl (lv_at hl 0 rfl) ?_
        refine va_get (D := (dC, dI)) (ci := 11) (v := .ref (g 11 4)) (C := RX11) (T := TX11) (N := 11) hx hb ht inX11 hown hK hP 0 rfl rfl 4 (by decide) (ht _ m_419) (fun _ h9 => h9) rfl dX11_rule_30 ?_
        have hPc := hP.sub (ws' := [((g 11 4), .inr (8, (o8 h g))), ((g 11 3), .inr (1, (o1 h g)))]) [2, 1] rfl
        have hKc := hK.sub (tys' := []) [] rfl
        have hDc := hD.sub (ws' := [((g 11 4), .inr (8, (o8 h g))), ((g 11 3), .inr (1, (o1 h g)))]) [2, 1] (by decide) rfl
        have hFc := va_free (wc := [((g 11 4), .inr (8, (o8 h g))), ((g 11 3), .inr (1, (o1 h g)))]) hD hS hA [2, 1] rfl
        refine va_calli (va_runV (As := []) (rest := []) ⟨hx, hb, hml, hown, ht⟩ (c_X8_read l dC dI H.size h g ca) (kV 0 ht m_680 m_681 m_682 m_82 m_683 rfl rfl hd_X8_read_v ⟨Nat.le_of_ble_eq_true rfl, Nat.le_of_ble_eq_true rfl⟩) (vW hPc hKc hDc (va_recv hKc hPc (ci := 8) (q0 := 0) rfl rfl)) rfl rfl hl.1 rfl (lv_room (Nat.le_of_ble_eq_true rfl)) dX11_rule_33 ⟨Nat.le_of_ble_eq_true rfl, Nat.le_of_ble_eq_true rfl⟩) hS (fun q _ h => hFc q h) hFc (fun r4 u t H1 locs ht9 hvm hr4 hB hz1 hk1 hS => ?_)
        obtain ⟨hP1, hD1⟩ := hB
        rw [ht9] at hP1
        obtain ⟨hP, hD⟩ := va_join (wr := [(h, .inr (11, (o11 h g))), ((g 1 0), .inl ((ca 1 0), 8, .inl (fun _ => 0))), ((g 1 1), .inl ((ca 1 1), 8, .inl (fun _ => 0)))]) (w1 := [((g 11 4), .inr (8, (o8 h g))), ((g 11 3), .inr (1, (o1 h g)))]) hP hD [2, 1] [0, 3, 4] rfl rfl (by decide) (by decide) hk1 hFc hP1 hD1
        generalize H1 = H at hP hS ⊢
        have hP : va_P (dC, dI) classes [(h, .inr (11, (o11 h g))), ((g 1 0), .inl ((ca 1 0), 8, .inl (fun _ => 0))), ((g 1 1), .inl ((ca 1 1), 8, .inl (fun _ => 0))), ((g 11 4), .inr (8, (o8 h g))), ((g 11 3), .inr (1, (o1 h g)))] H := hP
        have hD : va_D A [(h, .inr (11, (o11 h g))), ((g 1 0), .inl ((ca 1 0), 8, .inl (fun _ => 0))), ((g 1 1), .inl ((ca 1 1), 8, .inl (fun _ => 0))), ((g 11 4), .inr (8, (o8 h g))), ((g 11 3), .inr (1, (o1 h g)))] := hD
        obtain rfl : 0 = r4 := hr4.symm
        refine lv_istore_n (lv' := [(2, .int 0), (0, .ref h), (1, .int n)]) hx hb dX11_rule_36 rfl hl (by decide) rfl (fun ls hl => ?_)
        refine lv_iload_n hx hb dX11_rule_37 rfl (lv_at hl 0 rfl) ?_
        refine lv_if_ne (tgt := 52) hx hb dX11_rule_38 (by decide) (fun c5 => ?_) (fun c5 => ?_)
        · exact absurd rfl c5
        · skip
          refine lv_aload_n hx hb dX11_rule_41 rfl (lv_at hl 1 rfl) ?_
          refine va_get (D := (dC, dI)) (ci := 11) (v := .ref (g 11 3)) (C := RX11) (T := TX11) (N := 11) hx hb ht inX11 hown hK hP 0 rfl rfl 3 (by decide) (ht _ m_418) (fun _ h9 => h9) rfl dX11_rule_42 ?_
          refine lv_iload_n hx hb dX11_rule_45 rfl (lv_at hl 2 rfl) ?_
          have hPc := hP.sub (ws' := [((g 11 3), .inr (1, (o1 h g))), ((g 1 0), .inl ((ca 1 0), 8, .inl (fun _ => 0))), ((g 1 1), .inl ((ca 1 1), 8, .inl (fun _ => 0)))]) [4, 1, 2] rfl
          have hKc := hK.sub (tys' := [((ca 1 0), .int), ((ca 1 1), .int)]) [0, 1] rfl
          have hDc := hD.sub (ws' := [((g 11 3), .inr (1, (o1 h g))), ((g 1 0), .inl ((ca 1 0), 8, .inl (fun _ => 0))), ((g 1 1), .inl ((ca 1 1), 8, .inl (fun _ => 0)))]) [4, 1, 2] (by decide) rfl
          have hFc := va_free (wc := [((g 11 3), .inr (1, (o1 h g))), ((g 1 0), .inl ((ca 1 0), 8, .inl (fun _ => 0))), ((g 1 1), .inl ((ca 1 1), 8, .inl (fun _ => 0)))]) hD hS hA [4, 1, 2] rfl
          refine va_calli (va_runV (As := [.int n]) (rest := []) ⟨hx, hb, hml, hown, ht⟩ (c_X1_enact l dC dI H.size h g ca n) (kV 1 ht m_805 m_806 m_807 m_81 m_808 rfl rfl hd_X1_enact_v ⟨Nat.le_of_ble_eq_true rfl, Nat.le_of_ble_eq_true rfl⟩) (vW hPc hKc hDc (va_recv hKc hPc (ci := 1) (q0 := 0) rfl rfl)) rfl rfl hl.1 rfl (lv_room (Nat.le_of_ble_eq_true rfl)) dX11_rule_46 ⟨Nat.le_of_ble_eq_true rfl, Nat.le_of_ble_eq_true rfl⟩) hS (fun q _ h => hFc q h) hFc (fun r6 u t H1 locs ht9 hvm hr6 hB hz1 hk1 hS => ?_)
          have hP1 : va_P (dC, dI) classes [] H1 := noP
          have hD1 : va_D (va_A [((g 11 3), .inr (1, (o1 h g))), ((g 1 0), .inl ((ca 1 0), 8, .inl (fun _ => 0))), ((g 1 1), .inl ((ca 1 1), 8, .inl (fun _ => 0)))] H.size) [] := noD
          obtain ⟨hP, hD⟩ := va_join (wr := [(h, .inr (11, (o11 h g))), ((g 11 4), .inr (8, (o8 h g)))]) (w1 := []) hP hD [4, 1, 2] [0, 3] rfl rfl (by decide) (by decide) hk1 hFc hP1 hD1
          generalize H1 = H at hP hS ⊢
          have hP : va_P (dC, dI) classes [(h, .inr (11, (o11 h g))), ((g 11 4), .inr (8, (o8 h g)))] H := hP
          have hD : va_D A [(h, .inr (11, (o11 h g))), ((g 11 4), .inr (8, (o8 h g)))] := hD
          obtain rfl : 0 = r6 := hr6.symm
          refine lv_goto (tgt := 56) hx hb dX11_rule_49 (by decide) ?_
          exact W.iret (v := 0) hx hb hr (fun t ht9 hW => ⟨⟨0, (), rfl, (by unfold F_rule; first | decide | ((repeat' split) <;> first | rfl | (exfalso; omega) | exact z_of (by decide) (by omega))), trivial⟩, hS.F ht9⟩) hS.2.2 dX11_rule_56
      · exact absurd c3 (by decide)
    · exact absurd c2 (by decide)
  · skip
    refine lv_if_ne (tgt := 14) hx hb dX11_rule_8 (by decide) (fun c7 => ?_) (fun c7 => ?_)
    · exact absurd rfl c7
    · skip
      refine lv_ldc hx hb hown (ht _ m_456) dX11_rule_11 ?_
      exact W.iret (v := (-100002)) hx hb hr (fun t ht9 hW => ⟨⟨(-100002), (), rfl, (by unfold F_rule; first | decide | ((repeat' split) <;> first | rfl | (exfalso; omega) | exact z_of (by decide) (by omega))), trivial⟩, hS.F ht9⟩) hS.2.2 dX11_rule_13
set_option maxHeartbeats 4000000 in
set_option maxRecDepth 100000 in
/-- X11_fault -/
theorem c_X11_fault (l : Launch) (dC : Nat → ClassId) (dI : Nat → Nat → Nat) (h : Nat) (g : Nat → Nat → Nat) (ca : Nat → Nat → ClassId) : Met l yX11_fault (wc yX11_fault cX11_fault 1 (some .int)) ({ frames := 0, cells := 0, slots := 0, locals := 0 } : Room) (pR (dC, dI) classes [(h, .inr (11, (o11 h g))), ((g 11 4), .inr (8, (o8 h g)))] [] [.ref h]) (vp_Si (fun r => r = -1)) 0 0 (fun _ => False) := by
  refine Met.ofW (cc := cX11_fault) (maxL := 1) (ret := (some .int)) (by decide) rfl ?_
  intro p e s m args below meth c s₁ B hml hv
  obtain ⟨rfl, hP, hK⟩ := hv
  have hx := B.exec
  have hb := B.bytes
  have hr := B.returns
  have ht := tb_tl (atoms_spec (ws := wc yX11_fault cX11_fault 1 (some .int)) B.pre)
  have hown : s.vm.findClass RX11 = some m.cls := findClass_of_methodNamed B.named
  have hlocks := B.notSynchronized
  have hl := lv_entry [.ref h] (n := 1) (Nat.le_of_ble_eq_true rfl)
  rw [lg_entry_eq]
  generalize (lg_sl [.ref h] ++ List.replicate (1 - (lg_sl [.ref h]).length) Slot.unset).toArray = ls at hl ⊢
  have hl : lv_has ls 1 [(0, .ref h)] := hl
  refine lv_aload_n hx hb dX11_fault_0 rfl (lv_at hl 0 rfl) ?_
  refine va_get (D := (dC, dI)) (ci := 11) (v := .ref (g 11 4)) (C := RX11) (T := TX11) (N := 11) hx hb ht inX11 hown hK hP 0 rfl rfl 4 (by decide) (ht _ m_419) (fun _ h9 => h9) rfl dX11_fault_1 ?_
  refine va_get (D := (dC, dI)) (ci := 8) (v := .int (-1)) (C := RX8) (T := TX8) (N := 6) hx hb ht inX8 hown hK hP 1 rfl rfl 3 (by decide) (ht _ m_233) (fun _ h9 => h9) rfl dX11_fault_4 ?_
  exact W.iret (v := (-1)) hx hb hr (fun t ht9 hW => ⟨(-1), rfl, rfl, ht9⟩) (fun q hq => by cases hq) dX11_fault_7
set_option maxHeartbeats 4000000 in
set_option maxRecDepth 100000 in
/-- X11_force -/
theorem c_X11_force (l : Launch) (dC : Nat → ClassId) (dI : Nat → Nat → Nat) (h : Nat) (g : Nat → Nat → Nat) (ca : Nat → Nat → ClassId) (n : Int32) (d : Int32) : Met l yX11_force (wc yX11_force cX11_force 3 (some .int)) ({ frames := 2, cells := 0, slots := 0, locals := 48 } : Room) (va_Pc [.ref h, .int n, .int d] (fun U => va_P (dC, dI) classes [(h, .inr (11, (o11 h g))), ((g 11 3), .inr (1, (o1 h g)))] U.heap ∧ va_K (dC, dI) classes [] U ∧ zAF U)) (vp_Si (fun r => r = F_force n d)) 0 0 (fun _ => False) := by
  refine Met.ofW (cc := cX11_force) (maxL := 3) (ret := (some .int)) (by decide) rfl ?_
  intro p e s m args below meth c s₁ B hml hv
  obtain ⟨rfl, hP, hK, hZ⟩ := hv
  have hx := B.exec
  have hb := B.bytes
  have hr := B.returns
  have ht := tb_tl (atoms_spec (ws := wc yX11_force cX11_force 3 (some .int)) B.pre)
  have hown : s.vm.findClass RX11 = some m.cls := findClass_of_methodNamed B.named
  have hlocks := B.notSynchronized
  have hl := lv_entry [.ref h, .int n, .int d] (n := 3) (Nat.le_of_ble_eq_true rfl)
  rw [lg_entry_eq]
  generalize (lg_sl [.ref h, .int n, .int d] ++ List.replicate (3 - (lg_sl [.ref h, .int n, .int d]).length) Slot.unset).toArray = ls at hl ⊢
  have hl : lv_has ls 3 [(0, .ref h), (1, .int n), (2, .int d)] := hl
  refine lv_iload_n hx hb dX11_force_0 rfl (lv_at hl 1 rfl) ?_
  refine lv_iconst (v := 0) hx hb dX11_force_1 (by decide) ?_
  refine lv_iconst (v := 5) hx hb dX11_force_2 (by decide) ?_
  have hPc := hP.sub (ws' := []) [] rfl
  have hKc := hK.sub (tys' := []) [] rfl
  refine vp_callSi (W.runS (As := [.int n, .int 0, .int 5]) (rest := []) ⟨hx, hb, hml, hown, ht⟩ (c_X11_within l dC dI n 0 5 (n.toInt) (0) (5) (rfl : (n).toInt = _) (by decide : (0 : Int32).toInt = 0) (by decide : (5 : Int32).toInt = 5)) (kS 3 ht m_453 m_454 m_77 m_455 rfl rfl hd_X11_within_v ⟨Nat.le_of_ble_eq_true rfl, Nat.le_of_ble_eq_true rfl⟩) (sR hPc hKc) rfl rfl hl.1 rfl (lv_room (Nat.le_of_ble_eq_true rfl)) dX11_force_3 ⟨Nat.le_of_ble_eq_true rfl, Nat.le_of_ble_eq_true rfl⟩) (fun r1 hr1 => ?_)
  rcases hr1 with ⟨rfl, fr1⟩ | ⟨rfl, fr1⟩
  · skip
    refine lv_if_eq (tgt := 20) hx hb dX11_force_6 (by decide) (fun c2 => ?_) (fun c2 => ?_)
    · exact absurd c2 (by decide)
    · skip
      refine lv_iload_n hx hb dX11_force_9 rfl (lv_at hl 2 rfl) ?_
      refine lv_iconst (v := 0) hx hb dX11_force_10 (by decide) ?_
      refine lv_sipush (v := 3000) hx hb dX11_force_11 (by decide) ?_
      have hPc := hP.sub (ws' := []) [] rfl
      have hKc := hK.sub (tys' := []) [] rfl
      refine vp_callSi (W.runS (As := [.int d, .int 0, .int 3000]) (rest := []) ⟨hx, hb, hml, hown, ht⟩ (c_X11_within l dC dI d 0 3000 (d.toInt) (0) (3000) (rfl : (d).toInt = _) (by decide : (0 : Int32).toInt = 0) (by decide : (3000 : Int32).toInt = 3000)) (kS 3 ht m_453 m_454 m_77 m_455 rfl rfl hd_X11_within_v ⟨Nat.le_of_ble_eq_true rfl, Nat.le_of_ble_eq_true rfl⟩) (sR hPc hKc) rfl rfl hl.1 rfl (lv_room (Nat.le_of_ble_eq_true rfl)) dX11_force_14 ⟨Nat.le_of_ble_eq_true rfl, Nat.le_of_ble_eq_true rfl⟩) (fun r3 hr3 => ?_)
      rcases hr3 with ⟨rfl, fr3⟩ | ⟨rfl, fr3⟩
      · skip
        refine lv_if_ne (tgt := 23) hx hb dX11_force_17 (by decide) (fun c4 => ?_) (fun c4 => ?_)
        · skip
          refine lv_aload_n hx hb dX11_force_23 rfl (lv_at hl 0 rfl) ?_
          refine va_get (D := (dC, dI)) (ci := 11) (v := .ref (g 11 3)) (C := RX11) (T := TX11) (N := 11) hx hb ht inX11 hown hK hP 0 rfl rfl 3 (by decide) (ht _ m_418) (fun _ h9 => h9) rfl dX11_force_24 ?_
          refine lv_iload_n hx hb dX11_force_27 rfl (lv_at hl 1 rfl) ?_
          refine lv_iload_n hx hb dX11_force_28 rfl (lv_at hl 2 rfl) ?_
          have hPc := hP.sub (ws' := [((g 11 3), .inr (1, (o1 h g)))]) [1] rfl
          have hKc := hK.sub (tys' := []) [] rfl
          refine vp_callSi (W.runV (As := [.int n, .int d]) (rest := []) ⟨hx, hb, hml, hown, ht⟩ (c_X1_holding l dC dI h g ca n d (by omega)) (kV 2 ht m_667 m_601 m_602 m_81 m_603 rfl rfl hd_X1_holding_v ⟨Nat.le_of_ble_eq_true rfl, Nat.le_of_ble_eq_true rfl⟩) (vRZ hPc hKc hZ (va_recv hKc hPc (ci := 1) (q0 := 0) rfl rfl)) rfl rfl hl.1 rfl (lv_room (Nat.le_of_ble_eq_true rfl)) dX11_force_29 ⟨Nat.le_of_ble_eq_true rfl, Nat.le_of_ble_eq_true rfl⟩) (fun r5 hr5 => ?_)
          obtain rfl : (F_atF n) = r5 := hr5.symm
          exact W.iret (v := (F_atF n)) hx hb hr (fun t ht9 hW => ⟨(F_atF n), rfl, (by unfold F_force; first | decide | ((repeat' split) <;> first | rfl | (exfalso; omega) | exact z_of (by decide) (by omega))), ht9⟩) (fun q hq => by cases hq) dX11_force_32
        · exact absurd c4 (by decide)
      · skip
        refine lv_if_ne (tgt := 23) hx hb dX11_force_17 (by decide) (fun c6 => ?_) (fun c6 => ?_)
        · exact absurd rfl c6
        · skip
          refine lv_ldc hx hb hown (ht _ m_456) dX11_force_20 ?_
          exact W.iret (v := (-100002)) hx hb hr (fun t ht9 hW => ⟨(-100002), rfl, (by unfold F_force; first | decide | ((repeat' split) <;> first | rfl | (exfalso; omega) | exact z_of (by decide) (by omega))), ht9⟩) (fun q hq => by cases hq) dX11_force_22
  · skip
    refine lv_if_eq (tgt := 20) hx hb dX11_force_6 (by decide) (fun c7 => ?_) (fun c7 => ?_)
    · skip
      refine lv_ldc hx hb hown (ht _ m_456) dX11_force_20 ?_
      exact W.iret (v := (-100002)) hx hb hr (fun t ht9 hW => ⟨(-100002), rfl, (by unfold F_force; first | decide | ((repeat' split) <;> first | rfl | (exfalso; omega) | exact z_of (by decide) (by omega))), ht9⟩) (fun q hq => by cases hq) dX11_force_22
    · exact absurd rfl c7
end
section
set_option maxHeartbeats 4000000 in
set_option maxRecDepth 100000 in
/-- X11_load -/
theorem c_X11_load (l : Launch) (dC : Nat → ClassId) (dI : Nat → Nat → Nat) (sz : Nat) (h : Nat) (g : Nat → Nat → Nat) (ca : Nat → Nat → ClassId) (n : Int32) : Met l yX11_load (wc yX11_load cX11_load 2 (some .int)) ({ frames := 1, cells := 0, slots := 0, locals := 22 } : Room) (pW (dC, dI) classes [(h, .inr (11, (o11 h g))), ((g 11 7), .inr (5, (o5 h g))), ((g 5 0), .inl ((ca 5 0), 8, .inl (fun _ => 0)))] [((ca 5 0), .int)] sz [.ref h, .int n]) (va_Qi (fun r (_ : Unit) => r = F_load n) (fun _ _ => True) (va_A [(h, .inr (11, (o11 h g))), ((g 11 7), .inr (5, (o5 h g))), ((g 5 0), .inl ((ca 5 0), 8, .inl (fun _ => 0)))] sz)) 0 0 (va_A [(h, .inr (11, (o11 h g))), ((g 11 7), .inr (5, (o5 h g))), ((g 5 0), .inl ((ca 5 0), 8, .inl (fun _ => 0)))] sz) := by
  refine Met.ofW (cc := cX11_load) (maxL := 2) (ret := (some .int)) (by decide) rfl ?_
  intro p e s m args below meth c s₁ B hml hv
  obtain ⟨rfl, hsz, hP, hK, hD0⟩ := hv
  have hx := B.exec
  have hb := B.bytes
  have hr := B.returns
  have ht := tb_tl (atoms_spec (ws := wc yX11_load cX11_load 2 (some .int)) B.pre)
  have hown : s.vm.findClass RX11 = some m.cls := findClass_of_methodNamed B.named
  have hlocks := B.notSynchronized
  subst hsz
  have hD := hD0.self (sz := s.heap.size)
  generalize hAe : va_A [(h, .inr (11, (o11 h g))), ((g 11 7), .inr (5, (o5 h g))), ((g 5 0), .inl ((ca 5 0), 8, .inl (fun _ => 0)))] s.heap.size = A at hD ⊢
  have hA : ∀ q : Nat, s.heap.size ≤ q → A q := fun q h => by rw [← hAe]; exact Or.inr h
  have hS : va_S A s.heap s.heap [] := va_S.rf
  have hP : va_P (dC, dI) classes [(h, .inr (11, (o11 h g))), ((g 11 7), .inr (5, (o5 h g))), ((g 5 0), .inl ((ca 5 0), 8, .inl (fun _ => 0)))] s.heap := hP
  have hl := lv_entry [.ref h, .int n] (n := 2) (Nat.le_of_ble_eq_true rfl)
  rw [lg_entry_eq]
  generalize (lg_sl [.ref h, .int n] ++ List.replicate (2 - (lg_sl [.ref h, .int n]).length) Slot.unset).toArray = ls at hl ⊢
  have hl : lv_has ls 2 [(0, .ref h), (1, .int n)] := hl
  refine lv_iload_n hx hb dX11_load_0 rfl (lv_at hl 1 rfl) ?_
  refine lv_iconst (v := 1) hx hb dX11_load_1 (by decide) ?_
  refine lv_sipush (v := 999) hx hb dX11_load_2 (by decide) ?_
  have hPc := hP.sub (ws' := []) [] rfl
  have hKc := hK.sub (tys' := []) [] rfl
  refine vp_callSi (W.runS (As := [.int n, .int 1, .int 999]) (rest := []) ⟨hx, hb, hml, hown, ht⟩ (c_X11_within l dC dI n 1 999 (n.toInt) (1) (999) (rfl : (n).toInt = _) (by decide : (1 : Int32).toInt = 1) (by decide : (999 : Int32).toInt = 999)) (kS 3 ht m_453 m_454 m_77 m_455 rfl rfl hd_X11_within_v ⟨Nat.le_of_ble_eq_true rfl, Nat.le_of_ble_eq_true rfl⟩) (sR hPc hKc) rfl rfl hl.1 rfl (lv_room (Nat.le_of_ble_eq_true rfl)) dX11_load_5 ⟨Nat.le_of_ble_eq_true rfl, Nat.le_of_ble_eq_true rfl⟩) (fun r1 hr1 => ?_)
  rcases hr1 with ⟨rfl, fr1⟩ | ⟨rfl, fr1⟩
  · skip
    refine lv_if_ne (tgt := 14) hx hb dX11_load_8 (by decide) (fun c2 => ?_) (fun c2 => ?_)
    · skip
      refine lv_aload_n hx hb dX11_load_14 rfl (lv_at hl 0 rfl) ?_
      refine va_get (D := (dC, dI)) (ci := 11) (v := .ref (g 11 7)) (C := RX11) (T := TX11) (N := 11) hx hb ht inX11 hown hK hP 0 rfl rfl 7 (by decide) (ht _ m_422) (fun _ h9 => h9) rfl dX11_load_15 ?_
      refine va_get (D := (dC, dI)) (ci := 5) (v := .int 0) (C := RX5) (T := TX5) (N := 7) hx hb ht inX5 hown hK hP 1 rfl rfl 4 (by decide) (ht _ m_341) (fun _ h9 => h9) rfl dX11_load_18 ?_
      refine lv_bipush (v := 8) hx hb dX11_load_21 (by decide) ?_
      refine lv_icmp_lt (tgt := 31) hx hb dX11_load_23 (by decide) (fun c3 => ?_) (fun c3 => ?_)
      · skip
        refine lv_aload_n hx hb dX11_load_31 rfl (lv_at hl 0 rfl) ?_
        refine va_get (D := (dC, dI)) (ci := 11) (v := .ref (g 11 7)) (C := RX11) (T := TX11) (N := 11) hx hb ht inX11 hown hK hP 0 rfl rfl 7 (by decide) (ht _ m_422) (fun _ h9 => h9) rfl dX11_load_32 ?_
        refine lv_iload_n hx hb dX11_load_35 rfl (lv_at hl 1 rfl) ?_
        have hPc := hP.sub (ws' := [((g 11 7), .inr (5, (o5 h g))), ((g 5 0), .inl ((ca 5 0), 8, .inl (fun _ => 0)))]) [1, 2] rfl
        have hKc := hK.sub (tys' := [((ca 5 0), .int)]) [0] rfl
        have hDc := hD.sub (ws' := [((g 11 7), .inr (5, (o5 h g))), ((g 5 0), .inl ((ca 5 0), 8, .inl (fun _ => 0)))]) [1, 2] (by decide) rfl
        have hFc := va_free (wc := [((g 11 7), .inr (5, (o5 h g))), ((g 5 0), .inl ((ca 5 0), 8, .inl (fun _ => 0)))]) hD hS hA [1, 2] rfl
        refine va_calli (va_runV (As := [.int n]) (rest := []) ⟨hx, hb, hml, hown, ht⟩ (c_X5_bring l dC dI H.size h g ca n) (kV 1 ht m_1005 m_1006 m_1007 m_86 m_1008 rfl rfl hd_X5_bring_v ⟨Nat.le_of_ble_eq_true rfl, Nat.le_of_ble_eq_true rfl⟩) (vW hPc hKc hDc (va_recv hKc hPc (ci := 5) (q0 := 0) rfl rfl)) rfl rfl hl.1 rfl (lv_room (Nat.le_of_ble_eq_true rfl)) dX11_load_36 ⟨Nat.le_of_ble_eq_true rfl, Nat.le_of_ble_eq_true rfl⟩) hS (fun q _ h => hFc q h) hFc (fun r4 u t H1 locs ht9 hvm hr4 hB hz1 hk1 hS => ?_)
        have hP1 : va_P (dC, dI) classes [] H1 := noP
        have hD1 : va_D (va_A [((g 11 7), .inr (5, (o5 h g))), ((g 5 0), .inl ((ca 5 0), 8, .inl (fun _ => 0)))] H.size) [] := noD
        obtain ⟨hP, hD⟩ := va_join (wr := [(h, .inr (11, (o11 h g)))]) (w1 := []) hP hD [1, 2] [0] rfl rfl (by decide) (by decide) hk1 hFc hP1 hD1
        generalize H1 = H at hP hS ⊢
        have hP : va_P (dC, dI) classes [(h, .inr (11, (o11 h g)))] H := hP
        have hD : va_D A [(h, .inr (11, (o11 h g)))] := hD
        obtain rfl : 1 = r4 := hr4.symm
        exact W.iret (v := 1) hx hb hr (fun t ht9 hW => ⟨⟨1, (), rfl, (by unfold F_load; first | decide | ((repeat' split) <;> first | rfl | (exfalso; omega) | exact z_of (by decide) (by omega))), trivial⟩, hS.F ht9⟩) hS.2.2 dX11_load_39
      · exact absurd c3 (by decide)
    · exact absurd c2 (by decide)
  · skip
    refine lv_if_ne (tgt := 14) hx hb dX11_load_8 (by decide) (fun c5 => ?_) (fun c5 => ?_)
    · exact absurd rfl c5
    · skip
      refine lv_ldc hx hb hown (ht _ m_456) dX11_load_11 ?_
      exact W.iret (v := (-100002)) hx hb hr (fun t ht9 hW => ⟨⟨(-100002), (), rfl, (by unfold F_load; first | decide | ((repeat' split) <;> first | rfl | (exfalso; omega) | exact z_of (by decide) (by omega))), trivial⟩, hS.F ht9⟩) hS.2.2 dX11_load_13
set_option maxHeartbeats 4000000 in
set_option maxRecDepth 100000 in
/-- X11_order -/
theorem c_X11_order (l : Launch) (dC : Nat → ClassId) (dI : Nat → Nat → Nat) (sz : Nat) (h : Nat) (g : Nat → Nat → Nat) (ca : Nat → Nat → ClassId) (n : Int32) (i : Int32) : Met l yX11_order (wc yX11_order cX11_order 3 (some .int)) ({ frames := 3, cells := 0, slots := 0, locals := 105 } : Room) (pW (dC, dI) classes [(h, .inr (11, (o11 h g))), ((g 11 7), .inr (5, (o5 h g))), ((g 5 1), .inl ((ca 5 1), 8, .inl (fun _ => 0))), ((g 5 3), .inl ((ca 5 3), 8, .inl (fun _ => 0)))] [((ca 5 1), .int), ((ca 5 3), .int)] sz [.ref h, .int n, .int i]) (va_Qi (fun r (_ : Unit) => r = F_order n i) (fun _ _ => True) (va_A [(h, .inr (11, (o11 h g))), ((g 11 7), .inr (5, (o5 h g))), ((g 5 1), .inl ((ca 5 1), 8, .inl (fun _ => 0))), ((g 5 3), .inl ((ca 5 3), 8, .inl (fun _ => 0)))] sz)) 0 0 (va_A [(h, .inr (11, (o11 h g))), ((g 11 7), .inr (5, (o5 h g))), ((g 5 1), .inl ((ca 5 1), 8, .inl (fun _ => 0))), ((g 5 3), .inl ((ca 5 3), 8, .inl (fun _ => 0)))] sz) := by
  refine Met.ofW (cc := cX11_order) (maxL := 3) (ret := (some .int)) (by decide) rfl ?_
  intro p e s m args below meth c s₁ B hml hv
  obtain ⟨rfl, hsz, hP, hK, hD0⟩ := hv
  have hx := B.exec
  have hb := B.bytes
  have hr := B.returns
  have ht := tb_tl (atoms_spec (ws := wc yX11_order cX11_order 3 (some .int)) B.pre)
  have hown : s.vm.findClass RX11 = some m.cls := findClass_of_methodNamed B.named
  have hlocks := B.notSynchronized
  subst hsz
  have hD := hD0.self (sz := s.heap.size)
  generalize hAe : va_A [(h, .inr (11, (o11 h g))), ((g 11 7), .inr (5, (o5 h g))), ((g 5 1), .inl ((ca 5 1), 8, .inl (fun _ => 0))), ((g 5 3), .inl ((ca 5 3), 8, .inl (fun _ => 0)))] s.heap.size = A at hD ⊢
  have hA : ∀ q : Nat, s.heap.size ≤ q → A q := fun q h => by rw [← hAe]; exact Or.inr h
  have hS : va_S A s.heap s.heap [] := va_S.rf
  have hP : va_P (dC, dI) classes [(h, .inr (11, (o11 h g))), ((g 11 7), .inr (5, (o5 h g))), ((g 5 1), .inl ((ca 5 1), 8, .inl (fun _ => 0))), ((g 5 3), .inl ((ca 5 3), 8, .inl (fun _ => 0)))] s.heap := hP
  have hl := lv_entry [.ref h, .int n, .int i] (n := 3) (Nat.le_of_ble_eq_true rfl)
  rw [lg_entry_eq]
  generalize (lg_sl [.ref h, .int n, .int i] ++ List.replicate (3 - (lg_sl [.ref h, .int n, .int i]).length) Slot.unset).toArray = ls at hl ⊢
  have hl : lv_has ls 3 [(0, .ref h), (1, .int n), (2, .int i)] := hl
  refine lv_iload_n hx hb dX11_order_0 rfl (lv_at hl 1 rfl) ?_
  refine lv_iconst (v := 1) hx hb dX11_order_1 (by decide) ?_
  refine lv_iconst (v := 3) hx hb dX11_order_2 (by decide) ?_
  have hPc := hP.sub (ws' := []) [] rfl
  have hKc := hK.sub (tys' := []) [] rfl
  refine vp_callSi (W.runS (As := [.int n, .int 1, .int 3]) (rest := []) ⟨hx, hb, hml, hown, ht⟩ (c_X11_within l dC dI n 1 3 (n.toInt) (1) (3) (rfl : (n).toInt = _) (by decide : (1 : Int32).toInt = 1) (by decide : (3 : Int32).toInt = 3)) (kS 3 ht m_453 m_454 m_77 m_455 rfl rfl hd_X11_within_v ⟨Nat.le_of_ble_eq_true rfl, Nat.le_of_ble_eq_true rfl⟩) (sR hPc hKc) rfl rfl hl.1 rfl (lv_room (Nat.le_of_ble_eq_true rfl)) dX11_order_3 ⟨Nat.le_of_ble_eq_true rfl, Nat.le_of_ble_eq_true rfl⟩) (fun r1 hr1 => ?_)
  rcases hr1 with ⟨rfl, fr1⟩ | ⟨rfl, fr1⟩
  · skip
    refine lv_if_ne (tgt := 12) hx hb dX11_order_6 (by decide) (fun c2 => ?_) (fun c2 => ?_)
    · skip
      refine lv_aload_n hx hb dX11_order_12 rfl (lv_at hl 0 rfl) ?_
      refine va_get (D := (dC, dI)) (ci := 11) (v := .ref (g 11 7)) (C := RX11) (T := TX11) (N := 11) hx hb ht inX11 hown hK hP 0 rfl rfl 7 (by decide) (ht _ m_422) (fun _ h9 => h9) rfl dX11_order_13 ?_
      refine lv_iload_n hx hb dX11_order_16 rfl (lv_at hl 1 rfl) ?_
      have hPc := hP.sub (ws' := [((g 11 7), .inr (5, (o5 h g))), ((g 5 1), .inl ((ca 5 1), 8, .inl (fun _ => 0))), ((g 5 3), .inl ((ca 5 3), 8, .inl (fun _ => 0)))]) [1, 2, 3] rfl
      have hKc := hK.sub (tys' := [((ca 5 1), .int), ((ca 5 3), .int)]) [0, 1] rfl
      have hDc := hD.sub (ws' := [((g 11 7), .inr (5, (o5 h g))), ((g 5 1), .inl ((ca 5 1), 8, .inl (fun _ => 0))), ((g 5 3), .inl ((ca 5 3), 8, .inl (fun _ => 0)))]) [1, 2, 3] (by decide) rfl
      have hFc := va_free (wc := [((g 11 7), .inr (5, (o5 h g))), ((g 5 1), .inl ((ca 5 1), 8, .inl (fun _ => 0))), ((g 5 3), .inl ((ca 5 3), 8, .inl (fun _ => 0)))]) hD hS hA [1, 2, 3] rfl
      refine va_callv (va_runV (As := [.int n]) (rest := []) ⟨hx, hb, hml, hown, ht⟩ (c_X5_arrange l dC dI H.size h g ca n (by omega)) (kV 1 ht m_1013 m_1014 m_1015 m_86 m_1016 rfl rfl hd_X5_arrange_v ⟨Nat.le_of_ble_eq_true rfl, Nat.le_of_ble_eq_true rfl⟩) (vW hPc hKc hDc (va_recv hKc hPc (ci := 5) (q0 := 0) rfl rfl)) rfl rfl hl.1 rfl (lv_room (Nat.le_of_ble_eq_true rfl)) dX11_order_17 ⟨Nat.le_of_ble_eq_true rfl, Nat.le_of_ble_eq_true rfl⟩) hS (fun q _ h => hFc q h) hFc (fun u t H1 locs ht9 hvm hw hB hz1 hk1 hS => ?_)
      obtain ⟨hP1, hD1⟩ := hB
      rw [ht9] at hP1
      obtain ⟨hP, hD⟩ := va_join (wr := [(h, .inr (11, (o11 h g)))]) (w1 := [((g 11 7), .inr (5, [.ref (g 5 0), .ref (g 5 1), .ref (g 5 2), .ref (g 5 3), .int 0, .int 0, .int n]))]) hP hD [1, 2, 3] [0] rfl rfl (by decide) (by decide) hk1 hFc hP1 hD1
      generalize H1 = H at hP hS ⊢
      have hP : va_P (dC, dI) classes [(h, .inr (11, (o11 h g))), ((g 11 7), .inr (5, [.ref (g 5 0), .ref (g 5 1), .ref (g 5 2), .ref (g 5 3), .int 0, .int 0, .int n]))] H := hP
      have hD : va_D A [(h, .inr (11, (o11 h g))), ((g 11 7), .inr (5, [.ref (g 5 0), .ref (g 5 1), .ref (g 5 2), .ref (g 5 3), .int 0, .int 0, .int n]))] := hD
      refine lv_iload_n hx hb dX11_order_20 rfl (lv_at hl 2 rfl) ?_
      refine lv_iconst (v := (-1)) hx hb dX11_order_21 (by decide) ?_
      refine lv_icmp_ne (tgt := 33) hx hb dX11_order_22 (by decide) (fun c4 => ?_) (fun c4 => ?_)
      · have fc4 := z_ne (rfl : (i).toInt = _) (by decide : ((-1) : Int32).toInt = (-1)) c4
        refine lv_iload_n hx hb dX11_order_33 rfl (lv_at hl 2 rfl) ?_
        refine lv_iconst (v := 0) hx hb dX11_order_34 (by decide) ?_
        refine lv_aload_n hx hb dX11_order_35 rfl (lv_at hl 0 rfl) ?_
        refine va_get (D := (dC, dI)) (ci := 11) (v := .ref (g 11 7)) (C := RX11) (T := TX11) (N := 11) hx hb ht inX11 hown hK hP 0 rfl rfl 7 (by decide) (ht _ m_422) (fun _ h9 => h9) rfl dX11_order_36 ?_
        refine va_get (D := (dC, dI)) (ci := 5) (v := .int 0) (C := RX5) (T := TX5) (N := 7) hx hb ht inX5 hown hK hP 1 rfl rfl 4 (by decide) (ht _ m_341) (fun _ h9 => h9) rfl dX11_order_39 ?_
        refine lv_iconst (v := 1) hx hb dX11_order_42 (by decide) ?_
        refine lv_isub hx hb dX11_order_43 ?_
        refine lv_topi (fun v5 ev5 => ?_)
        obtain rfl : (-1) = v5 := (ev5.trans (by decide)).symm
        have hPc := hP.sub (ws' := []) [] rfl
        have hKc := hK.sub (tys' := []) [] rfl
        refine vp_callSi (W.runS (As := [.int i, .int 0, .int (-1)]) (rest := []) ⟨hx, hb, hml, hown, ht⟩ (c_X11_within l dC dI i 0 (-1) (i.toInt) (0) ((-1)) (rfl : (i).toInt = _) (by decide : (0 : Int32).toInt = 0) (by decide : ((-1) : Int32).toInt = (-1))) (kS 3 ht m_453 m_454 m_77 m_455 rfl rfl hd_X11_within_v ⟨Nat.le_of_ble_eq_true rfl, Nat.le_of_ble_eq_true rfl⟩) (sR hPc hKc) rfl rfl hl.1 rfl (lv_room (Nat.le_of_ble_eq_true rfl)) dX11_order_44 ⟨Nat.le_of_ble_eq_true rfl, Nat.le_of_ble_eq_true rfl⟩) (fun r6 hr6 => ?_)
        rcases hr6 with ⟨rfl, fr6⟩ | ⟨rfl, fr6⟩
        · exfalso; omega
        · skip
          refine lv_if_eq (tgt := 62) hx hb dX11_order_47 (by decide) (fun c7 => ?_) (fun c7 => ?_)
          · skip
            refine lv_iconst (v := (-1)) hx hb dX11_order_62 (by decide) ?_
            exact W.iret (v := (-1)) hx hb hr (fun t ht9 hW => ⟨⟨(-1), (), rfl, (by unfold F_order; first | decide | ((repeat' split) <;> first | rfl | (exfalso; omega) | exact z_of (by decide) (by omega))), trivial⟩, hS.F ht9⟩) hS.2.2 dX11_order_63
          · exact absurd rfl c7
      · have fc4 := z_eq (rfl : (i).toInt = _) (by decide : ((-1) : Int32).toInt = (-1)) c4
        refine lv_aload_n hx hb dX11_order_25 rfl (lv_at hl 0 rfl) ?_
        refine va_get (D := (dC, dI)) (ci := 11) (v := .ref (g 11 7)) (C := RX11) (T := TX11) (N := 11) hx hb ht inX11 hown hK hP 0 rfl rfl 7 (by decide) (ht _ m_422) (fun _ h9 => h9) rfl dX11_order_26 ?_
        refine va_get (D := (dC, dI)) (ci := 5) (v := .int 0) (C := RX5) (T := TX5) (N := 7) hx hb ht inX5 hown hK hP 1 rfl rfl 5 (by decide) (ht _ m_343) (fun _ h9 => h9) rfl dX11_order_29 ?_
        exact W.iret (v := 0) hx hb hr (fun t ht9 hW => ⟨⟨0, (), rfl, (by unfold F_order; first | decide | ((repeat' split) <;> first | rfl | (exfalso; omega) | exact z_of (by decide) (by omega))), trivial⟩, hS.F ht9⟩) hS.2.2 dX11_order_32
    · exact absurd c2 (by decide)
  · skip
    refine lv_if_ne (tgt := 12) hx hb dX11_order_6 (by decide) (fun c8 => ?_) (fun c8 => ?_)
    · exact absurd rfl c8
    · skip
      refine lv_ldc hx hb hown (ht _ m_456) dX11_order_9 ?_
      exact W.iret (v := (-100002)) hx hb hr (fun t ht9 hW => ⟨⟨(-100002), (), rfl, (by unfold F_order; first | decide | ((repeat' split) <;> first | rfl | (exfalso; omega) | exact z_of (by decide) (by omega))), trivial⟩, hS.F ht9⟩) hS.2.2 dX11_order_11
set_option maxHeartbeats 4000000 in
set_option maxRecDepth 100000 in
/-- X11_empty -/
theorem c_X11_empty (l : Launch) (dC : Nat → ClassId) (dI : Nat → Nat → Nat) (sz : Nat) (h : Nat) (g : Nat → Nat → Nat) (ca : Nat → Nat → ClassId) : Met l yX11_empty (wc yX11_empty cX11_empty 1 (some .int)) ({ frames := 1, cells := 0, slots := 0, locals := 21 } : Room) (pW (dC, dI) classes [(h, .inr (11, (o11 h g))), ((g 11 7), .inr (5, (o5 h g)))] [] sz [.ref h]) (va_Qi (fun r (_ : Unit) => r = 0) (fun _ _ => True) (va_A [(h, .inr (11, (o11 h g))), ((g 11 7), .inr (5, (o5 h g)))] sz)) 0 0 (va_A [(h, .inr (11, (o11 h g))), ((g 11 7), .inr (5, (o5 h g)))] sz) := by
  refine Met.ofW (cc := cX11_empty) (maxL := 1) (ret := (some .int)) (by decide) rfl ?_
  intro p e s m args below meth c s₁ B hml hv
  obtain ⟨rfl, hsz, hP, hK, hD0⟩ := hv
  have hx := B.exec
  have hb := B.bytes
  have hr := B.returns
  have ht := tb_tl (atoms_spec (ws := wc yX11_empty cX11_empty 1 (some .int)) B.pre)
  have hown : s.vm.findClass RX11 = some m.cls := findClass_of_methodNamed B.named
  have hlocks := B.notSynchronized
  subst hsz
  have hD := hD0.self (sz := s.heap.size)
  generalize hAe : va_A [(h, .inr (11, (o11 h g))), ((g 11 7), .inr (5, (o5 h g)))] s.heap.size = A at hD ⊢
  have hA : ∀ q : Nat, s.heap.size ≤ q → A q := fun q h => by rw [← hAe]; exact Or.inr h
  have hS : va_S A s.heap s.heap [] := va_S.rf
  have hP : va_P (dC, dI) classes [(h, .inr (11, (o11 h g))), ((g 11 7), .inr (5, (o5 h g)))] s.heap := hP
  have hl := lv_entry [.ref h] (n := 1) (Nat.le_of_ble_eq_true rfl)
  rw [lg_entry_eq]
  generalize (lg_sl [.ref h] ++ List.replicate (1 - (lg_sl [.ref h]).length) Slot.unset).toArray = ls at hl ⊢
  have hl : lv_has ls 1 [(0, .ref h)] := hl
  refine lv_aload_n hx hb dX11_empty_0 rfl (lv_at hl 0 rfl) ?_
  refine va_get (D := (dC, dI)) (ci := 11) (v := .ref (g 11 7)) (C := RX11) (T := TX11) (N := 11) hx hb ht inX11 hown hK hP 0 rfl rfl 7 (by decide) (ht _ m_422) (fun _ h9 => h9) rfl dX11_empty_1 ?_
  have hPc := hP.sub (ws' := [((g 11 7), .inr (5, (o5 h g)))]) [1] rfl
  have hKc := hK.sub (tys' := []) [] rfl
  have hDc := hD.sub (ws' := [((g 11 7), .inr (5, (o5 h g)))]) [1] (by decide) rfl
  have hFc := va_free (wc := [((g 11 7), .inr (5, (o5 h g)))]) hD hS hA [1] rfl
  refine va_calli (va_runV (As := []) (rest := []) ⟨hx, hb, hml, hown, ht⟩ (c_X5_clear l dC dI H.size h g ca) (kV 0 ht m_1030 m_1031 m_1032 m_86 m_1033 rfl rfl hd_X5_clear_v ⟨Nat.le_of_ble_eq_true rfl, Nat.le_of_ble_eq_true rfl⟩) (vW hPc hKc hDc (va_recv hKc hPc (ci := 5) (q0 := 0) rfl rfl)) rfl rfl hl.1 rfl (lv_room (Nat.le_of_ble_eq_true rfl)) dX11_empty_4 ⟨Nat.le_of_ble_eq_true rfl, Nat.le_of_ble_eq_true rfl⟩) hS (fun q _ h => hFc q h) hFc (fun r1 u t H1 locs ht9 hvm hr1 hB hz1 hk1 hS => ?_)
  have hP1 : va_P (dC, dI) classes [] H1 := noP
  have hD1 : va_D (va_A [((g 11 7), .inr (5, (o5 h g)))] H.size) [] := noD
  obtain ⟨hP, hD⟩ := va_join (wr := [(h, .inr (11, (o11 h g)))]) (w1 := []) hP hD [1] [0] rfl rfl (by decide) (by decide) hk1 hFc hP1 hD1
  generalize H1 = H at hP hS ⊢
  have hP : va_P (dC, dI) classes [(h, .inr (11, (o11 h g)))] H := hP
  have hD : va_D A [(h, .inr (11, (o11 h g)))] := hD
  obtain rfl : 0 = r1 := hr1.symm
  exact W.iret (v := 0) hx hb hr (fun t ht9 hW => ⟨⟨0, (), rfl, rfl, trivial⟩, hS.F ht9⟩) hS.2.2 dX11_empty_7
set_option maxHeartbeats 4000000 in
set_option maxRecDepth 100000 in
/-- X11_shared -/
theorem c_X11_shared (l : Launch) (dC : Nat → ClassId) (dI : Nat → Nat → Nat) (sz : Nat) (h : Nat) (g : Nat → Nat → Nat) (ca : Nat → Nat → ClassId) (a : Int32) (b : Int32) (d : Int32) (k : Int32) : Met l yX11_shared (wc yX11_shared cX11_shared 5 (some .int)) ({ frames := 1, cells := 0, slots := 0, locals := 22 } : Room) (pW (dC, dI) classes [(h, .inr (11, (o11 h g))), ((g 11 8), .inr (4, (o4 h g))), ((g 4 0), .inl ((ca 4 0), 8, .inl (fun _ => 0))), ((g 4 1), .inl ((ca 4 1), 8, .inl (fun _ => 0)))] [((ca 4 0), .int), ((ca 4 1), .int)] sz [.ref h, .int a, .int b, .int d, .int k]) (va_Qi (fun r (_ : Unit) => r = F_shared a b d k) (fun _ _ => True) (va_A [(h, .inr (11, (o11 h g))), ((g 11 8), .inr (4, (o4 h g))), ((g 4 0), .inl ((ca 4 0), 8, .inl (fun _ => 0))), ((g 4 1), .inl ((ca 4 1), 8, .inl (fun _ => 0)))] sz)) 0 0 (va_A [(h, .inr (11, (o11 h g))), ((g 11 8), .inr (4, (o4 h g))), ((g 4 0), .inl ((ca 4 0), 8, .inl (fun _ => 0))), ((g 4 1), .inl ((ca 4 1), 8, .inl (fun _ => 0)))] sz) := by
  refine Met.ofW (cc := cX11_shared) (maxL := 5) (ret := (some .int)) (by decide) rfl ?_
  intro p e s m args below meth c s₁ B hml hv
  obtain ⟨rfl, hsz, hP, hK, hD0⟩ := hv
  have hx := B.exec
  have hb := B.bytes
  have hr := B.returns
  have ht := tb_tl (atoms_spec (ws := wc yX11_shared cX11_shared 5 (some .int)) B.pre)
  have hown : s.vm.findClass RX11 = some m.cls := findClass_of_methodNamed B.named
  have hlocks := B.notSynchronized
  subst hsz
  have hD := hD0.self (sz := s.heap.size)
  generalize hAe : va_A [(h, .inr (11, (o11 h g))), ((g 11 8), .inr (4, (o4 h g))), ((g 4 0), .inl ((ca 4 0), 8, .inl (fun _ => 0))), ((g 4 1), .inl ((ca 4 1), 8, .inl (fun _ => 0)))] s.heap.size = A at hD ⊢
  have hA : ∀ q : Nat, s.heap.size ≤ q → A q := fun q h => by rw [← hAe]; exact Or.inr h
  have hS : va_S A s.heap s.heap [] := va_S.rf
  have hP : va_P (dC, dI) classes [(h, .inr (11, (o11 h g))), ((g 11 8), .inr (4, (o4 h g))), ((g 4 0), .inl ((ca 4 0), 8, .inl (fun _ => 0))), ((g 4 1), .inl ((ca 4 1), 8, .inl (fun _ => 0)))] s.heap := hP
  have hl := lv_entry [.ref h, .int a, .int b, .int d, .int k] (n := 5) (Nat.le_of_ble_eq_true rfl)
  rw [lg_entry_eq]
  generalize (lg_sl [.ref h, .int a, .int b, .int d, .int k] ++ List.replicate (5 - (lg_sl [.ref h, .int a, .int b, .int d, .int k]).length) Slot.unset).toArray = ls at hl ⊢
  have hl : lv_has ls 5 [(0, .ref h), (1, .int a), (2, .int b), (3, .int d), (4, .int k)] := hl
  refine lv_iload_n hx hb dX11_shared_0 rfl (lv_at hl 1 rfl) ?_
  refine lv_iconst (v := 1) hx hb dX11_shared_1 (by decide) ?_
  refine lv_sipush (v := 9999) hx hb dX11_shared_2 (by decide) ?_
  have hPc := hP.sub (ws' := []) [] rfl
  have hKc := hK.sub (tys' := []) [] rfl
  refine vp_callSi (W.runS (As := [.int a, .int 1, .int 9999]) (rest := []) ⟨hx, hb, hml, hown, ht⟩ (c_X11_within l dC dI a 1 9999 (a.toInt) (1) (9999) (rfl : (a).toInt = _) (by decide : (1 : Int32).toInt = 1) (by decide : (9999 : Int32).toInt = 9999)) (kS 3 ht m_453 m_454 m_77 m_455 rfl rfl hd_X11_within_v ⟨Nat.le_of_ble_eq_true rfl, Nat.le_of_ble_eq_true rfl⟩) (sR hPc hKc) rfl rfl hl.1 rfl (lv_room (Nat.le_of_ble_eq_true rfl)) dX11_shared_5 ⟨Nat.le_of_ble_eq_true rfl, Nat.le_of_ble_eq_true rfl⟩) (fun r1 hr1 => ?_)
  rcases hr1 with ⟨rfl, fr1⟩ | ⟨rfl, fr1⟩
  · skip
    refine lv_if_eq (tgt := 22) hx hb dX11_shared_8 (by decide) (fun c2 => ?_) (fun c2 => ?_)
    · exact absurd c2 (by decide)
    · skip
      refine lv_iload_n hx hb dX11_shared_11 rfl (lv_at hl 2 rfl) ?_
      refine lv_iload_n hx hb dX11_shared_12 rfl (lv_at hl 1 rfl) ?_
      refine lv_sipush (v := 9999) hx hb dX11_shared_13 (by decide) ?_
      have hPc := hP.sub (ws' := []) [] rfl
      have hKc := hK.sub (tys' := []) [] rfl
      refine vp_callSi (W.runS (As := [.int b, .int a, .int 9999]) (rest := []) ⟨hx, hb, hml, hown, ht⟩ (c_X11_within l dC dI b a 9999 (b.toInt) (a.toInt) (9999) (rfl : (b).toInt = _) (rfl : (a).toInt = _) (by decide : (9999 : Int32).toInt = 9999)) (kS 3 ht m_453 m_454 m_77 m_455 rfl rfl hd_X11_within_v ⟨Nat.le_of_ble_eq_true rfl, Nat.le_of_ble_eq_true rfl⟩) (sR hPc hKc) rfl rfl hl.1 rfl (lv_room (Nat.le_of_ble_eq_true rfl)) dX11_shared_16 ⟨Nat.le_of_ble_eq_true rfl, Nat.le_of_ble_eq_true rfl⟩) (fun r3 hr3 => ?_)
      rcases hr3 with ⟨rfl, fr3⟩ | ⟨rfl, fr3⟩
      · skip
        refine lv_if_ne (tgt := 25) hx hb dX11_shared_19 (by decide) (fun c4 => ?_) (fun c4 => ?_)
        · skip
          refine lv_iload_n hx hb dX11_shared_25 rfl (lv_at hl 3 rfl) ?_
          refine lv_iconst (v := 1) hx hb dX11_shared_26 (by decide) ?_
          refine lv_sipush (v := 9999) hx hb dX11_shared_27 (by decide) ?_
          have hPc := hP.sub (ws' := []) [] rfl
          have hKc := hK.sub (tys' := []) [] rfl
          refine vp_callSi (W.runS (As := [.int d, .int 1, .int 9999]) (rest := []) ⟨hx, hb, hml, hown, ht⟩ (c_X11_within l dC dI d 1 9999 (d.toInt) (1) (9999) (rfl : (d).toInt = _) (by decide : (1 : Int32).toInt = 1) (by decide : (9999 : Int32).toInt = 9999)) (kS 3 ht m_453 m_454 m_77 m_455 rfl rfl hd_X11_within_v ⟨Nat.le_of_ble_eq_true rfl, Nat.le_of_ble_eq_true rfl⟩) (sR hPc hKc) rfl rfl hl.1 rfl (lv_room (Nat.le_of_ble_eq_true rfl)) dX11_shared_30 ⟨Nat.le_of_ble_eq_true rfl, Nat.le_of_ble_eq_true rfl⟩) (fun r5 hr5 => ?_)
          rcases hr5 with ⟨rfl, fr5⟩ | ⟨rfl, fr5⟩
          · skip
            refine lv_if_eq (tgt := 48) hx hb dX11_shared_33 (by decide) (fun c6 => ?_) (fun c6 => ?_)
            · exact absurd c6 (by decide)
            · skip
              refine lv_iload hx hb dX11_shared_36 (lv_at hl 4 rfl) ?_
              refine lv_iload_n hx hb dX11_shared_38 rfl (lv_at hl 3 rfl) ?_
              refine lv_sipush (v := 9999) hx hb dX11_shared_39 (by decide) ?_
              have hPc := hP.sub (ws' := []) [] rfl
              have hKc := hK.sub (tys' := []) [] rfl
              refine vp_callSi (W.runS (As := [.int k, .int d, .int 9999]) (rest := []) ⟨hx, hb, hml, hown, ht⟩ (c_X11_within l dC dI k d 9999 (k.toInt) (d.toInt) (9999) (rfl : (k).toInt = _) (rfl : (d).toInt = _) (by decide : (9999 : Int32).toInt = 9999)) (kS 3 ht m_453 m_454 m_77 m_455 rfl rfl hd_X11_within_v ⟨Nat.le_of_ble_eq_true rfl, Nat.le_of_ble_eq_true rfl⟩) (sR hPc hKc) rfl rfl hl.1 rfl (lv_room (Nat.le_of_ble_eq_true rfl)) dX11_shared_42 ⟨Nat.le_of_ble_eq_true rfl, Nat.le_of_ble_eq_true rfl⟩) (fun r7 hr7 => ?_)
              rcases hr7 with ⟨rfl, fr7⟩ | ⟨rfl, fr7⟩
              · skip
                refine lv_if_ne (tgt := 51) hx hb dX11_shared_45 (by decide) (fun c8 => ?_) (fun c8 => ?_)
                · skip
                  refine lv_aload_n hx hb dX11_shared_51 rfl (lv_at hl 0 rfl) ?_
                  refine va_get (D := (dC, dI)) (ci := 11) (v := .ref (g 11 8)) (C := RX11) (T := TX11) (N := 11) hx hb ht inX11 hown hK hP 0 rfl rfl 8 (by decide) (ht _ m_423) (fun _ h9 => h9) rfl dX11_shared_52 ?_
                  refine va_get (D := (dC, dI)) (ci := 4) (v := .int 0) (C := RX4) (T := TX4) (N := 3) hx hb ht inX4 hown hK hP 1 rfl rfl 2 (by decide) (ht _ m_369) (fun _ h9 => h9) rfl dX11_shared_55 ?_
                  refine lv_bipush (v := 8) hx hb dX11_shared_58 (by decide) ?_
                  refine lv_icmp_lt (tgt := 66) hx hb dX11_shared_60 (by decide) (fun c9 => ?_) (fun c9 => ?_)
                  · skip
                    refine lv_aload_n hx hb dX11_shared_66 rfl (lv_at hl 0 rfl) ?_
                    refine va_get (D := (dC, dI)) (ci := 11) (v := .ref (g 11 8)) (C := RX11) (T := TX11) (N := 11) hx hb ht inX11 hown hK hP 0 rfl rfl 8 (by decide) (ht _ m_423) (fun _ h9 => h9) rfl dX11_shared_67 ?_
                    refine lv_iload_n hx hb dX11_shared_70 rfl (lv_at hl 1 rfl) ?_
                    refine lv_iload hx hb dX11_shared_71 (lv_at hl 4 rfl) ?_
                    refine lv_isub hx hb dX11_shared_73 ?_
                    refine lv_topi (fun v10 ev10 => ?_)
                    have tv10 := z_sub ev10 (rfl : (a).toInt = _) (rfl : (k).toInt = _) (by omega) (by omega)
                    refine lv_iload_n hx hb dX11_shared_74 rfl (lv_at hl 2 rfl) ?_
                    refine lv_iload_n hx hb dX11_shared_75 rfl (lv_at hl 3 rfl) ?_
                    refine lv_isub hx hb dX11_shared_76 ?_
                    refine lv_topi (fun v11 ev11 => ?_)
                    have tv11 := z_sub ev11 (rfl : (b).toInt = _) (rfl : (d).toInt = _) (by omega) (by omega)
                    have hPc := hP.sub (ws' := [((g 11 8), .inr (4, (o4 h g))), ((g 4 0), .inl ((ca 4 0), 8, .inl (fun _ => 0))), ((g 4 1), .inl ((ca 4 1), 8, .inl (fun _ => 0)))]) [1, 2, 3] rfl
                    have hKc := hK.sub (tys' := [((ca 4 0), .int), ((ca 4 1), .int)]) [0, 1] rfl
                    have hDc := hD.sub (ws' := [((g 11 8), .inr (4, (o4 h g))), ((g 4 0), .inl ((ca 4 0), 8, .inl (fun _ => 0))), ((g 4 1), .inl ((ca 4 1), 8, .inl (fun _ => 0)))]) [1, 2, 3] (by decide) rfl
                    have hFc := va_free (wc := [((g 11 8), .inr (4, (o4 h g))), ((g 4 0), .inl ((ca 4 0), 8, .inl (fun _ => 0))), ((g 4 1), .inl ((ca 4 1), 8, .inl (fun _ => 0)))]) hD hS hA [1, 2, 3] rfl
                    refine va_calli (va_runV (As := [.int v10, .int v11]) (rest := []) ⟨hx, hb, hml, hown, ht⟩ (c_X4_compare l dC dI H.size h g ca v10 v11) (kV 2 ht m_1038 m_1039 m_1040 m_87 m_1041 rfl rfl hd_X4_compare_v ⟨Nat.le_of_ble_eq_true rfl, Nat.le_of_ble_eq_true rfl⟩) (vW hPc hKc hDc (va_recv hKc hPc (ci := 4) (q0 := 0) rfl rfl)) rfl rfl hl.1 rfl (lv_room (Nat.le_of_ble_eq_true rfl)) dX11_shared_77 ⟨Nat.le_of_ble_eq_true rfl, Nat.le_of_ble_eq_true rfl⟩) hS (fun q _ h => hFc q h) hFc (fun r12 u t H1 locs ht9 hvm hr12 hB hz1 hk1 hS => ?_)
                    have hP1 : va_P (dC, dI) classes [] H1 := noP
                    have hD1 : va_D (va_A [((g 11 8), .inr (4, (o4 h g))), ((g 4 0), .inl ((ca 4 0), 8, .inl (fun _ => 0))), ((g 4 1), .inl ((ca 4 1), 8, .inl (fun _ => 0)))] H.size) [] := noD
                    obtain ⟨hP, hD⟩ := va_join (wr := [(h, .inr (11, (o11 h g)))]) (w1 := []) hP hD [1, 2, 3] [0] rfl rfl (by decide) (by decide) hk1 hFc hP1 hD1
                    generalize H1 = H at hP hS ⊢
                    have hP : va_P (dC, dI) classes [(h, .inr (11, (o11 h g)))] H := hP
                    have hD : va_D A [(h, .inr (11, (o11 h g)))] := hD
                    obtain rfl : 1 = r12 := hr12.symm
                    exact W.iret (v := 1) hx hb hr (fun t ht9 hW => ⟨⟨1, (), rfl, (by unfold F_shared; first | decide | ((repeat' split) <;> first | rfl | (exfalso; omega) | exact z_of (by decide) (by omega))), trivial⟩, hS.F ht9⟩) hS.2.2 dX11_shared_80
                  · exact absurd c9 (by decide)
                · exact absurd c8 (by decide)
              · skip
                refine lv_if_ne (tgt := 51) hx hb dX11_shared_45 (by decide) (fun c13 => ?_) (fun c13 => ?_)
                · exact absurd rfl c13
                · skip
                  refine lv_ldc hx hb hown (ht _ m_456) dX11_shared_48 ?_
                  exact W.iret (v := (-100002)) hx hb hr (fun t ht9 hW => ⟨⟨(-100002), (), rfl, (by unfold F_shared; first | decide | ((repeat' split) <;> first | rfl | (exfalso; omega) | exact z_of (by decide) (by omega))), trivial⟩, hS.F ht9⟩) hS.2.2 dX11_shared_50
          · skip
            refine lv_if_eq (tgt := 48) hx hb dX11_shared_33 (by decide) (fun c14 => ?_) (fun c14 => ?_)
            · skip
              refine lv_ldc hx hb hown (ht _ m_456) dX11_shared_48 ?_
              exact W.iret (v := (-100002)) hx hb hr (fun t ht9 hW => ⟨⟨(-100002), (), rfl, (by unfold F_shared; first | decide | ((repeat' split) <;> first | rfl | (exfalso; omega) | exact z_of (by decide) (by omega))), trivial⟩, hS.F ht9⟩) hS.2.2 dX11_shared_50
            · exact absurd rfl c14
        · exact absurd c4 (by decide)
      · skip
        refine lv_if_ne (tgt := 25) hx hb dX11_shared_19 (by decide) (fun c15 => ?_) (fun c15 => ?_)
        · exact absurd rfl c15
        · skip
          refine lv_ldc hx hb hown (ht _ m_456) dX11_shared_22 ?_
          exact W.iret (v := (-100002)) hx hb hr (fun t ht9 hW => ⟨⟨(-100002), (), rfl, (by unfold F_shared; first | decide | ((repeat' split) <;> first | rfl | (exfalso; omega) | exact z_of (by decide) (by omega))), trivial⟩, hS.F ht9⟩) hS.2.2 dX11_shared_24
  · skip
    refine lv_if_eq (tgt := 22) hx hb dX11_shared_8 (by decide) (fun c16 => ?_) (fun c16 => ?_)
    · skip
      refine lv_ldc hx hb hown (ht _ m_456) dX11_shared_22 ?_
      exact W.iret (v := (-100002)) hx hb hr (fun t ht9 hW => ⟨⟨(-100002), (), rfl, (by unfold F_shared; first | decide | ((repeat' split) <;> first | rfl | (exfalso; omega) | exact z_of (by decide) (by omega))), trivial⟩, hS.F ht9⟩) hS.2.2 dX11_shared_24
    · exact absurd rfl c16
set_option maxHeartbeats 4000000 in
set_option maxRecDepth 100000 in
/-- X11_houses -/
theorem c_X11_houses (l : Launch) (dC : Nat → ClassId) (dI : Nat → Nat → Nat) (h : Nat) (g : Nat → Nat → Nat) (ca : Nat → Nat → ClassId) (n : Int32) : Met l yX11_houses (wc yX11_houses cX11_houses 3 (some .int)) ({ frames := 1, cells := 0, slots := 0, locals := 22 } : Room) (pR (dC, dI) classes [(h, .inr (11, (o11 h g))), ((g 11 8), .inr (4, (o4 h g)))] [] [.ref h, .int n]) (vp_Si (fun r => r = F_houses n)) 0 0 (fun _ => False) := by
  refine Met.ofW (cc := cX11_houses) (maxL := 3) (ret := (some .int)) (by decide) rfl ?_
  intro p e s m args below meth c s₁ B hml hv
  obtain ⟨rfl, hP, hK⟩ := hv
  have hx := B.exec
  have hb := B.bytes
  have hr := B.returns
  have ht := tb_tl (atoms_spec (ws := wc yX11_houses cX11_houses 3 (some .int)) B.pre)
  have hown : s.vm.findClass RX11 = some m.cls := findClass_of_methodNamed B.named
  have hlocks := B.notSynchronized
  have hl := lv_entry [.ref h, .int n] (n := 3) (Nat.le_of_ble_eq_true rfl)
  rw [lg_entry_eq]
  generalize (lg_sl [.ref h, .int n] ++ List.replicate (3 - (lg_sl [.ref h, .int n]).length) Slot.unset).toArray = ls at hl ⊢
  have hl : lv_has ls 3 [(0, .ref h), (1, .int n)] := hl
  refine lv_iload_n hx hb dX11_houses_0 rfl (lv_at hl 1 rfl) ?_
  refine lv_iconst (v := 0) hx hb dX11_houses_1 (by decide) ?_
  refine lv_iconst (v := 2) hx hb dX11_houses_2 (by decide) ?_
  have hPc := hP.sub (ws' := []) [] rfl
  have hKc := hK.sub (tys' := []) [] rfl
  refine vp_callSi (W.runS (As := [.int n, .int 0, .int 2]) (rest := []) ⟨hx, hb, hml, hown, ht⟩ (c_X11_within l dC dI n 0 2 (n.toInt) (0) (2) (rfl : (n).toInt = _) (by decide : (0 : Int32).toInt = 0) (by decide : (2 : Int32).toInt = 2)) (kS 3 ht m_453 m_454 m_77 m_455 rfl rfl hd_X11_within_v ⟨Nat.le_of_ble_eq_true rfl, Nat.le_of_ble_eq_true rfl⟩) (sR hPc hKc) rfl rfl hl.1 rfl (lv_room (Nat.le_of_ble_eq_true rfl)) dX11_houses_3 ⟨Nat.le_of_ble_eq_true rfl, Nat.le_of_ble_eq_true rfl⟩) (fun r1 hr1 => ?_)
  rcases hr1 with ⟨rfl, fr1⟩ | ⟨rfl, fr1⟩
  · skip
    refine lv_if_ne (tgt := 12) hx hb dX11_houses_6 (by decide) (fun c2 => ?_) (fun c2 => ?_)
    · skip
      refine lv_aload_n hx hb dX11_houses_12 rfl (lv_at hl 0 rfl) ?_
      refine va_get (D := (dC, dI)) (ci := 11) (v := .ref (g 11 8)) (C := RX11) (T := TX11) (N := 11) hx hb ht inX11 hown hK hP 0 rfl rfl 8 (by decide) (ht _ m_423) (fun _ h9 => h9) rfl dX11_houses_13 ?_
      refine va_get (D := (dC, dI)) (ci := 4) (v := .int 0) (C := RX4) (T := TX4) (N := 3) hx hb ht inX4 hown hK hP 1 rfl rfl 2 (by decide) (ht _ m_369) (fun _ h9 => h9) rfl dX11_houses_16 ?_
      refine lv_if_ne (tgt := 25) hx hb dX11_houses_19 (by decide) (fun c3 => ?_) (fun c3 => ?_)
      · exact absurd rfl c3
      · skip
        refine lv_ldc hx hb hown (ht _ m_457) dX11_houses_22 ?_
        exact W.iret (v := (-100003)) hx hb hr (fun t ht9 hW => ⟨(-100003), rfl, (by unfold F_houses; first | decide | ((repeat' split) <;> first | rfl | (exfalso; omega) | exact z_of (by decide) (by omega))), ht9⟩) (fun q hq => by cases hq) dX11_houses_24
    · exact absurd c2 (by decide)
  · skip
    refine lv_if_ne (tgt := 12) hx hb dX11_houses_6 (by decide) (fun c4 => ?_) (fun c4 => ?_)
    · exact absurd rfl c4
    · skip
      refine lv_ldc hx hb hown (ht _ m_456) dX11_houses_9 ?_
      exact W.iret (v := (-100002)) hx hb hr (fun t ht9 hW => ⟨(-100002), rfl, (by unfold F_houses; first | decide | ((repeat' split) <;> first | rfl | (exfalso; omega) | exact z_of (by decide) (by omega))), ht9⟩) (fun q hq => by cases hq) dX11_houses_11
set_option maxHeartbeats 4000000 in
set_option maxRecDepth 100000 in
/-- X11_stood -/
theorem c_X11_stood (l : Launch) (dC : Nat → ClassId) (dI : Nat → Nat → Nat) (h : Nat) (g : Nat → Nat → Nat) (ca : Nat → Nat → ClassId) (d : Int32) (n : Int32) : Met l yX11_stood (wc yX11_stood cX11_stood 3 (some .long)) ({ frames := 1, cells := 0, slots := 0, locals := 26 } : Room) (pR (dC, dI) classes [(h, .inr (11, (o11 h g))), ((g 11 9), .inr (6, (o6 h g)))] [] [.ref h, .int d, .int n]) (vp_Sl (fun r => r = F_stood d n)) 0 0 (fun _ => False) := by
  refine Met.ofW (cc := cX11_stood) (maxL := 3) (ret := (some .long)) (by decide) rfl ?_
  intro p e s m args below meth c s₁ B hml hv
  obtain ⟨rfl, hP, hK⟩ := hv
  have hx := B.exec
  have hb := B.bytes
  have hr := B.returns
  have ht := tb_tl (atoms_spec (ws := wc yX11_stood cX11_stood 3 (some .long)) B.pre)
  have hown : s.vm.findClass RX11 = some m.cls := findClass_of_methodNamed B.named
  have hlocks := B.notSynchronized
  have hl := lv_entry [.ref h, .int d, .int n] (n := 3) (Nat.le_of_ble_eq_true rfl)
  rw [lg_entry_eq]
  generalize (lg_sl [.ref h, .int d, .int n] ++ List.replicate (3 - (lg_sl [.ref h, .int d, .int n]).length) Slot.unset).toArray = ls at hl ⊢
  have hl : lv_has ls 3 [(0, .ref h), (1, .int d), (2, .int n)] := hl
  refine lv_iload_n hx hb dX11_stood_0 rfl (lv_at hl 1 rfl) ?_
  refine lv_iconst (v := 0) hx hb dX11_stood_1 (by decide) ?_
  refine lv_aload_n hx hb dX11_stood_2 rfl (lv_at hl 0 rfl) ?_
  refine va_get (D := (dC, dI)) (ci := 11) (v := .int 0) (C := RX11) (T := TX11) (N := 11) hx hb ht inX11 hown hK hP 0 rfl rfl 10 (by decide) (ht _ m_425) (fun _ h9 => h9) rfl dX11_stood_3 ?_
  have hPc := hP.sub (ws' := []) [] rfl
  have hKc := hK.sub (tys' := []) [] rfl
  refine vp_callSi (W.runS (As := [.int d, .int 0, .int 0]) (rest := []) ⟨hx, hb, hml, hown, ht⟩ (c_X11_within l dC dI d 0 0 (d.toInt) (0) (0) (rfl : (d).toInt = _) (by decide : (0 : Int32).toInt = 0) (by decide : (0 : Int32).toInt = 0)) (kS 3 ht m_453 m_454 m_77 m_455 rfl rfl hd_X11_within_v ⟨Nat.le_of_ble_eq_true rfl, Nat.le_of_ble_eq_true rfl⟩) (sR hPc hKc) rfl rfl hl.1 rfl (lv_room (Nat.le_of_ble_eq_true rfl)) dX11_stood_6 ⟨Nat.le_of_ble_eq_true rfl, Nat.le_of_ble_eq_true rfl⟩) (fun r1 hr1 => ?_)
  rcases hr1 with ⟨rfl, fr1⟩ | ⟨rfl, fr1⟩
  · skip
    refine lv_if_eq (tgt := 21) hx hb dX11_stood_9 (by decide) (fun c2 => ?_) (fun c2 => ?_)
    · exact absurd c2 (by decide)
    · skip
      refine lv_iload_n hx hb dX11_stood_12 rfl (lv_at hl 2 rfl) ?_
      refine lv_iconst (v := 0) hx hb dX11_stood_13 (by decide) ?_
      refine lv_iconst (v := 1) hx hb dX11_stood_14 (by decide) ?_
      have hPc := hP.sub (ws' := []) [] rfl
      have hKc := hK.sub (tys' := []) [] rfl
      refine vp_callSi (W.runS (As := [.int n, .int 0, .int 1]) (rest := []) ⟨hx, hb, hml, hown, ht⟩ (c_X11_within l dC dI n 0 1 (n.toInt) (0) (1) (rfl : (n).toInt = _) (by decide : (0 : Int32).toInt = 0) (by decide : (1 : Int32).toInt = 1)) (kS 3 ht m_453 m_454 m_77 m_455 rfl rfl hd_X11_within_v ⟨Nat.le_of_ble_eq_true rfl, Nat.le_of_ble_eq_true rfl⟩) (sR hPc hKc) rfl rfl hl.1 rfl (lv_room (Nat.le_of_ble_eq_true rfl)) dX11_stood_15 ⟨Nat.le_of_ble_eq_true rfl, Nat.le_of_ble_eq_true rfl⟩) (fun r3 hr3 => ?_)
      rcases hr3 with ⟨rfl, fr3⟩ | ⟨rfl, fr3⟩
      · skip
        refine lv_if_ne (tgt := 25) hx hb dX11_stood_18 (by decide) (fun c4 => ?_) (fun c4 => ?_)
        · skip
          refine lv_aload_n hx hb dX11_stood_25 rfl (lv_at hl 0 rfl) ?_
          refine va_get (D := (dC, dI)) (ci := 11) (v := .ref (g 11 9)) (C := RX11) (T := TX11) (N := 11) hx hb ht inX11 hown hK hP 0 rfl rfl 9 (by decide) (ht _ m_424) (fun _ h9 => h9) rfl dX11_stood_26 ?_
          refine lv_iload_n hx hb dX11_stood_29 rfl (lv_at hl 1 rfl) ?_
          refine lv_iload_n hx hb dX11_stood_30 rfl (lv_at hl 2 rfl) ?_
          refine lv_if_ne (tgt := 38) hx hb dX11_stood_31 (by decide) (fun c5 => ?_) (fun c5 => ?_)
          · have fc5 := z_ne (rfl : (n).toInt = _) (by decide : (0 : Int32).toInt = 0) c5
            refine lv_iconst (v := 0) hx hb dX11_stood_38 (by decide) ?_
            have hPc := hP.sub (ws' := [((g 11 9), .inr (6, (o6 h g)))]) [1] rfl
            have hKc := hK.sub (tys' := []) [] rfl
            refine vp_callSl (W.runV (As := [.int d, .int 0]) (rest := []) ⟨hx, hb, hml, hown, ht⟩ (c_X6_standing l dC dI h g ca d 0) (kV 2 ht m_1129 m_1130 m_1131 m_88 m_1132 rfl rfl hd_X6_standing_v ⟨Nat.le_of_ble_eq_true rfl, Nat.le_of_ble_eq_true rfl⟩) (vR hPc hKc (va_recv hKc hPc (ci := 6) (q0 := 0) rfl rfl)) rfl rfl hl.1 rfl (lv_room (Nat.le_of_ble_eq_true rfl)) dX11_stood_39 ⟨Nat.le_of_ble_eq_true rfl, Nat.le_of_ble_eq_true rfl⟩) (fun r6 hr6 => ?_)
            obtain rfl : 0 = r6 := hr6.symm
            exact W.lret (v := 0) hx hb hr (fun t ht9 hW => ⟨0, rfl, (by unfold F_stood; first | decide | ((repeat' split) <;> first | rfl | (exfalso; omega) | exact z_of (by decide) (by omega))), ht9⟩) (fun q hq => by cases hq) dX11_stood_42
          · have fc5 := z_eq (rfl : (n).toInt = _) (by decide : (0 : Int32).toInt = 0) c5
            refine lv_iconst (v := 1) hx hb dX11_stood_34 (by decide) ?_
            refine lv_goto (tgt := 39) hx hb dX11_stood_35 (by decide) ?_
            have hPc := hP.sub (ws' := [((g 11 9), .inr (6, (o6 h g)))]) [1] rfl
            have hKc := hK.sub (tys' := []) [] rfl
            refine vp_callSl (W.runV (As := [.int d, .int 1]) (rest := []) ⟨hx, hb, hml, hown, ht⟩ (c_X6_standing l dC dI h g ca d 1) (kV 2 ht m_1129 m_1130 m_1131 m_88 m_1132 rfl rfl hd_X6_standing_v ⟨Nat.le_of_ble_eq_true rfl, Nat.le_of_ble_eq_true rfl⟩) (vR hPc hKc (va_recv hKc hPc (ci := 6) (q0 := 0) rfl rfl)) rfl rfl hl.1 rfl (lv_room (Nat.le_of_ble_eq_true rfl)) dX11_stood_39 ⟨Nat.le_of_ble_eq_true rfl, Nat.le_of_ble_eq_true rfl⟩) (fun r7 hr7 => ?_)
            obtain rfl : 0 = r7 := hr7.symm
            exact W.lret (v := 0) hx hb hr (fun t ht9 hW => ⟨0, rfl, (by unfold F_stood; first | decide | ((repeat' split) <;> first | rfl | (exfalso; omega) | exact z_of (by decide) (by omega))), ht9⟩) (fun q hq => by cases hq) dX11_stood_42
        · exact absurd c4 (by decide)
      · skip
        refine lv_if_ne (tgt := 25) hx hb dX11_stood_18 (by decide) (fun c8 => ?_) (fun c8 => ?_)
        · exact absurd rfl c8
        · skip
          refine lv_ldc2 hx hb hown (ht _ m_838) dX11_stood_21 ?_
          exact W.lret (v := (-100002)) hx hb hr (fun t ht9 hW => ⟨(-100002), rfl, (by unfold F_stood; first | decide | ((repeat' split) <;> first | rfl | (exfalso; omega) | exact z_of (by decide) (by omega))), ht9⟩) (fun q hq => by cases hq) dX11_stood_24
  · skip
    refine lv_if_eq (tgt := 21) hx hb dX11_stood_9 (by decide) (fun c9 => ?_) (fun c9 => ?_)
    · skip
      refine lv_ldc2 hx hb hown (ht _ m_838) dX11_stood_21 ?_
      exact W.lret (v := (-100002)) hx hb hr (fun t ht9 hW => ⟨(-100002), rfl, (by unfold F_stood; first | decide | ((repeat' split) <;> first | rfl | (exfalso; omega) | exact z_of (by decide) (by omega))), ht9⟩) (fun q hq => by cases hq) dX11_stood_24
    · exact absurd rfl c9
set_option maxHeartbeats 4000000 in
set_option maxRecDepth 100000 in
/-- X12_isDay -/
theorem c_X12_isDay (l : Launch) (dC : Nat → ClassId) (dI : Nat → Nat → Nat) (a : Int32) : Met l yX12_isDay (wc yX12_isDay cX12_isDay 1 (some .boolean)) ({ frames := 1, cells := 0, slots := 0, locals := 25 } : Room) (pR (dC, dI) classes [] [] [.int a]) (vp_Si (fun r => (r = 1 ∧ (0 ≤ a.toInt ∧ a.toInt ≤ 3000)) ∨ (r = 0 ∧ ¬ (0 ≤ a.toInt ∧ a.toInt ≤ 3000)))) 0 0 (fun _ => False) := by
  refine Met.ofW (cc := cX12_isDay) (maxL := 1) (ret := (some .boolean)) (by decide) rfl ?_
  intro p e s m args below meth c s₁ B hml hv
  obtain ⟨rfl, hP, hK⟩ := hv
  have hx := B.exec
  have hb := B.bytes
  have hr := B.returns
  have ht := tb_tl (atoms_spec (ws := wc yX12_isDay cX12_isDay 1 (some .boolean)) B.pre)
  have hown : s.vm.findClass RX12 = some m.cls := findClass_of_methodNamed B.named
  have hlocks := B.notSynchronized
  have hl := lv_entry [.int a] (n := 1) (Nat.le_of_ble_eq_true rfl)
  rw [lg_entry_eq]
  generalize (lg_sl [.int a] ++ List.replicate (1 - (lg_sl [.int a]).length) Slot.unset).toArray = ls at hl ⊢
  have hl : lv_has ls 1 [(0, .int a)] := hl
  refine lv_iload_n hx hb dX12_isDay_0 rfl (lv_at hl 0 rfl) ?_
  refine lv_i2l (v := (a.toInt64)) hx hb dX12_isDay_1 rfl ?_
  refine lv_lconst (v := 0) hx hb dX12_isDay_2 (by decide) ?_
  refine lv_ldc2 hx hb hown (ht _ m_1425) dX12_isDay_3 ?_
  have hPc := hP.sub (ws' := []) [] rfl
  have hKc := hK.sub (tys' := []) [] rfl
  refine vp_callSi (W.runS (As := [.long (a.toInt64), .long 0, .long 3000]) (rest := []) ⟨hx, hb, hml, hown, ht⟩ (c_X12_in l dC dI (a.toInt64) 0 3000 (a.toInt) (0) (3000) ((Int32.toInt_toInt64 a).trans rfl) (by decide : (0 : Int64).toInt = 0) (by decide : (3000 : Int64).toInt = 3000)) (kS 3 ht m_1370 m_1371 m_89 m_1372 rfl rfl hd_X12_in_v ⟨Nat.le_of_ble_eq_true rfl, Nat.le_of_ble_eq_true rfl⟩) (sR hPc hKc) rfl rfl hl.1 rfl (lv_room (Nat.le_of_ble_eq_true rfl)) dX12_isDay_6 ⟨Nat.le_of_ble_eq_true rfl, Nat.le_of_ble_eq_true rfl⟩) (fun r1 hr1 => ?_)
  rcases hr1 with ⟨rfl, fr1⟩ | ⟨rfl, fr1⟩
  · skip
    exact W.zret (v := 1) hx hb hr rfl (fun t ht9 hW => ⟨1, rfl, Or.inl ⟨rfl, by omega⟩, ht9⟩) (fun q hq => by cases hq) dX12_isDay_9
  · skip
    exact W.zret (v := 0) hx hb hr rfl (fun t ht9 hW => ⟨0, rfl, Or.inr ⟨rfl, by omega⟩, ht9⟩) (fun q hq => by cases hq) dX12_isDay_9
set_option maxHeartbeats 4000000 in
set_option maxRecDepth 100000 in
/-- X12_isWeight -/
theorem c_X12_isWeight (l : Launch) (dC : Nat → ClassId) (dI : Nat → Nat → Nat) (a : Int32) : Met l yX12_isWeight (wc yX12_isWeight cX12_isWeight 1 (some .boolean)) ({ frames := 1, cells := 0, slots := 0, locals := 25 } : Room) (pR (dC, dI) classes [] [] [.int a]) (vp_Si (fun r => (r = 1 ∧ (1 ≤ a.toInt ∧ a.toInt ≤ 9999)) ∨ (r = 0 ∧ ¬ (1 ≤ a.toInt ∧ a.toInt ≤ 9999)))) 0 0 (fun _ => False) := by
  refine Met.ofW (cc := cX12_isWeight) (maxL := 1) (ret := (some .boolean)) (by decide) rfl ?_
  intro p e s m args below meth c s₁ B hml hv
  obtain ⟨rfl, hP, hK⟩ := hv
  have hx := B.exec
  have hb := B.bytes
  have hr := B.returns
  have ht := tb_tl (atoms_spec (ws := wc yX12_isWeight cX12_isWeight 1 (some .boolean)) B.pre)
  have hown : s.vm.findClass RX12 = some m.cls := findClass_of_methodNamed B.named
  have hlocks := B.notSynchronized
  have hl := lv_entry [.int a] (n := 1) (Nat.le_of_ble_eq_true rfl)
  rw [lg_entry_eq]
  generalize (lg_sl [.int a] ++ List.replicate (1 - (lg_sl [.int a]).length) Slot.unset).toArray = ls at hl ⊢
  have hl : lv_has ls 1 [(0, .int a)] := hl
  refine lv_iload_n hx hb dX12_isWeight_0 rfl (lv_at hl 0 rfl) ?_
  refine lv_i2l (v := (a.toInt64)) hx hb dX12_isWeight_1 rfl ?_
  refine lv_lconst (v := 1) hx hb dX12_isWeight_2 (by decide) ?_
  refine lv_ldc2 hx hb hown (ht _ m_1393) dX12_isWeight_3 ?_
  have hPc := hP.sub (ws' := []) [] rfl
  have hKc := hK.sub (tys' := []) [] rfl
  refine vp_callSi (W.runS (As := [.long (a.toInt64), .long 1, .long 9999]) (rest := []) ⟨hx, hb, hml, hown, ht⟩ (c_X12_in l dC dI (a.toInt64) 1 9999 (a.toInt) (1) (9999) ((Int32.toInt_toInt64 a).trans rfl) (by decide : (1 : Int64).toInt = 1) (by decide : (9999 : Int64).toInt = 9999)) (kS 3 ht m_1370 m_1371 m_89 m_1372 rfl rfl hd_X12_in_v ⟨Nat.le_of_ble_eq_true rfl, Nat.le_of_ble_eq_true rfl⟩) (sR hPc hKc) rfl rfl hl.1 rfl (lv_room (Nat.le_of_ble_eq_true rfl)) dX12_isWeight_6 ⟨Nat.le_of_ble_eq_true rfl, Nat.le_of_ble_eq_true rfl⟩) (fun r1 hr1 => ?_)
  rcases hr1 with ⟨rfl, fr1⟩ | ⟨rfl, fr1⟩
  · skip
    exact W.zret (v := 1) hx hb hr rfl (fun t ht9 hW => ⟨1, rfl, Or.inl ⟨rfl, by omega⟩, ht9⟩) (fun q hq => by cases hq) dX12_isWeight_9
  · skip
    exact W.zret (v := 0) hx hb hr rfl (fun t ht9 hW => ⟨0, rfl, Or.inr ⟨rfl, by omega⟩, ht9⟩) (fun q hq => by cases hq) dX12_isWeight_9
set_option maxHeartbeats 4000000 in
set_option maxRecDepth 100000 in
/-- X12_isPast -/
theorem c_X12_isPast (l : Launch) (dC : Nat → ClassId) (dI : Nat → Nat → Nat) (h : Nat) (g : Nat → Nat → Nat) (ca : Nat → Nat → ClassId) (a : Int32) : Met l yX12_isPast (wc yX12_isPast cX12_isPast 2 (some .boolean)) ({ frames := 1, cells := 0, slots := 0, locals := 25 } : Room) (pR (dC, dI) classes [(h, .inr (12, (o12 h g)))] [] [.ref h, .int a]) (vp_Si (fun r => (r = 1 ∧ (0 ≤ a.toInt ∧ a.toInt ≤ 0)) ∨ (r = 0 ∧ ¬ (0 ≤ a.toInt ∧ a.toInt ≤ 0)))) 0 0 (fun _ => False) := by
  refine Met.ofW (cc := cX12_isPast) (maxL := 2) (ret := (some .boolean)) (by decide) rfl ?_
  intro p e s m args below meth c s₁ B hml hv
  obtain ⟨rfl, hP, hK⟩ := hv
  have hx := B.exec
  have hb := B.bytes
  have hr := B.returns
  have ht := tb_tl (atoms_spec (ws := wc yX12_isPast cX12_isPast 2 (some .boolean)) B.pre)
  have hown : s.vm.findClass RX12 = some m.cls := findClass_of_methodNamed B.named
  have hlocks := B.notSynchronized
  have hl := lv_entry [.ref h, .int a] (n := 2) (Nat.le_of_ble_eq_true rfl)
  rw [lg_entry_eq]
  generalize (lg_sl [.ref h, .int a] ++ List.replicate (2 - (lg_sl [.ref h, .int a]).length) Slot.unset).toArray = ls at hl ⊢
  have hl : lv_has ls 2 [(0, .ref h), (1, .int a)] := hl
  refine lv_iload_n hx hb dX12_isPast_0 rfl (lv_at hl 1 rfl) ?_
  refine lv_i2l (v := (a.toInt64)) hx hb dX12_isPast_1 rfl ?_
  refine lv_lconst (v := 0) hx hb dX12_isPast_2 (by decide) ?_
  refine lv_aload_n hx hb dX12_isPast_3 rfl (lv_at hl 0 rfl) ?_
  refine va_get (D := (dC, dI)) (ci := 12) (v := .int 0) (C := RX12) (T := TX12) (N := 75) hx hb ht inX12 hown hK hP 0 rfl rfl 0 (by decide) (ht _ m_1139) (fun _ h9 => h9) rfl dX12_isPast_4 ?_
  refine lv_i2l (v := 0) hx hb dX12_isPast_7 (by decide) ?_
  have hPc := hP.sub (ws' := []) [] rfl
  have hKc := hK.sub (tys' := []) [] rfl
  refine vp_callSi (W.runS (As := [.long (a.toInt64), .long 0, .long 0]) (rest := []) ⟨hx, hb, hml, hown, ht⟩ (c_X12_in l dC dI (a.toInt64) 0 0 (a.toInt) (0) (0) ((Int32.toInt_toInt64 a).trans rfl) (by decide : (0 : Int64).toInt = 0) (by decide : (0 : Int64).toInt = 0)) (kS 3 ht m_1370 m_1371 m_89 m_1372 rfl rfl hd_X12_in_v ⟨Nat.le_of_ble_eq_true rfl, Nat.le_of_ble_eq_true rfl⟩) (sR hPc hKc) rfl rfl hl.1 rfl (lv_room (Nat.le_of_ble_eq_true rfl)) dX12_isPast_8 ⟨Nat.le_of_ble_eq_true rfl, Nat.le_of_ble_eq_true rfl⟩) (fun r1 hr1 => ?_)
  rcases hr1 with ⟨rfl, fr1⟩ | ⟨rfl, fr1⟩
  · skip
    exact W.zret (v := 1) hx hb hr rfl (fun t ht9 hW => ⟨1, rfl, Or.inl ⟨rfl, by omega⟩, ht9⟩) (fun q hq => by cases hq) dX12_isPast_11
  · skip
    exact W.zret (v := 0) hx hb hr rfl (fun t ht9 hW => ⟨0, rfl, Or.inr ⟨rfl, by omega⟩, ht9⟩) (fun q hq => by cases hq) dX12_isPast_11
set_option maxHeartbeats 4000000 in
set_option maxRecDepth 100000 in
/-- X12_noBale -/
theorem c_X12_noBale (l : Launch) (dC : Nat → ClassId) (dI : Nat → Nat → Nat) (h : Nat) (g : Nat → Nat → Nat) (ca : Nat → Nat → ClassId) (a : Int32) : Met l yX12_noBale (wc yX12_noBale cX12_noBale 2 (some .boolean)) ({ frames := 1, cells := 0, slots := 0, locals := 25 } : Room) (pR (dC, dI) classes [(h, .inr (12, (o12 h g)))] [] [.ref h, .int a]) (vp_Si (fun r => r = 1)) 0 0 (fun _ => False) := by
  refine Met.ofW (cc := cX12_noBale) (maxL := 2) (ret := (some .boolean)) (by decide) rfl ?_
  intro p e s m args below meth c s₁ B hml hv
  obtain ⟨rfl, hP, hK⟩ := hv
  have hx := B.exec
  have hb := B.bytes
  have hr := B.returns
  have ht := tb_tl (atoms_spec (ws := wc yX12_noBale cX12_noBale 2 (some .boolean)) B.pre)
  have hown : s.vm.findClass RX12 = some m.cls := findClass_of_methodNamed B.named
  have hlocks := B.notSynchronized
  have hl := lv_entry [.ref h, .int a] (n := 2) (Nat.le_of_ble_eq_true rfl)
  rw [lg_entry_eq]
  generalize (lg_sl [.ref h, .int a] ++ List.replicate (2 - (lg_sl [.ref h, .int a]).length) Slot.unset).toArray = ls at hl ⊢
  have hl : lv_has ls 2 [(0, .ref h), (1, .int a)] := hl
  refine lv_iload_n hx hb dX12_noBale_0 rfl (lv_at hl 1 rfl) ?_
  refine lv_i2l (v := (a.toInt64)) hx hb dX12_noBale_1 rfl ?_
  refine lv_lconst (v := 0) hx hb dX12_noBale_2 (by decide) ?_
  refine lv_aload_n hx hb dX12_noBale_3 rfl (lv_at hl 0 rfl) ?_
  refine va_get (D := (dC, dI)) (ci := 12) (v := .int 0) (C := RX12) (T := TX12) (N := 75) hx hb ht inX12 hown hK hP 0 rfl rfl 1 (by decide) (ht _ m_1140) (fun _ h9 => h9) rfl dX12_noBale_4 ?_
  refine lv_iconst (v := 1) hx hb dX12_noBale_7 (by decide) ?_
  refine lv_isub hx hb dX12_noBale_8 ?_
  refine lv_topi (fun v1 ev1 => ?_)
  obtain rfl : (-1) = v1 := (ev1.trans (by decide)).symm
  refine lv_i2l (v := (-1)) hx hb dX12_noBale_9 (by decide) ?_
  have hPc := hP.sub (ws' := []) [] rfl
  have hKc := hK.sub (tys' := []) [] rfl
  refine vp_callSi (W.runS (As := [.long (a.toInt64), .long 0, .long (-1)]) (rest := []) ⟨hx, hb, hml, hown, ht⟩ (c_X12_in l dC dI (a.toInt64) 0 (-1) (a.toInt) (0) ((-1)) ((Int32.toInt_toInt64 a).trans rfl) (by decide : (0 : Int64).toInt = 0) (by decide : ((-1) : Int64).toInt = (-1))) (kS 3 ht m_1370 m_1371 m_89 m_1372 rfl rfl hd_X12_in_v ⟨Nat.le_of_ble_eq_true rfl, Nat.le_of_ble_eq_true rfl⟩) (sR hPc hKc) rfl rfl hl.1 rfl (lv_room (Nat.le_of_ble_eq_true rfl)) dX12_noBale_10 ⟨Nat.le_of_ble_eq_true rfl, Nat.le_of_ble_eq_true rfl⟩) (fun r2 hr2 => ?_)
  rcases hr2 with ⟨rfl, fr2⟩ | ⟨rfl, fr2⟩
  · exfalso; omega
  · skip
    refine lv_if_ne (tgt := 20) hx hb dX12_noBale_13 (by decide) (fun c3 => ?_) (fun c3 => ?_)
    · exact absurd rfl c3
    · skip
      refine lv_iconst (v := 1) hx hb dX12_noBale_16 (by decide) ?_
      refine lv_goto (tgt := 21) hx hb dX12_noBale_17 (by decide) ?_
      exact W.zret (v := 1) hx hb hr rfl (fun t ht9 hW => ⟨1, rfl, rfl, ht9⟩) (fun q hq => by cases hq) dX12_noBale_21
set_option maxHeartbeats 4000000 in
set_option maxRecDepth 100000 in
/-- X12_noSkein -/
theorem c_X12_noSkein (l : Launch) (dC : Nat → ClassId) (dI : Nat → Nat → Nat) (h : Nat) (g : Nat → Nat → Nat) (ca : Nat → Nat → ClassId) (a : Int32) : Met l yX12_noSkein (wc yX12_noSkein cX12_noSkein 2 (some .boolean)) ({ frames := 1, cells := 0, slots := 0, locals := 25 } : Room) (pR (dC, dI) classes [(h, .inr (12, (o12 h g)))] [] [.ref h, .int a]) (vp_Si (fun r => r = 1)) 0 0 (fun _ => False) := by
  refine Met.ofW (cc := cX12_noSkein) (maxL := 2) (ret := (some .boolean)) (by decide) rfl ?_
  intro p e s m args below meth c s₁ B hml hv
  obtain ⟨rfl, hP, hK⟩ := hv
  have hx := B.exec
  have hb := B.bytes
  have hr := B.returns
  have ht := tb_tl (atoms_spec (ws := wc yX12_noSkein cX12_noSkein 2 (some .boolean)) B.pre)
  have hown : s.vm.findClass RX12 = some m.cls := findClass_of_methodNamed B.named
  have hlocks := B.notSynchronized
  have hl := lv_entry [.ref h, .int a] (n := 2) (Nat.le_of_ble_eq_true rfl)
  rw [lg_entry_eq]
  generalize (lg_sl [.ref h, .int a] ++ List.replicate (2 - (lg_sl [.ref h, .int a]).length) Slot.unset).toArray = ls at hl ⊢
  have hl : lv_has ls 2 [(0, .ref h), (1, .int a)] := hl
  refine lv_iload_n hx hb dX12_noSkein_0 rfl (lv_at hl 1 rfl) ?_
  refine lv_i2l (v := (a.toInt64)) hx hb dX12_noSkein_1 rfl ?_
  refine lv_lconst (v := 0) hx hb dX12_noSkein_2 (by decide) ?_
  refine lv_aload_n hx hb dX12_noSkein_3 rfl (lv_at hl 0 rfl) ?_
  refine va_get (D := (dC, dI)) (ci := 12) (v := .int 0) (C := RX12) (T := TX12) (N := 75) hx hb ht inX12 hown hK hP 0 rfl rfl 3 (by decide) (ht _ m_1142) (fun _ h9 => h9) rfl dX12_noSkein_4 ?_
  refine lv_iconst (v := 1) hx hb dX12_noSkein_7 (by decide) ?_
  refine lv_isub hx hb dX12_noSkein_8 ?_
  refine lv_topi (fun v1 ev1 => ?_)
  obtain rfl : (-1) = v1 := (ev1.trans (by decide)).symm
  refine lv_i2l (v := (-1)) hx hb dX12_noSkein_9 (by decide) ?_
  have hPc := hP.sub (ws' := []) [] rfl
  have hKc := hK.sub (tys' := []) [] rfl
  refine vp_callSi (W.runS (As := [.long (a.toInt64), .long 0, .long (-1)]) (rest := []) ⟨hx, hb, hml, hown, ht⟩ (c_X12_in l dC dI (a.toInt64) 0 (-1) (a.toInt) (0) ((-1)) ((Int32.toInt_toInt64 a).trans rfl) (by decide : (0 : Int64).toInt = 0) (by decide : ((-1) : Int64).toInt = (-1))) (kS 3 ht m_1370 m_1371 m_89 m_1372 rfl rfl hd_X12_in_v ⟨Nat.le_of_ble_eq_true rfl, Nat.le_of_ble_eq_true rfl⟩) (sR hPc hKc) rfl rfl hl.1 rfl (lv_room (Nat.le_of_ble_eq_true rfl)) dX12_noSkein_10 ⟨Nat.le_of_ble_eq_true rfl, Nat.le_of_ble_eq_true rfl⟩) (fun r2 hr2 => ?_)
  rcases hr2 with ⟨rfl, fr2⟩ | ⟨rfl, fr2⟩
  · exfalso; omega
  · skip
    refine lv_if_ne (tgt := 20) hx hb dX12_noSkein_13 (by decide) (fun c3 => ?_) (fun c3 => ?_)
    · exact absurd rfl c3
    · skip
      refine lv_iconst (v := 1) hx hb dX12_noSkein_16 (by decide) ?_
      refine lv_goto (tgt := 21) hx hb dX12_noSkein_17 (by decide) ?_
      exact W.zret (v := 1) hx hb hr rfl (fun t ht9 hW => ⟨1, rfl, rfl, ht9⟩) (fun q hq => by cases hq) dX12_noSkein_21
set_option maxHeartbeats 4000000 in
set_option maxRecDepth 100000 in
/-- X12_noPaper -/
theorem c_X12_noPaper (l : Launch) (dC : Nat → ClassId) (dI : Nat → Nat → Nat) (h : Nat) (g : Nat → Nat → Nat) (ca : Nat → Nat → ClassId) (a : Int32) : Met l yX12_noPaper (wc yX12_noPaper cX12_noPaper 2 (some .boolean)) ({ frames := 1, cells := 0, slots := 0, locals := 25 } : Room) (pR (dC, dI) classes [(h, .inr (12, (o12 h g)))] [] [.ref h, .int a]) (vp_Si (fun r => r = 1)) 0 0 (fun _ => False) := by
  refine Met.ofW (cc := cX12_noPaper) (maxL := 2) (ret := (some .boolean)) (by decide) rfl ?_
  intro p e s m args below meth c s₁ B hml hv
  obtain ⟨rfl, hP, hK⟩ := hv
  have hx := B.exec
  have hb := B.bytes
  have hr := B.returns
  have ht := tb_tl (atoms_spec (ws := wc yX12_noPaper cX12_noPaper 2 (some .boolean)) B.pre)
  have hown : s.vm.findClass RX12 = some m.cls := findClass_of_methodNamed B.named
  have hlocks := B.notSynchronized
  have hl := lv_entry [.ref h, .int a] (n := 2) (Nat.le_of_ble_eq_true rfl)
  rw [lg_entry_eq]
  generalize (lg_sl [.ref h, .int a] ++ List.replicate (2 - (lg_sl [.ref h, .int a]).length) Slot.unset).toArray = ls at hl ⊢
  have hl : lv_has ls 2 [(0, .ref h), (1, .int a)] := hl
  refine lv_iload_n hx hb dX12_noPaper_0 rfl (lv_at hl 1 rfl) ?_
  refine lv_i2l (v := (a.toInt64)) hx hb dX12_noPaper_1 rfl ?_
  refine lv_lconst (v := 0) hx hb dX12_noPaper_2 (by decide) ?_
  refine lv_aload_n hx hb dX12_noPaper_3 rfl (lv_at hl 0 rfl) ?_
  refine va_get (D := (dC, dI)) (ci := 12) (v := .int 0) (C := RX12) (T := TX12) (N := 75) hx hb ht inX12 hown hK hP 0 rfl rfl 67 (by decide) (ht _ m_1206) (fun _ h9 => h9) rfl dX12_noPaper_4 ?_
  refine lv_iconst (v := 1) hx hb dX12_noPaper_7 (by decide) ?_
  refine lv_isub hx hb dX12_noPaper_8 ?_
  refine lv_topi (fun v1 ev1 => ?_)
  obtain rfl : (-1) = v1 := (ev1.trans (by decide)).symm
  refine lv_i2l (v := (-1)) hx hb dX12_noPaper_9 (by decide) ?_
  have hPc := hP.sub (ws' := []) [] rfl
  have hKc := hK.sub (tys' := []) [] rfl
  refine vp_callSi (W.runS (As := [.long (a.toInt64), .long 0, .long (-1)]) (rest := []) ⟨hx, hb, hml, hown, ht⟩ (c_X12_in l dC dI (a.toInt64) 0 (-1) (a.toInt) (0) ((-1)) ((Int32.toInt_toInt64 a).trans rfl) (by decide : (0 : Int64).toInt = 0) (by decide : ((-1) : Int64).toInt = (-1))) (kS 3 ht m_1370 m_1371 m_89 m_1372 rfl rfl hd_X12_in_v ⟨Nat.le_of_ble_eq_true rfl, Nat.le_of_ble_eq_true rfl⟩) (sR hPc hKc) rfl rfl hl.1 rfl (lv_room (Nat.le_of_ble_eq_true rfl)) dX12_noPaper_10 ⟨Nat.le_of_ble_eq_true rfl, Nat.le_of_ble_eq_true rfl⟩) (fun r2 hr2 => ?_)
  rcases hr2 with ⟨rfl, fr2⟩ | ⟨rfl, fr2⟩
  · exfalso; omega
  · skip
    refine lv_if_ne (tgt := 20) hx hb dX12_noPaper_13 (by decide) (fun c3 => ?_) (fun c3 => ?_)
    · exact absurd rfl c3
    · skip
      refine lv_iconst (v := 1) hx hb dX12_noPaper_16 (by decide) ?_
      refine lv_goto (tgt := 21) hx hb dX12_noPaper_17 (by decide) ?_
      exact W.zret (v := 1) hx hb hr rfl (fun t ht9 hW => ⟨1, rfl, rfl, ht9⟩) (fun q hq => by cases hq) dX12_noPaper_21
set_option maxHeartbeats 4000000 in
set_option maxRecDepth 100000 in
/-- X12_errorOf -/
theorem c_X12_errorOf (l : Launch) (dC : Nat → ClassId) (dI : Nat → Nat → Nat) (h : Nat) (g : Nat → Nat → Nat) (ca : Nat → Nat → ClassId) (a : Int32) (b : Int32) (d : Int32) : Met l yX12_errorOf (wc yX12_errorOf cX12_errorOf 8 (some .int)) ({ frames := 0, cells := 0, slots := 0, locals := 0 } : Room) (pR (dC, dI) classes [(h, .inr (12, (o12 h g)))] [] [.ref h, .int a, .int b, .int d]) (vp_Si (fun r => r = 0)) 0 0 (fun _ => False) := by
  refine Met.ofW (cc := cX12_errorOf) (maxL := 8) (ret := (some .int)) (by decide) rfl ?_
  intro p e s m args below meth c s₁ B hml hv
  obtain ⟨rfl, hP, hK⟩ := hv
  have hx := B.exec
  have hb := B.bytes
  have hr := B.returns
  have ht := tb_tl (atoms_spec (ws := wc yX12_errorOf cX12_errorOf 8 (some .int)) B.pre)
  have hown : s.vm.findClass RX12 = some m.cls := findClass_of_methodNamed B.named
  have hlocks := B.notSynchronized
  have hl := lv_entry [.ref h, .int a, .int b, .int d] (n := 8) (Nat.le_of_ble_eq_true rfl)
  rw [lg_entry_eq]
  generalize (lg_sl [.ref h, .int a, .int b, .int d] ++ List.replicate (8 - (lg_sl [.ref h, .int a, .int b, .int d]).length) Slot.unset).toArray = ls at hl ⊢
  have hl : lv_has ls 8 [(0, .ref h), (1, .int a), (2, .int b), (3, .int d)] := hl
  refine lv_iconst (v := (-1)) hx hb dX12_errorOf_0 (by decide) ?_
  refine lv_istore (lv' := [(4, .int (-1)), (0, .ref h), (1, .int a), (2, .int b), (3, .int d)]) hx hb dX12_errorOf_1 hl (by decide) rfl (fun ls hl => ?_)
  refine lv_iconst (v := (-1)) hx hb dX12_errorOf_3 (by decide) ?_
  refine lv_istore (lv' := [(5, .int (-1)), (4, .int (-1)), (0, .ref h), (1, .int a), (2, .int b), (3, .int d)]) hx hb dX12_errorOf_4 hl (by decide) rfl (fun ls hl => ?_)
  refine lv_iconst (v := 0) hx hb dX12_errorOf_6 (by decide) ?_
  refine lv_istore (lv' := [(6, .int 0), (5, .int (-1)), (4, .int (-1)), (0, .ref h), (1, .int a), (2, .int b), (3, .int d)]) hx hb dX12_errorOf_7 hl (by decide) rfl (fun ls hl => ?_)
  refine lv_iload hx hb dX12_errorOf_9 (lv_at hl 0 rfl) ?_
  refine lv_aload_n hx hb dX12_errorOf_11 rfl (lv_at hl 3 rfl) ?_
  refine va_get (D := (dC, dI)) (ci := 12) (v := .int 0) (C := RX12) (T := TX12) (N := 75) hx hb ht inX12 hown hK hP 0 rfl rfl 13 (by decide) (ht _ m_1152) (fun _ h9 => h9) rfl dX12_errorOf_12 ?_
  refine lv_icmp_ge (tgt := 80) hx hb dX12_errorOf_15 (by decide) (fun c1 => ?_) (fun c1 => ?_)
  · skip
    refine lv_iload hx hb dX12_errorOf_80 (lv_at hl 2 rfl) ?_
    refine lv_if_ge (tgt := 92) hx hb dX12_errorOf_82 (by decide) (fun c2 => ?_) (fun c2 => ?_)
    · exact absurd c2 (by decide)
    · skip
      refine lv_iload hx hb dX12_errorOf_85 (lv_at hl 1 rfl) ?_
      refine lv_if_ge (tgt := 92) hx hb dX12_errorOf_87 (by decide) (fun c3 => ?_) (fun c3 => ?_)
      · exact absurd c3 (by decide)
      · skip
        refine lv_iconst (v := 0) hx hb dX12_errorOf_90 (by decide) ?_
        exact W.iret (v := 0) hx hb hr (fun t ht9 hW => ⟨0, rfl, rfl, ht9⟩) (fun q hq => by cases hq) dX12_errorOf_91
  · exact absurd rfl c1
end
section
set_option maxHeartbeats 4000000 in
set_option maxRecDepth 100000 in
/-- X12_power -/
theorem c_X12_power (l : Launch) (dC : Nat → ClassId) (dI : Nat → Nat → Nat) (a : Int32) : Met l yX12_power (wc yX12_power cX12_power 4 (some .int)) ({ frames := 0, cells := 0, slots := 0, locals := 0 } : Room) (pR (dC, dI) classes [] [] [.int a, .int 0]) (vp_Si (fun r => r = 1)) 0 0 (fun _ => False) := by
  refine Met.ofW (cc := cX12_power) (maxL := 4) (ret := (some .int)) (by decide) rfl ?_
  intro p e s m args below meth c s₁ B hml hv
  obtain ⟨rfl, hP, hK⟩ := hv
  have hx := B.exec
  have hb := B.bytes
  have hr := B.returns
  have ht := tb_tl (atoms_spec (ws := wc yX12_power cX12_power 4 (some .int)) B.pre)
  have hown : s.vm.findClass RX12 = some m.cls := findClass_of_methodNamed B.named
  have hlocks := B.notSynchronized
  have hl := lv_entry [.int a, .int 0] (n := 4) (Nat.le_of_ble_eq_true rfl)
  rw [lg_entry_eq]
  generalize (lg_sl [.int a, .int 0] ++ List.replicate (4 - (lg_sl [.int a, .int 0]).length) Slot.unset).toArray = ls at hl ⊢
  have hl : lv_has ls 4 [(0, .int a), (1, .int 0)] := hl
  refine lv_iconst (v := 1) hx hb dX12_power_0 (by decide) ?_
  refine lv_istore_n (lv' := [(2, .int 1), (0, .int a), (1, .int 0)]) hx hb dX12_power_1 rfl hl (by decide) rfl (fun ls hl => ?_)
  refine lv_iconst (v := 0) hx hb dX12_power_2 (by decide) ?_
  refine lv_istore_n (lv' := [(3, .int 0), (2, .int 1), (0, .int a), (1, .int 0)]) hx hb dX12_power_3 rfl hl (by decide) rfl (fun ls hl => ?_)
  refine lv_iload_n hx hb dX12_power_4 rfl (lv_at hl 0 rfl) ?_
  refine lv_iload_n hx hb dX12_power_5 rfl (lv_at hl 3 rfl) ?_
  refine lv_icmp_ge (tgt := 19) hx hb dX12_power_6 (by decide) (fun c1 => ?_) (fun c1 => ?_)
  · skip
    refine lv_iload_n hx hb dX12_power_19 rfl (lv_at hl 1 rfl) ?_
    exact W.iret (v := 1) hx hb hr (fun t ht9 hW => ⟨1, rfl, rfl, ht9⟩) (fun q hq => by cases hq) dX12_power_20
  · exact absurd rfl c1
set_option maxHeartbeats 4000000 in
set_option maxRecDepth 100000 in
/-- X12_atFirst -/
theorem c_X12_atFirst (l : Launch) (dC : Nat → ClassId) (dI : Nat → Nat → Nat) (a : Int32) : Met l yX12_atFirst (wc yX12_atFirst cX12_atFirst 1 (some .int)) ({ frames := 0, cells := 0, slots := 0, locals := 0 } : Room) (pR (dC, dI) classes [] [] [.int a]) (vp_Si (fun r => r = F_atF a)) 0 0 (fun _ => False) := by
  refine Met.ofW (cc := cX12_atFirst) (maxL := 1) (ret := (some .int)) (by decide) rfl ?_
  intro p e s m args below meth c s₁ B hml hv
  obtain ⟨rfl, hP, hK⟩ := hv
  have hx := B.exec
  have hb := B.bytes
  have hr := B.returns
  have ht := tb_tl (atoms_spec (ws := wc yX12_atFirst cX12_atFirst 1 (some .int)) B.pre)
  have hown : s.vm.findClass RX12 = some m.cls := findClass_of_methodNamed B.named
  have hlocks := B.notSynchronized
  have hl := lv_entry [.int a] (n := 1) (Nat.le_of_ble_eq_true rfl)
  rw [lg_entry_eq]
  generalize (lg_sl [.int a] ++ List.replicate (1 - (lg_sl [.int a]).length) Slot.unset).toArray = ls at hl ⊢
  have hl : lv_has ls 1 [(0, .int a)] := hl
  refine lv_iload_n hx hb dX12_atFirst_0 rfl (lv_at hl 0 rfl) ?_
  rcases sw_0_4 a with h1 | rfl | rfl | rfl | rfl | rfl
  · refine lv_tableOut (tgt := 48) hx hb dX12_atFirst_1 h1 (by decide) ?_
    refine lv_iconst (v := 0) hx hb dX12_atFirst_48 (by decide) ?_
    exact W.iret (v := 0) hx hb hr (fun t ht9 hW => ⟨0, rfl, (by unfold F_atF; first | decide | ((repeat' split) <;> first | rfl | (exfalso; omega) | exact z_of (by decide) (by omega))), ht9⟩) (fun q hq => by cases hq) dX12_atFirst_49
  · refine lv_tableIn (tgt := 36) (off := 35) hx hb dX12_atFirst_1 (by decide) (by decide) rfl (by decide) ?_
    refine lv_bipush (v := 110) hx hb dX12_atFirst_36 (by decide) ?_
    exact W.iret (v := 110) hx hb hr (fun t ht9 hW => ⟨110, rfl, (by unfold F_atF; first | decide | ((repeat' split) <;> first | rfl | (exfalso; omega) | exact z_of (by decide) (by omega))), ht9⟩) (fun q hq => by cases hq) dX12_atFirst_38
  · refine lv_tableIn (tgt := 39) (off := 38) hx hb dX12_atFirst_1 (by decide) (by decide) rfl (by decide) ?_
    refine lv_iconst (v := 3) hx hb dX12_atFirst_39 (by decide) ?_
    exact W.iret (v := 3) hx hb hr (fun t ht9 hW => ⟨3, rfl, (by unfold F_atF; first | decide | ((repeat' split) <;> first | rfl | (exfalso; omega) | exact z_of (by decide) (by omega))), ht9⟩) (fun q hq => by cases hq) dX12_atFirst_40
  · refine lv_tableIn (tgt := 41) (off := 40) hx hb dX12_atFirst_1 (by decide) (by decide) rfl (by decide) ?_
    refine lv_iconst (v := 5) hx hb dX12_atFirst_41 (by decide) ?_
    exact W.iret (v := 5) hx hb hr (fun t ht9 hW => ⟨5, rfl, (by unfold F_atF; first | decide | ((repeat' split) <;> first | rfl | (exfalso; omega) | exact z_of (by decide) (by omega))), ht9⟩) (fun q hq => by cases hq) dX12_atFirst_42
  · refine lv_tableIn (tgt := 43) (off := 42) hx hb dX12_atFirst_1 (by decide) (by decide) rfl (by decide) ?_
    refine lv_iconst (v := 2) hx hb dX12_atFirst_43 (by decide) ?_
    exact W.iret (v := 2) hx hb hr (fun t ht9 hW => ⟨2, rfl, (by unfold F_atF; first | decide | ((repeat' split) <;> first | rfl | (exfalso; omega) | exact z_of (by decide) (by omega))), ht9⟩) (fun q hq => by cases hq) dX12_atFirst_44
  · refine lv_tableIn (tgt := 45) (off := 44) hx hb dX12_atFirst_1 (by decide) (by decide) rfl (by decide) ?_
    refine lv_bipush (v := 10) hx hb dX12_atFirst_45 (by decide) ?_
    exact W.iret (v := 10) hx hb hr (fun t ht9 hW => ⟨10, rfl, (by unfold F_atF; first | decide | ((repeat' split) <;> first | rfl | (exfalso; omega) | exact z_of (by decide) (by omega))), ht9⟩) (fun q hq => by cases hq) dX12_atFirst_47
set_option maxHeartbeats 4000000 in
set_option maxRecDepth 100000 in
/-- X12_findRules -/
theorem c_X12_findRules (l : Launch) (dC : Nat → ClassId) (dI : Nat → Nat → Nat) (sz : Nat) (h : Nat) (g : Nat → Nat → Nat) (ca : Nat → Nat → ClassId) (a : Int32) : Met l yX12_findRules (wc yX12_findRules cX12_findRules 4 none) ({ frames := 0, cells := 0, slots := 0, locals := 0 } : Room) (pW (dC, dI) classes [(h, .inr (12, (o12 h g)))] [] sz [.ref h, .int a]) (va_Qv (fun _ : Unit => True) (fun _ t => va_P (dC, dI) classes [(h, .inr (12, (o12 h g)))] t.heap ∧ va_D (va_A [(h, .inr (12, (o12 h g)))] sz) [(h, .inr (12, (o12 h g)))]) (va_A [(h, .inr (12, (o12 h g)))] sz)) 0 0 (va_A [(h, .inr (12, (o12 h g)))] sz) := by
  refine Met.ofW (cc := cX12_findRules) (maxL := 4) (ret := none) (by decide) rfl ?_
  intro p e s m args below meth c s₁ B hml hv
  obtain ⟨rfl, hsz, hP, hK, hD0⟩ := hv
  have hx := B.exec
  have hb := B.bytes
  have hr := B.returns
  have ht := tb_tl (atoms_spec (ws := wc yX12_findRules cX12_findRules 4 none) B.pre)
  have hown : s.vm.findClass RX12 = some m.cls := findClass_of_methodNamed B.named
  have hlocks := B.notSynchronized
  subst hsz
  have hD := hD0.self (sz := s.heap.size)
  generalize hAe : va_A [(h, .inr (12, (o12 h g)))] s.heap.size = A at hD ⊢
  have hA : ∀ q : Nat, s.heap.size ≤ q → A q := fun q h => by rw [← hAe]; exact Or.inr h
  have hS : va_S A s.heap s.heap [] := va_S.rf
  have hP : va_P (dC, dI) classes [(h, .inr (12, (o12 h g)))] s.heap := hP
  have hl := lv_entry [.ref h, .int a] (n := 4) (Nat.le_of_ble_eq_true rfl)
  rw [lg_entry_eq]
  generalize (lg_sl [.ref h, .int a] ++ List.replicate (4 - (lg_sl [.ref h, .int a]).length) Slot.unset).toArray = ls at hl ⊢
  have hl : lv_has ls 4 [(0, .ref h), (1, .int a)] := hl
  refine lv_iconst (v := 0) hx hb dX12_findRules_0 (by decide) ?_
  refine lv_istore_n (lv' := [(2, .int 0), (0, .ref h), (1, .int a)]) hx hb dX12_findRules_1 rfl hl (by decide) rfl (fun ls hl => ?_)
  refine lv_iload_n hx hb dX12_findRules_2 rfl (lv_at hl 0 rfl) ?_
  refine lv_aload_n hx hb dX12_findRules_3 rfl (lv_at hl 1 rfl) ?_
  refine va_get (D := (dC, dI)) (ci := 12) (v := .int 0) (C := RX12) (T := TX12) (N := 75) hx hb ht inX12 hown hK hP 0 rfl rfl 23 (by decide) (ht _ m_1162) (fun _ h9 => h9) rfl dX12_findRules_4 ?_
  refine lv_icmp_ge (tgt := 37) hx hb dX12_findRules_7 (by decide) (fun c1 => ?_) (fun c1 => ?_)
  · skip
    refine lv_aload_n hx hb dX12_findRules_37 rfl (lv_at hl 1 rfl) ?_
    refine va_get (D := (dC, dI)) (ci := 12) (v := .int 0) (C := RX12) (T := TX12) (N := 75) hx hb ht inX12 hown hK hP 0 rfl rfl 23 (by decide) (ht _ m_1162) (fun _ h9 => h9) rfl dX12_findRules_38 ?_
    refine lv_iconst (v := 1) hx hb dX12_findRules_41 (by decide) ?_
    refine lv_isub hx hb dX12_findRules_42 ?_
    refine lv_topi (fun v2 ev2 => ?_)
    obtain rfl : (-1) = v2 := (ev2.trans (by decide)).symm
    refine lv_istore_n (lv' := [(2, .int (-1)), (0, .ref h), (1, .int a)]) hx hb dX12_findRules_43 rfl hl (by decide) rfl (fun ls hl => ?_)
    refine lv_iload_n hx hb dX12_findRules_44 rfl (lv_at hl 0 rfl) ?_
    refine lv_if_lt (tgt := 111) hx hb dX12_findRules_45 (by decide) (fun c3 => ?_) (fun c3 => ?_)
    · skip
      refine lv_aload_n hx hb dX12_findRules_111 rfl (lv_at hl 1 rfl) ?_
      refine lv_iconst (v := 0) hx hb dX12_findRules_112 (by decide) ?_
      refine va_put (D := (dC, dI)) (ci := 12) (v := .int 0) (ty := (.int)) (C := RX12) (T := TX12) (N := 75) hx hb ht inX12 tyX12 tyX12_ok nmX12 hown hK hP hD hS 0 rfl rfl 41 (by decide) (ht _ m_1180) (fun _ h9 => h9) rfl (by decide +kernel) rfl rfl (Nat.le_of_ble_eq_true rfl) dX12_findRules_113 (fun H locs hP hD hS => ?_)
      have hP : va_P (dC, dI) classes [(h, .inr (12, (o12 h g)))] H := hP
      have hD : va_D A [(h, .inr (12, (o12 h g)))] := hD
      refine lv_iconst (v := 0) hx hb dX12_findRules_116 (by decide) ?_
      refine lv_istore_n (lv' := [(2, .int 0), (0, .ref h), (1, .int a)]) hx hb dX12_findRules_117 rfl hl (by decide) rfl (fun ls hl => ?_)
      refine lv_iload_n hx hb dX12_findRules_118 rfl (lv_at hl 0 rfl) ?_
      refine lv_aload_n hx hb dX12_findRules_119 rfl (lv_at hl 1 rfl) ?_
      refine va_get (D := (dC, dI)) (ci := 12) (v := .int 0) (C := RX12) (T := TX12) (N := 75) hx hb ht inX12 hown hK hP 0 rfl rfl 23 (by decide) (ht _ m_1162) (fun _ h9 => h9) rfl dX12_findRules_120 ?_
      refine lv_icmp_ge (tgt := 209) hx hb dX12_findRules_123 (by decide) (fun c4 => ?_) (fun c4 => ?_)
      · skip
        have hP9 : va_P (dC, dI) classes [(h, .inr (12, (o12 h g)))] H := hP
        have hD9 : va_D A [(h, .inr (12, (o12 h g)))] := hD
        exact W.vret hx hb hr (fun t ht9 hW => ⟨⟨(), rfl, trivial, by rw [ht9]; exact hP9, hD9⟩, hS.F ht9⟩) hS.2.2 dX12_findRules_209
      · exact absurd rfl c4
    · exact absurd c3 (by decide)
  · exact absurd rfl c1
set_option maxHeartbeats 4000000 in
set_option maxRecDepth 100000 in
/-- X12_forceOf -/
theorem c_X12_forceOf (l : Launch) (dC : Nat → ClassId) (dI : Nat → Nat → Nat) (sz : Nat) (h : Nat) (g : Nat → Nat → Nat) (ca : Nat → Nat → ClassId) (a : Int32) (b : Int32) : Met l yX12_forceOf (wc yX12_forceOf cX12_forceOf 7 (some .int)) ({ frames := 1, cells := 0, slots := 0, locals := 23 } : Room) (pW (dC, dI) classes [(h, .inr (12, (o12 h g)))] [] sz [.ref h, .int a, .int b]) (va_Qi (fun r (_ : Unit) => r = F_atF a) (fun _ _ => True) (va_A [(h, .inr (12, (o12 h g)))] sz)) 0 0 (va_A [(h, .inr (12, (o12 h g)))] sz) := by
  refine Met.ofW (cc := cX12_forceOf) (maxL := 7) (ret := (some .int)) (by decide) rfl ?_
  intro p e s m args below meth c s₁ B hml hv
  obtain ⟨rfl, hsz, hP, hK, hD0⟩ := hv
  have hx := B.exec
  have hb := B.bytes
  have hr := B.returns
  have ht := tb_tl (atoms_spec (ws := wc yX12_forceOf cX12_forceOf 7 (some .int)) B.pre)
  have hown : s.vm.findClass RX12 = some m.cls := findClass_of_methodNamed B.named
  have hlocks := B.notSynchronized
  subst hsz
  have hD := hD0.self (sz := s.heap.size)
  generalize hAe : va_A [(h, .inr (12, (o12 h g)))] s.heap.size = A at hD ⊢
  have hA : ∀ q : Nat, s.heap.size ≤ q → A q := fun q h => by rw [← hAe]; exact Or.inr h
  have hS : va_S A s.heap s.heap [] := va_S.rf
  have hP : va_P (dC, dI) classes [(h, .inr (12, (o12 h g)))] s.heap := hP
  have hl := lv_entry [.ref h, .int a, .int b] (n := 7) (Nat.le_of_ble_eq_true rfl)
  rw [lg_entry_eq]
  generalize (lg_sl [.ref h, .int a, .int b] ++ List.replicate (7 - (lg_sl [.ref h, .int a, .int b]).length) Slot.unset).toArray = ls at hl ⊢
  have hl : lv_has ls 7 [(0, .ref h), (1, .int a), (2, .int b)] := hl
  refine lv_aload_n hx hb dX12_forceOf_0 rfl (lv_at hl 0 rfl) ?_
  refine lv_iload_n hx hb dX12_forceOf_1 rfl (lv_at hl 2 rfl) ?_
  have hPc := hP.sub (ws' := [(h, .inr (12, (o12 h g)))]) [0] rfl
  have hKc := hK.sub (tys' := []) [] rfl
  have hDc := hD.sub (ws' := [(h, .inr (12, (o12 h g)))]) [0] (by decide) rfl
  have hFc := va_free (wc := [(h, .inr (12, (o12 h g)))]) hD hS hA [0] rfl
  refine va_callv (va_runV (As := [.int b]) (rest := []) ⟨hx, hb, hml, hown, ht⟩ (c_X12_findRules l dC dI H.size h g ca b) (kV 1 ht m_1513 m_1515 m_56 m_89 m_1516 rfl rfl hd_X12_findRules_v ⟨Nat.le_of_ble_eq_true rfl, Nat.le_of_ble_eq_true rfl⟩) (vW hPc hKc hDc (va_recv hKc hPc (ci := 12) (q0 := 0) rfl rfl)) rfl rfl hl.1 rfl (lv_room (Nat.le_of_ble_eq_true rfl)) dX12_forceOf_2 ⟨Nat.le_of_ble_eq_true rfl, Nat.le_of_ble_eq_true rfl⟩) hS (fun q _ h => hFc q h) hFc (fun u t H1 locs ht9 hvm hw hB hz1 hk1 hS => ?_)
  obtain ⟨hP1, hD1⟩ := hB
  rw [ht9] at hP1
  obtain ⟨hP, hD⟩ := va_join (wr := []) (w1 := [(h, .inr (12, (o12 h g)))]) hP hD [0] [] rfl rfl (by decide) (by decide) hk1 hFc hP1 hD1
  generalize H1 = H at hP hS ⊢
  have hP : va_P (dC, dI) classes [(h, .inr (12, (o12 h g)))] H := hP
  have hD : va_D A [(h, .inr (12, (o12 h g)))] := hD
  refine lv_iload_n hx hb dX12_forceOf_5 rfl (lv_at hl 1 rfl) ?_
  have hPc := hP.sub (ws' := []) [] rfl
  have hKc := hK.sub (tys' := []) [] rfl
  refine vp_callSi (W.runS (As := [.int a]) (rest := []) ⟨hx, hb, hml, hown, ht⟩ (c_X12_atFirst l dC dI a) (kS 1 ht m_1517 m_1518 m_89 m_1519 rfl rfl hd_X12_atFirst_v ⟨Nat.le_of_ble_eq_true rfl, Nat.le_of_ble_eq_true rfl⟩) (sR hPc hKc) rfl rfl hl.1 rfl (lv_room (Nat.le_of_ble_eq_true rfl)) dX12_forceOf_6 ⟨Nat.le_of_ble_eq_true rfl, Nat.le_of_ble_eq_true rfl⟩) (fun r2 hr2 => ?_)
  obtain rfl : (F_atF a) = r2 := hr2.symm
  refine lv_istore_n (lv' := [(3, .int (F_atF a)), (0, .ref h), (1, .int a), (2, .int b)]) hx hb dX12_forceOf_9 rfl hl (by decide) rfl (fun ls hl => ?_)
  refine lv_iconst (v := 0) hx hb dX12_forceOf_10 (by decide) ?_
  refine lv_istore (lv' := [(4, .int 0), (3, .int (F_atF a)), (0, .ref h), (1, .int a), (2, .int b)]) hx hb dX12_forceOf_11 hl (by decide) rfl (fun ls hl => ?_)
  refine lv_iload hx hb dX12_forceOf_13 (lv_at hl 0 rfl) ?_
  refine lv_aload_n hx hb dX12_forceOf_15 rfl (lv_at hl 2 rfl) ?_
  refine va_get (D := (dC, dI)) (ci := 12) (v := .int 0) (C := RX12) (T := TX12) (N := 75) hx hb ht inX12 hown hK hP 0 rfl rfl 41 (by decide) (ht _ m_1180) (fun _ h9 => h9) rfl dX12_forceOf_16 ?_
  refine lv_icmp_ge (tgt := 143) hx hb dX12_forceOf_19 (by decide) (fun c3 => ?_) (fun c3 => ?_)
  · skip
    refine lv_iload_n hx hb dX12_forceOf_143 rfl (lv_at hl 1 rfl) ?_
    exact W.iret (v := (F_atF a)) hx hb hr (fun t ht9 hW => ⟨⟨(F_atF a), (), rfl, rfl, trivial⟩, hS.F ht9⟩) hS.2.2 dX12_forceOf_144
  · exact absurd rfl c3
set_option maxHeartbeats 4000000 in
set_option maxRecDepth 100000 in
/-- X12_findOrder -/
theorem c_X12_findOrder (l : Launch) (dC : Nat → ClassId) (dI : Nat → Nat → Nat) (sz : Nat) (h : Nat) (g : Nat → Nat → Nat) (ca : Nat → Nat → ClassId) (a : Int32) : Met l yX12_findOrder (wc yX12_findOrder cX12_findOrder 7 none) ({ frames := 1, cells := 0, slots := 0, locals := 23 } : Room) (pW (dC, dI) classes [(h, .inr (12, (o12 h g))), ((g 12 59), .inl ((ca 12 59), 3, .inl (fun _ => 0)))] [((ca 12 59), .int)] sz [.ref h, .int a]) (va_Qv (fun _ : Unit => True) (fun _ t => va_P (dC, dI) classes [(h, .inr (12, (o12 h g)))] t.heap ∧ va_D (va_A [(h, .inr (12, (o12 h g))), ((g 12 59), .inl ((ca 12 59), 3, .inl (fun _ => 0)))] sz) [(h, .inr (12, (o12 h g)))]) (va_A [(h, .inr (12, (o12 h g))), ((g 12 59), .inl ((ca 12 59), 3, .inl (fun _ => 0)))] sz)) 0 0 (va_A [(h, .inr (12, (o12 h g))), ((g 12 59), .inl ((ca 12 59), 3, .inl (fun _ => 0)))] sz) := by
  refine Met.ofW (cc := cX12_findOrder) (maxL := 7) (ret := none) (by decide) rfl ?_
  intro p e s m args below meth c s₁ B hml hv
  obtain ⟨rfl, hsz, hP, hK, hD0⟩ := hv
  have hx := B.exec
  have hb := B.bytes
  have hr := B.returns
  have ht := tb_tl (atoms_spec (ws := wc yX12_findOrder cX12_findOrder 7 none) B.pre)
  have hown : s.vm.findClass RX12 = some m.cls := findClass_of_methodNamed B.named
  have hlocks := B.notSynchronized
  subst hsz
  have hD := hD0.self (sz := s.heap.size)
  generalize hAe : va_A [(h, .inr (12, (o12 h g))), ((g 12 59), .inl ((ca 12 59), 3, .inl (fun _ => 0)))] s.heap.size = A at hD ⊢
  have hA : ∀ q : Nat, s.heap.size ≤ q → A q := fun q h => by rw [← hAe]; exact Or.inr h
  have hS : va_S A s.heap s.heap [] := va_S.rf
  have hP : va_P (dC, dI) classes [(h, .inr (12, (o12 h g))), ((g 12 59), .inl ((ca 12 59), 3, .inl (fun _ => 0)))] s.heap := hP
  have hl := lv_entry [.ref h, .int a] (n := 7) (Nat.le_of_ble_eq_true rfl)
  rw [lg_entry_eq]
  generalize (lg_sl [.ref h, .int a] ++ List.replicate (7 - (lg_sl [.ref h, .int a]).length) Slot.unset).toArray = ls at hl ⊢
  have hl : lv_has ls 7 [(0, .ref h), (1, .int a)] := hl
  refine lv_aload_n hx hb dX12_findOrder_0 rfl (lv_at hl 0 rfl) ?_
  refine lv_iconst (v := (-1)) hx hb dX12_findOrder_1 (by decide) ?_
  refine va_put (D := (dC, dI)) (ci := 12) (v := .int (-1)) (ty := (.int)) (C := RX12) (T := TX12) (N := 75) hx hb ht inX12 tyX12 tyX12_ok nmX12 hown hK hP hD hS 0 rfl rfl 60 (by decide) (ht _ m_1199) (fun _ h9 => h9) rfl (by decide +kernel) rfl rfl (Nat.le_of_ble_eq_true rfl) dX12_findOrder_2 (fun H locs hP hD hS => ?_)
  have hP : va_P (dC, dI) classes [(h, .inr (12, [.int 0, .int 0, .ref (g 12 2), .int 0, .ref (g 12 4), .ref (g 12 5), .ref (g 12 6), .ref (g 12 7), .ref (g 12 8), .ref (g 12 9), .ref (g 12 10), .ref (g 12 11), .ref (g 12 12), .int 0, .ref (g 12 14), .ref (g 12 15), .ref (g 12 16), .long 0, .long 0, .int 0, .int (-1), .int (-1), .int (-1), .int 0, .ref (g 12 24), .ref (g 12 25), .ref (g 12 26), .ref (g 12 27), .ref (g 12 28), .ref (g 12 29), .ref (g 12 30), .ref (g 12 31), .ref (g 12 32), .int 0, .int 0, .int 0, .int (-1), .int 0, .int 0, .ref (g 12 39), .ref (g 12 40), .int 0, .ref (g 12 42), .ref (g 12 43), .long 0, .long 0, .long 0, .long 0, .int 0, .ref (g 12 49), .ref (g 12 50), .ref (g 12 51), .ref (g 12 52), .ref (g 12 53), .ref (g 12 54), .ref (g 12 55), .ref (g 12 56), .int 0, .ref (g 12 58), .ref (g 12 59), .int (-1), .int 0, .int 0, .ref (g 12 63), .ref (g 12 64), .int 0, .int 0, .int 0, .ref (g 12 68), .ref (g 12 69), .ref (g 12 70), .ref (g 12 71), .ref (g 12 72), .ref (g 12 73), .ref (g 12 74)])), ((g 12 59), .inl ((ca 12 59), 3, .inl (fun _ => 0)))] H := hP
  have hD : va_D A [(h, .inr (12, [.int 0, .int 0, .ref (g 12 2), .int 0, .ref (g 12 4), .ref (g 12 5), .ref (g 12 6), .ref (g 12 7), .ref (g 12 8), .ref (g 12 9), .ref (g 12 10), .ref (g 12 11), .ref (g 12 12), .int 0, .ref (g 12 14), .ref (g 12 15), .ref (g 12 16), .long 0, .long 0, .int 0, .int (-1), .int (-1), .int (-1), .int 0, .ref (g 12 24), .ref (g 12 25), .ref (g 12 26), .ref (g 12 27), .ref (g 12 28), .ref (g 12 29), .ref (g 12 30), .ref (g 12 31), .ref (g 12 32), .int 0, .int 0, .int 0, .int (-1), .int 0, .int 0, .ref (g 12 39), .ref (g 12 40), .int 0, .ref (g 12 42), .ref (g 12 43), .long 0, .long 0, .long 0, .long 0, .int 0, .ref (g 12 49), .ref (g 12 50), .ref (g 12 51), .ref (g 12 52), .ref (g 12 53), .ref (g 12 54), .ref (g 12 55), .ref (g 12 56), .int 0, .ref (g 12 58), .ref (g 12 59), .int (-1), .int 0, .int 0, .ref (g 12 63), .ref (g 12 64), .int 0, .int 0, .int 0, .ref (g 12 68), .ref (g 12 69), .ref (g 12 70), .ref (g 12 71), .ref (g 12 72), .ref (g 12 73), .ref (g 12 74)])), ((g 12 59), .inl ((ca 12 59), 3, .inl (fun _ => 0)))] := hD
  refine lv_aload_n hx hb dX12_findOrder_5 rfl (lv_at hl 0 rfl) ?_
  refine lv_iconst (v := 0) hx hb dX12_findOrder_6 (by decide) ?_
  refine va_put (D := (dC, dI)) (ci := 12) (v := .int 0) (ty := (.int)) (C := RX12) (T := TX12) (N := 75) hx hb ht inX12 tyX12 tyX12_ok nmX12 hown hK hP hD hS 0 rfl rfl 61 (by decide) (ht _ m_1200) (fun _ h9 => h9) rfl (by decide +kernel) rfl rfl (Nat.le_of_ble_eq_true rfl) dX12_findOrder_7 (fun H locs hP hD hS => ?_)
  have hP : va_P (dC, dI) classes [(h, .inr (12, [.int 0, .int 0, .ref (g 12 2), .int 0, .ref (g 12 4), .ref (g 12 5), .ref (g 12 6), .ref (g 12 7), .ref (g 12 8), .ref (g 12 9), .ref (g 12 10), .ref (g 12 11), .ref (g 12 12), .int 0, .ref (g 12 14), .ref (g 12 15), .ref (g 12 16), .long 0, .long 0, .int 0, .int (-1), .int (-1), .int (-1), .int 0, .ref (g 12 24), .ref (g 12 25), .ref (g 12 26), .ref (g 12 27), .ref (g 12 28), .ref (g 12 29), .ref (g 12 30), .ref (g 12 31), .ref (g 12 32), .int 0, .int 0, .int 0, .int (-1), .int 0, .int 0, .ref (g 12 39), .ref (g 12 40), .int 0, .ref (g 12 42), .ref (g 12 43), .long 0, .long 0, .long 0, .long 0, .int 0, .ref (g 12 49), .ref (g 12 50), .ref (g 12 51), .ref (g 12 52), .ref (g 12 53), .ref (g 12 54), .ref (g 12 55), .ref (g 12 56), .int 0, .ref (g 12 58), .ref (g 12 59), .int (-1), .int 0, .int 0, .ref (g 12 63), .ref (g 12 64), .int 0, .int 0, .int 0, .ref (g 12 68), .ref (g 12 69), .ref (g 12 70), .ref (g 12 71), .ref (g 12 72), .ref (g 12 73), .ref (g 12 74)])), ((g 12 59), .inl ((ca 12 59), 3, .inl (fun _ => 0)))] H := hP
  have hD : va_D A [(h, .inr (12, [.int 0, .int 0, .ref (g 12 2), .int 0, .ref (g 12 4), .ref (g 12 5), .ref (g 12 6), .ref (g 12 7), .ref (g 12 8), .ref (g 12 9), .ref (g 12 10), .ref (g 12 11), .ref (g 12 12), .int 0, .ref (g 12 14), .ref (g 12 15), .ref (g 12 16), .long 0, .long 0, .int 0, .int (-1), .int (-1), .int (-1), .int 0, .ref (g 12 24), .ref (g 12 25), .ref (g 12 26), .ref (g 12 27), .ref (g 12 28), .ref (g 12 29), .ref (g 12 30), .ref (g 12 31), .ref (g 12 32), .int 0, .int 0, .int 0, .int (-1), .int 0, .int 0, .ref (g 12 39), .ref (g 12 40), .int 0, .ref (g 12 42), .ref (g 12 43), .long 0, .long 0, .long 0, .long 0, .int 0, .ref (g 12 49), .ref (g 12 50), .ref (g 12 51), .ref (g 12 52), .ref (g 12 53), .ref (g 12 54), .ref (g 12 55), .ref (g 12 56), .int 0, .ref (g 12 58), .ref (g 12 59), .int (-1), .int 0, .int 0, .ref (g 12 63), .ref (g 12 64), .int 0, .int 0, .int 0, .ref (g 12 68), .ref (g 12 69), .ref (g 12 70), .ref (g 12 71), .ref (g 12 72), .ref (g 12 73), .ref (g 12 74)])), ((g 12 59), .inl ((ca 12 59), 3, .inl (fun _ => 0)))] := hD
  refine lv_iload_n hx hb dX12_findOrder_10 rfl (lv_at hl 1 rfl) ?_
  refine lv_aload_n hx hb dX12_findOrder_11 rfl (lv_at hl 0 rfl) ?_
  refine va_get (D := (dC, dI)) (ci := 12) (v := .int 0) (C := RX12) (T := TX12) (N := 75) hx hb ht inX12 hown hK hP 0 rfl rfl 57 (by decide) (ht _ m_1196) (fun _ h9 => h9) rfl dX12_findOrder_12 ?_
  have hPc := hP.sub (ws' := []) [] rfl
  have hKc := hK.sub (tys' := []) [] rfl
  refine vp_callSi (W.runS (As := [.int a, .int 0]) (rest := []) ⟨hx, hb, hml, hown, ht⟩ (c_X12_power l dC dI a) (kS 2 ht m_1649 m_1650 m_89 m_1651 rfl rfl hd_X12_power_v ⟨Nat.le_of_ble_eq_true rfl, Nat.le_of_ble_eq_true rfl⟩) (sR hPc hKc) rfl rfl hl.1 rfl (lv_room (Nat.le_of_ble_eq_true rfl)) dX12_findOrder_15 ⟨Nat.le_of_ble_eq_true rfl, Nat.le_of_ble_eq_true rfl⟩) (fun r1 hr1 => ?_)
  obtain rfl : 1 = r1 := hr1.symm
  refine lv_istore_n (lv' := [(2, .int 1), (0, .ref h), (1, .int a)]) hx hb dX12_findOrder_18 rfl hl (by decide) rfl (fun ls hl => ?_)
  refine lv_iconst (v := 0) hx hb dX12_findOrder_19 (by decide) ?_
  refine lv_istore_n (lv' := [(3, .int 0), (2, .int 1), (0, .ref h), (1, .int a)]) hx hb dX12_findOrder_20 rfl hl (by decide) rfl (fun ls hl => ?_)
  refine lv_iload_n hx hb dX12_findOrder_21 rfl (lv_at hl 0 rfl) ?_
  refine lv_iload_n hx hb dX12_findOrder_22 rfl (lv_at hl 1 rfl) ?_
  refine lv_icmp_ge (tgt := 156) hx hb dX12_findOrder_23 (by decide) (fun c2 => ?_) (fun c2 => ?_)
  · exact absurd c2 (by decide)
  · skip
    refine lv_iconst (v := 0) hx hb dX12_findOrder_26 (by decide) ?_
    refine lv_istore (lv' := [(4, .int 0), (3, .int 0), (2, .int 1), (0, .ref h), (1, .int a)]) hx hb dX12_findOrder_27 hl (by decide) rfl (fun ls hl => ?_)
    refine lv_iload hx hb dX12_findOrder_29 (lv_at hl 0 rfl) ?_
    refine lv_iconst (v := 3) hx hb dX12_findOrder_31 (by decide) ?_
    refine lv_icmp_ge (tgt := 49) hx hb dX12_findOrder_32 (by decide) (fun c3 => ?_) (fun c3 => ?_)
    · exact absurd c3 (by decide)
    · skip
      refine lv_aload_n hx hb dX12_findOrder_35 rfl (lv_at hl 3 rfl) ?_
      refine va_get (D := (dC, dI)) (ci := 12) (v := .ref (g 12 59)) (C := RX12) (T := TX12) (N := 75) hx hb ht inX12 hown hK hP 0 rfl rfl 59 (by decide) (ht _ m_1198) (fun _ h9 => h9) rfl dX12_findOrder_36 ?_
      refine lv_iload hx hb dX12_findOrder_39 (lv_at hl 0 rfl) ?_
      refine lv_iconst (v := 0) hx hb dX12_findOrder_41 (by decide) ?_
      refine va_iast (D := (dC, dI)) hx hb hK hP hD hS 1 0 rfl rfl (by decide) dX12_findOrder_42 (fun H locs hP hD hS => ?_)
      obtain ⟨f4, hP, hD⟩ : ∃ f4 : Nat → Int32, va_P (dC, dI) classes [(h, .inr (12, [.int 0, .int 0, .ref (g 12 2), .int 0, .ref (g 12 4), .ref (g 12 5), .ref (g 12 6), .ref (g 12 7), .ref (g 12 8), .ref (g 12 9), .ref (g 12 10), .ref (g 12 11), .ref (g 12 12), .int 0, .ref (g 12 14), .ref (g 12 15), .ref (g 12 16), .long 0, .long 0, .int 0, .int (-1), .int (-1), .int (-1), .int 0, .ref (g 12 24), .ref (g 12 25), .ref (g 12 26), .ref (g 12 27), .ref (g 12 28), .ref (g 12 29), .ref (g 12 30), .ref (g 12 31), .ref (g 12 32), .int 0, .int 0, .int 0, .int (-1), .int 0, .int 0, .ref (g 12 39), .ref (g 12 40), .int 0, .ref (g 12 42), .ref (g 12 43), .long 0, .long 0, .long 0, .long 0, .int 0, .ref (g 12 49), .ref (g 12 50), .ref (g 12 51), .ref (g 12 52), .ref (g 12 53), .ref (g 12 54), .ref (g 12 55), .ref (g 12 56), .int 0, .ref (g 12 58), .ref (g 12 59), .int (-1), .int 0, .int 0, .ref (g 12 63), .ref (g 12 64), .int 0, .int 0, .int 0, .ref (g 12 68), .ref (g 12 69), .ref (g 12 70), .ref (g 12 71), .ref (g 12 72), .ref (g 12 73), .ref (g 12 74)])), ((g 12 59), .inl ((ca 12 59), 3, .inl f4))] H ∧ va_D A [(h, .inr (12, [.int 0, .int 0, .ref (g 12 2), .int 0, .ref (g 12 4), .ref (g 12 5), .ref (g 12 6), .ref (g 12 7), .ref (g 12 8), .ref (g 12 9), .ref (g 12 10), .ref (g 12 11), .ref (g 12 12), .int 0, .ref (g 12 14), .ref (g 12 15), .ref (g 12 16), .long 0, .long 0, .int 0, .int (-1), .int (-1), .int (-1), .int 0, .ref (g 12 24), .ref (g 12 25), .ref (g 12 26), .ref (g 12 27), .ref (g 12 28), .ref (g 12 29), .ref (g 12 30), .ref (g 12 31), .ref (g 12 32), .int 0, .int 0, .int 0, .int (-1), .int 0, .int 0, .ref (g 12 39), .ref (g 12 40), .int 0, .ref (g 12 42), .ref (g 12 43), .long 0, .long 0, .long 0, .long 0, .int 0, .ref (g 12 49), .ref (g 12 50), .ref (g 12 51), .ref (g 12 52), .ref (g 12 53), .ref (g 12 54), .ref (g 12 55), .ref (g 12 56), .int 0, .ref (g 12 58), .ref (g 12 59), .int (-1), .int 0, .int 0, .ref (g 12 63), .ref (g 12 64), .int 0, .int 0, .int 0, .ref (g 12 68), .ref (g 12 69), .ref (g 12 70), .ref (g 12 71), .ref (g 12 72), .ref (g 12 73), .ref (g 12 74)])), ((g 12 59), .inl ((ca 12 59), 3, .inl f4))] := ⟨_, hP, hD⟩
      refine lv_iinc (v := 1) (lv' := [(4, .int 1), (3, .int 0), (2, .int 1), (0, .ref h), (1, .int a)]) hx hb dX12_findOrder_43 hl (k := 0) rfl (by decide) (by decide) rfl (fun ls hl => ?_)
      refine lv_goto (tgt := 29) hx hb dX12_findOrder_46 (by decide) ?_
      refine lv_iload hx hb dX12_findOrder_29 (lv_at hl 0 rfl) ?_
      refine lv_iconst (v := 3) hx hb dX12_findOrder_31 (by decide) ?_
      refine lv_icmp_ge (tgt := 49) hx hb dX12_findOrder_32 (by decide) (fun c5 => ?_) (fun c5 => ?_)
      · exact absurd c5 (by decide)
      · skip
        refine lv_aload_n hx hb dX12_findOrder_35 rfl (lv_at hl 3 rfl) ?_
        refine va_get (D := (dC, dI)) (ci := 12) (v := .ref (g 12 59)) (C := RX12) (T := TX12) (N := 75) hx hb ht inX12 hown hK hP 0 rfl rfl 59 (by decide) (ht _ m_1198) (fun _ h9 => h9) rfl dX12_findOrder_36 ?_
        refine lv_iload hx hb dX12_findOrder_39 (lv_at hl 0 rfl) ?_
        refine lv_iconst (v := 0) hx hb dX12_findOrder_41 (by decide) ?_
        refine va_iast (D := (dC, dI)) hx hb hK hP hD hS 1 0 rfl rfl (by decide) dX12_findOrder_42 (fun H locs hP hD hS => ?_)
        obtain ⟨f6, hP, hD⟩ : ∃ f6 : Nat → Int32, va_P (dC, dI) classes [(h, .inr (12, [.int 0, .int 0, .ref (g 12 2), .int 0, .ref (g 12 4), .ref (g 12 5), .ref (g 12 6), .ref (g 12 7), .ref (g 12 8), .ref (g 12 9), .ref (g 12 10), .ref (g 12 11), .ref (g 12 12), .int 0, .ref (g 12 14), .ref (g 12 15), .ref (g 12 16), .long 0, .long 0, .int 0, .int (-1), .int (-1), .int (-1), .int 0, .ref (g 12 24), .ref (g 12 25), .ref (g 12 26), .ref (g 12 27), .ref (g 12 28), .ref (g 12 29), .ref (g 12 30), .ref (g 12 31), .ref (g 12 32), .int 0, .int 0, .int 0, .int (-1), .int 0, .int 0, .ref (g 12 39), .ref (g 12 40), .int 0, .ref (g 12 42), .ref (g 12 43), .long 0, .long 0, .long 0, .long 0, .int 0, .ref (g 12 49), .ref (g 12 50), .ref (g 12 51), .ref (g 12 52), .ref (g 12 53), .ref (g 12 54), .ref (g 12 55), .ref (g 12 56), .int 0, .ref (g 12 58), .ref (g 12 59), .int (-1), .int 0, .int 0, .ref (g 12 63), .ref (g 12 64), .int 0, .int 0, .int 0, .ref (g 12 68), .ref (g 12 69), .ref (g 12 70), .ref (g 12 71), .ref (g 12 72), .ref (g 12 73), .ref (g 12 74)])), ((g 12 59), .inl ((ca 12 59), 3, .inl f6))] H ∧ va_D A [(h, .inr (12, [.int 0, .int 0, .ref (g 12 2), .int 0, .ref (g 12 4), .ref (g 12 5), .ref (g 12 6), .ref (g 12 7), .ref (g 12 8), .ref (g 12 9), .ref (g 12 10), .ref (g 12 11), .ref (g 12 12), .int 0, .ref (g 12 14), .ref (g 12 15), .ref (g 12 16), .long 0, .long 0, .int 0, .int (-1), .int (-1), .int (-1), .int 0, .ref (g 12 24), .ref (g 12 25), .ref (g 12 26), .ref (g 12 27), .ref (g 12 28), .ref (g 12 29), .ref (g 12 30), .ref (g 12 31), .ref (g 12 32), .int 0, .int 0, .int 0, .int (-1), .int 0, .int 0, .ref (g 12 39), .ref (g 12 40), .int 0, .ref (g 12 42), .ref (g 12 43), .long 0, .long 0, .long 0, .long 0, .int 0, .ref (g 12 49), .ref (g 12 50), .ref (g 12 51), .ref (g 12 52), .ref (g 12 53), .ref (g 12 54), .ref (g 12 55), .ref (g 12 56), .int 0, .ref (g 12 58), .ref (g 12 59), .int (-1), .int 0, .int 0, .ref (g 12 63), .ref (g 12 64), .int 0, .int 0, .int 0, .ref (g 12 68), .ref (g 12 69), .ref (g 12 70), .ref (g 12 71), .ref (g 12 72), .ref (g 12 73), .ref (g 12 74)])), ((g 12 59), .inl ((ca 12 59), 3, .inl f6))] := ⟨_, hP, hD⟩
        refine lv_iinc (v := 2) (lv' := [(4, .int 2), (3, .int 0), (2, .int 1), (0, .ref h), (1, .int a)]) hx hb dX12_findOrder_43 hl (k := 0) rfl (by decide) (by decide) rfl (fun ls hl => ?_)
        refine lv_goto (tgt := 29) hx hb dX12_findOrder_46 (by decide) ?_
        refine lv_iload hx hb dX12_findOrder_29 (lv_at hl 0 rfl) ?_
        refine lv_iconst (v := 3) hx hb dX12_findOrder_31 (by decide) ?_
        refine lv_icmp_ge (tgt := 49) hx hb dX12_findOrder_32 (by decide) (fun c7 => ?_) (fun c7 => ?_)
        · exact absurd c7 (by decide)
        · skip
          refine lv_aload_n hx hb dX12_findOrder_35 rfl (lv_at hl 3 rfl) ?_
          refine va_get (D := (dC, dI)) (ci := 12) (v := .ref (g 12 59)) (C := RX12) (T := TX12) (N := 75) hx hb ht inX12 hown hK hP 0 rfl rfl 59 (by decide) (ht _ m_1198) (fun _ h9 => h9) rfl dX12_findOrder_36 ?_
          refine lv_iload hx hb dX12_findOrder_39 (lv_at hl 0 rfl) ?_
          refine lv_iconst (v := 0) hx hb dX12_findOrder_41 (by decide) ?_
          refine va_iast (D := (dC, dI)) hx hb hK hP hD hS 1 0 rfl rfl (by decide) dX12_findOrder_42 (fun H locs hP hD hS => ?_)
          obtain ⟨f8, hP, hD⟩ : ∃ f8 : Nat → Int32, va_P (dC, dI) classes [(h, .inr (12, [.int 0, .int 0, .ref (g 12 2), .int 0, .ref (g 12 4), .ref (g 12 5), .ref (g 12 6), .ref (g 12 7), .ref (g 12 8), .ref (g 12 9), .ref (g 12 10), .ref (g 12 11), .ref (g 12 12), .int 0, .ref (g 12 14), .ref (g 12 15), .ref (g 12 16), .long 0, .long 0, .int 0, .int (-1), .int (-1), .int (-1), .int 0, .ref (g 12 24), .ref (g 12 25), .ref (g 12 26), .ref (g 12 27), .ref (g 12 28), .ref (g 12 29), .ref (g 12 30), .ref (g 12 31), .ref (g 12 32), .int 0, .int 0, .int 0, .int (-1), .int 0, .int 0, .ref (g 12 39), .ref (g 12 40), .int 0, .ref (g 12 42), .ref (g 12 43), .long 0, .long 0, .long 0, .long 0, .int 0, .ref (g 12 49), .ref (g 12 50), .ref (g 12 51), .ref (g 12 52), .ref (g 12 53), .ref (g 12 54), .ref (g 12 55), .ref (g 12 56), .int 0, .ref (g 12 58), .ref (g 12 59), .int (-1), .int 0, .int 0, .ref (g 12 63), .ref (g 12 64), .int 0, .int 0, .int 0, .ref (g 12 68), .ref (g 12 69), .ref (g 12 70), .ref (g 12 71), .ref (g 12 72), .ref (g 12 73), .ref (g 12 74)])), ((g 12 59), .inl ((ca 12 59), 3, .inl f8))] H ∧ va_D A [(h, .inr (12, [.int 0, .int 0, .ref (g 12 2), .int 0, .ref (g 12 4), .ref (g 12 5), .ref (g 12 6), .ref (g 12 7), .ref (g 12 8), .ref (g 12 9), .ref (g 12 10), .ref (g 12 11), .ref (g 12 12), .int 0, .ref (g 12 14), .ref (g 12 15), .ref (g 12 16), .long 0, .long 0, .int 0, .int (-1), .int (-1), .int (-1), .int 0, .ref (g 12 24), .ref (g 12 25), .ref (g 12 26), .ref (g 12 27), .ref (g 12 28), .ref (g 12 29), .ref (g 12 30), .ref (g 12 31), .ref (g 12 32), .int 0, .int 0, .int 0, .int (-1), .int 0, .int 0, .ref (g 12 39), .ref (g 12 40), .int 0, .ref (g 12 42), .ref (g 12 43), .long 0, .long 0, .long 0, .long 0, .int 0, .ref (g 12 49), .ref (g 12 50), .ref (g 12 51), .ref (g 12 52), .ref (g 12 53), .ref (g 12 54), .ref (g 12 55), .ref (g 12 56), .int 0, .ref (g 12 58), .ref (g 12 59), .int (-1), .int 0, .int 0, .ref (g 12 63), .ref (g 12 64), .int 0, .int 0, .int 0, .ref (g 12 68), .ref (g 12 69), .ref (g 12 70), .ref (g 12 71), .ref (g 12 72), .ref (g 12 73), .ref (g 12 74)])), ((g 12 59), .inl ((ca 12 59), 3, .inl f8))] := ⟨_, hP, hD⟩
          refine lv_iinc (v := 3) (lv' := [(4, .int 3), (3, .int 0), (2, .int 1), (0, .ref h), (1, .int a)]) hx hb dX12_findOrder_43 hl (k := 0) rfl (by decide) (by decide) rfl (fun ls hl => ?_)
          refine lv_goto (tgt := 29) hx hb dX12_findOrder_46 (by decide) ?_
          refine lv_iload hx hb dX12_findOrder_29 (lv_at hl 0 rfl) ?_
          refine lv_iconst (v := 3) hx hb dX12_findOrder_31 (by decide) ?_
          refine lv_icmp_ge (tgt := 49) hx hb dX12_findOrder_32 (by decide) (fun c9 => ?_) (fun c9 => ?_)
          · skip
            refine lv_iconst (v := 0) hx hb dX12_findOrder_49 (by decide) ?_
            refine lv_istore (lv' := [(4, .int 0), (3, .int 0), (2, .int 1), (0, .ref h), (1, .int a)]) hx hb dX12_findOrder_50 hl (by decide) rfl (fun ls hl => ?_)
            refine lv_iconst (v := 0) hx hb dX12_findOrder_52 (by decide) ?_
            refine lv_istore (lv' := [(5, .int 0), (4, .int 0), (3, .int 0), (2, .int 1), (0, .ref h), (1, .int a)]) hx hb dX12_findOrder_53 hl (by decide) rfl (fun ls hl => ?_)
            refine lv_iload hx hb dX12_findOrder_55 (lv_at hl 0 rfl) ?_
            refine lv_aload_n hx hb dX12_findOrder_57 rfl (lv_at hl 4 rfl) ?_
            refine va_get (D := (dC, dI)) (ci := 12) (v := .int 0) (C := RX12) (T := TX12) (N := 75) hx hb ht inX12 hown hK hP 0 rfl rfl 57 (by decide) (ht _ m_1196) (fun _ h9 => h9) rfl dX12_findOrder_58 ?_
            refine lv_icmp_ge (tgt := 123) hx hb dX12_findOrder_61 (by decide) (fun c10 => ?_) (fun c10 => ?_)
            · skip
              refine lv_aload_n hx hb dX12_findOrder_123 rfl (lv_at hl 4 rfl) ?_
              refine va_get (D := (dC, dI)) (ci := 12) (v := .int (-1)) (C := RX12) (T := TX12) (N := 75) hx hb ht inX12 hown hK hP 0 rfl rfl 60 (by decide) (ht _ m_1199) (fun _ h9 => h9) rfl dX12_findOrder_124 ?_
              refine lv_if_lt (tgt := 139) hx hb dX12_findOrder_127 (by decide) (fun c11 => ?_) (fun c11 => ?_)
              · skip
                refine lv_aload_n hx hb dX12_findOrder_139 rfl (lv_at hl 4 rfl) ?_
                refine lv_iload_n hx hb dX12_findOrder_140 rfl (lv_at hl 2 rfl) ?_
                refine va_put (D := (dC, dI)) (ci := 12) (v := .int 0) (ty := (.int)) (C := RX12) (T := TX12) (N := 75) hx hb ht inX12 tyX12 tyX12_ok nmX12 hown hK hP hD hS 0 rfl rfl 60 (by decide) (ht _ m_1199) (fun _ h9 => h9) rfl (by decide +kernel) rfl rfl (Nat.le_of_ble_eq_true rfl) dX12_findOrder_141 (fun H locs hP hD hS => ?_)
                have hP : va_P (dC, dI) classes [(h, .inr (12, (o12 h g))), ((g 12 59), .inl ((ca 12 59), 3, .inl f8))] H := hP
                have hD : va_D A [(h, .inr (12, (o12 h g))), ((g 12 59), .inl ((ca 12 59), 3, .inl f8))] := hD
                refine lv_aload_n hx hb dX12_findOrder_144 rfl (lv_at hl 4 rfl) ?_
                refine lv_iload hx hb dX12_findOrder_145 (lv_at hl 1 rfl) ?_
                refine va_put (D := (dC, dI)) (ci := 12) (v := .int 0) (ty := (.int)) (C := RX12) (T := TX12) (N := 75) hx hb ht inX12 tyX12 tyX12_ok nmX12 hown hK hP hD hS 0 rfl rfl 61 (by decide) (ht _ m_1200) (fun _ h9 => h9) rfl (by decide +kernel) rfl rfl (Nat.le_of_ble_eq_true rfl) dX12_findOrder_147 (fun H locs hP hD hS => ?_)
                have hP : va_P (dC, dI) classes [(h, .inr (12, (o12 h g))), ((g 12 59), .inl ((ca 12 59), 3, .inl f8))] H := hP
                have hD : va_D A [(h, .inr (12, (o12 h g))), ((g 12 59), .inl ((ca 12 59), 3, .inl f8))] := hD
                refine lv_iinc (v := 1) (lv' := [(3, .int 1), (5, .int 0), (4, .int 0), (2, .int 1), (0, .ref h), (1, .int a)]) hx hb dX12_findOrder_150 hl (k := 2) rfl (by decide) (by decide) rfl (fun ls hl => ?_)
                refine lv_goto (tgt := 21) hx hb dX12_findOrder_153 (by decide) ?_
                refine lv_iload_n hx hb dX12_findOrder_21 rfl (lv_at hl 0 rfl) ?_
                refine lv_iload_n hx hb dX12_findOrder_22 rfl (lv_at hl 3 rfl) ?_
                refine lv_icmp_ge (tgt := 156) hx hb dX12_findOrder_23 (by decide) (fun c12 => ?_) (fun c12 => ?_)
                · skip
                  have hP9 : va_P (dC, dI) classes [(h, .inr (12, (o12 h g)))] H := hP
                  have hD9 : va_D A [(h, .inr (12, (o12 h g)))] := hD
                  exact W.vret hx hb hr (fun t ht9 hW => ⟨⟨(), rfl, trivial, by rw [ht9]; exact hP9, hD9⟩, hS.F ht9⟩) hS.2.2 dX12_findOrder_156
                · exact absurd rfl c12
              · exact absurd c11 (by decide)
            · exact absurd rfl c10
          · exact absurd rfl c9
set_option maxHeartbeats 4000000 in
set_option maxRecDepth 100000 in
/-- X12_here -/
theorem c_X12_here (l : Launch) (dC : Nat → ClassId) (dI : Nat → Nat → Nat) (h : Nat) (g : Nat → Nat → Nat) (ca : Nat → Nat → ClassId) : Met l yX12_here (wc yX12_here cX12_here 1 (some .int)) ({ frames := 0, cells := 0, slots := 0, locals := 0 } : Room) (pR (dC, dI) classes [(h, .inr (12, (o12 h g)))] [] [.ref h]) (vp_Si (fun r => r = -1)) 0 0 (fun _ => False) := by
  refine Met.ofW (cc := cX12_here) (maxL := 1) (ret := (some .int)) (by decide) rfl ?_
  intro p e s m args below meth c s₁ B hml hv
  obtain ⟨rfl, hP, hK⟩ := hv
  have hx := B.exec
  have hb := B.bytes
  have hr := B.returns
  have ht := tb_tl (atoms_spec (ws := wc yX12_here cX12_here 1 (some .int)) B.pre)
  have hown : s.vm.findClass RX12 = some m.cls := findClass_of_methodNamed B.named
  have hlocks := B.notSynchronized
  have hl := lv_entry [.ref h] (n := 1) (Nat.le_of_ble_eq_true rfl)
  rw [lg_entry_eq]
  generalize (lg_sl [.ref h] ++ List.replicate (1 - (lg_sl [.ref h]).length) Slot.unset).toArray = ls at hl ⊢
  have hl : lv_has ls 1 [(0, .ref h)] := hl
  refine lv_aload_n hx hb dX12_here_0 rfl (lv_at hl 0 rfl) ?_
  refine va_get (D := (dC, dI)) (ci := 12) (v := .int 0) (C := RX12) (T := TX12) (N := 75) hx hb ht inX12 hown hK hP 0 rfl rfl 34 (by decide) (ht _ m_1173) (fun _ h9 => h9) rfl dX12_here_1 ?_
  refine lv_aload_n hx hb dX12_here_4 rfl (lv_at hl 0 rfl) ?_
  refine va_get (D := (dC, dI)) (ci := 12) (v := .int 0) (C := RX12) (T := TX12) (N := 75) hx hb ht inX12 hown hK hP 0 rfl rfl 33 (by decide) (ht _ m_1172) (fun _ h9 => h9) rfl dX12_here_5 ?_
  refine lv_icmp_ge (tgt := 38) hx hb dX12_here_8 (by decide) (fun c1 => ?_) (fun c1 => ?_)
  · skip
    refine lv_aload_n hx hb dX12_here_38 rfl (lv_at hl 0 rfl) ?_
    refine va_get (D := (dC, dI)) (ci := 12) (v := .int 0) (C := RX12) (T := TX12) (N := 75) hx hb ht inX12 hown hK hP 0 rfl rfl 34 (by decide) (ht _ m_1173) (fun _ h9 => h9) rfl dX12_here_39 ?_
    refine lv_aload_n hx hb dX12_here_42 rfl (lv_at hl 0 rfl) ?_
    refine va_get (D := (dC, dI)) (ci := 12) (v := .int 0) (C := RX12) (T := TX12) (N := 75) hx hb ht inX12 hown hK hP 0 rfl rfl 33 (by decide) (ht _ m_1172) (fun _ h9 => h9) rfl dX12_here_43 ?_
    refine lv_icmp_ge (tgt := 61) hx hb dX12_here_46 (by decide) (fun c2 => ?_) (fun c2 => ?_)
    · skip
      refine lv_iconst (v := (-1)) hx hb dX12_here_61 (by decide) ?_
      exact W.iret (v := (-1)) hx hb hr (fun t ht9 hW => ⟨(-1), rfl, rfl, ht9⟩) (fun q hq => by cases hq) dX12_here_62
    · exact absurd rfl c2
  · exact absurd rfl c1
set_option maxHeartbeats 4000000 in
set_option maxRecDepth 100000 in
/-- X12_balesIn -/
theorem c_X12_balesIn (l : Launch) (dC : Nat → ClassId) (dI : Nat → Nat → Nat) (h : Nat) (g : Nat → Nat → Nat) (ca : Nat → Nat → ClassId) (a : Int32) : Met l yX12_balesIn (wc yX12_balesIn cX12_balesIn 4 (some .int)) ({ frames := 0, cells := 0, slots := 0, locals := 0 } : Room) (pR (dC, dI) classes [(h, .inr (12, (o12 h g)))] [] [.ref h, .int a]) (vp_Si (fun r => r = 0)) 0 0 (fun _ => False) := by
  refine Met.ofW (cc := cX12_balesIn) (maxL := 4) (ret := (some .int)) (by decide) rfl ?_
  intro p e s m args below meth c s₁ B hml hv
  obtain ⟨rfl, hP, hK⟩ := hv
  have hx := B.exec
  have hb := B.bytes
  have hr := B.returns
  have ht := tb_tl (atoms_spec (ws := wc yX12_balesIn cX12_balesIn 4 (some .int)) B.pre)
  have hown : s.vm.findClass RX12 = some m.cls := findClass_of_methodNamed B.named
  have hlocks := B.notSynchronized
  have hl := lv_entry [.ref h, .int a] (n := 4) (Nat.le_of_ble_eq_true rfl)
  rw [lg_entry_eq]
  generalize (lg_sl [.ref h, .int a] ++ List.replicate (4 - (lg_sl [.ref h, .int a]).length) Slot.unset).toArray = ls at hl ⊢
  have hl : lv_has ls 4 [(0, .ref h), (1, .int a)] := hl
  refine lv_iconst (v := 0) hx hb dX12_balesIn_0 (by decide) ?_
  refine lv_istore_n (lv' := [(2, .int 0), (0, .ref h), (1, .int a)]) hx hb dX12_balesIn_1 rfl hl (by decide) rfl (fun ls hl => ?_)
  refine lv_iconst (v := 0) hx hb dX12_balesIn_2 (by decide) ?_
  refine lv_istore_n (lv' := [(3, .int 0), (2, .int 0), (0, .ref h), (1, .int a)]) hx hb dX12_balesIn_3 rfl hl (by decide) rfl (fun ls hl => ?_)
  refine lv_iload_n hx hb dX12_balesIn_4 rfl (lv_at hl 0 rfl) ?_
  refine lv_aload_n hx hb dX12_balesIn_5 rfl (lv_at hl 2 rfl) ?_
  refine va_get (D := (dC, dI)) (ci := 12) (v := .int 0) (C := RX12) (T := TX12) (N := 75) hx hb ht inX12 hown hK hP 0 rfl rfl 1 (by decide) (ht _ m_1140) (fun _ h9 => h9) rfl dX12_balesIn_6 ?_
  refine lv_icmp_ge (tgt := 42) hx hb dX12_balesIn_9 (by decide) (fun c1 => ?_) (fun c1 => ?_)
  · skip
    refine lv_iload_n hx hb dX12_balesIn_42 rfl (lv_at hl 1 rfl) ?_
    exact W.iret (v := 0) hx hb hr (fun t ht9 hW => ⟨0, rfl, rfl, ht9⟩) (fun q hq => by cases hq) dX12_balesIn_43
  · exact absurd rfl c1
set_option maxHeartbeats 4000000 in
set_option maxRecDepth 100000 in
/-- X12_go -/
theorem c_X12_go (l : Launch) (dC : Nat → ClassId) (dI : Nat → Nat → Nat) (sz : Nat) (h : Nat) (g : Nat → Nat → Nat) (ca : Nat → Nat → ClassId) (n : Int32) : Met l yX12_go (wc yX12_go cX12_go 2 (some .int)) ({ frames := 1, cells := 0, slots := 0, locals := 25 } : Room) (pW (dC, dI) classes [(h, .inr (12, (o12 h g)))] [] sz [.ref h, .int n]) (va_Qi (fun r (_ : Unit) => r = F_go n) (fun _ _ => True) (va_A [(h, .inr (12, (o12 h g)))] sz)) 0 0 (va_A [(h, .inr (12, (o12 h g)))] sz) := by
  refine Met.ofW (cc := cX12_go) (maxL := 2) (ret := (some .int)) (by decide) rfl ?_
  intro p e s m args below meth c s₁ B hml hv
  obtain ⟨rfl, hsz, hP, hK, hD0⟩ := hv
  have hx := B.exec
  have hb := B.bytes
  have hr := B.returns
  have ht := tb_tl (atoms_spec (ws := wc yX12_go cX12_go 2 (some .int)) B.pre)
  have hown : s.vm.findClass RX12 = some m.cls := findClass_of_methodNamed B.named
  have hlocks := B.notSynchronized
  subst hsz
  have hD := hD0.self (sz := s.heap.size)
  generalize hAe : va_A [(h, .inr (12, (o12 h g)))] s.heap.size = A at hD ⊢
  have hA : ∀ q : Nat, s.heap.size ≤ q → A q := fun q h => by rw [← hAe]; exact Or.inr h
  have hS : va_S A s.heap s.heap [] := va_S.rf
  have hP : va_P (dC, dI) classes [(h, .inr (12, (o12 h g)))] s.heap := hP
  have hl := lv_entry [.ref h, .int n] (n := 2) (Nat.le_of_ble_eq_true rfl)
  rw [lg_entry_eq]
  generalize (lg_sl [.ref h, .int n] ++ List.replicate (2 - (lg_sl [.ref h, .int n]).length) Slot.unset).toArray = ls at hl ⊢
  have hl : lv_has ls 2 [(0, .ref h), (1, .int n)] := hl
  refine lv_iload_n hx hb dX12_go_0 rfl (lv_at hl 1 rfl) ?_
  refine lv_i2l (v := (n.toInt64)) hx hb dX12_go_1 rfl ?_
  refine lv_lconst (v := 0) hx hb dX12_go_2 (by decide) ?_
  refine lv_ldc2 hx hb hown (ht _ m_1369) dX12_go_3 ?_
  have hPc := hP.sub (ws' := []) [] rfl
  have hKc := hK.sub (tys' := []) [] rfl
  refine vp_callSi (W.runS (As := [.long (n.toInt64), .long 0, .long 999]) (rest := []) ⟨hx, hb, hml, hown, ht⟩ (c_X12_in l dC dI (n.toInt64) 0 999 (n.toInt) (0) (999) ((Int32.toInt_toInt64 n).trans rfl) (by decide : (0 : Int64).toInt = 0) (by decide : (999 : Int64).toInt = 999)) (kS 3 ht m_1370 m_1371 m_89 m_1372 rfl rfl hd_X12_in_v ⟨Nat.le_of_ble_eq_true rfl, Nat.le_of_ble_eq_true rfl⟩) (sR hPc hKc) rfl rfl hl.1 rfl (lv_room (Nat.le_of_ble_eq_true rfl)) dX12_go_6 ⟨Nat.le_of_ble_eq_true rfl, Nat.le_of_ble_eq_true rfl⟩) (fun r1 hr1 => ?_)
  rcases hr1 with ⟨rfl, fr1⟩ | ⟨rfl, fr1⟩
  · skip
    refine lv_if_ne (tgt := 15) hx hb dX12_go_9 (by decide) (fun c2 => ?_) (fun c2 => ?_)
    · skip
      refine lv_aload_n hx hb dX12_go_15 rfl (lv_at hl 0 rfl) ?_
      refine va_get (D := (dC, dI)) (ci := 12) (v := .int 0) (C := RX12) (T := TX12) (N := 75) hx hb ht inX12 hown hK hP 0 rfl rfl 0 (by decide) (ht _ m_1139) (fun _ h9 => h9) rfl dX12_go_16 ?_
      refine lv_iload_n hx hb dX12_go_19 rfl (lv_at hl 1 rfl) ?_
      refine lv_iadd hx hb dX12_go_20 ?_
      refine lv_topi (fun v3 ev3 => ?_)
      obtain rfl : n = v3 := (ev3.trans (Int32.zero_add _)).symm
      refine lv_sipush (v := 3000) hx hb dX12_go_21 (by decide) ?_
      refine lv_icmp_le (tgt := 30) hx hb dX12_go_24 (by decide) (fun c4 => ?_) (fun c4 => ?_)
      · skip
        refine lv_aload_n hx hb dX12_go_30 rfl (lv_at hl 0 rfl) ?_
        refine lv_dup hx hb dX12_go_31 rfl ?_
        refine va_get (D := (dC, dI)) (ci := 12) (v := .int 0) (C := RX12) (T := TX12) (N := 75) hx hb ht inX12 hown hK hP 0 rfl rfl 0 (by decide) (ht _ m_1139) (fun _ h9 => h9) rfl dX12_go_32 ?_
        refine lv_iload_n hx hb dX12_go_35 rfl (lv_at hl 1 rfl) ?_
        refine lv_iadd hx hb dX12_go_36 ?_
        refine lv_topi (fun v5 ev5 => ?_)
        obtain rfl : n = v5 := (ev5.trans (Int32.zero_add _)).symm
        refine va_put (D := (dC, dI)) (ci := 12) (v := .int n) (ty := (.int)) (C := RX12) (T := TX12) (N := 75) hx hb ht inX12 tyX12 tyX12_ok nmX12 hown hK hP hD hS 0 rfl rfl 0 (by decide) (ht _ m_1139) (fun _ h9 => h9) rfl (by decide +kernel) rfl rfl (Nat.le_of_ble_eq_true rfl) dX12_go_37 (fun H locs hP hD hS => ?_)
        have hP : va_P (dC, dI) classes [(h, .inr (12, [.int n, .int 0, .ref (g 12 2), .int 0, .ref (g 12 4), .ref (g 12 5), .ref (g 12 6), .ref (g 12 7), .ref (g 12 8), .ref (g 12 9), .ref (g 12 10), .ref (g 12 11), .ref (g 12 12), .int 0, .ref (g 12 14), .ref (g 12 15), .ref (g 12 16), .long 0, .long 0, .int 0, .int (-1), .int (-1), .int (-1), .int 0, .ref (g 12 24), .ref (g 12 25), .ref (g 12 26), .ref (g 12 27), .ref (g 12 28), .ref (g 12 29), .ref (g 12 30), .ref (g 12 31), .ref (g 12 32), .int 0, .int 0, .int 0, .int (-1), .int 0, .int 0, .ref (g 12 39), .ref (g 12 40), .int 0, .ref (g 12 42), .ref (g 12 43), .long 0, .long 0, .long 0, .long 0, .int 0, .ref (g 12 49), .ref (g 12 50), .ref (g 12 51), .ref (g 12 52), .ref (g 12 53), .ref (g 12 54), .ref (g 12 55), .ref (g 12 56), .int 0, .ref (g 12 58), .ref (g 12 59), .int 0, .int 0, .int 0, .ref (g 12 63), .ref (g 12 64), .int 0, .int 0, .int 0, .ref (g 12 68), .ref (g 12 69), .ref (g 12 70), .ref (g 12 71), .ref (g 12 72), .ref (g 12 73), .ref (g 12 74)]))] H := hP
        have hD : va_D A [(h, .inr (12, [.int n, .int 0, .ref (g 12 2), .int 0, .ref (g 12 4), .ref (g 12 5), .ref (g 12 6), .ref (g 12 7), .ref (g 12 8), .ref (g 12 9), .ref (g 12 10), .ref (g 12 11), .ref (g 12 12), .int 0, .ref (g 12 14), .ref (g 12 15), .ref (g 12 16), .long 0, .long 0, .int 0, .int (-1), .int (-1), .int (-1), .int 0, .ref (g 12 24), .ref (g 12 25), .ref (g 12 26), .ref (g 12 27), .ref (g 12 28), .ref (g 12 29), .ref (g 12 30), .ref (g 12 31), .ref (g 12 32), .int 0, .int 0, .int 0, .int (-1), .int 0, .int 0, .ref (g 12 39), .ref (g 12 40), .int 0, .ref (g 12 42), .ref (g 12 43), .long 0, .long 0, .long 0, .long 0, .int 0, .ref (g 12 49), .ref (g 12 50), .ref (g 12 51), .ref (g 12 52), .ref (g 12 53), .ref (g 12 54), .ref (g 12 55), .ref (g 12 56), .int 0, .ref (g 12 58), .ref (g 12 59), .int 0, .int 0, .int 0, .ref (g 12 63), .ref (g 12 64), .int 0, .int 0, .int 0, .ref (g 12 68), .ref (g 12 69), .ref (g 12 70), .ref (g 12 71), .ref (g 12 72), .ref (g 12 73), .ref (g 12 74)]))] := hD
        refine lv_aload_n hx hb dX12_go_40 rfl (lv_at hl 0 rfl) ?_
        refine va_get (D := (dC, dI)) (ci := 12) (v := .int n) (C := RX12) (T := TX12) (N := 75) hx hb ht inX12 hown hK hP 0 rfl rfl 0 (by decide) (ht _ m_1139) (fun _ h9 => h9) rfl dX12_go_41 ?_
        exact W.iret (v := n) hx hb hr (fun t ht9 hW => ⟨⟨n, (), rfl, (by unfold F_go; first | decide | ((repeat' split) <;> first | rfl | (exfalso; omega) | exact z_of (by decide) (by omega))), trivial⟩, hS.F ht9⟩) hS.2.2 dX12_go_44
      · have fc4 := z_nle (rfl : (n).toInt = _) (by decide : (3000 : Int32).toInt = 3000) c4; exfalso; omega
    · exact absurd c2 (by decide)
  · skip
    refine lv_if_ne (tgt := 15) hx hb dX12_go_9 (by decide) (fun c6 => ?_) (fun c6 => ?_)
    · exact absurd rfl c6
    · skip
      refine lv_ldc hx hb hown (ht _ m_1373) dX12_go_12 ?_
      exact W.iret (v := (-100002)) hx hb hr (fun t ht9 hW => ⟨⟨(-100002), (), rfl, (by unfold F_go; first | decide | ((repeat' split) <;> first | rfl | (exfalso; omega) | exact z_of (by decide) (by omega))), trivial⟩, hS.F ht9⟩) hS.2.2 dX12_go_14
set_option maxHeartbeats 4000000 in
set_option maxRecDepth 100000 in
/-- X12_bale -/
theorem c_X12_bale (l : Launch) (dC : Nat → ClassId) (dI : Nat → Nat → Nat) (sz : Nat) (h : Nat) (g : Nat → Nat → Nat) (ca : Nat → Nat → ClassId) (n : Int32) : Met l yX12_bale (wc yX12_bale cX12_bale 2 (some .int)) ({ frames := 1, cells := 0, slots := 0, locals := 25 } : Room) (pW (dC, dI) classes [(h, .inr (12, (o12 h g))), ((g 12 2), .inl ((ca 12 2), 10, .inl (fun _ => 0))), ((g 12 51), .inl ((ca 12 51), 10, .inl (fun _ => 0))), ((g 12 53), .inl ((ca 12 53), 10, .inl (fun _ => 0)))] [((ca 12 2), .int), ((ca 12 51), .int), ((ca 12 53), .int)] sz [.ref h, .int n]) (va_Qi (fun r (_ : Unit) => r = F_bale n) (fun _ _ => True) (va_A [(h, .inr (12, (o12 h g))), ((g 12 2), .inl ((ca 12 2), 10, .inl (fun _ => 0))), ((g 12 51), .inl ((ca 12 51), 10, .inl (fun _ => 0))), ((g 12 53), .inl ((ca 12 53), 10, .inl (fun _ => 0)))] sz)) 0 0 (va_A [(h, .inr (12, (o12 h g))), ((g 12 2), .inl ((ca 12 2), 10, .inl (fun _ => 0))), ((g 12 51), .inl ((ca 12 51), 10, .inl (fun _ => 0))), ((g 12 53), .inl ((ca 12 53), 10, .inl (fun _ => 0)))] sz) := by
  refine Met.ofW (cc := cX12_bale) (maxL := 2) (ret := (some .int)) (by decide) rfl ?_
  intro p e s m args below meth c s₁ B hml hv
  obtain ⟨rfl, hsz, hP, hK, hD0⟩ := hv
  have hx := B.exec
  have hb := B.bytes
  have hr := B.returns
  have ht := tb_tl (atoms_spec (ws := wc yX12_bale cX12_bale 2 (some .int)) B.pre)
  have hown : s.vm.findClass RX12 = some m.cls := findClass_of_methodNamed B.named
  have hlocks := B.notSynchronized
  subst hsz
  have hD := hD0.self (sz := s.heap.size)
  generalize hAe : va_A [(h, .inr (12, (o12 h g))), ((g 12 2), .inl ((ca 12 2), 10, .inl (fun _ => 0))), ((g 12 51), .inl ((ca 12 51), 10, .inl (fun _ => 0))), ((g 12 53), .inl ((ca 12 53), 10, .inl (fun _ => 0)))] s.heap.size = A at hD ⊢
  have hA : ∀ q : Nat, s.heap.size ≤ q → A q := fun q h => by rw [← hAe]; exact Or.inr h
  have hS : va_S A s.heap s.heap [] := va_S.rf
  have hP : va_P (dC, dI) classes [(h, .inr (12, (o12 h g))), ((g 12 2), .inl ((ca 12 2), 10, .inl (fun _ => 0))), ((g 12 51), .inl ((ca 12 51), 10, .inl (fun _ => 0))), ((g 12 53), .inl ((ca 12 53), 10, .inl (fun _ => 0)))] s.heap := hP
  have hl := lv_entry [.ref h, .int n] (n := 2) (Nat.le_of_ble_eq_true rfl)
  rw [lg_entry_eq]
  generalize (lg_sl [.ref h, .int n] ++ List.replicate (2 - (lg_sl [.ref h, .int n]).length) Slot.unset).toArray = ls at hl ⊢
  have hl : lv_has ls 2 [(0, .ref h), (1, .int n)] := hl
  refine lv_iload_n hx hb dX12_bale_0 rfl (lv_at hl 1 rfl) ?_
  refine lv_i2l (v := (n.toInt64)) hx hb dX12_bale_1 rfl ?_
  refine lv_lconst (v := 1) hx hb dX12_bale_2 (by decide) ?_
  refine lv_ldc2 hx hb hown (ht _ m_1379) dX12_bale_3 ?_
  have hPc := hP.sub (ws' := []) [] rfl
  have hKc := hK.sub (tys' := []) [] rfl
  refine vp_callSi (W.runS (As := [.long (n.toInt64), .long 1, .long 99999]) (rest := []) ⟨hx, hb, hml, hown, ht⟩ (c_X12_in l dC dI (n.toInt64) 1 99999 (n.toInt) (1) (99999) ((Int32.toInt_toInt64 n).trans rfl) (by decide : (1 : Int64).toInt = 1) (by decide : (99999 : Int64).toInt = 99999)) (kS 3 ht m_1370 m_1371 m_89 m_1372 rfl rfl hd_X12_in_v ⟨Nat.le_of_ble_eq_true rfl, Nat.le_of_ble_eq_true rfl⟩) (sR hPc hKc) rfl rfl hl.1 rfl (lv_room (Nat.le_of_ble_eq_true rfl)) dX12_bale_6 ⟨Nat.le_of_ble_eq_true rfl, Nat.le_of_ble_eq_true rfl⟩) (fun r1 hr1 => ?_)
  rcases hr1 with ⟨rfl, fr1⟩ | ⟨rfl, fr1⟩
  · skip
    refine lv_if_ne (tgt := 15) hx hb dX12_bale_9 (by decide) (fun c2 => ?_) (fun c2 => ?_)
    · skip
      refine lv_aload_n hx hb dX12_bale_15 rfl (lv_at hl 0 rfl) ?_
      refine va_get (D := (dC, dI)) (ci := 12) (v := .int 0) (C := RX12) (T := TX12) (N := 75) hx hb ht inX12 hown hK hP 0 rfl rfl 1 (by decide) (ht _ m_1140) (fun _ h9 => h9) rfl dX12_bale_16 ?_
      refine lv_bipush (v := 10) hx hb dX12_bale_19 (by decide) ?_
      refine lv_icmp_ne (tgt := 27) hx hb dX12_bale_21 (by decide) (fun c3 => ?_) (fun c3 => ?_)
      · skip
        refine lv_aload_n hx hb dX12_bale_27 rfl (lv_at hl 0 rfl) ?_
        refine va_get (D := (dC, dI)) (ci := 12) (v := .ref (g 12 2)) (C := RX12) (T := TX12) (N := 75) hx hb ht inX12 hown hK hP 0 rfl rfl 2 (by decide) (ht _ m_1141) (fun _ h9 => h9) rfl dX12_bale_28 ?_
        refine lv_aload_n hx hb dX12_bale_31 rfl (lv_at hl 0 rfl) ?_
        refine va_get (D := (dC, dI)) (ci := 12) (v := .int 0) (C := RX12) (T := TX12) (N := 75) hx hb ht inX12 hown hK hP 0 rfl rfl 1 (by decide) (ht _ m_1140) (fun _ h9 => h9) rfl dX12_bale_32 ?_
        refine lv_iload_n hx hb dX12_bale_35 rfl (lv_at hl 1 rfl) ?_
        refine va_iast (D := (dC, dI)) hx hb hK hP hD hS 1 0 rfl rfl (by decide) dX12_bale_36 (fun H locs hP hD hS => ?_)
        obtain ⟨f4, hP, hD⟩ : ∃ f4 : Nat → Int32, va_P (dC, dI) classes [(h, .inr (12, (o12 h g))), ((g 12 2), .inl ((ca 12 2), 10, .inl f4)), ((g 12 51), .inl ((ca 12 51), 10, .inl (fun _ => 0))), ((g 12 53), .inl ((ca 12 53), 10, .inl (fun _ => 0)))] H ∧ va_D A [(h, .inr (12, (o12 h g))), ((g 12 2), .inl ((ca 12 2), 10, .inl f4)), ((g 12 51), .inl ((ca 12 51), 10, .inl (fun _ => 0))), ((g 12 53), .inl ((ca 12 53), 10, .inl (fun _ => 0)))] := ⟨_, hP, hD⟩
        refine lv_aload_n hx hb dX12_bale_37 rfl (lv_at hl 0 rfl) ?_
        refine va_get (D := (dC, dI)) (ci := 12) (v := .ref (g 12 51)) (C := RX12) (T := TX12) (N := 75) hx hb ht inX12 hown hK hP 0 rfl rfl 51 (by decide) (ht _ m_1190) (fun _ h9 => h9) rfl dX12_bale_38 ?_
        refine lv_aload_n hx hb dX12_bale_41 rfl (lv_at hl 0 rfl) ?_
        refine va_get (D := (dC, dI)) (ci := 12) (v := .int 0) (C := RX12) (T := TX12) (N := 75) hx hb ht inX12 hown hK hP 0 rfl rfl 1 (by decide) (ht _ m_1140) (fun _ h9 => h9) rfl dX12_bale_42 ?_
        refine lv_iconst (v := 0) hx hb dX12_bale_45 (by decide) ?_
        refine va_iast (D := (dC, dI)) hx hb hK hP hD hS 2 1 rfl rfl (by decide) dX12_bale_46 (fun H locs hP hD hS => ?_)
        obtain ⟨f5, hP, hD⟩ : ∃ f5 : Nat → Int32, va_P (dC, dI) classes [(h, .inr (12, (o12 h g))), ((g 12 2), .inl ((ca 12 2), 10, .inl f4)), ((g 12 51), .inl ((ca 12 51), 10, .inl f5)), ((g 12 53), .inl ((ca 12 53), 10, .inl (fun _ => 0)))] H ∧ va_D A [(h, .inr (12, (o12 h g))), ((g 12 2), .inl ((ca 12 2), 10, .inl f4)), ((g 12 51), .inl ((ca 12 51), 10, .inl f5)), ((g 12 53), .inl ((ca 12 53), 10, .inl (fun _ => 0)))] := ⟨_, hP, hD⟩
        refine lv_aload_n hx hb dX12_bale_47 rfl (lv_at hl 0 rfl) ?_
        refine va_get (D := (dC, dI)) (ci := 12) (v := .ref (g 12 53)) (C := RX12) (T := TX12) (N := 75) hx hb ht inX12 hown hK hP 0 rfl rfl 53 (by decide) (ht _ m_1192) (fun _ h9 => h9) rfl dX12_bale_48 ?_
        refine lv_aload_n hx hb dX12_bale_51 rfl (lv_at hl 0 rfl) ?_
        refine va_get (D := (dC, dI)) (ci := 12) (v := .int 0) (C := RX12) (T := TX12) (N := 75) hx hb ht inX12 hown hK hP 0 rfl rfl 1 (by decide) (ht _ m_1140) (fun _ h9 => h9) rfl dX12_bale_52 ?_
        refine lv_iconst (v := 0) hx hb dX12_bale_55 (by decide) ?_
        refine va_iast (D := (dC, dI)) hx hb hK hP hD hS 3 2 rfl rfl (by decide) dX12_bale_56 (fun H locs hP hD hS => ?_)
        obtain ⟨f6, hP, hD⟩ : ∃ f6 : Nat → Int32, va_P (dC, dI) classes [(h, .inr (12, (o12 h g))), ((g 12 2), .inl ((ca 12 2), 10, .inl f4)), ((g 12 51), .inl ((ca 12 51), 10, .inl f5)), ((g 12 53), .inl ((ca 12 53), 10, .inl f6))] H ∧ va_D A [(h, .inr (12, (o12 h g))), ((g 12 2), .inl ((ca 12 2), 10, .inl f4)), ((g 12 51), .inl ((ca 12 51), 10, .inl f5)), ((g 12 53), .inl ((ca 12 53), 10, .inl f6))] := ⟨_, hP, hD⟩
        refine lv_aload_n hx hb dX12_bale_57 rfl (lv_at hl 0 rfl) ?_
        refine lv_dup hx hb dX12_bale_58 rfl ?_
        refine va_get (D := (dC, dI)) (ci := 12) (v := .int 0) (C := RX12) (T := TX12) (N := 75) hx hb ht inX12 hown hK hP 0 rfl rfl 1 (by decide) (ht _ m_1140) (fun _ h9 => h9) rfl dX12_bale_59 ?_
        refine lv_iconst (v := 1) hx hb dX12_bale_62 (by decide) ?_
        refine lv_iadd hx hb dX12_bale_63 ?_
        refine lv_topi (fun v7 ev7 => ?_)
        obtain rfl : 1 = v7 := (ev7.trans (by decide)).symm
        refine va_put (D := (dC, dI)) (ci := 12) (v := .int 1) (ty := (.int)) (C := RX12) (T := TX12) (N := 75) hx hb ht inX12 tyX12 tyX12_ok nmX12 hown hK hP hD hS 0 rfl rfl 1 (by decide) (ht _ m_1140) (fun _ h9 => h9) rfl (by decide +kernel) rfl rfl (Nat.le_of_ble_eq_true rfl) dX12_bale_64 (fun H locs hP hD hS => ?_)
        have hP : va_P (dC, dI) classes [(h, .inr (12, [.int 0, .int 1, .ref (g 12 2), .int 0, .ref (g 12 4), .ref (g 12 5), .ref (g 12 6), .ref (g 12 7), .ref (g 12 8), .ref (g 12 9), .ref (g 12 10), .ref (g 12 11), .ref (g 12 12), .int 0, .ref (g 12 14), .ref (g 12 15), .ref (g 12 16), .long 0, .long 0, .int 0, .int (-1), .int (-1), .int (-1), .int 0, .ref (g 12 24), .ref (g 12 25), .ref (g 12 26), .ref (g 12 27), .ref (g 12 28), .ref (g 12 29), .ref (g 12 30), .ref (g 12 31), .ref (g 12 32), .int 0, .int 0, .int 0, .int (-1), .int 0, .int 0, .ref (g 12 39), .ref (g 12 40), .int 0, .ref (g 12 42), .ref (g 12 43), .long 0, .long 0, .long 0, .long 0, .int 0, .ref (g 12 49), .ref (g 12 50), .ref (g 12 51), .ref (g 12 52), .ref (g 12 53), .ref (g 12 54), .ref (g 12 55), .ref (g 12 56), .int 0, .ref (g 12 58), .ref (g 12 59), .int 0, .int 0, .int 0, .ref (g 12 63), .ref (g 12 64), .int 0, .int 0, .int 0, .ref (g 12 68), .ref (g 12 69), .ref (g 12 70), .ref (g 12 71), .ref (g 12 72), .ref (g 12 73), .ref (g 12 74)])), ((g 12 2), .inl ((ca 12 2), 10, .inl f4)), ((g 12 51), .inl ((ca 12 51), 10, .inl f5)), ((g 12 53), .inl ((ca 12 53), 10, .inl f6))] H := hP
        have hD : va_D A [(h, .inr (12, [.int 0, .int 1, .ref (g 12 2), .int 0, .ref (g 12 4), .ref (g 12 5), .ref (g 12 6), .ref (g 12 7), .ref (g 12 8), .ref (g 12 9), .ref (g 12 10), .ref (g 12 11), .ref (g 12 12), .int 0, .ref (g 12 14), .ref (g 12 15), .ref (g 12 16), .long 0, .long 0, .int 0, .int (-1), .int (-1), .int (-1), .int 0, .ref (g 12 24), .ref (g 12 25), .ref (g 12 26), .ref (g 12 27), .ref (g 12 28), .ref (g 12 29), .ref (g 12 30), .ref (g 12 31), .ref (g 12 32), .int 0, .int 0, .int 0, .int (-1), .int 0, .int 0, .ref (g 12 39), .ref (g 12 40), .int 0, .ref (g 12 42), .ref (g 12 43), .long 0, .long 0, .long 0, .long 0, .int 0, .ref (g 12 49), .ref (g 12 50), .ref (g 12 51), .ref (g 12 52), .ref (g 12 53), .ref (g 12 54), .ref (g 12 55), .ref (g 12 56), .int 0, .ref (g 12 58), .ref (g 12 59), .int 0, .int 0, .int 0, .ref (g 12 63), .ref (g 12 64), .int 0, .int 0, .int 0, .ref (g 12 68), .ref (g 12 69), .ref (g 12 70), .ref (g 12 71), .ref (g 12 72), .ref (g 12 73), .ref (g 12 74)])), ((g 12 2), .inl ((ca 12 2), 10, .inl f4)), ((g 12 51), .inl ((ca 12 51), 10, .inl f5)), ((g 12 53), .inl ((ca 12 53), 10, .inl f6))] := hD
        refine lv_aload_n hx hb dX12_bale_67 rfl (lv_at hl 0 rfl) ?_
        refine va_get (D := (dC, dI)) (ci := 12) (v := .int 1) (C := RX12) (T := TX12) (N := 75) hx hb ht inX12 hown hK hP 0 rfl rfl 1 (by decide) (ht _ m_1140) (fun _ h9 => h9) rfl dX12_bale_68 ?_
        refine lv_iconst (v := 1) hx hb dX12_bale_71 (by decide) ?_
        refine lv_isub hx hb dX12_bale_72 ?_
        refine lv_topi (fun v8 ev8 => ?_)
        obtain rfl : 0 = v8 := (ev8.trans (by decide)).symm
        exact W.iret (v := 0) hx hb hr (fun t ht9 hW => ⟨⟨0, (), rfl, (by unfold F_bale; first | decide | ((repeat' split) <;> first | rfl | (exfalso; omega) | exact z_of (by decide) (by omega))), trivial⟩, hS.F ht9⟩) hS.2.2 dX12_bale_73
      · exact absurd c3 (by decide)
    · exact absurd c2 (by decide)
  · skip
    refine lv_if_ne (tgt := 15) hx hb dX12_bale_9 (by decide) (fun c9 => ?_) (fun c9 => ?_)
    · exact absurd rfl c9
    · skip
      refine lv_ldc hx hb hown (ht _ m_1373) dX12_bale_12 ?_
      exact W.iret (v := (-100002)) hx hb hr (fun t ht9 hW => ⟨⟨(-100002), (), rfl, (by unfold F_bale; first | decide | ((repeat' split) <;> first | rfl | (exfalso; omega) | exact z_of (by decide) (by omega))), trivial⟩, hS.F ht9⟩) hS.2.2 dX12_bale_14
end
section
set_option maxHeartbeats 4000000 in
set_option maxRecDepth 100000 in
/-- X12_skein -/
theorem c_X12_skein (l : Launch) (dC : Nat → ClassId) (dI : Nat → Nat → Nat) (h : Nat) (g : Nat → Nat → Nat) (ca : Nat → Nat → ClassId) (a0 : Int32) (a1 : Int32) (a2 : Int32) (a3 : Int32) (a4 : Int32) (a5 : Int32) (a6 : Int32) : Met l yX12_skein (wc yX12_skein cX12_skein 10 (some .int)) ({ frames := 2, cells := 0, slots := 0, locals := 46 } : Room) (pR (dC, dI) classes [(h, .inr (12, (o12 h g)))] [] [.ref h, .int a0, .int a1, .int a2, .int a3, .int a4, .int a5, .int a6]) (vp_Si (fun r => r = -100001)) 0 0 (fun _ => False) := by
  refine Met.ofW (cc := cX12_skein) (maxL := 10) (ret := (some .int)) (by decide) rfl ?_
  intro p e s m args below meth c s₁ B hml hv
  obtain ⟨rfl, hP, hK⟩ := hv
  have hx := B.exec
  have hb := B.bytes
  have hr := B.returns
  have ht := tb_tl (atoms_spec (ws := wc yX12_skein cX12_skein 10 (some .int)) B.pre)
  have hown : s.vm.findClass RX12 = some m.cls := findClass_of_methodNamed B.named
  have hlocks := B.notSynchronized
  have hl := lv_entry [.ref h, .int a0, .int a1, .int a2, .int a3, .int a4, .int a5, .int a6] (n := 10) (Nat.le_of_ble_eq_true rfl)
  rw [lg_entry_eq]
  generalize (lg_sl [.ref h, .int a0, .int a1, .int a2, .int a3, .int a4, .int a5, .int a6] ++ List.replicate (10 - (lg_sl [.ref h, .int a0, .int a1, .int a2, .int a3, .int a4, .int a5, .int a6]).length) Slot.unset).toArray = ls at hl ⊢
  have hl : lv_has ls 10 [(0, .ref h), (1, .int a0), (2, .int a1), (3, .int a2), (4, .int a3), (5, .int a4), (6, .int a5), (7, .int a6)] := hl
  refine lv_aload_n hx hb dX12_skein_0 rfl (lv_at hl 0 rfl) ?_
  refine lv_iload_n hx hb dX12_skein_1 rfl (lv_at hl 1 rfl) ?_
  have hPc := hP.sub (ws' := [(h, .inr (12, (o12 h g)))]) [0] rfl
  have hKc := hK.sub (tys' := []) [] rfl
  refine vp_callSi (W.runV (As := [.int a0]) (rest := []) ⟨hx, hb, hml, hown, ht⟩ (c_X12_noBale l dC dI h g ca a0) (kV 1 ht m_1385 m_1387 m_42 m_89 m_1388 rfl rfl hd_X12_noBale_v ⟨Nat.le_of_ble_eq_true rfl, Nat.le_of_ble_eq_true rfl⟩) (vR hPc hKc (va_recv hKc hPc (ci := 12) (q0 := 0) rfl rfl)) rfl rfl hl.1 rfl (lv_room (Nat.le_of_ble_eq_true rfl)) dX12_skein_2 ⟨Nat.le_of_ble_eq_true rfl, Nat.le_of_ble_eq_true rfl⟩) (fun r1 hr1 => ?_)
  obtain rfl : 1 = r1 := hr1.symm
  refine lv_if_eq (tgt := 11) hx hb dX12_skein_5 (by decide) (fun c2 => ?_) (fun c2 => ?_)
  · exact absurd c2 (by decide)
  · skip
    refine lv_ldc hx hb hown (ht _ m_1389) dX12_skein_8 ?_
    exact W.iret (v := (-100001)) hx hb hr (fun t ht9 hW => ⟨(-100001), rfl, rfl, ht9⟩) (fun q hq => by cases hq) dX12_skein_10
set_option maxHeartbeats 4000000 in
set_option maxRecDepth 100000 in
/-- X12_ratio -/
theorem c_X12_ratio (l : Launch) (dC : Nat → ClassId) (dI : Nat → Nat → Nat) (h : Nat) (g : Nat → Nat → Nat) (ca : Nat → Nat → ClassId) (a0 : Int32) (a1 : Int32) (a2 : Int32) : Met l yX12_ratio (wc yX12_ratio cX12_ratio 7 (some .int)) ({ frames := 2, cells := 0, slots := 0, locals := 46 } : Room) (pR (dC, dI) classes [(h, .inr (12, (o12 h g)))] [] [.ref h, .int a0, .int a1, .int a2]) (vp_Si (fun r => r = -100001)) 0 0 (fun _ => False) := by
  refine Met.ofW (cc := cX12_ratio) (maxL := 7) (ret := (some .int)) (by decide) rfl ?_
  intro p e s m args below meth c s₁ B hml hv
  obtain ⟨rfl, hP, hK⟩ := hv
  have hx := B.exec
  have hb := B.bytes
  have hr := B.returns
  have ht := tb_tl (atoms_spec (ws := wc yX12_ratio cX12_ratio 7 (some .int)) B.pre)
  have hown : s.vm.findClass RX12 = some m.cls := findClass_of_methodNamed B.named
  have hlocks := B.notSynchronized
  have hl := lv_entry [.ref h, .int a0, .int a1, .int a2] (n := 7) (Nat.le_of_ble_eq_true rfl)
  rw [lg_entry_eq]
  generalize (lg_sl [.ref h, .int a0, .int a1, .int a2] ++ List.replicate (7 - (lg_sl [.ref h, .int a0, .int a1, .int a2]).length) Slot.unset).toArray = ls at hl ⊢
  have hl : lv_has ls 7 [(0, .ref h), (1, .int a0), (2, .int a1), (3, .int a2)] := hl
  refine lv_aload_n hx hb dX12_ratio_0 rfl (lv_at hl 0 rfl) ?_
  refine lv_iload_n hx hb dX12_ratio_1 rfl (lv_at hl 1 rfl) ?_
  have hPc := hP.sub (ws' := [(h, .inr (12, (o12 h g)))]) [0] rfl
  have hKc := hK.sub (tys' := []) [] rfl
  refine vp_callSi (W.runV (As := [.int a0]) (rest := []) ⟨hx, hb, hml, hown, ht⟩ (c_X12_noBale l dC dI h g ca a0) (kV 1 ht m_1385 m_1387 m_42 m_89 m_1388 rfl rfl hd_X12_noBale_v ⟨Nat.le_of_ble_eq_true rfl, Nat.le_of_ble_eq_true rfl⟩) (vR hPc hKc (va_recv hKc hPc (ci := 12) (q0 := 0) rfl rfl)) rfl rfl hl.1 rfl (lv_room (Nat.le_of_ble_eq_true rfl)) dX12_ratio_2 ⟨Nat.le_of_ble_eq_true rfl, Nat.le_of_ble_eq_true rfl⟩) (fun r1 hr1 => ?_)
  obtain rfl : 1 = r1 := hr1.symm
  refine lv_if_eq (tgt := 11) hx hb dX12_ratio_5 (by decide) (fun c2 => ?_) (fun c2 => ?_)
  · exact absurd c2 (by decide)
  · skip
    refine lv_ldc hx hb hown (ht _ m_1389) dX12_ratio_8 ?_
    exact W.iret (v := (-100001)) hx hb hr (fun t ht9 hW => ⟨(-100001), rfl, rfl, ht9⟩) (fun q hq => by cases hq) dX12_ratio_10
set_option maxHeartbeats 4000000 in
set_option maxRecDepth 100000 in
/-- X12_state -/
theorem c_X12_state (l : Launch) (dC : Nat → ClassId) (dI : Nat → Nat → Nat) (h : Nat) (g : Nat → Nat → Nat) (ca : Nat → Nat → ClassId) (a0 : Int32) (a1 : Int32) : Met l yX12_state (wc yX12_state cX12_state 3 (some .int)) ({ frames := 2, cells := 0, slots := 0, locals := 46 } : Room) (pR (dC, dI) classes [(h, .inr (12, (o12 h g)))] [] [.ref h, .int a0, .int a1]) (vp_Si (fun r => r = -100001)) 0 0 (fun _ => False) := by
  refine Met.ofW (cc := cX12_state) (maxL := 3) (ret := (some .int)) (by decide) rfl ?_
  intro p e s m args below meth c s₁ B hml hv
  obtain ⟨rfl, hP, hK⟩ := hv
  have hx := B.exec
  have hb := B.bytes
  have hr := B.returns
  have ht := tb_tl (atoms_spec (ws := wc yX12_state cX12_state 3 (some .int)) B.pre)
  have hown : s.vm.findClass RX12 = some m.cls := findClass_of_methodNamed B.named
  have hlocks := B.notSynchronized
  have hl := lv_entry [.ref h, .int a0, .int a1] (n := 3) (Nat.le_of_ble_eq_true rfl)
  rw [lg_entry_eq]
  generalize (lg_sl [.ref h, .int a0, .int a1] ++ List.replicate (3 - (lg_sl [.ref h, .int a0, .int a1]).length) Slot.unset).toArray = ls at hl ⊢
  have hl : lv_has ls 3 [(0, .ref h), (1, .int a0), (2, .int a1)] := hl
  refine lv_aload_n hx hb dX12_state_0 rfl (lv_at hl 0 rfl) ?_
  refine lv_iload_n hx hb dX12_state_1 rfl (lv_at hl 1 rfl) ?_
  have hPc := hP.sub (ws' := [(h, .inr (12, (o12 h g)))]) [0] rfl
  have hKc := hK.sub (tys' := []) [] rfl
  refine vp_callSi (W.runV (As := [.int a0]) (rest := []) ⟨hx, hb, hml, hown, ht⟩ (c_X12_noBale l dC dI h g ca a0) (kV 1 ht m_1385 m_1387 m_42 m_89 m_1388 rfl rfl hd_X12_noBale_v ⟨Nat.le_of_ble_eq_true rfl, Nat.le_of_ble_eq_true rfl⟩) (vR hPc hKc (va_recv hKc hPc (ci := 12) (q0 := 0) rfl rfl)) rfl rfl hl.1 rfl (lv_room (Nat.le_of_ble_eq_true rfl)) dX12_state_2 ⟨Nat.le_of_ble_eq_true rfl, Nat.le_of_ble_eq_true rfl⟩) (fun r1 hr1 => ?_)
  obtain rfl : 1 = r1 := hr1.symm
  refine lv_if_eq (tgt := 11) hx hb dX12_state_5 (by decide) (fun c2 => ?_) (fun c2 => ?_)
  · exact absurd c2 (by decide)
  · skip
    refine lv_ldc hx hb hown (ht _ m_1389) dX12_state_8 ?_
    exact W.iret (v := (-100001)) hx hb hr (fun t ht9 hW => ⟨(-100001), rfl, rfl, ht9⟩) (fun q hq => by cases hq) dX12_state_10
set_option maxHeartbeats 4000000 in
set_option maxRecDepth 100000 in
/-- X12_lawful -/
theorem c_X12_lawful (l : Launch) (dC : Nat → ClassId) (dI : Nat → Nat → Nat) (h : Nat) (g : Nat → Nat → Nat) (ca : Nat → Nat → ClassId) (a0 : Int32) (a1 : Int32) (a2 : Int32) : Met l yX12_lawful (wc yX12_lawful cX12_lawful 4 (some .long)) ({ frames := 2, cells := 0, slots := 0, locals := 46 } : Room) (pR (dC, dI) classes [(h, .inr (12, (o12 h g)))] [] [.ref h, .int a0, .int a1, .int a2]) (vp_Sl (fun r => r = -100001)) 0 0 (fun _ => False) := by
  refine Met.ofW (cc := cX12_lawful) (maxL := 4) (ret := (some .long)) (by decide) rfl ?_
  intro p e s m args below meth c s₁ B hml hv
  obtain ⟨rfl, hP, hK⟩ := hv
  have hx := B.exec
  have hb := B.bytes
  have hr := B.returns
  have ht := tb_tl (atoms_spec (ws := wc yX12_lawful cX12_lawful 4 (some .long)) B.pre)
  have hown : s.vm.findClass RX12 = some m.cls := findClass_of_methodNamed B.named
  have hlocks := B.notSynchronized
  have hl := lv_entry [.ref h, .int a0, .int a1, .int a2] (n := 4) (Nat.le_of_ble_eq_true rfl)
  rw [lg_entry_eq]
  generalize (lg_sl [.ref h, .int a0, .int a1, .int a2] ++ List.replicate (4 - (lg_sl [.ref h, .int a0, .int a1, .int a2]).length) Slot.unset).toArray = ls at hl ⊢
  have hl : lv_has ls 4 [(0, .ref h), (1, .int a0), (2, .int a1), (3, .int a2)] := hl
  refine lv_aload_n hx hb dX12_lawful_0 rfl (lv_at hl 0 rfl) ?_
  refine lv_iload_n hx hb dX12_lawful_1 rfl (lv_at hl 1 rfl) ?_
  have hPc := hP.sub (ws' := [(h, .inr (12, (o12 h g)))]) [0] rfl
  have hKc := hK.sub (tys' := []) [] rfl
  refine vp_callSi (W.runV (As := [.int a0]) (rest := []) ⟨hx, hb, hml, hown, ht⟩ (c_X12_noBale l dC dI h g ca a0) (kV 1 ht m_1385 m_1387 m_42 m_89 m_1388 rfl rfl hd_X12_noBale_v ⟨Nat.le_of_ble_eq_true rfl, Nat.le_of_ble_eq_true rfl⟩) (vR hPc hKc (va_recv hKc hPc (ci := 12) (q0 := 0) rfl rfl)) rfl rfl hl.1 rfl (lv_room (Nat.le_of_ble_eq_true rfl)) dX12_lawful_2 ⟨Nat.le_of_ble_eq_true rfl, Nat.le_of_ble_eq_true rfl⟩) (fun r1 hr1 => ?_)
  obtain rfl : 1 = r1 := hr1.symm
  refine lv_if_eq (tgt := 12) hx hb dX12_lawful_5 (by decide) (fun c2 => ?_) (fun c2 => ?_)
  · exact absurd c2 (by decide)
  · skip
    refine lv_ldc2 hx hb hown (ht _ m_1560) dX12_lawful_8 ?_
    exact W.lret (v := (-100001)) hx hb hr (fun t ht9 hW => ⟨(-100001), rfl, rfl, ht9⟩) (fun q hq => by cases hq) dX12_lawful_11
set_option maxHeartbeats 4000000 in
set_option maxRecDepth 100000 in
/-- X12_span -/
theorem c_X12_span (l : Launch) (dC : Nat → ClassId) (dI : Nat → Nat → Nat) (h : Nat) (g : Nat → Nat → Nat) (ca : Nat → Nat → ClassId) (a0 : Int32) (a1 : Int32) : Met l yX12_span (wc yX12_span cX12_span 6 (some .long)) ({ frames := 2, cells := 0, slots := 0, locals := 46 } : Room) (pR (dC, dI) classes [(h, .inr (12, (o12 h g)))] [] [.ref h, .int a0, .int a1]) (vp_Sl (fun r => r = -100001)) 0 0 (fun _ => False) := by
  refine Met.ofW (cc := cX12_span) (maxL := 6) (ret := (some .long)) (by decide) rfl ?_
  intro p e s m args below meth c s₁ B hml hv
  obtain ⟨rfl, hP, hK⟩ := hv
  have hx := B.exec
  have hb := B.bytes
  have hr := B.returns
  have ht := tb_tl (atoms_spec (ws := wc yX12_span cX12_span 6 (some .long)) B.pre)
  have hown : s.vm.findClass RX12 = some m.cls := findClass_of_methodNamed B.named
  have hlocks := B.notSynchronized
  have hl := lv_entry [.ref h, .int a0, .int a1] (n := 6) (Nat.le_of_ble_eq_true rfl)
  rw [lg_entry_eq]
  generalize (lg_sl [.ref h, .int a0, .int a1] ++ List.replicate (6 - (lg_sl [.ref h, .int a0, .int a1]).length) Slot.unset).toArray = ls at hl ⊢
  have hl : lv_has ls 6 [(0, .ref h), (1, .int a0), (2, .int a1)] := hl
  refine lv_aload_n hx hb dX12_span_0 rfl (lv_at hl 0 rfl) ?_
  refine lv_iload_n hx hb dX12_span_1 rfl (lv_at hl 1 rfl) ?_
  have hPc := hP.sub (ws' := [(h, .inr (12, (o12 h g)))]) [0] rfl
  have hKc := hK.sub (tys' := []) [] rfl
  refine vp_callSi (W.runV (As := [.int a0]) (rest := []) ⟨hx, hb, hml, hown, ht⟩ (c_X12_noBale l dC dI h g ca a0) (kV 1 ht m_1385 m_1387 m_42 m_89 m_1388 rfl rfl hd_X12_noBale_v ⟨Nat.le_of_ble_eq_true rfl, Nat.le_of_ble_eq_true rfl⟩) (vR hPc hKc (va_recv hKc hPc (ci := 12) (q0 := 0) rfl rfl)) rfl rfl hl.1 rfl (lv_room (Nat.le_of_ble_eq_true rfl)) dX12_span_2 ⟨Nat.le_of_ble_eq_true rfl, Nat.le_of_ble_eq_true rfl⟩) (fun r1 hr1 => ?_)
  obtain rfl : 1 = r1 := hr1.symm
  refine lv_if_eq (tgt := 12) hx hb dX12_span_5 (by decide) (fun c2 => ?_) (fun c2 => ?_)
  · exact absurd c2 (by decide)
  · skip
    refine lv_ldc2 hx hb hown (ht _ m_1560) dX12_span_8 ?_
    exact W.lret (v := (-100001)) hx hb hr (fun t ht9 hW => ⟨(-100001), rfl, rfl, ht9⟩) (fun q hq => by cases hq) dX12_span_11
set_option maxHeartbeats 4000000 in
set_option maxRecDepth 100000 in
/-- X12_cause -/
theorem c_X12_cause (l : Launch) (dC : Nat → ClassId) (dI : Nat → Nat → Nat) (h : Nat) (g : Nat → Nat → Nat) (ca : Nat → Nat → ClassId) (a0 : Int32) (a1 : Int32) : Met l yX12_cause (wc yX12_cause cX12_cause 5 (some .int)) ({ frames := 2, cells := 0, slots := 0, locals := 46 } : Room) (pR (dC, dI) classes [(h, .inr (12, (o12 h g)))] [] [.ref h, .int a0, .int a1]) (vp_Si (fun r => r = -100001)) 0 0 (fun _ => False) := by
  refine Met.ofW (cc := cX12_cause) (maxL := 5) (ret := (some .int)) (by decide) rfl ?_
  intro p e s m args below meth c s₁ B hml hv
  obtain ⟨rfl, hP, hK⟩ := hv
  have hx := B.exec
  have hb := B.bytes
  have hr := B.returns
  have ht := tb_tl (atoms_spec (ws := wc yX12_cause cX12_cause 5 (some .int)) B.pre)
  have hown : s.vm.findClass RX12 = some m.cls := findClass_of_methodNamed B.named
  have hlocks := B.notSynchronized
  have hl := lv_entry [.ref h, .int a0, .int a1] (n := 5) (Nat.le_of_ble_eq_true rfl)
  rw [lg_entry_eq]
  generalize (lg_sl [.ref h, .int a0, .int a1] ++ List.replicate (5 - (lg_sl [.ref h, .int a0, .int a1]).length) Slot.unset).toArray = ls at hl ⊢
  have hl : lv_has ls 5 [(0, .ref h), (1, .int a0), (2, .int a1)] := hl
  refine lv_aload_n hx hb dX12_cause_0 rfl (lv_at hl 0 rfl) ?_
  refine lv_iload_n hx hb dX12_cause_1 rfl (lv_at hl 1 rfl) ?_
  have hPc := hP.sub (ws' := [(h, .inr (12, (o12 h g)))]) [0] rfl
  have hKc := hK.sub (tys' := []) [] rfl
  refine vp_callSi (W.runV (As := [.int a0]) (rest := []) ⟨hx, hb, hml, hown, ht⟩ (c_X12_noBale l dC dI h g ca a0) (kV 1 ht m_1385 m_1387 m_42 m_89 m_1388 rfl rfl hd_X12_noBale_v ⟨Nat.le_of_ble_eq_true rfl, Nat.le_of_ble_eq_true rfl⟩) (vR hPc hKc (va_recv hKc hPc (ci := 12) (q0 := 0) rfl rfl)) rfl rfl hl.1 rfl (lv_room (Nat.le_of_ble_eq_true rfl)) dX12_cause_2 ⟨Nat.le_of_ble_eq_true rfl, Nat.le_of_ble_eq_true rfl⟩) (fun r1 hr1 => ?_)
  obtain rfl : 1 = r1 := hr1.symm
  refine lv_if_eq (tgt := 11) hx hb dX12_cause_5 (by decide) (fun c2 => ?_) (fun c2 => ?_)
  · exact absurd c2 (by decide)
  · skip
    refine lv_ldc hx hb hown (ht _ m_1389) dX12_cause_8 ?_
    exact W.iret (v := (-100001)) hx hb hr (fun t ht9 hW => ⟨(-100001), rfl, rfl, ht9⟩) (fun q hq => by cases hq) dX12_cause_10
set_option maxHeartbeats 4000000 in
set_option maxRecDepth 100000 in
/-- X12_odd -/
theorem c_X12_odd (l : Launch) (dC : Nat → ClassId) (dI : Nat → Nat → Nat) (h : Nat) (g : Nat → Nat → Nat) (ca : Nat → Nat → ClassId) (a0 : Int32) (a1 : Int32) : Met l yX12_odd (wc yX12_odd cX12_odd 8 (some .int)) ({ frames := 2, cells := 0, slots := 0, locals := 46 } : Room) (pR (dC, dI) classes [(h, .inr (12, (o12 h g)))] [] [.ref h, .int a0, .int a1]) (vp_Si (fun r => r = -100001)) 0 0 (fun _ => False) := by
  refine Met.ofW (cc := cX12_odd) (maxL := 8) (ret := (some .int)) (by decide) rfl ?_
  intro p e s m args below meth c s₁ B hml hv
  obtain ⟨rfl, hP, hK⟩ := hv
  have hx := B.exec
  have hb := B.bytes
  have hr := B.returns
  have ht := tb_tl (atoms_spec (ws := wc yX12_odd cX12_odd 8 (some .int)) B.pre)
  have hown : s.vm.findClass RX12 = some m.cls := findClass_of_methodNamed B.named
  have hlocks := B.notSynchronized
  have hl := lv_entry [.ref h, .int a0, .int a1] (n := 8) (Nat.le_of_ble_eq_true rfl)
  rw [lg_entry_eq]
  generalize (lg_sl [.ref h, .int a0, .int a1] ++ List.replicate (8 - (lg_sl [.ref h, .int a0, .int a1]).length) Slot.unset).toArray = ls at hl ⊢
  have hl : lv_has ls 8 [(0, .ref h), (1, .int a0), (2, .int a1)] := hl
  refine lv_aload_n hx hb dX12_odd_0 rfl (lv_at hl 0 rfl) ?_
  refine lv_iload_n hx hb dX12_odd_1 rfl (lv_at hl 1 rfl) ?_
  have hPc := hP.sub (ws' := [(h, .inr (12, (o12 h g)))]) [0] rfl
  have hKc := hK.sub (tys' := []) [] rfl
  refine vp_callSi (W.runV (As := [.int a0]) (rest := []) ⟨hx, hb, hml, hown, ht⟩ (c_X12_noBale l dC dI h g ca a0) (kV 1 ht m_1385 m_1387 m_42 m_89 m_1388 rfl rfl hd_X12_noBale_v ⟨Nat.le_of_ble_eq_true rfl, Nat.le_of_ble_eq_true rfl⟩) (vR hPc hKc (va_recv hKc hPc (ci := 12) (q0 := 0) rfl rfl)) rfl rfl hl.1 rfl (lv_room (Nat.le_of_ble_eq_true rfl)) dX12_odd_2 ⟨Nat.le_of_ble_eq_true rfl, Nat.le_of_ble_eq_true rfl⟩) (fun r1 hr1 => ?_)
  obtain rfl : 1 = r1 := hr1.symm
  refine lv_if_eq (tgt := 11) hx hb dX12_odd_5 (by decide) (fun c2 => ?_) (fun c2 => ?_)
  · exact absurd c2 (by decide)
  · skip
    refine lv_ldc hx hb hown (ht _ m_1389) dX12_odd_8 ?_
    exact W.iret (v := (-100001)) hx hb hr (fun t ht9 hW => ⟨(-100001), rfl, rfl, ht9⟩) (fun q hq => by cases hq) dX12_odd_10
set_option maxHeartbeats 4000000 in
set_option maxRecDepth 100000 in
/-- X12_needed -/
theorem c_X12_needed (l : Launch) (dC : Nat → ClassId) (dI : Nat → Nat → Nat) (h : Nat) (g : Nat → Nat → Nat) (ca : Nat → Nat → ClassId) (a0 : Int32) (a1 : Int32) : Met l yX12_needed (wc yX12_needed cX12_needed 7 (some .int)) ({ frames := 2, cells := 0, slots := 0, locals := 46 } : Room) (pR (dC, dI) classes [(h, .inr (12, (o12 h g)))] [] [.ref h, .int a0, .int a1]) (vp_Si (fun r => r = -100001)) 0 0 (fun _ => False) := by
  refine Met.ofW (cc := cX12_needed) (maxL := 7) (ret := (some .int)) (by decide) rfl ?_
  intro p e s m args below meth c s₁ B hml hv
  obtain ⟨rfl, hP, hK⟩ := hv
  have hx := B.exec
  have hb := B.bytes
  have hr := B.returns
  have ht := tb_tl (atoms_spec (ws := wc yX12_needed cX12_needed 7 (some .int)) B.pre)
  have hown : s.vm.findClass RX12 = some m.cls := findClass_of_methodNamed B.named
  have hlocks := B.notSynchronized
  have hl := lv_entry [.ref h, .int a0, .int a1] (n := 7) (Nat.le_of_ble_eq_true rfl)
  rw [lg_entry_eq]
  generalize (lg_sl [.ref h, .int a0, .int a1] ++ List.replicate (7 - (lg_sl [.ref h, .int a0, .int a1]).length) Slot.unset).toArray = ls at hl ⊢
  have hl : lv_has ls 7 [(0, .ref h), (1, .int a0), (2, .int a1)] := hl
  refine lv_aload_n hx hb dX12_needed_0 rfl (lv_at hl 0 rfl) ?_
  refine lv_iload_n hx hb dX12_needed_1 rfl (lv_at hl 1 rfl) ?_
  have hPc := hP.sub (ws' := [(h, .inr (12, (o12 h g)))]) [0] rfl
  have hKc := hK.sub (tys' := []) [] rfl
  refine vp_callSi (W.runV (As := [.int a0]) (rest := []) ⟨hx, hb, hml, hown, ht⟩ (c_X12_noBale l dC dI h g ca a0) (kV 1 ht m_1385 m_1387 m_42 m_89 m_1388 rfl rfl hd_X12_noBale_v ⟨Nat.le_of_ble_eq_true rfl, Nat.le_of_ble_eq_true rfl⟩) (vR hPc hKc (va_recv hKc hPc (ci := 12) (q0 := 0) rfl rfl)) rfl rfl hl.1 rfl (lv_room (Nat.le_of_ble_eq_true rfl)) dX12_needed_2 ⟨Nat.le_of_ble_eq_true rfl, Nat.le_of_ble_eq_true rfl⟩) (fun r1 hr1 => ?_)
  obtain rfl : 1 = r1 := hr1.symm
  refine lv_if_eq (tgt := 11) hx hb dX12_needed_5 (by decide) (fun c2 => ?_) (fun c2 => ?_)
  · exact absurd c2 (by decide)
  · skip
    refine lv_ldc hx hb hown (ht _ m_1389) dX12_needed_8 ?_
    exact W.iret (v := (-100001)) hx hb hr (fun t ht9 hW => ⟨(-100001), rfl, rfl, ht9⟩) (fun q hq => by cases hq) dX12_needed_10
set_option maxHeartbeats 4000000 in
set_option maxRecDepth 100000 in
/-- X12_thread -/
theorem c_X12_thread (l : Launch) (dC : Nat → ClassId) (dI : Nat → Nat → Nat) (h : Nat) (g : Nat → Nat → Nat) (ca : Nat → Nat → ClassId) (a0 : Int32) (a1 : Int32) : Met l yX12_thread (wc yX12_thread cX12_thread 3 (some .int)) ({ frames := 2, cells := 0, slots := 0, locals := 46 } : Room) (pR (dC, dI) classes [(h, .inr (12, (o12 h g)))] [] [.ref h, .int a0, .int a1]) (vp_Si (fun r => r = -100001)) 0 0 (fun _ => False) := by
  refine Met.ofW (cc := cX12_thread) (maxL := 3) (ret := (some .int)) (by decide) rfl ?_
  intro p e s m args below meth c s₁ B hml hv
  obtain ⟨rfl, hP, hK⟩ := hv
  have hx := B.exec
  have hb := B.bytes
  have hr := B.returns
  have ht := tb_tl (atoms_spec (ws := wc yX12_thread cX12_thread 3 (some .int)) B.pre)
  have hown : s.vm.findClass RX12 = some m.cls := findClass_of_methodNamed B.named
  have hlocks := B.notSynchronized
  have hl := lv_entry [.ref h, .int a0, .int a1] (n := 3) (Nat.le_of_ble_eq_true rfl)
  rw [lg_entry_eq]
  generalize (lg_sl [.ref h, .int a0, .int a1] ++ List.replicate (3 - (lg_sl [.ref h, .int a0, .int a1]).length) Slot.unset).toArray = ls at hl ⊢
  have hl : lv_has ls 3 [(0, .ref h), (1, .int a0), (2, .int a1)] := hl
  refine lv_aload_n hx hb dX12_thread_0 rfl (lv_at hl 0 rfl) ?_
  refine lv_iload_n hx hb dX12_thread_1 rfl (lv_at hl 1 rfl) ?_
  have hPc := hP.sub (ws' := [(h, .inr (12, (o12 h g)))]) [0] rfl
  have hKc := hK.sub (tys' := []) [] rfl
  refine vp_callSi (W.runV (As := [.int a0]) (rest := []) ⟨hx, hb, hml, hown, ht⟩ (c_X12_noBale l dC dI h g ca a0) (kV 1 ht m_1385 m_1387 m_42 m_89 m_1388 rfl rfl hd_X12_noBale_v ⟨Nat.le_of_ble_eq_true rfl, Nat.le_of_ble_eq_true rfl⟩) (vR hPc hKc (va_recv hKc hPc (ci := 12) (q0 := 0) rfl rfl)) rfl rfl hl.1 rfl (lv_room (Nat.le_of_ble_eq_true rfl)) dX12_thread_2 ⟨Nat.le_of_ble_eq_true rfl, Nat.le_of_ble_eq_true rfl⟩) (fun r1 hr1 => ?_)
  obtain rfl : 1 = r1 := hr1.symm
  refine lv_if_eq (tgt := 11) hx hb dX12_thread_5 (by decide) (fun c2 => ?_) (fun c2 => ?_)
  · exact absurd c2 (by decide)
  · skip
    refine lv_ldc hx hb hown (ht _ m_1389) dX12_thread_8 ?_
    exact W.iret (v := (-100001)) hx hb hr (fun t ht9 hW => ⟨(-100001), rfl, rfl, ht9⟩) (fun q hq => by cases hq) dX12_thread_10
set_option maxHeartbeats 4000000 in
set_option maxRecDepth 100000 in
/-- X12_size -/
theorem c_X12_size (l : Launch) (dC : Nat → ClassId) (dI : Nat → Nat → Nat) (h : Nat) (g : Nat → Nat → Nat) (ca : Nat → Nat → ClassId) (a0 : Int32) (a1 : Int32) : Met l yX12_size (wc yX12_size cX12_size 14 (some .int)) ({ frames := 2, cells := 0, slots := 0, locals := 46 } : Room) (pR (dC, dI) classes [(h, .inr (12, (o12 h g)))] [] [.ref h, .int a0, .int a1]) (vp_Si (fun r => r = -100001)) 0 0 (fun _ => False) := by
  refine Met.ofW (cc := cX12_size) (maxL := 14) (ret := (some .int)) (by decide) rfl ?_
  intro p e s m args below meth c s₁ B hml hv
  obtain ⟨rfl, hP, hK⟩ := hv
  have hx := B.exec
  have hb := B.bytes
  have hr := B.returns
  have ht := tb_tl (atoms_spec (ws := wc yX12_size cX12_size 14 (some .int)) B.pre)
  have hown : s.vm.findClass RX12 = some m.cls := findClass_of_methodNamed B.named
  have hlocks := B.notSynchronized
  have hl := lv_entry [.ref h, .int a0, .int a1] (n := 14) (Nat.le_of_ble_eq_true rfl)
  rw [lg_entry_eq]
  generalize (lg_sl [.ref h, .int a0, .int a1] ++ List.replicate (14 - (lg_sl [.ref h, .int a0, .int a1]).length) Slot.unset).toArray = ls at hl ⊢
  have hl : lv_has ls 14 [(0, .ref h), (1, .int a0), (2, .int a1)] := hl
  refine lv_aload_n hx hb dX12_size_0 rfl (lv_at hl 0 rfl) ?_
  refine lv_iload_n hx hb dX12_size_1 rfl (lv_at hl 1 rfl) ?_
  have hPc := hP.sub (ws' := [(h, .inr (12, (o12 h g)))]) [0] rfl
  have hKc := hK.sub (tys' := []) [] rfl
  refine vp_callSi (W.runV (As := [.int a0]) (rest := []) ⟨hx, hb, hml, hown, ht⟩ (c_X12_noBale l dC dI h g ca a0) (kV 1 ht m_1385 m_1387 m_42 m_89 m_1388 rfl rfl hd_X12_noBale_v ⟨Nat.le_of_ble_eq_true rfl, Nat.le_of_ble_eq_true rfl⟩) (vR hPc hKc (va_recv hKc hPc (ci := 12) (q0 := 0) rfl rfl)) rfl rfl hl.1 rfl (lv_room (Nat.le_of_ble_eq_true rfl)) dX12_size_2 ⟨Nat.le_of_ble_eq_true rfl, Nat.le_of_ble_eq_true rfl⟩) (fun r1 hr1 => ?_)
  obtain rfl : 1 = r1 := hr1.symm
  refine lv_if_eq (tgt := 11) hx hb dX12_size_5 (by decide) (fun c2 => ?_) (fun c2 => ?_)
  · exact absurd c2 (by decide)
  · skip
    refine lv_ldc hx hb hown (ht _ m_1389) dX12_size_8 ?_
    exact W.iret (v := (-100001)) hx hb hr (fun t ht9 hW => ⟨(-100001), rfl, rfl, ht9⟩) (fun q hq => by cases hq) dX12_size_10
set_option maxHeartbeats 4000000 in
set_option maxRecDepth 100000 in
/-- X12_named -/
theorem c_X12_named (l : Launch) (dC : Nat → ClassId) (dI : Nat → Nat → Nat) (h : Nat) (g : Nat → Nat → Nat) (ca : Nat → Nat → ClassId) (a0 : Int32) (a1 : Int32) : Met l yX12_named (wc yX12_named cX12_named 10 (some .int)) ({ frames := 2, cells := 0, slots := 0, locals := 46 } : Room) (pR (dC, dI) classes [(h, .inr (12, (o12 h g)))] [] [.ref h, .int a0, .int a1]) (vp_Si (fun r => r = -100001)) 0 0 (fun _ => False) := by
  refine Met.ofW (cc := cX12_named) (maxL := 10) (ret := (some .int)) (by decide) rfl ?_
  intro p e s m args below meth c s₁ B hml hv
  obtain ⟨rfl, hP, hK⟩ := hv
  have hx := B.exec
  have hb := B.bytes
  have hr := B.returns
  have ht := tb_tl (atoms_spec (ws := wc yX12_named cX12_named 10 (some .int)) B.pre)
  have hown : s.vm.findClass RX12 = some m.cls := findClass_of_methodNamed B.named
  have hlocks := B.notSynchronized
  have hl := lv_entry [.ref h, .int a0, .int a1] (n := 10) (Nat.le_of_ble_eq_true rfl)
  rw [lg_entry_eq]
  generalize (lg_sl [.ref h, .int a0, .int a1] ++ List.replicate (10 - (lg_sl [.ref h, .int a0, .int a1]).length) Slot.unset).toArray = ls at hl ⊢
  have hl : lv_has ls 10 [(0, .ref h), (1, .int a0), (2, .int a1)] := hl
  refine lv_aload_n hx hb dX12_named_0 rfl (lv_at hl 0 rfl) ?_
  refine lv_iload_n hx hb dX12_named_1 rfl (lv_at hl 1 rfl) ?_
  have hPc := hP.sub (ws' := [(h, .inr (12, (o12 h g)))]) [0] rfl
  have hKc := hK.sub (tys' := []) [] rfl
  refine vp_callSi (W.runV (As := [.int a0]) (rest := []) ⟨hx, hb, hml, hown, ht⟩ (c_X12_noBale l dC dI h g ca a0) (kV 1 ht m_1385 m_1387 m_42 m_89 m_1388 rfl rfl hd_X12_noBale_v ⟨Nat.le_of_ble_eq_true rfl, Nat.le_of_ble_eq_true rfl⟩) (vR hPc hKc (va_recv hKc hPc (ci := 12) (q0 := 0) rfl rfl)) rfl rfl hl.1 rfl (lv_room (Nat.le_of_ble_eq_true rfl)) dX12_named_2 ⟨Nat.le_of_ble_eq_true rfl, Nat.le_of_ble_eq_true rfl⟩) (fun r1 hr1 => ?_)
  obtain rfl : 1 = r1 := hr1.symm
  refine lv_if_eq (tgt := 11) hx hb dX12_named_5 (by decide) (fun c2 => ?_) (fun c2 => ?_)
  · exact absurd c2 (by decide)
  · skip
    refine lv_ldc hx hb hown (ht _ m_1389) dX12_named_8 ?_
    exact W.iret (v := (-100001)) hx hb hr (fun t ht9 hW => ⟨(-100001), rfl, rfl, ht9⟩) (fun q hq => by cases hq) dX12_named_10
set_option maxHeartbeats 4000000 in
set_option maxRecDepth 100000 in
/-- X12_turns -/
theorem c_X12_turns (l : Launch) (dC : Nat → ClassId) (dI : Nat → Nat → Nat) (h : Nat) (g : Nat → Nat → Nat) (ca : Nat → Nat → ClassId) (a0 : Int32) (a1 : Int32) : Met l yX12_turns (wc yX12_turns cX12_turns 3 (some .int)) ({ frames := 2, cells := 0, slots := 0, locals := 46 } : Room) (pR (dC, dI) classes [(h, .inr (12, (o12 h g)))] [] [.ref h, .int a0, .int a1]) (vp_Si (fun r => r = -100001)) 0 0 (fun _ => False) := by
  refine Met.ofW (cc := cX12_turns) (maxL := 3) (ret := (some .int)) (by decide) rfl ?_
  intro p e s m args below meth c s₁ B hml hv
  obtain ⟨rfl, hP, hK⟩ := hv
  have hx := B.exec
  have hb := B.bytes
  have hr := B.returns
  have ht := tb_tl (atoms_spec (ws := wc yX12_turns cX12_turns 3 (some .int)) B.pre)
  have hown : s.vm.findClass RX12 = some m.cls := findClass_of_methodNamed B.named
  have hlocks := B.notSynchronized
  have hl := lv_entry [.ref h, .int a0, .int a1] (n := 3) (Nat.le_of_ble_eq_true rfl)
  rw [lg_entry_eq]
  generalize (lg_sl [.ref h, .int a0, .int a1] ++ List.replicate (3 - (lg_sl [.ref h, .int a0, .int a1]).length) Slot.unset).toArray = ls at hl ⊢
  have hl : lv_has ls 3 [(0, .ref h), (1, .int a0), (2, .int a1)] := hl
  refine lv_aload_n hx hb dX12_turns_0 rfl (lv_at hl 0 rfl) ?_
  refine lv_iload_n hx hb dX12_turns_1 rfl (lv_at hl 1 rfl) ?_
  have hPc := hP.sub (ws' := [(h, .inr (12, (o12 h g)))]) [0] rfl
  have hKc := hK.sub (tys' := []) [] rfl
  refine vp_callSi (W.runV (As := [.int a0]) (rest := []) ⟨hx, hb, hml, hown, ht⟩ (c_X12_noBale l dC dI h g ca a0) (kV 1 ht m_1385 m_1387 m_42 m_89 m_1388 rfl rfl hd_X12_noBale_v ⟨Nat.le_of_ble_eq_true rfl, Nat.le_of_ble_eq_true rfl⟩) (vR hPc hKc (va_recv hKc hPc (ci := 12) (q0 := 0) rfl rfl)) rfl rfl hl.1 rfl (lv_room (Nat.le_of_ble_eq_true rfl)) dX12_turns_2 ⟨Nat.le_of_ble_eq_true rfl, Nat.le_of_ble_eq_true rfl⟩) (fun r1 hr1 => ?_)
  obtain rfl : 1 = r1 := hr1.symm
  refine lv_if_eq (tgt := 11) hx hb dX12_turns_5 (by decide) (fun c2 => ?_) (fun c2 => ?_)
  · exact absurd c2 (by decide)
  · skip
    refine lv_ldc hx hb hown (ht _ m_1389) dX12_turns_8 ?_
    exact W.iret (v := (-100001)) hx hb hr (fun t ht9 hW => ⟨(-100001), rfl, rfl, ht9⟩) (fun q hq => by cases hq) dX12_turns_10
set_option maxHeartbeats 4000000 in
set_option maxRecDepth 100000 in
/-- X12_twist -/
theorem c_X12_twist (l : Launch) (dC : Nat → ClassId) (dI : Nat → Nat → Nat) (h : Nat) (g : Nat → Nat → Nat) (ca : Nat → Nat → ClassId) (a0 : Int32) : Met l yX12_twist (wc yX12_twist cX12_twist 8 (some .int)) ({ frames := 2, cells := 0, slots := 0, locals := 46 } : Room) (pR (dC, dI) classes [(h, .inr (12, (o12 h g)))] [] [.ref h, .int a0]) (vp_Si (fun r => r = -100001)) 0 0 (fun _ => False) := by
  refine Met.ofW (cc := cX12_twist) (maxL := 8) (ret := (some .int)) (by decide) rfl ?_
  intro p e s m args below meth c s₁ B hml hv
  obtain ⟨rfl, hP, hK⟩ := hv
  have hx := B.exec
  have hb := B.bytes
  have hr := B.returns
  have ht := tb_tl (atoms_spec (ws := wc yX12_twist cX12_twist 8 (some .int)) B.pre)
  have hown : s.vm.findClass RX12 = some m.cls := findClass_of_methodNamed B.named
  have hlocks := B.notSynchronized
  have hl := lv_entry [.ref h, .int a0] (n := 8) (Nat.le_of_ble_eq_true rfl)
  rw [lg_entry_eq]
  generalize (lg_sl [.ref h, .int a0] ++ List.replicate (8 - (lg_sl [.ref h, .int a0]).length) Slot.unset).toArray = ls at hl ⊢
  have hl : lv_has ls 8 [(0, .ref h), (1, .int a0)] := hl
  refine lv_aload_n hx hb dX12_twist_0 rfl (lv_at hl 0 rfl) ?_
  refine lv_iload_n hx hb dX12_twist_1 rfl (lv_at hl 1 rfl) ?_
  have hPc := hP.sub (ws' := [(h, .inr (12, (o12 h g)))]) [0] rfl
  have hKc := hK.sub (tys' := []) [] rfl
  refine vp_callSi (W.runV (As := [.int a0]) (rest := []) ⟨hx, hb, hml, hown, ht⟩ (c_X12_noBale l dC dI h g ca a0) (kV 1 ht m_1385 m_1387 m_42 m_89 m_1388 rfl rfl hd_X12_noBale_v ⟨Nat.le_of_ble_eq_true rfl, Nat.le_of_ble_eq_true rfl⟩) (vR hPc hKc (va_recv hKc hPc (ci := 12) (q0 := 0) rfl rfl)) rfl rfl hl.1 rfl (lv_room (Nat.le_of_ble_eq_true rfl)) dX12_twist_2 ⟨Nat.le_of_ble_eq_true rfl, Nat.le_of_ble_eq_true rfl⟩) (fun r1 hr1 => ?_)
  obtain rfl : 1 = r1 := hr1.symm
  refine lv_if_eq (tgt := 11) hx hb dX12_twist_5 (by decide) (fun c2 => ?_) (fun c2 => ?_)
  · exact absurd c2 (by decide)
  · skip
    refine lv_ldc hx hb hown (ht _ m_1389) dX12_twist_8 ?_
    exact W.iret (v := (-100001)) hx hb hr (fun t ht9 hW => ⟨(-100001), rfl, rfl, ht9⟩) (fun q hq => by cases hq) dX12_twist_10
set_option maxHeartbeats 4000000 in
set_option maxRecDepth 100000 in
/-- X12_burnt -/
theorem c_X12_burnt (l : Launch) (dC : Nat → ClassId) (dI : Nat → Nat → Nat) (h : Nat) (g : Nat → Nat → Nat) (ca : Nat → Nat → ClassId) (a0 : Int32) (a1 : Int32) (a2 : Int32) (a3 : Int32) : Met l yX12_burnt (wc yX12_burnt cX12_burnt 5 (some .int)) ({ frames := 2, cells := 0, slots := 0, locals := 46 } : Room) (pR (dC, dI) classes [(h, .inr (12, (o12 h g)))] [] [.ref h, .int a0, .int a1, .int a2, .int a3]) (vp_Si (fun r => r = -100001)) 0 0 (fun _ => False) := by
  refine Met.ofW (cc := cX12_burnt) (maxL := 5) (ret := (some .int)) (by decide) rfl ?_
  intro p e s m args below meth c s₁ B hml hv
  obtain ⟨rfl, hP, hK⟩ := hv
  have hx := B.exec
  have hb := B.bytes
  have hr := B.returns
  have ht := tb_tl (atoms_spec (ws := wc yX12_burnt cX12_burnt 5 (some .int)) B.pre)
  have hown : s.vm.findClass RX12 = some m.cls := findClass_of_methodNamed B.named
  have hlocks := B.notSynchronized
  have hl := lv_entry [.ref h, .int a0, .int a1, .int a2, .int a3] (n := 5) (Nat.le_of_ble_eq_true rfl)
  rw [lg_entry_eq]
  generalize (lg_sl [.ref h, .int a0, .int a1, .int a2, .int a3] ++ List.replicate (5 - (lg_sl [.ref h, .int a0, .int a1, .int a2, .int a3]).length) Slot.unset).toArray = ls at hl ⊢
  have hl : lv_has ls 5 [(0, .ref h), (1, .int a0), (2, .int a1), (3, .int a2), (4, .int a3)] := hl
  refine lv_aload_n hx hb dX12_burnt_0 rfl (lv_at hl 0 rfl) ?_
  refine lv_iload_n hx hb dX12_burnt_1 rfl (lv_at hl 1 rfl) ?_
  have hPc := hP.sub (ws' := [(h, .inr (12, (o12 h g)))]) [0] rfl
  have hKc := hK.sub (tys' := []) [] rfl
  refine vp_callSi (W.runV (As := [.int a0]) (rest := []) ⟨hx, hb, hml, hown, ht⟩ (c_X12_noBale l dC dI h g ca a0) (kV 1 ht m_1385 m_1387 m_42 m_89 m_1388 rfl rfl hd_X12_noBale_v ⟨Nat.le_of_ble_eq_true rfl, Nat.le_of_ble_eq_true rfl⟩) (vR hPc hKc (va_recv hKc hPc (ci := 12) (q0 := 0) rfl rfl)) rfl rfl hl.1 rfl (lv_room (Nat.le_of_ble_eq_true rfl)) dX12_burnt_2 ⟨Nat.le_of_ble_eq_true rfl, Nat.le_of_ble_eq_true rfl⟩) (fun r1 hr1 => ?_)
  obtain rfl : 1 = r1 := hr1.symm
  refine lv_if_eq (tgt := 11) hx hb dX12_burnt_5 (by decide) (fun c2 => ?_) (fun c2 => ?_)
  · exact absurd c2 (by decide)
  · skip
    refine lv_ldc hx hb hown (ht _ m_1389) dX12_burnt_8 ?_
    exact W.iret (v := (-100001)) hx hb hr (fun t ht9 hW => ⟨(-100001), rfl, rfl, ht9⟩) (fun q hq => by cases hq) dX12_burnt_10
set_option maxHeartbeats 4000000 in
set_option maxRecDepth 100000 in
/-- X12_cheat -/
theorem c_X12_cheat (l : Launch) (dC : Nat → ClassId) (dI : Nat → Nat → Nat) (h : Nat) (g : Nat → Nat → Nat) (ca : Nat → Nat → ClassId) (a0 : Int32) (a1 : Int32) (a2 : Int32) (a3 : Int32) : Met l yX12_cheat (wc yX12_cheat cX12_cheat 7 (some .int)) ({ frames := 2, cells := 0, slots := 0, locals := 46 } : Room) (pR (dC, dI) classes [(h, .inr (12, (o12 h g)))] [] [.ref h, .int a0, .int a1, .int a2, .int a3]) (vp_Si (fun r => r = -100001)) 0 0 (fun _ => False) := by
  refine Met.ofW (cc := cX12_cheat) (maxL := 7) (ret := (some .int)) (by decide) rfl ?_
  intro p e s m args below meth c s₁ B hml hv
  obtain ⟨rfl, hP, hK⟩ := hv
  have hx := B.exec
  have hb := B.bytes
  have hr := B.returns
  have ht := tb_tl (atoms_spec (ws := wc yX12_cheat cX12_cheat 7 (some .int)) B.pre)
  have hown : s.vm.findClass RX12 = some m.cls := findClass_of_methodNamed B.named
  have hlocks := B.notSynchronized
  have hl := lv_entry [.ref h, .int a0, .int a1, .int a2, .int a3] (n := 7) (Nat.le_of_ble_eq_true rfl)
  rw [lg_entry_eq]
  generalize (lg_sl [.ref h, .int a0, .int a1, .int a2, .int a3] ++ List.replicate (7 - (lg_sl [.ref h, .int a0, .int a1, .int a2, .int a3]).length) Slot.unset).toArray = ls at hl ⊢
  have hl : lv_has ls 7 [(0, .ref h), (1, .int a0), (2, .int a1), (3, .int a2), (4, .int a3)] := hl
  refine lv_aload_n hx hb dX12_cheat_0 rfl (lv_at hl 0 rfl) ?_
  refine lv_iload_n hx hb dX12_cheat_1 rfl (lv_at hl 1 rfl) ?_
  have hPc := hP.sub (ws' := [(h, .inr (12, (o12 h g)))]) [0] rfl
  have hKc := hK.sub (tys' := []) [] rfl
  refine vp_callSi (W.runV (As := [.int a0]) (rest := []) ⟨hx, hb, hml, hown, ht⟩ (c_X12_noBale l dC dI h g ca a0) (kV 1 ht m_1385 m_1387 m_42 m_89 m_1388 rfl rfl hd_X12_noBale_v ⟨Nat.le_of_ble_eq_true rfl, Nat.le_of_ble_eq_true rfl⟩) (vR hPc hKc (va_recv hKc hPc (ci := 12) (q0 := 0) rfl rfl)) rfl rfl hl.1 rfl (lv_room (Nat.le_of_ble_eq_true rfl)) dX12_cheat_2 ⟨Nat.le_of_ble_eq_true rfl, Nat.le_of_ble_eq_true rfl⟩) (fun r1 hr1 => ?_)
  obtain rfl : 1 = r1 := hr1.symm
  refine lv_if_eq (tgt := 11) hx hb dX12_cheat_5 (by decide) (fun c2 => ?_) (fun c2 => ?_)
  · exact absurd c2 (by decide)
  · skip
    refine lv_ldc hx hb hown (ht _ m_1389) dX12_cheat_8 ?_
    exact W.iret (v := (-100001)) hx hb hr (fun t ht9 hW => ⟨(-100001), rfl, rfl, ht9⟩) (fun q hq => by cases hq) dX12_cheat_10
set_option maxHeartbeats 4000000 in
set_option maxRecDepth 100000 in
/-- X12_certify -/
theorem c_X12_certify (l : Launch) (dC : Nat → ClassId) (dI : Nat → Nat → Nat) (h : Nat) (g : Nat → Nat → Nat) (ca : Nat → Nat → ClassId) (a0 : Int32) : Met l yX12_certify (wc yX12_certify cX12_certify 4 (some .int)) ({ frames := 2, cells := 0, slots := 0, locals := 46 } : Room) (pR (dC, dI) classes [(h, .inr (12, (o12 h g)))] [] [.ref h, .int a0]) (vp_Si (fun r => r = -100001)) 0 0 (fun _ => False) := by
  refine Met.ofW (cc := cX12_certify) (maxL := 4) (ret := (some .int)) (by decide) rfl ?_
  intro p e s m args below meth c s₁ B hml hv
  obtain ⟨rfl, hP, hK⟩ := hv
  have hx := B.exec
  have hb := B.bytes
  have hr := B.returns
  have ht := tb_tl (atoms_spec (ws := wc yX12_certify cX12_certify 4 (some .int)) B.pre)
  have hown : s.vm.findClass RX12 = some m.cls := findClass_of_methodNamed B.named
  have hlocks := B.notSynchronized
  have hl := lv_entry [.ref h, .int a0] (n := 4) (Nat.le_of_ble_eq_true rfl)
  rw [lg_entry_eq]
  generalize (lg_sl [.ref h, .int a0] ++ List.replicate (4 - (lg_sl [.ref h, .int a0]).length) Slot.unset).toArray = ls at hl ⊢
  have hl : lv_has ls 4 [(0, .ref h), (1, .int a0)] := hl
  refine lv_aload_n hx hb dX12_certify_0 rfl (lv_at hl 0 rfl) ?_
  refine lv_iload_n hx hb dX12_certify_1 rfl (lv_at hl 1 rfl) ?_
  have hPc := hP.sub (ws' := [(h, .inr (12, (o12 h g)))]) [0] rfl
  have hKc := hK.sub (tys' := []) [] rfl
  refine vp_callSi (W.runV (As := [.int a0]) (rest := []) ⟨hx, hb, hml, hown, ht⟩ (c_X12_noBale l dC dI h g ca a0) (kV 1 ht m_1385 m_1387 m_42 m_89 m_1388 rfl rfl hd_X12_noBale_v ⟨Nat.le_of_ble_eq_true rfl, Nat.le_of_ble_eq_true rfl⟩) (vR hPc hKc (va_recv hKc hPc (ci := 12) (q0 := 0) rfl rfl)) rfl rfl hl.1 rfl (lv_room (Nat.le_of_ble_eq_true rfl)) dX12_certify_2 ⟨Nat.le_of_ble_eq_true rfl, Nat.le_of_ble_eq_true rfl⟩) (fun r1 hr1 => ?_)
  obtain rfl : 1 = r1 := hr1.symm
  refine lv_if_eq (tgt := 11) hx hb dX12_certify_5 (by decide) (fun c2 => ?_) (fun c2 => ?_)
  · exact absurd c2 (by decide)
  · skip
    refine lv_ldc hx hb hown (ht _ m_1389) dX12_certify_8 ?_
    exact W.iret (v := (-100001)) hx hb hr (fun t ht9 hW => ⟨(-100001), rfl, rfl, ht9⟩) (fun q hq => by cases hq) dX12_certify_10
set_option maxHeartbeats 4000000 in
set_option maxRecDepth 100000 in
/-- X12_lose -/
theorem c_X12_lose (l : Launch) (dC : Nat → ClassId) (dI : Nat → Nat → Nat) (h : Nat) (g : Nat → Nat → Nat) (ca : Nat → Nat → ClassId) (a0 : Int32) : Met l yX12_lose (wc yX12_lose cX12_lose 2 (some .int)) ({ frames := 2, cells := 0, slots := 0, locals := 46 } : Room) (pR (dC, dI) classes [(h, .inr (12, (o12 h g)))] [] [.ref h, .int a0]) (vp_Si (fun r => r = -100001)) 0 0 (fun _ => False) := by
  refine Met.ofW (cc := cX12_lose) (maxL := 2) (ret := (some .int)) (by decide) rfl ?_
  intro p e s m args below meth c s₁ B hml hv
  obtain ⟨rfl, hP, hK⟩ := hv
  have hx := B.exec
  have hb := B.bytes
  have hr := B.returns
  have ht := tb_tl (atoms_spec (ws := wc yX12_lose cX12_lose 2 (some .int)) B.pre)
  have hown : s.vm.findClass RX12 = some m.cls := findClass_of_methodNamed B.named
  have hlocks := B.notSynchronized
  have hl := lv_entry [.ref h, .int a0] (n := 2) (Nat.le_of_ble_eq_true rfl)
  rw [lg_entry_eq]
  generalize (lg_sl [.ref h, .int a0] ++ List.replicate (2 - (lg_sl [.ref h, .int a0]).length) Slot.unset).toArray = ls at hl ⊢
  have hl : lv_has ls 2 [(0, .ref h), (1, .int a0)] := hl
  refine lv_aload_n hx hb dX12_lose_0 rfl (lv_at hl 0 rfl) ?_
  refine lv_iload_n hx hb dX12_lose_1 rfl (lv_at hl 1 rfl) ?_
  have hPc := hP.sub (ws' := [(h, .inr (12, (o12 h g)))]) [0] rfl
  have hKc := hK.sub (tys' := []) [] rfl
  refine vp_callSi (W.runV (As := [.int a0]) (rest := []) ⟨hx, hb, hml, hown, ht⟩ (c_X12_noSkein l dC dI h g ca a0) (kV 1 ht m_1403 m_1405 m_43 m_89 m_1406 rfl rfl hd_X12_noSkein_v ⟨Nat.le_of_ble_eq_true rfl, Nat.le_of_ble_eq_true rfl⟩) (vR hPc hKc (va_recv hKc hPc (ci := 12) (q0 := 0) rfl rfl)) rfl rfl hl.1 rfl (lv_room (Nat.le_of_ble_eq_true rfl)) dX12_lose_2 ⟨Nat.le_of_ble_eq_true rfl, Nat.le_of_ble_eq_true rfl⟩) (fun r1 hr1 => ?_)
  obtain rfl : 1 = r1 := hr1.symm
  refine lv_if_eq (tgt := 11) hx hb dX12_lose_5 (by decide) (fun c2 => ?_) (fun c2 => ?_)
  · exact absurd c2 (by decide)
  · skip
    refine lv_ldc hx hb hown (ht _ m_1389) dX12_lose_8 ?_
    exact W.iret (v := (-100001)) hx hb hr (fun t ht9 hW => ⟨(-100001), rfl, rfl, ht9⟩) (fun q hq => by cases hq) dX12_lose_10
set_option maxHeartbeats 4000000 in
set_option maxRecDepth 100000 in
/-- X12_told -/
theorem c_X12_told (l : Launch) (dC : Nat → ClassId) (dI : Nat → Nat → Nat) (h : Nat) (g : Nat → Nat → Nat) (ca : Nat → Nat → ClassId) (a0 : Int32) (a1 : Int32) : Met l yX12_told (wc yX12_told cX12_told 3 (some .int)) ({ frames := 2, cells := 0, slots := 0, locals := 46 } : Room) (pR (dC, dI) classes [(h, .inr (12, (o12 h g)))] [] [.ref h, .int a0, .int a1]) (vp_Si (fun r => r = -100001)) 0 0 (fun _ => False) := by
  refine Met.ofW (cc := cX12_told) (maxL := 3) (ret := (some .int)) (by decide) rfl ?_
  intro p e s m args below meth c s₁ B hml hv
  obtain ⟨rfl, hP, hK⟩ := hv
  have hx := B.exec
  have hb := B.bytes
  have hr := B.returns
  have ht := tb_tl (atoms_spec (ws := wc yX12_told cX12_told 3 (some .int)) B.pre)
  have hown : s.vm.findClass RX12 = some m.cls := findClass_of_methodNamed B.named
  have hlocks := B.notSynchronized
  have hl := lv_entry [.ref h, .int a0, .int a1] (n := 3) (Nat.le_of_ble_eq_true rfl)
  rw [lg_entry_eq]
  generalize (lg_sl [.ref h, .int a0, .int a1] ++ List.replicate (3 - (lg_sl [.ref h, .int a0, .int a1]).length) Slot.unset).toArray = ls at hl ⊢
  have hl : lv_has ls 3 [(0, .ref h), (1, .int a0), (2, .int a1)] := hl
  refine lv_aload_n hx hb dX12_told_0 rfl (lv_at hl 0 rfl) ?_
  refine lv_iload_n hx hb dX12_told_1 rfl (lv_at hl 1 rfl) ?_
  have hPc := hP.sub (ws' := [(h, .inr (12, (o12 h g)))]) [0] rfl
  have hKc := hK.sub (tys' := []) [] rfl
  refine vp_callSi (W.runV (As := [.int a0]) (rest := []) ⟨hx, hb, hml, hown, ht⟩ (c_X12_noSkein l dC dI h g ca a0) (kV 1 ht m_1403 m_1405 m_43 m_89 m_1406 rfl rfl hd_X12_noSkein_v ⟨Nat.le_of_ble_eq_true rfl, Nat.le_of_ble_eq_true rfl⟩) (vR hPc hKc (va_recv hKc hPc (ci := 12) (q0 := 0) rfl rfl)) rfl rfl hl.1 rfl (lv_room (Nat.le_of_ble_eq_true rfl)) dX12_told_2 ⟨Nat.le_of_ble_eq_true rfl, Nat.le_of_ble_eq_true rfl⟩) (fun r1 hr1 => ?_)
  obtain rfl : 1 = r1 := hr1.symm
  refine lv_if_eq (tgt := 11) hx hb dX12_told_5 (by decide) (fun c2 => ?_) (fun c2 => ?_)
  · exact absurd c2 (by decide)
  · skip
    refine lv_ldc hx hb hown (ht _ m_1389) dX12_told_8 ?_
    exact W.iret (v := (-100001)) hx hb hr (fun t ht9 hW => ⟨(-100001), rfl, rfl, ht9⟩) (fun q hq => by cases hq) dX12_told_10
set_option maxHeartbeats 4000000 in
set_option maxRecDepth 100000 in
/-- X12_letter -/
theorem c_X12_letter (l : Launch) (dC : Nat → ClassId) (dI : Nat → Nat → Nat) (h : Nat) (g : Nat → Nat → Nat) (ca : Nat → Nat → ClassId) (a0 : Int32) (a1 : Int32) : Met l yX12_letter (wc yX12_letter cX12_letter 4 (some .int)) ({ frames := 0, cells := 0, slots := 0, locals := 0 } : Room) (pR (dC, dI) classes [(h, .inr (12, (o12 h g)))] [] [.ref h, .int a0, .int a1]) (vp_Si (fun r => r = -100001)) 0 0 (fun _ => False) := by
  refine Met.ofW (cc := cX12_letter) (maxL := 4) (ret := (some .int)) (by decide) rfl ?_
  intro p e s m args below meth c s₁ B hml hv
  obtain ⟨rfl, hP, hK⟩ := hv
  have hx := B.exec
  have hb := B.bytes
  have hr := B.returns
  have ht := tb_tl (atoms_spec (ws := wc yX12_letter cX12_letter 4 (some .int)) B.pre)
  have hown : s.vm.findClass RX12 = some m.cls := findClass_of_methodNamed B.named
  have hlocks := B.notSynchronized
  have hl := lv_entry [.ref h, .int a0, .int a1] (n := 4) (Nat.le_of_ble_eq_true rfl)
  rw [lg_entry_eq]
  generalize (lg_sl [.ref h, .int a0, .int a1] ++ List.replicate (4 - (lg_sl [.ref h, .int a0, .int a1]).length) Slot.unset).toArray = ls at hl ⊢
  have hl : lv_has ls 4 [(0, .ref h), (1, .int a0), (2, .int a1)] := hl
  refine lv_iload_n hx hb dX12_letter_0 rfl (lv_at hl 1 rfl) ?_
  refine lv_if_lt (tgt := 31) hx hb dX12_letter_1 (by decide) (fun c1 => ?_) (fun c1 => ?_)
  · have fc1 := z_lt (rfl : (a0).toInt = _) (by decide : (0 : Int32).toInt = 0) c1
    refine lv_ldc hx hb hown (ht _ m_1389) dX12_letter_31 ?_
    exact W.iret (v := (-100001)) hx hb hr (fun t ht9 hW => ⟨(-100001), rfl, rfl, ht9⟩) (fun q hq => by cases hq) dX12_letter_33
  · have fc1 := z_nlt (rfl : (a0).toInt = _) (by decide : (0 : Int32).toInt = 0) c1
    refine lv_iload_n hx hb dX12_letter_4 rfl (lv_at hl 1 rfl) ?_
    refine lv_bipush (v := 100) hx hb dX12_letter_5 (by decide) ?_
    refine lv_idiv hx hb dX12_letter_7 (by decide) ?_
    refine lv_topi (fun v2 ev2 => ?_)
    have tv2 := z_div100 ev2 (by omega)
    refine lv_aload_n hx hb dX12_letter_8 rfl (lv_at hl 0 rfl) ?_
    refine va_get (D := (dC, dI)) (ci := 12) (v := .int 0) (C := RX12) (T := TX12) (N := 75) hx hb ht inX12 hown hK hP 0 rfl rfl 23 (by decide) (ht _ m_1162) (fun _ h9 => h9) rfl dX12_letter_9 ?_
    refine lv_icmp_ge (tgt := 31) hx hb dX12_letter_12 (by decide) (fun c3 => ?_) (fun c3 => ?_)
    · skip
      refine lv_ldc hx hb hown (ht _ m_1389) dX12_letter_31 ?_
      exact W.iret (v := (-100001)) hx hb hr (fun t ht9 hW => ⟨(-100001), rfl, rfl, ht9⟩) (fun q hq => by cases hq) dX12_letter_33
    · have fc3 := z_nle (by decide : (0 : Int32).toInt = 0) (rfl : (v2).toInt = _) c3; exfalso; omega
set_option maxHeartbeats 4000000 in
set_option maxRecDepth 100000 in
/-- X12_bill -/
theorem c_X12_bill (l : Launch) (dC : Nat → ClassId) (dI : Nat → Nat → Nat) (h : Nat) (g : Nat → Nat → Nat) (ca : Nat → Nat → ClassId) (a0 : Int32) (a1 : Int32) : Met l yX12_bill (wc yX12_bill cX12_bill 3 (some .int)) ({ frames := 2, cells := 0, slots := 0, locals := 46 } : Room) (pR (dC, dI) classes [(h, .inr (12, (o12 h g)))] [] [.ref h, .int a0, .int a1]) (vp_Si (fun r => r = -100001)) 0 0 (fun _ => False) := by
  refine Met.ofW (cc := cX12_bill) (maxL := 3) (ret := (some .int)) (by decide) rfl ?_
  intro p e s m args below meth c s₁ B hml hv
  obtain ⟨rfl, hP, hK⟩ := hv
  have hx := B.exec
  have hb := B.bytes
  have hr := B.returns
  have ht := tb_tl (atoms_spec (ws := wc yX12_bill cX12_bill 3 (some .int)) B.pre)
  have hown : s.vm.findClass RX12 = some m.cls := findClass_of_methodNamed B.named
  have hlocks := B.notSynchronized
  have hl := lv_entry [.ref h, .int a0, .int a1] (n := 3) (Nat.le_of_ble_eq_true rfl)
  rw [lg_entry_eq]
  generalize (lg_sl [.ref h, .int a0, .int a1] ++ List.replicate (3 - (lg_sl [.ref h, .int a0, .int a1]).length) Slot.unset).toArray = ls at hl ⊢
  have hl : lv_has ls 3 [(0, .ref h), (1, .int a0), (2, .int a1)] := hl
  refine lv_aload_n hx hb dX12_bill_0 rfl (lv_at hl 0 rfl) ?_
  refine lv_iload_n hx hb dX12_bill_1 rfl (lv_at hl 1 rfl) ?_
  have hPc := hP.sub (ws' := [(h, .inr (12, (o12 h g)))]) [0] rfl
  have hKc := hK.sub (tys' := []) [] rfl
  refine vp_callSi (W.runV (As := [.int a0]) (rest := []) ⟨hx, hb, hml, hown, ht⟩ (c_X12_noPaper l dC dI h g ca a0) (kV 1 ht m_1684 m_1686 m_73 m_89 m_1687 rfl rfl hd_X12_noPaper_v ⟨Nat.le_of_ble_eq_true rfl, Nat.le_of_ble_eq_true rfl⟩) (vR hPc hKc (va_recv hKc hPc (ci := 12) (q0 := 0) rfl rfl)) rfl rfl hl.1 rfl (lv_room (Nat.le_of_ble_eq_true rfl)) dX12_bill_2 ⟨Nat.le_of_ble_eq_true rfl, Nat.le_of_ble_eq_true rfl⟩) (fun r1 hr1 => ?_)
  obtain rfl : 1 = r1 := hr1.symm
  refine lv_if_eq (tgt := 11) hx hb dX12_bill_5 (by decide) (fun c2 => ?_) (fun c2 => ?_)
  · exact absurd c2 (by decide)
  · skip
    refine lv_ldc hx hb hown (ht _ m_1389) dX12_bill_8 ?_
    exact W.iret (v := (-100001)) hx hb hr (fun t ht9 hW => ⟨(-100001), rfl, rfl, ht9⟩) (fun q hq => by cases hq) dX12_bill_10
set_option maxHeartbeats 4000000 in
set_option maxRecDepth 100000 in
/-- X12_cut -/
theorem c_X12_cut (l : Launch) (dC : Nat → ClassId) (dI : Nat → Nat → Nat) (h : Nat) (g : Nat → Nat → Nat) (ca : Nat → Nat → ClassId) (a0 : Int32) (a1 : Int32) (a2 : Int32) : Met l yX12_cut (wc yX12_cut cX12_cut 6 (some .int)) ({ frames := 2, cells := 0, slots := 0, locals := 46 } : Room) (pR (dC, dI) classes [(h, .inr (12, (o12 h g)))] [] [.ref h, .int a0, .int a1, .int a2]) (vp_Si (fun r => r = -100001)) 0 0 (fun _ => False) := by
  refine Met.ofW (cc := cX12_cut) (maxL := 6) (ret := (some .int)) (by decide) rfl ?_
  intro p e s m args below meth c s₁ B hml hv
  obtain ⟨rfl, hP, hK⟩ := hv
  have hx := B.exec
  have hb := B.bytes
  have hr := B.returns
  have ht := tb_tl (atoms_spec (ws := wc yX12_cut cX12_cut 6 (some .int)) B.pre)
  have hown : s.vm.findClass RX12 = some m.cls := findClass_of_methodNamed B.named
  have hlocks := B.notSynchronized
  have hl := lv_entry [.ref h, .int a0, .int a1, .int a2] (n := 6) (Nat.le_of_ble_eq_true rfl)
  rw [lg_entry_eq]
  generalize (lg_sl [.ref h, .int a0, .int a1, .int a2] ++ List.replicate (6 - (lg_sl [.ref h, .int a0, .int a1, .int a2]).length) Slot.unset).toArray = ls at hl ⊢
  have hl : lv_has ls 6 [(0, .ref h), (1, .int a0), (2, .int a1), (3, .int a2)] := hl
  refine lv_aload_n hx hb dX12_cut_0 rfl (lv_at hl 0 rfl) ?_
  refine lv_iload_n hx hb dX12_cut_1 rfl (lv_at hl 1 rfl) ?_
  have hPc := hP.sub (ws' := [(h, .inr (12, (o12 h g)))]) [0] rfl
  have hKc := hK.sub (tys' := []) [] rfl
  refine vp_callSi (W.runV (As := [.int a0]) (rest := []) ⟨hx, hb, hml, hown, ht⟩ (c_X12_noPaper l dC dI h g ca a0) (kV 1 ht m_1684 m_1686 m_73 m_89 m_1687 rfl rfl hd_X12_noPaper_v ⟨Nat.le_of_ble_eq_true rfl, Nat.le_of_ble_eq_true rfl⟩) (vR hPc hKc (va_recv hKc hPc (ci := 12) (q0 := 0) rfl rfl)) rfl rfl hl.1 rfl (lv_room (Nat.le_of_ble_eq_true rfl)) dX12_cut_2 ⟨Nat.le_of_ble_eq_true rfl, Nat.le_of_ble_eq_true rfl⟩) (fun r1 hr1 => ?_)
  obtain rfl : 1 = r1 := hr1.symm
  refine lv_if_eq (tgt := 11) hx hb dX12_cut_5 (by decide) (fun c2 => ?_) (fun c2 => ?_)
  · exact absurd c2 (by decide)
  · skip
    refine lv_ldc hx hb hown (ht _ m_1389) dX12_cut_8 ?_
    exact W.iret (v := (-100001)) hx hb hr (fun t ht9 hW => ⟨(-100001), rfl, rfl, ht9⟩) (fun q hq => by cases hq) dX12_cut_10
set_option maxHeartbeats 4000000 in
set_option maxRecDepth 100000 in
/-- X12_undo -/
theorem c_X12_undo (l : Launch) (dC : Nat → ClassId) (dI : Nat → Nat → Nat) (h : Nat) (g : Nat → Nat → Nat) (ca : Nat → Nat → ClassId) (a0 : Int32) : Met l yX12_undo (wc yX12_undo cX12_undo 6 (some .int)) ({ frames := 2, cells := 0, slots := 0, locals := 46 } : Room) (pR (dC, dI) classes [(h, .inr (12, (o12 h g)))] [] [.ref h, .int a0]) (vp_Si (fun r => r = -100001)) 0 0 (fun _ => False) := by
  refine Met.ofW (cc := cX12_undo) (maxL := 6) (ret := (some .int)) (by decide) rfl ?_
  intro p e s m args below meth c s₁ B hml hv
  obtain ⟨rfl, hP, hK⟩ := hv
  have hx := B.exec
  have hb := B.bytes
  have hr := B.returns
  have ht := tb_tl (atoms_spec (ws := wc yX12_undo cX12_undo 6 (some .int)) B.pre)
  have hown : s.vm.findClass RX12 = some m.cls := findClass_of_methodNamed B.named
  have hlocks := B.notSynchronized
  have hl := lv_entry [.ref h, .int a0] (n := 6) (Nat.le_of_ble_eq_true rfl)
  rw [lg_entry_eq]
  generalize (lg_sl [.ref h, .int a0] ++ List.replicate (6 - (lg_sl [.ref h, .int a0]).length) Slot.unset).toArray = ls at hl ⊢
  have hl : lv_has ls 6 [(0, .ref h), (1, .int a0)] := hl
  refine lv_aload_n hx hb dX12_undo_0 rfl (lv_at hl 0 rfl) ?_
  refine lv_iload_n hx hb dX12_undo_1 rfl (lv_at hl 1 rfl) ?_
  have hPc := hP.sub (ws' := [(h, .inr (12, (o12 h g)))]) [0] rfl
  have hKc := hK.sub (tys' := []) [] rfl
  refine vp_callSi (W.runV (As := [.int a0]) (rest := []) ⟨hx, hb, hml, hown, ht⟩ (c_X12_noPaper l dC dI h g ca a0) (kV 1 ht m_1684 m_1686 m_73 m_89 m_1687 rfl rfl hd_X12_noPaper_v ⟨Nat.le_of_ble_eq_true rfl, Nat.le_of_ble_eq_true rfl⟩) (vR hPc hKc (va_recv hKc hPc (ci := 12) (q0 := 0) rfl rfl)) rfl rfl hl.1 rfl (lv_room (Nat.le_of_ble_eq_true rfl)) dX12_undo_2 ⟨Nat.le_of_ble_eq_true rfl, Nat.le_of_ble_eq_true rfl⟩) (fun r1 hr1 => ?_)
  obtain rfl : 1 = r1 := hr1.symm
  refine lv_if_eq (tgt := 11) hx hb dX12_undo_5 (by decide) (fun c2 => ?_) (fun c2 => ?_)
  · exact absurd c2 (by decide)
  · skip
    refine lv_ldc hx hb hown (ht _ m_1389) dX12_undo_8 ?_
    exact W.iret (v := (-100001)) hx hb hr (fun t ht9 hW => ⟨(-100001), rfl, rfl, ht9⟩) (fun q hq => by cases hq) dX12_undo_10
set_option maxHeartbeats 4000000 in
set_option maxRecDepth 100000 in
/-- X12_paper -/
theorem c_X12_paper (l : Launch) (dC : Nat → ClassId) (dI : Nat → Nat → Nat) (h : Nat) (g : Nat → Nat → Nat) (ca : Nat → Nat → ClassId) (a0 : Int32) (a1 : Int32) : Met l yX12_paper (wc yX12_paper cX12_paper 5 (some .int)) ({ frames := 2, cells := 0, slots := 0, locals := 46 } : Room) (pR (dC, dI) classes [(h, .inr (12, (o12 h g)))] [] [.ref h, .int a0, .int a1]) (vp_Si (fun r => r = -100001)) 0 0 (fun _ => False) := by
  refine Met.ofW (cc := cX12_paper) (maxL := 5) (ret := (some .int)) (by decide) rfl ?_
  intro p e s m args below meth c s₁ B hml hv
  obtain ⟨rfl, hP, hK⟩ := hv
  have hx := B.exec
  have hb := B.bytes
  have hr := B.returns
  have ht := tb_tl (atoms_spec (ws := wc yX12_paper cX12_paper 5 (some .int)) B.pre)
  have hown : s.vm.findClass RX12 = some m.cls := findClass_of_methodNamed B.named
  have hlocks := B.notSynchronized
  have hl := lv_entry [.ref h, .int a0, .int a1] (n := 5) (Nat.le_of_ble_eq_true rfl)
  rw [lg_entry_eq]
  generalize (lg_sl [.ref h, .int a0, .int a1] ++ List.replicate (5 - (lg_sl [.ref h, .int a0, .int a1]).length) Slot.unset).toArray = ls at hl ⊢
  have hl : lv_has ls 5 [(0, .ref h), (1, .int a0), (2, .int a1)] := hl
  refine lv_aload_n hx hb dX12_paper_0 rfl (lv_at hl 0 rfl) ?_
  refine lv_iload_n hx hb dX12_paper_1 rfl (lv_at hl 1 rfl) ?_
  have hPc := hP.sub (ws' := [(h, .inr (12, (o12 h g)))]) [0] rfl
  have hKc := hK.sub (tys' := []) [] rfl
  refine vp_callSi (W.runV (As := [.int a0]) (rest := []) ⟨hx, hb, hml, hown, ht⟩ (c_X12_noPaper l dC dI h g ca a0) (kV 1 ht m_1684 m_1686 m_73 m_89 m_1687 rfl rfl hd_X12_noPaper_v ⟨Nat.le_of_ble_eq_true rfl, Nat.le_of_ble_eq_true rfl⟩) (vR hPc hKc (va_recv hKc hPc (ci := 12) (q0 := 0) rfl rfl)) rfl rfl hl.1 rfl (lv_room (Nat.le_of_ble_eq_true rfl)) dX12_paper_2 ⟨Nat.le_of_ble_eq_true rfl, Nat.le_of_ble_eq_true rfl⟩) (fun r1 hr1 => ?_)
  obtain rfl : 1 = r1 := hr1.symm
  refine lv_if_eq (tgt := 11) hx hb dX12_paper_5 (by decide) (fun c2 => ?_) (fun c2 => ?_)
  · exact absurd c2 (by decide)
  · skip
    refine lv_ldc hx hb hown (ht _ m_1389) dX12_paper_8 ?_
    exact W.iret (v := (-100001)) hx hb hr (fun t ht9 hW => ⟨(-100001), rfl, rfl, ht9⟩) (fun q hq => by cases hq) dX12_paper_10
set_option maxHeartbeats 4000000 in
set_option maxRecDepth 100000 in
/-- X12_test -/
theorem c_X12_test (l : Launch) (dC : Nat → ClassId) (dI : Nat → Nat → Nat) (sz : Nat) (h : Nat) (g : Nat → Nat → Nat) (ca : Nat → Nat → ClassId) (a : Int32) (b : Int32) (d : Int32) : Met l yX12_test (wc yX12_test cX12_test 4 (some .int)) ({ frames := 2, cells := 0, slots := 0, locals := 45 } : Room) (pW (dC, dI) classes [(h, .inr (12, (o12 h g))), ((g 12 14), .inl ((ca 12 14), 30, .inl (fun _ => 0))), ((g 12 15), .inl ((ca 12 15), 30, .inl (fun _ => 0))), ((g 12 16), .inl ((ca 12 16), 30, .inl (fun _ => 0)))] [((ca 12 14), .int), ((ca 12 15), .int), ((ca 12 16), .int)] sz [.ref h, .int a, .int b, .int d]) (va_Qi (fun r (_ : Unit) => r = F_test a b d) (fun _ _ => True) (va_A [(h, .inr (12, (o12 h g))), ((g 12 14), .inl ((ca 12 14), 30, .inl (fun _ => 0))), ((g 12 15), .inl ((ca 12 15), 30, .inl (fun _ => 0))), ((g 12 16), .inl ((ca 12 16), 30, .inl (fun _ => 0)))] sz)) 0 0 (va_A [(h, .inr (12, (o12 h g))), ((g 12 14), .inl ((ca 12 14), 30, .inl (fun _ => 0))), ((g 12 15), .inl ((ca 12 15), 30, .inl (fun _ => 0))), ((g 12 16), .inl ((ca 12 16), 30, .inl (fun _ => 0)))] sz) := by
  refine Met.ofW (cc := cX12_test) (maxL := 4) (ret := (some .int)) (by decide) rfl ?_
  intro p e s m args below meth c s₁ B hml hv
  obtain ⟨rfl, hsz, hP, hK, hD0⟩ := hv
  have hx := B.exec
  have hb := B.bytes
  have hr := B.returns
  have ht := tb_tl (atoms_spec (ws := wc yX12_test cX12_test 4 (some .int)) B.pre)
  have hown : s.vm.findClass RX12 = some m.cls := findClass_of_methodNamed B.named
  have hlocks := B.notSynchronized
  subst hsz
  have hD := hD0.self (sz := s.heap.size)
  generalize hAe : va_A [(h, .inr (12, (o12 h g))), ((g 12 14), .inl ((ca 12 14), 30, .inl (fun _ => 0))), ((g 12 15), .inl ((ca 12 15), 30, .inl (fun _ => 0))), ((g 12 16), .inl ((ca 12 16), 30, .inl (fun _ => 0)))] s.heap.size = A at hD ⊢
  have hA : ∀ q : Nat, s.heap.size ≤ q → A q := fun q h => by rw [← hAe]; exact Or.inr h
  have hS : va_S A s.heap s.heap [] := va_S.rf
  have hP : va_P (dC, dI) classes [(h, .inr (12, (o12 h g))), ((g 12 14), .inl ((ca 12 14), 30, .inl (fun _ => 0))), ((g 12 15), .inl ((ca 12 15), 30, .inl (fun _ => 0))), ((g 12 16), .inl ((ca 12 16), 30, .inl (fun _ => 0)))] s.heap := hP
  have hl := lv_entry [.ref h, .int a, .int b, .int d] (n := 4) (Nat.le_of_ble_eq_true rfl)
  rw [lg_entry_eq]
  generalize (lg_sl [.ref h, .int a, .int b, .int d] ++ List.replicate (4 - (lg_sl [.ref h, .int a, .int b, .int d]).length) Slot.unset).toArray = ls at hl ⊢
  have hl : lv_has ls 4 [(0, .ref h), (1, .int a), (2, .int b), (3, .int d)] := hl
  refine lv_iload_n hx hb dX12_test_0 rfl (lv_at hl 1 rfl) ?_
  refine lv_i2l (v := (a.toInt64)) hx hb dX12_test_1 rfl ?_
  refine lv_lconst (v := 0) hx hb dX12_test_2 (by decide) ?_
  refine lv_ldc2 hx hb hown (ht _ m_1391) dX12_test_3 ?_
  have hPc := hP.sub (ws' := []) [] rfl
  have hKc := hK.sub (tys' := []) [] rfl
  refine vp_callSi (W.runS (As := [.long (a.toInt64), .long 0, .long 3]) (rest := []) ⟨hx, hb, hml, hown, ht⟩ (c_X12_in l dC dI (a.toInt64) 0 3 (a.toInt) (0) (3) ((Int32.toInt_toInt64 a).trans rfl) (by decide : (0 : Int64).toInt = 0) (by decide : (3 : Int64).toInt = 3)) (kS 3 ht m_1370 m_1371 m_89 m_1372 rfl rfl hd_X12_in_v ⟨Nat.le_of_ble_eq_true rfl, Nat.le_of_ble_eq_true rfl⟩) (sR hPc hKc) rfl rfl hl.1 rfl (lv_room (Nat.le_of_ble_eq_true rfl)) dX12_test_6 ⟨Nat.le_of_ble_eq_true rfl, Nat.le_of_ble_eq_true rfl⟩) (fun r1 hr1 => ?_)
  rcases hr1 with ⟨rfl, fr1⟩ | ⟨rfl, fr1⟩
  · skip
    refine lv_if_eq (tgt := 26) hx hb dX12_test_9 (by decide) (fun c2 => ?_) (fun c2 => ?_)
    · exact absurd c2 (by decide)
    · skip
      refine lv_iload_n hx hb dX12_test_12 rfl (lv_at hl 2 rfl) ?_
      have hPc := hP.sub (ws' := []) [] rfl
      have hKc := hK.sub (tys' := []) [] rfl
      refine vp_callSi (W.runS (As := [.int b]) (rest := []) ⟨hx, hb, hml, hown, ht⟩ (c_X12_isWeight l dC dI b) (kS 1 ht m_1415 m_1416 m_89 m_1417 rfl rfl hd_X12_isWeight_v ⟨Nat.le_of_ble_eq_true rfl, Nat.le_of_ble_eq_true rfl⟩) (sR hPc hKc) rfl rfl hl.1 rfl (lv_room (Nat.le_of_ble_eq_true rfl)) dX12_test_13 ⟨Nat.le_of_ble_eq_true rfl, Nat.le_of_ble_eq_true rfl⟩) (fun r3 hr3 => ?_)
      rcases hr3 with ⟨rfl, fr3⟩ | ⟨rfl, fr3⟩
      · skip
        refine lv_if_eq (tgt := 26) hx hb dX12_test_16 (by decide) (fun c4 => ?_) (fun c4 => ?_)
        · exact absurd c4 (by decide)
        · skip
          refine lv_iload_n hx hb dX12_test_19 rfl (lv_at hl 3 rfl) ?_
          have hPc := hP.sub (ws' := []) [] rfl
          have hKc := hK.sub (tys' := []) [] rfl
          refine vp_callSi (W.runS (As := [.int d]) (rest := []) ⟨hx, hb, hml, hown, ht⟩ (c_X12_isWeight l dC dI d) (kS 1 ht m_1415 m_1416 m_89 m_1417 rfl rfl hd_X12_isWeight_v ⟨Nat.le_of_ble_eq_true rfl, Nat.le_of_ble_eq_true rfl⟩) (sR hPc hKc) rfl rfl hl.1 rfl (lv_room (Nat.le_of_ble_eq_true rfl)) dX12_test_20 ⟨Nat.le_of_ble_eq_true rfl, Nat.le_of_ble_eq_true rfl⟩) (fun r5 hr5 => ?_)
          rcases hr5 with ⟨rfl, fr5⟩ | ⟨rfl, fr5⟩
          · skip
            refine lv_if_ne (tgt := 29) hx hb dX12_test_23 (by decide) (fun c6 => ?_) (fun c6 => ?_)
            · skip
              refine lv_aload_n hx hb dX12_test_29 rfl (lv_at hl 0 rfl) ?_
              refine va_get (D := (dC, dI)) (ci := 12) (v := .int 0) (C := RX12) (T := TX12) (N := 75) hx hb ht inX12 hown hK hP 0 rfl rfl 13 (by decide) (ht _ m_1152) (fun _ h9 => h9) rfl dX12_test_30 ?_
              refine lv_bipush (v := 30) hx hb dX12_test_33 (by decide) ?_
              refine lv_icmp_ne (tgt := 41) hx hb dX12_test_35 (by decide) (fun c7 => ?_) (fun c7 => ?_)
              · skip
                refine lv_aload_n hx hb dX12_test_41 rfl (lv_at hl 0 rfl) ?_
                refine va_get (D := (dC, dI)) (ci := 12) (v := .ref (g 12 14)) (C := RX12) (T := TX12) (N := 75) hx hb ht inX12 hown hK hP 0 rfl rfl 14 (by decide) (ht _ m_1153) (fun _ h9 => h9) rfl dX12_test_42 ?_
                refine lv_aload_n hx hb dX12_test_45 rfl (lv_at hl 0 rfl) ?_
                refine va_get (D := (dC, dI)) (ci := 12) (v := .int 0) (C := RX12) (T := TX12) (N := 75) hx hb ht inX12 hown hK hP 0 rfl rfl 13 (by decide) (ht _ m_1152) (fun _ h9 => h9) rfl dX12_test_46 ?_
                refine lv_iload_n hx hb dX12_test_49 rfl (lv_at hl 1 rfl) ?_
                refine va_iast (D := (dC, dI)) hx hb hK hP hD hS 1 0 rfl rfl (by decide) dX12_test_50 (fun H locs hP hD hS => ?_)
                obtain ⟨f8, hP, hD⟩ : ∃ f8 : Nat → Int32, va_P (dC, dI) classes [(h, .inr (12, (o12 h g))), ((g 12 14), .inl ((ca 12 14), 30, .inl f8)), ((g 12 15), .inl ((ca 12 15), 30, .inl (fun _ => 0))), ((g 12 16), .inl ((ca 12 16), 30, .inl (fun _ => 0)))] H ∧ va_D A [(h, .inr (12, (o12 h g))), ((g 12 14), .inl ((ca 12 14), 30, .inl f8)), ((g 12 15), .inl ((ca 12 15), 30, .inl (fun _ => 0))), ((g 12 16), .inl ((ca 12 16), 30, .inl (fun _ => 0)))] := ⟨_, hP, hD⟩
                refine lv_aload_n hx hb dX12_test_51 rfl (lv_at hl 0 rfl) ?_
                refine va_get (D := (dC, dI)) (ci := 12) (v := .ref (g 12 15)) (C := RX12) (T := TX12) (N := 75) hx hb ht inX12 hown hK hP 0 rfl rfl 15 (by decide) (ht _ m_1154) (fun _ h9 => h9) rfl dX12_test_52 ?_
                refine lv_aload_n hx hb dX12_test_55 rfl (lv_at hl 0 rfl) ?_
                refine va_get (D := (dC, dI)) (ci := 12) (v := .int 0) (C := RX12) (T := TX12) (N := 75) hx hb ht inX12 hown hK hP 0 rfl rfl 13 (by decide) (ht _ m_1152) (fun _ h9 => h9) rfl dX12_test_56 ?_
                refine lv_iload_n hx hb dX12_test_59 rfl (lv_at hl 2 rfl) ?_
                refine lv_iload_n hx hb dX12_test_60 rfl (lv_at hl 3 rfl) ?_
                refine lv_isub hx hb dX12_test_61 ?_
                refine lv_topi (fun v9 ev9 => ?_)
                have tv9 := z_sub ev9 (rfl : (b).toInt = _) (rfl : (d).toInt = _) (by omega) (by omega)
                refine va_iast (D := (dC, dI)) hx hb hK hP hD hS 2 1 rfl rfl (by decide) dX12_test_62 (fun H locs hP hD hS => ?_)
                obtain ⟨f10, hP, hD⟩ : ∃ f10 : Nat → Int32, va_P (dC, dI) classes [(h, .inr (12, (o12 h g))), ((g 12 14), .inl ((ca 12 14), 30, .inl f8)), ((g 12 15), .inl ((ca 12 15), 30, .inl f10)), ((g 12 16), .inl ((ca 12 16), 30, .inl (fun _ => 0)))] H ∧ va_D A [(h, .inr (12, (o12 h g))), ((g 12 14), .inl ((ca 12 14), 30, .inl f8)), ((g 12 15), .inl ((ca 12 15), 30, .inl f10)), ((g 12 16), .inl ((ca 12 16), 30, .inl (fun _ => 0)))] := ⟨_, hP, hD⟩
                refine lv_aload_n hx hb dX12_test_63 rfl (lv_at hl 0 rfl) ?_
                refine va_get (D := (dC, dI)) (ci := 12) (v := .ref (g 12 16)) (C := RX12) (T := TX12) (N := 75) hx hb ht inX12 hown hK hP 0 rfl rfl 16 (by decide) (ht _ m_1155) (fun _ h9 => h9) rfl dX12_test_64 ?_
                refine lv_aload_n hx hb dX12_test_67 rfl (lv_at hl 0 rfl) ?_
                refine va_get (D := (dC, dI)) (ci := 12) (v := .int 0) (C := RX12) (T := TX12) (N := 75) hx hb ht inX12 hown hK hP 0 rfl rfl 13 (by decide) (ht _ m_1152) (fun _ h9 => h9) rfl dX12_test_68 ?_
                refine lv_aload_n hx hb dX12_test_71 rfl (lv_at hl 0 rfl) ?_
                refine va_get (D := (dC, dI)) (ci := 12) (v := .int 0) (C := RX12) (T := TX12) (N := 75) hx hb ht inX12 hown hK hP 0 rfl rfl 0 (by decide) (ht _ m_1139) (fun _ h9 => h9) rfl dX12_test_72 ?_
                refine va_iast (D := (dC, dI)) hx hb hK hP hD hS 3 2 rfl rfl (by decide) dX12_test_75 (fun H locs hP hD hS => ?_)
                obtain ⟨f11, hP, hD⟩ : ∃ f11 : Nat → Int32, va_P (dC, dI) classes [(h, .inr (12, (o12 h g))), ((g 12 14), .inl ((ca 12 14), 30, .inl f8)), ((g 12 15), .inl ((ca 12 15), 30, .inl f10)), ((g 12 16), .inl ((ca 12 16), 30, .inl f11))] H ∧ va_D A [(h, .inr (12, (o12 h g))), ((g 12 14), .inl ((ca 12 14), 30, .inl f8)), ((g 12 15), .inl ((ca 12 15), 30, .inl f10)), ((g 12 16), .inl ((ca 12 16), 30, .inl f11))] := ⟨_, hP, hD⟩
                refine lv_aload_n hx hb dX12_test_76 rfl (lv_at hl 0 rfl) ?_
                refine lv_dup hx hb dX12_test_77 rfl ?_
                refine va_get (D := (dC, dI)) (ci := 12) (v := .int 0) (C := RX12) (T := TX12) (N := 75) hx hb ht inX12 hown hK hP 0 rfl rfl 13 (by decide) (ht _ m_1152) (fun _ h9 => h9) rfl dX12_test_78 ?_
                refine lv_iconst (v := 1) hx hb dX12_test_81 (by decide) ?_
                refine lv_iadd hx hb dX12_test_82 ?_
                refine lv_topi (fun v12 ev12 => ?_)
                obtain rfl : 1 = v12 := (ev12.trans (by decide)).symm
                refine va_put (D := (dC, dI)) (ci := 12) (v := .int 1) (ty := (.int)) (C := RX12) (T := TX12) (N := 75) hx hb ht inX12 tyX12 tyX12_ok nmX12 hown hK hP hD hS 0 rfl rfl 13 (by decide) (ht _ m_1152) (fun _ h9 => h9) rfl (by decide +kernel) rfl rfl (Nat.le_of_ble_eq_true rfl) dX12_test_83 (fun H locs hP hD hS => ?_)
                have hP : va_P (dC, dI) classes [(h, .inr (12, [.int 0, .int 0, .ref (g 12 2), .int 0, .ref (g 12 4), .ref (g 12 5), .ref (g 12 6), .ref (g 12 7), .ref (g 12 8), .ref (g 12 9), .ref (g 12 10), .ref (g 12 11), .ref (g 12 12), .int 1, .ref (g 12 14), .ref (g 12 15), .ref (g 12 16), .long 0, .long 0, .int 0, .int (-1), .int (-1), .int (-1), .int 0, .ref (g 12 24), .ref (g 12 25), .ref (g 12 26), .ref (g 12 27), .ref (g 12 28), .ref (g 12 29), .ref (g 12 30), .ref (g 12 31), .ref (g 12 32), .int 0, .int 0, .int 0, .int (-1), .int 0, .int 0, .ref (g 12 39), .ref (g 12 40), .int 0, .ref (g 12 42), .ref (g 12 43), .long 0, .long 0, .long 0, .long 0, .int 0, .ref (g 12 49), .ref (g 12 50), .ref (g 12 51), .ref (g 12 52), .ref (g 12 53), .ref (g 12 54), .ref (g 12 55), .ref (g 12 56), .int 0, .ref (g 12 58), .ref (g 12 59), .int 0, .int 0, .int 0, .ref (g 12 63), .ref (g 12 64), .int 0, .int 0, .int 0, .ref (g 12 68), .ref (g 12 69), .ref (g 12 70), .ref (g 12 71), .ref (g 12 72), .ref (g 12 73), .ref (g 12 74)])), ((g 12 14), .inl ((ca 12 14), 30, .inl f8)), ((g 12 15), .inl ((ca 12 15), 30, .inl f10)), ((g 12 16), .inl ((ca 12 16), 30, .inl f11))] H := hP
                have hD : va_D A [(h, .inr (12, [.int 0, .int 0, .ref (g 12 2), .int 0, .ref (g 12 4), .ref (g 12 5), .ref (g 12 6), .ref (g 12 7), .ref (g 12 8), .ref (g 12 9), .ref (g 12 10), .ref (g 12 11), .ref (g 12 12), .int 1, .ref (g 12 14), .ref (g 12 15), .ref (g 12 16), .long 0, .long 0, .int 0, .int (-1), .int (-1), .int (-1), .int 0, .ref (g 12 24), .ref (g 12 25), .ref (g 12 26), .ref (g 12 27), .ref (g 12 28), .ref (g 12 29), .ref (g 12 30), .ref (g 12 31), .ref (g 12 32), .int 0, .int 0, .int 0, .int (-1), .int 0, .int 0, .ref (g 12 39), .ref (g 12 40), .int 0, .ref (g 12 42), .ref (g 12 43), .long 0, .long 0, .long 0, .long 0, .int 0, .ref (g 12 49), .ref (g 12 50), .ref (g 12 51), .ref (g 12 52), .ref (g 12 53), .ref (g 12 54), .ref (g 12 55), .ref (g 12 56), .int 0, .ref (g 12 58), .ref (g 12 59), .int 0, .int 0, .int 0, .ref (g 12 63), .ref (g 12 64), .int 0, .int 0, .int 0, .ref (g 12 68), .ref (g 12 69), .ref (g 12 70), .ref (g 12 71), .ref (g 12 72), .ref (g 12 73), .ref (g 12 74)])), ((g 12 14), .inl ((ca 12 14), 30, .inl f8)), ((g 12 15), .inl ((ca 12 15), 30, .inl f10)), ((g 12 16), .inl ((ca 12 16), 30, .inl f11))] := hD
                refine lv_aload_n hx hb dX12_test_86 rfl (lv_at hl 0 rfl) ?_
                refine va_get (D := (dC, dI)) (ci := 12) (v := .int 1) (C := RX12) (T := TX12) (N := 75) hx hb ht inX12 hown hK hP 0 rfl rfl 13 (by decide) (ht _ m_1152) (fun _ h9 => h9) rfl dX12_test_87 ?_
                exact W.iret (v := 1) hx hb hr (fun t ht9 hW => ⟨⟨1, (), rfl, (by unfold F_test; first | decide | ((repeat' split) <;> first | rfl | (exfalso; omega) | exact z_of (by decide) (by omega))), trivial⟩, hS.F ht9⟩) hS.2.2 dX12_test_90
              · exact absurd c7 (by decide)
            · exact absurd c6 (by decide)
          · skip
            refine lv_if_ne (tgt := 29) hx hb dX12_test_23 (by decide) (fun c13 => ?_) (fun c13 => ?_)
            · exact absurd rfl c13
            · skip
              refine lv_ldc hx hb hown (ht _ m_1373) dX12_test_26 ?_
              exact W.iret (v := (-100002)) hx hb hr (fun t ht9 hW => ⟨⟨(-100002), (), rfl, (by unfold F_test; first | decide | ((repeat' split) <;> first | rfl | (exfalso; omega) | exact z_of (by decide) (by omega))), trivial⟩, hS.F ht9⟩) hS.2.2 dX12_test_28
      · skip
        refine lv_if_eq (tgt := 26) hx hb dX12_test_16 (by decide) (fun c14 => ?_) (fun c14 => ?_)
        · skip
          refine lv_ldc hx hb hown (ht _ m_1373) dX12_test_26 ?_
          exact W.iret (v := (-100002)) hx hb hr (fun t ht9 hW => ⟨⟨(-100002), (), rfl, (by unfold F_test; first | decide | ((repeat' split) <;> first | rfl | (exfalso; omega) | exact z_of (by decide) (by omega))), trivial⟩, hS.F ht9⟩) hS.2.2 dX12_test_28
        · exact absurd rfl c14
  · skip
    refine lv_if_eq (tgt := 26) hx hb dX12_test_9 (by decide) (fun c15 => ?_) (fun c15 => ?_)
    · skip
      refine lv_ldc hx hb hown (ht _ m_1373) dX12_test_26 ?_
      exact W.iret (v := (-100002)) hx hb hr (fun t ht9 hW => ⟨⟨(-100002), (), rfl, (by unfold F_test; first | decide | ((repeat' split) <;> first | rfl | (exfalso; omega) | exact z_of (by decide) (by omega))), trivial⟩, hS.F ht9⟩) hS.2.2 dX12_test_28
    · exact absurd rfl c15
end
section
set_option maxHeartbeats 4000000 in
set_option maxRecDepth 100000 in
/-- X12_error -/
theorem c_X12_error (l : Launch) (dC : Nat → ClassId) (dI : Nat → Nat → Nat) (h : Nat) (g : Nat → Nat → Nat) (ca : Nat → Nat → ClassId) (a : Int32) (b : Int32) (d : Int32) : Met l yX12_error (wc yX12_error cX12_error 4 (some .int)) ({ frames := 2, cells := 0, slots := 0, locals := 45 } : Room) (pR (dC, dI) classes [(h, .inr (12, (o12 h g)))] [] [.ref h, .int a, .int b, .int d]) (vp_Si (fun r => r = F_error a b d)) 0 0 (fun _ => False) := by
  refine Met.ofW (cc := cX12_error) (maxL := 4) (ret := (some .int)) (by decide) rfl ?_
  intro p e s m args below meth c s₁ B hml hv
  obtain ⟨rfl, hP, hK⟩ := hv
  have hx := B.exec
  have hb := B.bytes
  have hr := B.returns
  have ht := tb_tl (atoms_spec (ws := wc yX12_error cX12_error 4 (some .int)) B.pre)
  have hown : s.vm.findClass RX12 = some m.cls := findClass_of_methodNamed B.named
  have hlocks := B.notSynchronized
  have hl := lv_entry [.ref h, .int a, .int b, .int d] (n := 4) (Nat.le_of_ble_eq_true rfl)
  rw [lg_entry_eq]
  generalize (lg_sl [.ref h, .int a, .int b, .int d] ++ List.replicate (4 - (lg_sl [.ref h, .int a, .int b, .int d]).length) Slot.unset).toArray = ls at hl ⊢
  have hl : lv_has ls 4 [(0, .ref h), (1, .int a), (2, .int b), (3, .int d)] := hl
  refine lv_iload_n hx hb dX12_error_0 rfl (lv_at hl 1 rfl) ?_
  refine lv_i2l (v := (a.toInt64)) hx hb dX12_error_1 rfl ?_
  refine lv_lconst (v := 0) hx hb dX12_error_2 (by decide) ?_
  refine lv_ldc2 hx hb hown (ht _ m_1391) dX12_error_3 ?_
  have hPc := hP.sub (ws' := []) [] rfl
  have hKc := hK.sub (tys' := []) [] rfl
  refine vp_callSi (W.runS (As := [.long (a.toInt64), .long 0, .long 3]) (rest := []) ⟨hx, hb, hml, hown, ht⟩ (c_X12_in l dC dI (a.toInt64) 0 3 (a.toInt) (0) (3) ((Int32.toInt_toInt64 a).trans rfl) (by decide : (0 : Int64).toInt = 0) (by decide : (3 : Int64).toInt = 3)) (kS 3 ht m_1370 m_1371 m_89 m_1372 rfl rfl hd_X12_in_v ⟨Nat.le_of_ble_eq_true rfl, Nat.le_of_ble_eq_true rfl⟩) (sR hPc hKc) rfl rfl hl.1 rfl (lv_room (Nat.le_of_ble_eq_true rfl)) dX12_error_6 ⟨Nat.le_of_ble_eq_true rfl, Nat.le_of_ble_eq_true rfl⟩) (fun r1 hr1 => ?_)
  rcases hr1 with ⟨rfl, fr1⟩ | ⟨rfl, fr1⟩
  · skip
    refine lv_if_eq (tgt := 29) hx hb dX12_error_9 (by decide) (fun c2 => ?_) (fun c2 => ?_)
    · exact absurd c2 (by decide)
    · skip
      refine lv_iload_n hx hb dX12_error_12 rfl (lv_at hl 2 rfl) ?_
      have hPc := hP.sub (ws' := []) [] rfl
      have hKc := hK.sub (tys' := []) [] rfl
      refine vp_callSi (W.runS (As := [.int b]) (rest := []) ⟨hx, hb, hml, hown, ht⟩ (c_X12_isDay l dC dI b) (kS 1 ht m_1422 m_1423 m_89 m_1424 rfl rfl hd_X12_isDay_v ⟨Nat.le_of_ble_eq_true rfl, Nat.le_of_ble_eq_true rfl⟩) (sR hPc hKc) rfl rfl hl.1 rfl (lv_room (Nat.le_of_ble_eq_true rfl)) dX12_error_13 ⟨Nat.le_of_ble_eq_true rfl, Nat.le_of_ble_eq_true rfl⟩) (fun r3 hr3 => ?_)
      rcases hr3 with ⟨rfl, fr3⟩ | ⟨rfl, fr3⟩
      · skip
        refine lv_if_eq (tgt := 29) hx hb dX12_error_16 (by decide) (fun c4 => ?_) (fun c4 => ?_)
        · exact absurd c4 (by decide)
        · skip
          refine lv_iload_n hx hb dX12_error_19 rfl (lv_at hl 3 rfl) ?_
          refine lv_i2l (v := (d.toInt64)) hx hb dX12_error_20 rfl ?_
          refine lv_lconst (v := 0) hx hb dX12_error_21 (by decide) ?_
          refine lv_lconst (v := 1) hx hb dX12_error_22 (by decide) ?_
          have hPc := hP.sub (ws' := []) [] rfl
          have hKc := hK.sub (tys' := []) [] rfl
          refine vp_callSi (W.runS (As := [.long (d.toInt64), .long 0, .long 1]) (rest := []) ⟨hx, hb, hml, hown, ht⟩ (c_X12_in l dC dI (d.toInt64) 0 1 (d.toInt) (0) (1) ((Int32.toInt_toInt64 d).trans rfl) (by decide : (0 : Int64).toInt = 0) (by decide : (1 : Int64).toInt = 1)) (kS 3 ht m_1370 m_1371 m_89 m_1372 rfl rfl hd_X12_in_v ⟨Nat.le_of_ble_eq_true rfl, Nat.le_of_ble_eq_true rfl⟩) (sR hPc hKc) rfl rfl hl.1 rfl (lv_room (Nat.le_of_ble_eq_true rfl)) dX12_error_23 ⟨Nat.le_of_ble_eq_true rfl, Nat.le_of_ble_eq_true rfl⟩) (fun r5 hr5 => ?_)
          rcases hr5 with ⟨rfl, fr5⟩ | ⟨rfl, fr5⟩
          · skip
            refine lv_if_ne (tgt := 32) hx hb dX12_error_26 (by decide) (fun c6 => ?_) (fun c6 => ?_)
            · skip
              refine lv_aload_n hx hb dX12_error_32 rfl (lv_at hl 0 rfl) ?_
              refine lv_iload_n hx hb dX12_error_33 rfl (lv_at hl 1 rfl) ?_
              refine lv_iload_n hx hb dX12_error_34 rfl (lv_at hl 2 rfl) ?_
              refine lv_iload_n hx hb dX12_error_35 rfl (lv_at hl 3 rfl) ?_
              refine lv_iconst (v := 1) hx hb dX12_error_36 (by decide) ?_
              refine lv_icmp_ne (tgt := 44) hx hb dX12_error_37 (by decide) (fun c7 => ?_) (fun c7 => ?_)
              · have fc7 := z_ne (rfl : (d).toInt = _) (by decide : (1 : Int32).toInt = 1) c7
                refine lv_iconst (v := 0) hx hb dX12_error_44 (by decide) ?_
                have hPc := hP.sub (ws' := [(h, .inr (12, (o12 h g)))]) [0] rfl
                have hKc := hK.sub (tys' := []) [] rfl
                refine vp_callSi (W.runV (As := [.int a, .int b, .int 0]) (rest := []) ⟨hx, hb, hml, hown, ht⟩ (c_X12_errorOf l dC dI h g ca a b 0) (kV 3 ht m_1426 m_1428 m_44 m_89 m_1429 rfl rfl hd_X12_errorOf_v ⟨Nat.le_of_ble_eq_true rfl, Nat.le_of_ble_eq_true rfl⟩) (vR hPc hKc (va_recv hKc hPc (ci := 12) (q0 := 0) rfl rfl)) rfl rfl hl.1 rfl (lv_room (Nat.le_of_ble_eq_true rfl)) dX12_error_45 ⟨Nat.le_of_ble_eq_true rfl, Nat.le_of_ble_eq_true rfl⟩) (fun r8 hr8 => ?_)
                obtain rfl : 0 = r8 := hr8.symm
                exact W.iret (v := 0) hx hb hr (fun t ht9 hW => ⟨0, rfl, (by unfold F_error; first | decide | ((repeat' split) <;> first | rfl | (exfalso; omega) | exact z_of (by decide) (by omega))), ht9⟩) (fun q hq => by cases hq) dX12_error_48
              · have fc7 := z_eq (rfl : (d).toInt = _) (by decide : (1 : Int32).toInt = 1) c7
                refine lv_iconst (v := 1) hx hb dX12_error_40 (by decide) ?_
                refine lv_goto (tgt := 45) hx hb dX12_error_41 (by decide) ?_
                have hPc := hP.sub (ws' := [(h, .inr (12, (o12 h g)))]) [0] rfl
                have hKc := hK.sub (tys' := []) [] rfl
                refine vp_callSi (W.runV (As := [.int a, .int b, .int 1]) (rest := []) ⟨hx, hb, hml, hown, ht⟩ (c_X12_errorOf l dC dI h g ca a b 1) (kV 3 ht m_1426 m_1428 m_44 m_89 m_1429 rfl rfl hd_X12_errorOf_v ⟨Nat.le_of_ble_eq_true rfl, Nat.le_of_ble_eq_true rfl⟩) (vR hPc hKc (va_recv hKc hPc (ci := 12) (q0 := 0) rfl rfl)) rfl rfl hl.1 rfl (lv_room (Nat.le_of_ble_eq_true rfl)) dX12_error_45 ⟨Nat.le_of_ble_eq_true rfl, Nat.le_of_ble_eq_true rfl⟩) (fun r9 hr9 => ?_)
                obtain rfl : 0 = r9 := hr9.symm
                exact W.iret (v := 0) hx hb hr (fun t ht9 hW => ⟨0, rfl, (by unfold F_error; first | decide | ((repeat' split) <;> first | rfl | (exfalso; omega) | exact z_of (by decide) (by omega))), ht9⟩) (fun q hq => by cases hq) dX12_error_48
            · exact absurd c6 (by decide)
          · skip
            refine lv_if_ne (tgt := 32) hx hb dX12_error_26 (by decide) (fun c10 => ?_) (fun c10 => ?_)
            · exact absurd rfl c10
            · skip
              refine lv_ldc hx hb hown (ht _ m_1373) dX12_error_29 ?_
              exact W.iret (v := (-100002)) hx hb hr (fun t ht9 hW => ⟨(-100002), rfl, (by unfold F_error; first | decide | ((repeat' split) <;> first | rfl | (exfalso; omega) | exact z_of (by decide) (by omega))), ht9⟩) (fun q hq => by cases hq) dX12_error_31
      · skip
        refine lv_if_eq (tgt := 29) hx hb dX12_error_16 (by decide) (fun c11 => ?_) (fun c11 => ?_)
        · skip
          refine lv_ldc hx hb hown (ht _ m_1373) dX12_error_29 ?_
          exact W.iret (v := (-100002)) hx hb hr (fun t ht9 hW => ⟨(-100002), rfl, (by unfold F_error; first | decide | ((repeat' split) <;> first | rfl | (exfalso; omega) | exact z_of (by decide) (by omega))), ht9⟩) (fun q hq => by cases hq) dX12_error_31
        · exact absurd rfl c11
  · skip
    refine lv_if_eq (tgt := 29) hx hb dX12_error_9 (by decide) (fun c12 => ?_) (fun c12 => ?_)
    · skip
      refine lv_ldc hx hb hown (ht _ m_1373) dX12_error_29 ?_
      exact W.iret (v := (-100002)) hx hb hr (fun t ht9 hW => ⟨(-100002), rfl, (by unfold F_error; first | decide | ((repeat' split) <;> first | rfl | (exfalso; omega) | exact z_of (by decide) (by omega))), ht9⟩) (fun q hq => by cases hq) dX12_error_31
    · exact absurd rfl c12
set_option maxHeartbeats 4000000 in
set_option maxRecDepth 100000 in
/-- X12_count -/
theorem c_X12_count (l : Launch) (dC : Nat → ClassId) (dI : Nat → Nat → Nat) (h : Nat) (g : Nat → Nat → Nat) (ca : Nat → Nat → ClassId) (n : Int32) : Met l yX12_count (wc yX12_count cX12_count 5 (some .int)) ({ frames := 1, cells := 0, slots := 0, locals := 23 } : Room) (pR (dC, dI) classes [(h, .inr (12, (o12 h g)))] [] [.ref h, .int n]) (vp_Si (fun r => r = F_count n)) 0 0 (fun _ => False) := by
  refine Met.ofW (cc := cX12_count) (maxL := 5) (ret := (some .int)) (by decide) rfl ?_
  intro p e s m args below meth c s₁ B hml hv
  obtain ⟨rfl, hP, hK⟩ := hv
  have hx := B.exec
  have hb := B.bytes
  have hr := B.returns
  have ht := tb_tl (atoms_spec (ws := wc yX12_count cX12_count 5 (some .int)) B.pre)
  have hown : s.vm.findClass RX12 = some m.cls := findClass_of_methodNamed B.named
  have hlocks := B.notSynchronized
  have hl := lv_entry [.ref h, .int n] (n := 5) (Nat.le_of_ble_eq_true rfl)
  rw [lg_entry_eq]
  generalize (lg_sl [.ref h, .int n] ++ List.replicate (5 - (lg_sl [.ref h, .int n]).length) Slot.unset).toArray = ls at hl ⊢
  have hl : lv_has ls 5 [(0, .ref h), (1, .int n)] := hl
  refine lv_iconst (v := 0) hx hb dX12_count_0 (by decide) ?_
  refine lv_istore_n (lv' := [(2, .int 0), (0, .ref h), (1, .int n)]) hx hb dX12_count_1 rfl hl (by decide) rfl (fun ls hl => ?_)
  refine lv_iconst (v := 0) hx hb dX12_count_2 (by decide) ?_
  refine lv_istore_n (lv' := [(3, .int 0), (2, .int 0), (0, .ref h), (1, .int n)]) hx hb dX12_count_3 rfl hl (by decide) rfl (fun ls hl => ?_)
  refine lv_iconst (v := 0) hx hb dX12_count_4 (by decide) ?_
  refine lv_istore (lv' := [(4, .int 0), (3, .int 0), (2, .int 0), (0, .ref h), (1, .int n)]) hx hb dX12_count_5 hl (by decide) rfl (fun ls hl => ?_)
  refine lv_iload hx hb dX12_count_7 (lv_at hl 0 rfl) ?_
  refine lv_aload_n hx hb dX12_count_9 rfl (lv_at hl 3 rfl) ?_
  refine va_get (D := (dC, dI)) (ci := 12) (v := .int 0) (C := RX12) (T := TX12) (N := 75) hx hb ht inX12 hown hK hP 0 rfl rfl 3 (by decide) (ht _ m_1142) (fun _ h9 => h9) rfl dX12_count_10 ?_
  refine lv_icmp_ge (tgt := 43) hx hb dX12_count_13 (by decide) (fun c1 => ?_) (fun c1 => ?_)
  · skip
    refine lv_iconst (v := 0) hx hb dX12_count_43 (by decide) ?_
    refine lv_istore (lv' := [(4, .int 0), (3, .int 0), (2, .int 0), (0, .ref h), (1, .int n)]) hx hb dX12_count_44 hl (by decide) rfl (fun ls hl => ?_)
    refine lv_iload hx hb dX12_count_46 (lv_at hl 0 rfl) ?_
    refine lv_aload_n hx hb dX12_count_48 rfl (lv_at hl 3 rfl) ?_
    refine va_get (D := (dC, dI)) (ci := 12) (v := .int 0) (C := RX12) (T := TX12) (N := 75) hx hb ht inX12 hown hK hP 0 rfl rfl 67 (by decide) (ht _ m_1206) (fun _ h9 => h9) rfl dX12_count_49 ?_
    refine lv_icmp_ge (tgt := 71) hx hb dX12_count_52 (by decide) (fun c2 => ?_) (fun c2 => ?_)
    · skip
      refine lv_iload_n hx hb dX12_count_71 rfl (lv_at hl 4 rfl) ?_
      rcases sw_0_10 n with h3 | rfl | rfl | rfl | rfl | rfl | rfl | rfl | rfl | rfl | rfl | rfl
      · refine lv_tableOut (tgt := 183) hx hb dX12_count_72 h3 (by decide) ?_
        refine lv_ldc hx hb hown (ht _ m_1373) dX12_count_183 ?_
        exact W.iret (v := (-100002)) hx hb hr (fun t ht9 hW => ⟨(-100002), rfl, (by unfold F_count; first | decide | ((repeat' split) <;> first | rfl | (exfalso; omega) | exact z_of (by decide) (by omega))), ht9⟩) (fun q hq => by cases hq) dX12_count_185
      · refine lv_tableIn (tgt := 132) (off := 60) hx hb dX12_count_72 (by decide) (by decide) rfl (by decide) ?_
        refine lv_aload_n hx hb dX12_count_132 rfl (lv_at hl 3 rfl) ?_
        refine va_get (D := (dC, dI)) (ci := 12) (v := .int 0) (C := RX12) (T := TX12) (N := 75) hx hb ht inX12 hown hK hP 0 rfl rfl 0 (by decide) (ht _ m_1139) (fun _ h9 => h9) rfl dX12_count_133 ?_
        exact W.iret (v := 0) hx hb hr (fun t ht9 hW => ⟨0, rfl, (by unfold F_count; first | decide | ((repeat' split) <;> first | rfl | (exfalso; omega) | exact z_of (by decide) (by omega))), ht9⟩) (fun q hq => by cases hq) dX12_count_136
      · refine lv_tableIn (tgt := 137) (off := 65) hx hb dX12_count_72 (by decide) (by decide) rfl (by decide) ?_
        refine lv_aload_n hx hb dX12_count_137 rfl (lv_at hl 3 rfl) ?_
        refine va_get (D := (dC, dI)) (ci := 12) (v := .int 0) (C := RX12) (T := TX12) (N := 75) hx hb ht inX12 hown hK hP 0 rfl rfl 1 (by decide) (ht _ m_1140) (fun _ h9 => h9) rfl dX12_count_138 ?_
        exact W.iret (v := 0) hx hb hr (fun t ht9 hW => ⟨0, rfl, (by unfold F_count; first | decide | ((repeat' split) <;> first | rfl | (exfalso; omega) | exact z_of (by decide) (by omega))), ht9⟩) (fun q hq => by cases hq) dX12_count_141
      · refine lv_tableIn (tgt := 142) (off := 70) hx hb dX12_count_72 (by decide) (by decide) rfl (by decide) ?_
        refine lv_aload_n hx hb dX12_count_142 rfl (lv_at hl 3 rfl) ?_
        refine va_get (D := (dC, dI)) (ci := 12) (v := .int 0) (C := RX12) (T := TX12) (N := 75) hx hb ht inX12 hown hK hP 0 rfl rfl 3 (by decide) (ht _ m_1142) (fun _ h9 => h9) rfl dX12_count_143 ?_
        exact W.iret (v := 0) hx hb hr (fun t ht9 hW => ⟨0, rfl, (by unfold F_count; first | decide | ((repeat' split) <;> first | rfl | (exfalso; omega) | exact z_of (by decide) (by omega))), ht9⟩) (fun q hq => by cases hq) dX12_count_146
      · refine lv_tableIn (tgt := 147) (off := 75) hx hb dX12_count_72 (by decide) (by decide) rfl (by decide) ?_
        refine lv_iload_n hx hb dX12_count_147 rfl (lv_at hl 2 rfl) ?_
        exact W.iret (v := 0) hx hb hr (fun t ht9 hW => ⟨0, rfl, (by unfold F_count; first | decide | ((repeat' split) <;> first | rfl | (exfalso; omega) | exact z_of (by decide) (by omega))), ht9⟩) (fun q hq => by cases hq) dX12_count_148
      · refine lv_tableIn (tgt := 149) (off := 77) hx hb dX12_count_72 (by decide) (by decide) rfl (by decide) ?_
        refine lv_aload_n hx hb dX12_count_149 rfl (lv_at hl 3 rfl) ?_
        refine va_get (D := (dC, dI)) (ci := 12) (v := .int 0) (C := RX12) (T := TX12) (N := 75) hx hb ht inX12 hown hK hP 0 rfl rfl 13 (by decide) (ht _ m_1152) (fun _ h9 => h9) rfl dX12_count_150 ?_
        exact W.iret (v := 0) hx hb hr (fun t ht9 hW => ⟨0, rfl, (by unfold F_count; first | decide | ((repeat' split) <;> first | rfl | (exfalso; omega) | exact z_of (by decide) (by omega))), ht9⟩) (fun q hq => by cases hq) dX12_count_153
      · refine lv_tableIn (tgt := 154) (off := 82) hx hb dX12_count_72 (by decide) (by decide) rfl (by decide) ?_
        refine lv_aload_n hx hb dX12_count_154 rfl (lv_at hl 3 rfl) ?_
        refine va_get (D := (dC, dI)) (ci := 12) (v := .int 0) (C := RX12) (T := TX12) (N := 75) hx hb ht inX12 hown hK hP 0 rfl rfl 23 (by decide) (ht _ m_1162) (fun _ h9 => h9) rfl dX12_count_155 ?_
        exact W.iret (v := 0) hx hb hr (fun t ht9 hW => ⟨0, rfl, (by unfold F_count; first | decide | ((repeat' split) <;> first | rfl | (exfalso; omega) | exact z_of (by decide) (by omega))), ht9⟩) (fun q hq => by cases hq) dX12_count_158
      · refine lv_tableIn (tgt := 159) (off := 87) hx hb dX12_count_72 (by decide) (by decide) rfl (by decide) ?_
        refine lv_aload_n hx hb dX12_count_159 rfl (lv_at hl 3 rfl) ?_
        refine va_get (D := (dC, dI)) (ci := 12) (v := .int 0) (C := RX12) (T := TX12) (N := 75) hx hb ht inX12 hown hK hP 0 rfl rfl 67 (by decide) (ht _ m_1206) (fun _ h9 => h9) rfl dX12_count_160 ?_
        exact W.iret (v := 0) hx hb hr (fun t ht9 hW => ⟨0, rfl, (by unfold F_count; first | decide | ((repeat' split) <;> first | rfl | (exfalso; omega) | exact z_of (by decide) (by omega))), ht9⟩) (fun q hq => by cases hq) dX12_count_163
      · refine lv_tableIn (tgt := 164) (off := 92) hx hb dX12_count_72 (by decide) (by decide) rfl (by decide) ?_
        refine lv_aload_n hx hb dX12_count_164 rfl (lv_at hl 3 rfl) ?_
        refine lv_iconst (v := 1) hx hb dX12_count_165 (by decide) ?_
        have hPc := hP.sub (ws' := [(h, .inr (12, (o12 h g)))]) [0] rfl
        have hKc := hK.sub (tys' := []) [] rfl
        refine vp_callSi (W.runV (As := [.int 1]) (rest := []) ⟨hx, hb, hml, hown, ht⟩ (c_X12_balesIn l dC dI h g ca 1) (kV 1 ht m_1712 m_1714 m_75 m_89 m_1715 rfl rfl hd_X12_balesIn_v ⟨Nat.le_of_ble_eq_true rfl, Nat.le_of_ble_eq_true rfl⟩) (vR hPc hKc (va_recv hKc hPc (ci := 12) (q0 := 0) rfl rfl)) rfl rfl hl.1 rfl (lv_room (Nat.le_of_ble_eq_true rfl)) dX12_count_166 ⟨Nat.le_of_ble_eq_true rfl, Nat.le_of_ble_eq_true rfl⟩) (fun r4 hr4 => ?_)
        obtain rfl : 0 = r4 := hr4.symm
        exact W.iret (v := 0) hx hb hr (fun t ht9 hW => ⟨0, rfl, (by unfold F_count; first | decide | ((repeat' split) <;> first | rfl | (exfalso; omega) | exact z_of (by decide) (by omega))), ht9⟩) (fun q hq => by cases hq) dX12_count_169
      · refine lv_tableIn (tgt := 170) (off := 98) hx hb dX12_count_72 (by decide) (by decide) rfl (by decide) ?_
        refine lv_aload_n hx hb dX12_count_170 rfl (lv_at hl 3 rfl) ?_
        refine lv_iconst (v := 2) hx hb dX12_count_171 (by decide) ?_
        have hPc := hP.sub (ws' := [(h, .inr (12, (o12 h g)))]) [0] rfl
        have hKc := hK.sub (tys' := []) [] rfl
        refine vp_callSi (W.runV (As := [.int 2]) (rest := []) ⟨hx, hb, hml, hown, ht⟩ (c_X12_balesIn l dC dI h g ca 2) (kV 1 ht m_1712 m_1714 m_75 m_89 m_1715 rfl rfl hd_X12_balesIn_v ⟨Nat.le_of_ble_eq_true rfl, Nat.le_of_ble_eq_true rfl⟩) (vR hPc hKc (va_recv hKc hPc (ci := 12) (q0 := 0) rfl rfl)) rfl rfl hl.1 rfl (lv_room (Nat.le_of_ble_eq_true rfl)) dX12_count_172 ⟨Nat.le_of_ble_eq_true rfl, Nat.le_of_ble_eq_true rfl⟩) (fun r5 hr5 => ?_)
        obtain rfl : 0 = r5 := hr5.symm
        exact W.iret (v := 0) hx hb hr (fun t ht9 hW => ⟨0, rfl, (by unfold F_count; first | decide | ((repeat' split) <;> first | rfl | (exfalso; omega) | exact z_of (by decide) (by omega))), ht9⟩) (fun q hq => by cases hq) dX12_count_175
      · refine lv_tableIn (tgt := 176) (off := 104) hx hb dX12_count_72 (by decide) (by decide) rfl (by decide) ?_
        refine lv_aload_n hx hb dX12_count_176 rfl (lv_at hl 3 rfl) ?_
        refine va_get (D := (dC, dI)) (ci := 12) (v := .int 0) (C := RX12) (T := TX12) (N := 75) hx hb ht inX12 hown hK hP 0 rfl rfl 33 (by decide) (ht _ m_1172) (fun _ h9 => h9) rfl dX12_count_177 ?_
        exact W.iret (v := 0) hx hb hr (fun t ht9 hW => ⟨0, rfl, (by unfold F_count; first | decide | ((repeat' split) <;> first | rfl | (exfalso; omega) | exact z_of (by decide) (by omega))), ht9⟩) (fun q hq => by cases hq) dX12_count_180
      · refine lv_tableIn (tgt := 181) (off := 109) hx hb dX12_count_72 (by decide) (by decide) rfl (by decide) ?_
        refine lv_iload_n hx hb dX12_count_181 rfl (lv_at hl 1 rfl) ?_
        exact W.iret (v := 0) hx hb hr (fun t ht9 hW => ⟨0, rfl, (by unfold F_count; first | decide | ((repeat' split) <;> first | rfl | (exfalso; omega) | exact z_of (by decide) (by omega))), ht9⟩) (fun q hq => by cases hq) dX12_count_182
    · exact absurd rfl c2
  · exact absurd rfl c1
set_option maxHeartbeats 4000000 in
set_option maxRecDepth 100000 in
/-- X12_feed -/
theorem c_X12_feed (l : Launch) (dC : Nat → ClassId) (dI : Nat → Nat → Nat) (sz : Nat) (h : Nat) (g : Nat → Nat → Nat) (ca : Nat → Nat → ClassId) (n : Int32) (k : Int64) : Met l yX12_feed (wc yX12_feed cX12_feed 5 (some .int)) ({ frames := 1, cells := 0, slots := 0, locals := 25 } : Room) (pW (dC, dI) classes [(h, .inr (12, (o12 h g))), ((g 12 32), .inl ((ca 12 32), 200, .inl (fun _ => 0)))] [((ca 12 32), .int)] sz [.ref h, .int n, .long k]) (va_Qi (fun r (_ : Unit) => r = F_feed n) (fun _ _ => True) (va_A [(h, .inr (12, (o12 h g))), ((g 12 32), .inl ((ca 12 32), 200, .inl (fun _ => 0)))] sz)) 0 0 (va_A [(h, .inr (12, (o12 h g))), ((g 12 32), .inl ((ca 12 32), 200, .inl (fun _ => 0)))] sz) := by
  refine Met.ofW (cc := cX12_feed) (maxL := 5) (ret := (some .int)) (by decide) rfl ?_
  intro p e s m args below meth c s₁ B hml hv
  obtain ⟨rfl, hsz, hP, hK, hD0⟩ := hv
  have hx := B.exec
  have hb := B.bytes
  have hr := B.returns
  have ht := tb_tl (atoms_spec (ws := wc yX12_feed cX12_feed 5 (some .int)) B.pre)
  have hown : s.vm.findClass RX12 = some m.cls := findClass_of_methodNamed B.named
  have hlocks := B.notSynchronized
  subst hsz
  have hD := hD0.self (sz := s.heap.size)
  generalize hAe : va_A [(h, .inr (12, (o12 h g))), ((g 12 32), .inl ((ca 12 32), 200, .inl (fun _ => 0)))] s.heap.size = A at hD ⊢
  have hA : ∀ q : Nat, s.heap.size ≤ q → A q := fun q h => by rw [← hAe]; exact Or.inr h
  have hS : va_S A s.heap s.heap [] := va_S.rf
  have hP : va_P (dC, dI) classes [(h, .inr (12, (o12 h g))), ((g 12 32), .inl ((ca 12 32), 200, .inl (fun _ => 0)))] s.heap := hP
  have hl := lv_entry [.ref h, .int n, .long k] (n := 5) (Nat.le_of_ble_eq_true rfl)
  rw [lg_entry_eq]
  generalize (lg_sl [.ref h, .int n, .long k] ++ List.replicate (5 - (lg_sl [.ref h, .int n, .long k]).length) Slot.unset).toArray = ls at hl ⊢
  have hl : lv_has ls 5 [(0, .ref h), (1, .int n), (2, .long k)] := hl
  refine lv_iload_n hx hb dX12_feed_0 rfl (lv_at hl 1 rfl) ?_
  refine lv_i2l (v := (n.toInt64)) hx hb dX12_feed_1 rfl ?_
  refine lv_lconst (v := 1) hx hb dX12_feed_2 (by decide) ?_
  refine lv_ldc2 hx hb hown (ht _ m_1452) dX12_feed_3 ?_
  have hPc := hP.sub (ws' := []) [] rfl
  have hKc := hK.sub (tys' := []) [] rfl
  refine vp_callSi (W.runS (As := [.long (n.toInt64), .long 1, .long 8]) (rest := []) ⟨hx, hb, hml, hown, ht⟩ (c_X12_in l dC dI (n.toInt64) 1 8 (n.toInt) (1) (8) ((Int32.toInt_toInt64 n).trans rfl) (by decide : (1 : Int64).toInt = 1) (by decide : (8 : Int64).toInt = 8)) (kS 3 ht m_1370 m_1371 m_89 m_1372 rfl rfl hd_X12_in_v ⟨Nat.le_of_ble_eq_true rfl, Nat.le_of_ble_eq_true rfl⟩) (sR hPc hKc) rfl rfl hl.1 rfl (lv_room (Nat.le_of_ble_eq_true rfl)) dX12_feed_6 ⟨Nat.le_of_ble_eq_true rfl, Nat.le_of_ble_eq_true rfl⟩) (fun r1 hr1 => ?_)
  rcases hr1 with ⟨rfl, fr1⟩ | ⟨rfl, fr1⟩
  · skip
    refine lv_if_ne (tgt := 15) hx hb dX12_feed_9 (by decide) (fun c2 => ?_) (fun c2 => ?_)
    · skip
      refine lv_aload_n hx hb dX12_feed_15 rfl (lv_at hl 0 rfl) ?_
      refine va_get (D := (dC, dI)) (ci := 12) (v := .int 0) (C := RX12) (T := TX12) (N := 75) hx hb ht inX12 hown hK hP 0 rfl rfl 33 (by decide) (ht _ m_1172) (fun _ h9 => h9) rfl dX12_feed_16 ?_
      refine lv_iload_n hx hb dX12_feed_19 rfl (lv_at hl 1 rfl) ?_
      refine lv_iadd hx hb dX12_feed_20 ?_
      refine lv_topi (fun v3 ev3 => ?_)
      obtain rfl : n = v3 := (ev3.trans (Int32.zero_add _)).symm
      refine lv_sipush (v := 200) hx hb dX12_feed_21 (by decide) ?_
      refine lv_icmp_le (tgt := 30) hx hb dX12_feed_24 (by decide) (fun c4 => ?_) (fun c4 => ?_)
      · skip
        refine lv_iload_n hx hb dX12_feed_30 rfl (lv_at hl 1 rfl) ?_
        refine lv_iconst (v := 1) hx hb dX12_feed_31 (by decide) ?_
        refine lv_isub hx hb dX12_feed_32 ?_
        refine lv_topi (fun v5 ev5 => ?_)
        have tv5 := z_sub ev5 (rfl : (n).toInt = _) (by decide : (1 : Int32).toInt = 1) (by omega) (by omega)
        refine lv_istore (lv' := [(4, .int v5), (0, .ref h), (1, .int n), (2, .long k)]) hx hb dX12_feed_33 hl (by decide) rfl (fun ls hl => ?_)
        refine lv_iload hx hb dX12_feed_35 (lv_at hl 0 rfl) ?_
        refine lv_if_lt (tgt := 77) hx hb dX12_feed_37 (by decide) (fun c6 => ?_) (fun c6 => ?_)
        · have fc6 := z_lt (rfl : (v5).toInt = _) (by decide : (0 : Int32).toInt = 0) c6; exfalso; omega
        · skip
          refine lv_aload_n hx hb dX12_feed_40 rfl (lv_at hl 1 rfl) ?_
          refine va_get (D := (dC, dI)) (ci := 12) (v := .ref (g 12 32)) (C := RX12) (T := TX12) (N := 75) hx hb ht inX12 hown hK hP 0 rfl rfl 32 (by decide) (ht _ m_1171) (fun _ h9 => h9) rfl dX12_feed_41 ?_
          refine lv_aload_n hx hb dX12_feed_44 rfl (lv_at hl 1 rfl) ?_
          refine va_get (D := (dC, dI)) (ci := 12) (v := .int 0) (C := RX12) (T := TX12) (N := 75) hx hb ht inX12 hown hK hP 0 rfl rfl 33 (by decide) (ht _ m_1172) (fun _ h9 => h9) rfl dX12_feed_45 ?_
          refine lv_lload_n hx hb dX12_feed_48 rfl (lv_at hl 3 rfl) ?_
          refine lv_bipush (v := 8) hx hb dX12_feed_49 (by decide) ?_
          refine lv_iload hx hb dX12_feed_51 (lv_at hl 0 rfl) ?_
          refine lv_imul hx hb dX12_feed_53 ?_
          refine lv_topi (fun v7 ev7 => ?_)
          obtain ⟨w8, ew8⟩ : ∃ y : Int64, k >>> ((v7 : Int32).toInt64 &&& 63) = y := ⟨_, rfl⟩
          refine lv_lshr (v := w8) hx hb dX12_feed_54 ew8 ?_
          refine lv_ldc2 hx hb hown (ht _ m_1453) dX12_feed_55 ?_
          refine lv_land hx hb dX12_feed_58 ?_
          refine lv_topl (fun w9 ew9 => ?_)
          obtain ⟨v10, ev10⟩ : ∃ y : Int32, w9.toInt32 = y := ⟨_, rfl⟩
          refine lv_l2i (v := v10) hx hb dX12_feed_59 ev10 ?_
          refine va_iast (D := (dC, dI)) hx hb hK hP hD hS 1 0 rfl rfl (by decide) dX12_feed_60 (fun H locs hP hD hS => ?_)
          obtain ⟨f11, hP, hD⟩ : ∃ f11 : Nat → Int32, va_P (dC, dI) classes [(h, .inr (12, (o12 h g))), ((g 12 32), .inl ((ca 12 32), 200, .inl f11))] H ∧ va_D A [(h, .inr (12, (o12 h g))), ((g 12 32), .inl ((ca 12 32), 200, .inl f11))] := ⟨_, hP, hD⟩
          refine lv_aload_n hx hb dX12_feed_61 rfl (lv_at hl 1 rfl) ?_
          refine lv_dup hx hb dX12_feed_62 rfl ?_
          refine va_get (D := (dC, dI)) (ci := 12) (v := .int 0) (C := RX12) (T := TX12) (N := 75) hx hb ht inX12 hown hK hP 0 rfl rfl 33 (by decide) (ht _ m_1172) (fun _ h9 => h9) rfl dX12_feed_63 ?_
          refine lv_iconst (v := 1) hx hb dX12_feed_66 (by decide) ?_
          refine lv_iadd hx hb dX12_feed_67 ?_
          refine lv_topi (fun v12 ev12 => ?_)
          obtain rfl : 1 = v12 := (ev12.trans (by decide)).symm
          refine va_put (D := (dC, dI)) (ci := 12) (v := .int 1) (ty := (.int)) (C := RX12) (T := TX12) (N := 75) hx hb ht inX12 tyX12 tyX12_ok nmX12 hown hK hP hD hS 0 rfl rfl 33 (by decide) (ht _ m_1172) (fun _ h9 => h9) rfl (by decide +kernel) rfl rfl (Nat.le_of_ble_eq_true rfl) dX12_feed_68 (fun H locs hP hD hS => ?_)
          have hP : va_P (dC, dI) classes [(h, .inr (12, [.int 0, .int 0, .ref (g 12 2), .int 0, .ref (g 12 4), .ref (g 12 5), .ref (g 12 6), .ref (g 12 7), .ref (g 12 8), .ref (g 12 9), .ref (g 12 10), .ref (g 12 11), .ref (g 12 12), .int 0, .ref (g 12 14), .ref (g 12 15), .ref (g 12 16), .long 0, .long 0, .int 0, .int (-1), .int (-1), .int (-1), .int 0, .ref (g 12 24), .ref (g 12 25), .ref (g 12 26), .ref (g 12 27), .ref (g 12 28), .ref (g 12 29), .ref (g 12 30), .ref (g 12 31), .ref (g 12 32), .int 1, .int 0, .int 0, .int (-1), .int 0, .int 0, .ref (g 12 39), .ref (g 12 40), .int 0, .ref (g 12 42), .ref (g 12 43), .long 0, .long 0, .long 0, .long 0, .int 0, .ref (g 12 49), .ref (g 12 50), .ref (g 12 51), .ref (g 12 52), .ref (g 12 53), .ref (g 12 54), .ref (g 12 55), .ref (g 12 56), .int 0, .ref (g 12 58), .ref (g 12 59), .int 0, .int 0, .int 0, .ref (g 12 63), .ref (g 12 64), .int 0, .int 0, .int 0, .ref (g 12 68), .ref (g 12 69), .ref (g 12 70), .ref (g 12 71), .ref (g 12 72), .ref (g 12 73), .ref (g 12 74)])), ((g 12 32), .inl ((ca 12 32), 200, .inl f11))] H := hP
          have hD : va_D A [(h, .inr (12, [.int 0, .int 0, .ref (g 12 2), .int 0, .ref (g 12 4), .ref (g 12 5), .ref (g 12 6), .ref (g 12 7), .ref (g 12 8), .ref (g 12 9), .ref (g 12 10), .ref (g 12 11), .ref (g 12 12), .int 0, .ref (g 12 14), .ref (g 12 15), .ref (g 12 16), .long 0, .long 0, .int 0, .int (-1), .int (-1), .int (-1), .int 0, .ref (g 12 24), .ref (g 12 25), .ref (g 12 26), .ref (g 12 27), .ref (g 12 28), .ref (g 12 29), .ref (g 12 30), .ref (g 12 31), .ref (g 12 32), .int 1, .int 0, .int 0, .int (-1), .int 0, .int 0, .ref (g 12 39), .ref (g 12 40), .int 0, .ref (g 12 42), .ref (g 12 43), .long 0, .long 0, .long 0, .long 0, .int 0, .ref (g 12 49), .ref (g 12 50), .ref (g 12 51), .ref (g 12 52), .ref (g 12 53), .ref (g 12 54), .ref (g 12 55), .ref (g 12 56), .int 0, .ref (g 12 58), .ref (g 12 59), .int 0, .int 0, .int 0, .ref (g 12 63), .ref (g 12 64), .int 0, .int 0, .int 0, .ref (g 12 68), .ref (g 12 69), .ref (g 12 70), .ref (g 12 71), .ref (g 12 72), .ref (g 12 73), .ref (g 12 74)])), ((g 12 32), .inl ((ca 12 32), 200, .inl f11))] := hD
          obtain ⟨v13, ev13⟩ : ∃ y : Int32, y = v5 + (-1) := ⟨_, rfl⟩
          have tv13 := z_add ev13 rfl (by decide : ((-1) : Int32).toInt = (-1)) (by omega) (by omega)
          refine lv_iinc (v := v13) (lv' := [(4, .int v13), (0, .ref h), (1, .int n), (2, .long k)]) hx hb dX12_feed_71 hl (k := 0) rfl (by rw [ev13]; rfl) (by decide) rfl (fun ls hl => ?_)
          refine lv_goto (tgt := 35) hx hb dX12_feed_74 (by decide) ?_
          refine lv_iload hx hb dX12_feed_35 (lv_at hl 0 rfl) ?_
          refine lv_if_lt (tgt := 77) hx hb dX12_feed_37 (by decide) (fun c14 => ?_) (fun c14 => ?_)
          · have fc14 := z_lt (rfl : (v13).toInt = _) (by decide : (0 : Int32).toInt = 0) c14
            refine lv_aload_n hx hb dX12_feed_77 rfl (lv_at hl 1 rfl) ?_
            refine va_get (D := (dC, dI)) (ci := 12) (v := .int 1) (C := RX12) (T := TX12) (N := 75) hx hb ht inX12 hown hK hP 0 rfl rfl 33 (by decide) (ht _ m_1172) (fun _ h9 => h9) rfl dX12_feed_78 ?_
            exact W.iret (v := 1) hx hb hr (fun t ht9 hW => ⟨⟨1, (), rfl, (by unfold F_feed; first | decide | ((repeat' split) <;> first | rfl | (exfalso; omega) | exact z_of (by decide) (by omega))), trivial⟩, hS.F ht9⟩) hS.2.2 dX12_feed_81
          · have fc14 := z_nlt (rfl : (v13).toInt = _) (by decide : (0 : Int32).toInt = 0) c14
            refine lv_aload_n hx hb dX12_feed_40 rfl (lv_at hl 1 rfl) ?_
            refine va_get (D := (dC, dI)) (ci := 12) (v := .ref (g 12 32)) (C := RX12) (T := TX12) (N := 75) hx hb ht inX12 hown hK hP 0 rfl rfl 32 (by decide) (ht _ m_1171) (fun _ h9 => h9) rfl dX12_feed_41 ?_
            refine lv_aload_n hx hb dX12_feed_44 rfl (lv_at hl 1 rfl) ?_
            refine va_get (D := (dC, dI)) (ci := 12) (v := .int 1) (C := RX12) (T := TX12) (N := 75) hx hb ht inX12 hown hK hP 0 rfl rfl 33 (by decide) (ht _ m_1172) (fun _ h9 => h9) rfl dX12_feed_45 ?_
            refine lv_lload_n hx hb dX12_feed_48 rfl (lv_at hl 3 rfl) ?_
            refine lv_bipush (v := 8) hx hb dX12_feed_49 (by decide) ?_
            refine lv_iload hx hb dX12_feed_51 (lv_at hl 0 rfl) ?_
            refine lv_imul hx hb dX12_feed_53 ?_
            refine lv_topi (fun v15 ev15 => ?_)
            obtain ⟨w16, ew16⟩ : ∃ y : Int64, k >>> ((v15 : Int32).toInt64 &&& 63) = y := ⟨_, rfl⟩
            refine lv_lshr (v := w16) hx hb dX12_feed_54 ew16 ?_
            refine lv_ldc2 hx hb hown (ht _ m_1453) dX12_feed_55 ?_
            refine lv_land hx hb dX12_feed_58 ?_
            refine lv_topl (fun w17 ew17 => ?_)
            obtain ⟨v18, ev18⟩ : ∃ y : Int32, w17.toInt32 = y := ⟨_, rfl⟩
            refine lv_l2i (v := v18) hx hb dX12_feed_59 ev18 ?_
            refine va_iast (D := (dC, dI)) hx hb hK hP hD hS 1 0 rfl rfl (by decide) dX12_feed_60 (fun H locs hP hD hS => ?_)
            obtain ⟨f19, hP, hD⟩ : ∃ f19 : Nat → Int32, va_P (dC, dI) classes [(h, .inr (12, [.int 0, .int 0, .ref (g 12 2), .int 0, .ref (g 12 4), .ref (g 12 5), .ref (g 12 6), .ref (g 12 7), .ref (g 12 8), .ref (g 12 9), .ref (g 12 10), .ref (g 12 11), .ref (g 12 12), .int 0, .ref (g 12 14), .ref (g 12 15), .ref (g 12 16), .long 0, .long 0, .int 0, .int (-1), .int (-1), .int (-1), .int 0, .ref (g 12 24), .ref (g 12 25), .ref (g 12 26), .ref (g 12 27), .ref (g 12 28), .ref (g 12 29), .ref (g 12 30), .ref (g 12 31), .ref (g 12 32), .int 1, .int 0, .int 0, .int (-1), .int 0, .int 0, .ref (g 12 39), .ref (g 12 40), .int 0, .ref (g 12 42), .ref (g 12 43), .long 0, .long 0, .long 0, .long 0, .int 0, .ref (g 12 49), .ref (g 12 50), .ref (g 12 51), .ref (g 12 52), .ref (g 12 53), .ref (g 12 54), .ref (g 12 55), .ref (g 12 56), .int 0, .ref (g 12 58), .ref (g 12 59), .int 0, .int 0, .int 0, .ref (g 12 63), .ref (g 12 64), .int 0, .int 0, .int 0, .ref (g 12 68), .ref (g 12 69), .ref (g 12 70), .ref (g 12 71), .ref (g 12 72), .ref (g 12 73), .ref (g 12 74)])), ((g 12 32), .inl ((ca 12 32), 200, .inl f19))] H ∧ va_D A [(h, .inr (12, [.int 0, .int 0, .ref (g 12 2), .int 0, .ref (g 12 4), .ref (g 12 5), .ref (g 12 6), .ref (g 12 7), .ref (g 12 8), .ref (g 12 9), .ref (g 12 10), .ref (g 12 11), .ref (g 12 12), .int 0, .ref (g 12 14), .ref (g 12 15), .ref (g 12 16), .long 0, .long 0, .int 0, .int (-1), .int (-1), .int (-1), .int 0, .ref (g 12 24), .ref (g 12 25), .ref (g 12 26), .ref (g 12 27), .ref (g 12 28), .ref (g 12 29), .ref (g 12 30), .ref (g 12 31), .ref (g 12 32), .int 1, .int 0, .int 0, .int (-1), .int 0, .int 0, .ref (g 12 39), .ref (g 12 40), .int 0, .ref (g 12 42), .ref (g 12 43), .long 0, .long 0, .long 0, .long 0, .int 0, .ref (g 12 49), .ref (g 12 50), .ref (g 12 51), .ref (g 12 52), .ref (g 12 53), .ref (g 12 54), .ref (g 12 55), .ref (g 12 56), .int 0, .ref (g 12 58), .ref (g 12 59), .int 0, .int 0, .int 0, .ref (g 12 63), .ref (g 12 64), .int 0, .int 0, .int 0, .ref (g 12 68), .ref (g 12 69), .ref (g 12 70), .ref (g 12 71), .ref (g 12 72), .ref (g 12 73), .ref (g 12 74)])), ((g 12 32), .inl ((ca 12 32), 200, .inl f19))] := ⟨_, hP, hD⟩
            refine lv_aload_n hx hb dX12_feed_61 rfl (lv_at hl 1 rfl) ?_
            refine lv_dup hx hb dX12_feed_62 rfl ?_
            refine va_get (D := (dC, dI)) (ci := 12) (v := .int 1) (C := RX12) (T := TX12) (N := 75) hx hb ht inX12 hown hK hP 0 rfl rfl 33 (by decide) (ht _ m_1172) (fun _ h9 => h9) rfl dX12_feed_63 ?_
            refine lv_iconst (v := 1) hx hb dX12_feed_66 (by decide) ?_
            refine lv_iadd hx hb dX12_feed_67 ?_
            refine lv_topi (fun v20 ev20 => ?_)
            obtain rfl : 2 = v20 := (ev20.trans (by decide)).symm
            refine va_put (D := (dC, dI)) (ci := 12) (v := .int 2) (ty := (.int)) (C := RX12) (T := TX12) (N := 75) hx hb ht inX12 tyX12 tyX12_ok nmX12 hown hK hP hD hS 0 rfl rfl 33 (by decide) (ht _ m_1172) (fun _ h9 => h9) rfl (by decide +kernel) rfl rfl (Nat.le_of_ble_eq_true rfl) dX12_feed_68 (fun H locs hP hD hS => ?_)
            have hP : va_P (dC, dI) classes [(h, .inr (12, [.int 0, .int 0, .ref (g 12 2), .int 0, .ref (g 12 4), .ref (g 12 5), .ref (g 12 6), .ref (g 12 7), .ref (g 12 8), .ref (g 12 9), .ref (g 12 10), .ref (g 12 11), .ref (g 12 12), .int 0, .ref (g 12 14), .ref (g 12 15), .ref (g 12 16), .long 0, .long 0, .int 0, .int (-1), .int (-1), .int (-1), .int 0, .ref (g 12 24), .ref (g 12 25), .ref (g 12 26), .ref (g 12 27), .ref (g 12 28), .ref (g 12 29), .ref (g 12 30), .ref (g 12 31), .ref (g 12 32), .int 2, .int 0, .int 0, .int (-1), .int 0, .int 0, .ref (g 12 39), .ref (g 12 40), .int 0, .ref (g 12 42), .ref (g 12 43), .long 0, .long 0, .long 0, .long 0, .int 0, .ref (g 12 49), .ref (g 12 50), .ref (g 12 51), .ref (g 12 52), .ref (g 12 53), .ref (g 12 54), .ref (g 12 55), .ref (g 12 56), .int 0, .ref (g 12 58), .ref (g 12 59), .int 0, .int 0, .int 0, .ref (g 12 63), .ref (g 12 64), .int 0, .int 0, .int 0, .ref (g 12 68), .ref (g 12 69), .ref (g 12 70), .ref (g 12 71), .ref (g 12 72), .ref (g 12 73), .ref (g 12 74)])), ((g 12 32), .inl ((ca 12 32), 200, .inl f19))] H := hP
            have hD : va_D A [(h, .inr (12, [.int 0, .int 0, .ref (g 12 2), .int 0, .ref (g 12 4), .ref (g 12 5), .ref (g 12 6), .ref (g 12 7), .ref (g 12 8), .ref (g 12 9), .ref (g 12 10), .ref (g 12 11), .ref (g 12 12), .int 0, .ref (g 12 14), .ref (g 12 15), .ref (g 12 16), .long 0, .long 0, .int 0, .int (-1), .int (-1), .int (-1), .int 0, .ref (g 12 24), .ref (g 12 25), .ref (g 12 26), .ref (g 12 27), .ref (g 12 28), .ref (g 12 29), .ref (g 12 30), .ref (g 12 31), .ref (g 12 32), .int 2, .int 0, .int 0, .int (-1), .int 0, .int 0, .ref (g 12 39), .ref (g 12 40), .int 0, .ref (g 12 42), .ref (g 12 43), .long 0, .long 0, .long 0, .long 0, .int 0, .ref (g 12 49), .ref (g 12 50), .ref (g 12 51), .ref (g 12 52), .ref (g 12 53), .ref (g 12 54), .ref (g 12 55), .ref (g 12 56), .int 0, .ref (g 12 58), .ref (g 12 59), .int 0, .int 0, .int 0, .ref (g 12 63), .ref (g 12 64), .int 0, .int 0, .int 0, .ref (g 12 68), .ref (g 12 69), .ref (g 12 70), .ref (g 12 71), .ref (g 12 72), .ref (g 12 73), .ref (g 12 74)])), ((g 12 32), .inl ((ca 12 32), 200, .inl f19))] := hD
            obtain ⟨v21, ev21⟩ : ∃ y : Int32, y = v13 + (-1) := ⟨_, rfl⟩
            have tv21 := z_add ev21 rfl (by decide : ((-1) : Int32).toInt = (-1)) (by omega) (by omega)
            refine lv_iinc (v := v21) (lv' := [(4, .int v21), (0, .ref h), (1, .int n), (2, .long k)]) hx hb dX12_feed_71 hl (k := 0) rfl (by rw [ev21]; rfl) (by decide) rfl (fun ls hl => ?_)
            refine lv_goto (tgt := 35) hx hb dX12_feed_74 (by decide) ?_
            refine lv_iload hx hb dX12_feed_35 (lv_at hl 0 rfl) ?_
            refine lv_if_lt (tgt := 77) hx hb dX12_feed_37 (by decide) (fun c22 => ?_) (fun c22 => ?_)
            · have fc22 := z_lt (rfl : (v21).toInt = _) (by decide : (0 : Int32).toInt = 0) c22
              refine lv_aload_n hx hb dX12_feed_77 rfl (lv_at hl 1 rfl) ?_
              refine va_get (D := (dC, dI)) (ci := 12) (v := .int 2) (C := RX12) (T := TX12) (N := 75) hx hb ht inX12 hown hK hP 0 rfl rfl 33 (by decide) (ht _ m_1172) (fun _ h9 => h9) rfl dX12_feed_78 ?_
              exact W.iret (v := 2) hx hb hr (fun t ht9 hW => ⟨⟨2, (), rfl, (by unfold F_feed; first | decide | ((repeat' split) <;> first | rfl | (exfalso; omega) | exact z_of (by decide) (by omega))), trivial⟩, hS.F ht9⟩) hS.2.2 dX12_feed_81
            · have fc22 := z_nlt (rfl : (v21).toInt = _) (by decide : (0 : Int32).toInt = 0) c22
              refine lv_aload_n hx hb dX12_feed_40 rfl (lv_at hl 1 rfl) ?_
              refine va_get (D := (dC, dI)) (ci := 12) (v := .ref (g 12 32)) (C := RX12) (T := TX12) (N := 75) hx hb ht inX12 hown hK hP 0 rfl rfl 32 (by decide) (ht _ m_1171) (fun _ h9 => h9) rfl dX12_feed_41 ?_
              refine lv_aload_n hx hb dX12_feed_44 rfl (lv_at hl 1 rfl) ?_
              refine va_get (D := (dC, dI)) (ci := 12) (v := .int 2) (C := RX12) (T := TX12) (N := 75) hx hb ht inX12 hown hK hP 0 rfl rfl 33 (by decide) (ht _ m_1172) (fun _ h9 => h9) rfl dX12_feed_45 ?_
              refine lv_lload_n hx hb dX12_feed_48 rfl (lv_at hl 3 rfl) ?_
              refine lv_bipush (v := 8) hx hb dX12_feed_49 (by decide) ?_
              refine lv_iload hx hb dX12_feed_51 (lv_at hl 0 rfl) ?_
              refine lv_imul hx hb dX12_feed_53 ?_
              refine lv_topi (fun v23 ev23 => ?_)
              obtain ⟨w24, ew24⟩ : ∃ y : Int64, k >>> ((v23 : Int32).toInt64 &&& 63) = y := ⟨_, rfl⟩
              refine lv_lshr (v := w24) hx hb dX12_feed_54 ew24 ?_
              refine lv_ldc2 hx hb hown (ht _ m_1453) dX12_feed_55 ?_
              refine lv_land hx hb dX12_feed_58 ?_
              refine lv_topl (fun w25 ew25 => ?_)
              obtain ⟨v26, ev26⟩ : ∃ y : Int32, w25.toInt32 = y := ⟨_, rfl⟩
              refine lv_l2i (v := v26) hx hb dX12_feed_59 ev26 ?_
              refine va_iast (D := (dC, dI)) hx hb hK hP hD hS 1 0 rfl rfl (by decide) dX12_feed_60 (fun H locs hP hD hS => ?_)
              obtain ⟨f27, hP, hD⟩ : ∃ f27 : Nat → Int32, va_P (dC, dI) classes [(h, .inr (12, [.int 0, .int 0, .ref (g 12 2), .int 0, .ref (g 12 4), .ref (g 12 5), .ref (g 12 6), .ref (g 12 7), .ref (g 12 8), .ref (g 12 9), .ref (g 12 10), .ref (g 12 11), .ref (g 12 12), .int 0, .ref (g 12 14), .ref (g 12 15), .ref (g 12 16), .long 0, .long 0, .int 0, .int (-1), .int (-1), .int (-1), .int 0, .ref (g 12 24), .ref (g 12 25), .ref (g 12 26), .ref (g 12 27), .ref (g 12 28), .ref (g 12 29), .ref (g 12 30), .ref (g 12 31), .ref (g 12 32), .int 2, .int 0, .int 0, .int (-1), .int 0, .int 0, .ref (g 12 39), .ref (g 12 40), .int 0, .ref (g 12 42), .ref (g 12 43), .long 0, .long 0, .long 0, .long 0, .int 0, .ref (g 12 49), .ref (g 12 50), .ref (g 12 51), .ref (g 12 52), .ref (g 12 53), .ref (g 12 54), .ref (g 12 55), .ref (g 12 56), .int 0, .ref (g 12 58), .ref (g 12 59), .int 0, .int 0, .int 0, .ref (g 12 63), .ref (g 12 64), .int 0, .int 0, .int 0, .ref (g 12 68), .ref (g 12 69), .ref (g 12 70), .ref (g 12 71), .ref (g 12 72), .ref (g 12 73), .ref (g 12 74)])), ((g 12 32), .inl ((ca 12 32), 200, .inl f27))] H ∧ va_D A [(h, .inr (12, [.int 0, .int 0, .ref (g 12 2), .int 0, .ref (g 12 4), .ref (g 12 5), .ref (g 12 6), .ref (g 12 7), .ref (g 12 8), .ref (g 12 9), .ref (g 12 10), .ref (g 12 11), .ref (g 12 12), .int 0, .ref (g 12 14), .ref (g 12 15), .ref (g 12 16), .long 0, .long 0, .int 0, .int (-1), .int (-1), .int (-1), .int 0, .ref (g 12 24), .ref (g 12 25), .ref (g 12 26), .ref (g 12 27), .ref (g 12 28), .ref (g 12 29), .ref (g 12 30), .ref (g 12 31), .ref (g 12 32), .int 2, .int 0, .int 0, .int (-1), .int 0, .int 0, .ref (g 12 39), .ref (g 12 40), .int 0, .ref (g 12 42), .ref (g 12 43), .long 0, .long 0, .long 0, .long 0, .int 0, .ref (g 12 49), .ref (g 12 50), .ref (g 12 51), .ref (g 12 52), .ref (g 12 53), .ref (g 12 54), .ref (g 12 55), .ref (g 12 56), .int 0, .ref (g 12 58), .ref (g 12 59), .int 0, .int 0, .int 0, .ref (g 12 63), .ref (g 12 64), .int 0, .int 0, .int 0, .ref (g 12 68), .ref (g 12 69), .ref (g 12 70), .ref (g 12 71), .ref (g 12 72), .ref (g 12 73), .ref (g 12 74)])), ((g 12 32), .inl ((ca 12 32), 200, .inl f27))] := ⟨_, hP, hD⟩
              refine lv_aload_n hx hb dX12_feed_61 rfl (lv_at hl 1 rfl) ?_
              refine lv_dup hx hb dX12_feed_62 rfl ?_
              refine va_get (D := (dC, dI)) (ci := 12) (v := .int 2) (C := RX12) (T := TX12) (N := 75) hx hb ht inX12 hown hK hP 0 rfl rfl 33 (by decide) (ht _ m_1172) (fun _ h9 => h9) rfl dX12_feed_63 ?_
              refine lv_iconst (v := 1) hx hb dX12_feed_66 (by decide) ?_
              refine lv_iadd hx hb dX12_feed_67 ?_
              refine lv_topi (fun v28 ev28 => ?_)
              obtain rfl : 3 = v28 := (ev28.trans (by decide)).symm
              refine va_put (D := (dC, dI)) (ci := 12) (v := .int 3) (ty := (.int)) (C := RX12) (T := TX12) (N := 75) hx hb ht inX12 tyX12 tyX12_ok nmX12 hown hK hP hD hS 0 rfl rfl 33 (by decide) (ht _ m_1172) (fun _ h9 => h9) rfl (by decide +kernel) rfl rfl (Nat.le_of_ble_eq_true rfl) dX12_feed_68 (fun H locs hP hD hS => ?_)
              have hP : va_P (dC, dI) classes [(h, .inr (12, [.int 0, .int 0, .ref (g 12 2), .int 0, .ref (g 12 4), .ref (g 12 5), .ref (g 12 6), .ref (g 12 7), .ref (g 12 8), .ref (g 12 9), .ref (g 12 10), .ref (g 12 11), .ref (g 12 12), .int 0, .ref (g 12 14), .ref (g 12 15), .ref (g 12 16), .long 0, .long 0, .int 0, .int (-1), .int (-1), .int (-1), .int 0, .ref (g 12 24), .ref (g 12 25), .ref (g 12 26), .ref (g 12 27), .ref (g 12 28), .ref (g 12 29), .ref (g 12 30), .ref (g 12 31), .ref (g 12 32), .int 3, .int 0, .int 0, .int (-1), .int 0, .int 0, .ref (g 12 39), .ref (g 12 40), .int 0, .ref (g 12 42), .ref (g 12 43), .long 0, .long 0, .long 0, .long 0, .int 0, .ref (g 12 49), .ref (g 12 50), .ref (g 12 51), .ref (g 12 52), .ref (g 12 53), .ref (g 12 54), .ref (g 12 55), .ref (g 12 56), .int 0, .ref (g 12 58), .ref (g 12 59), .int 0, .int 0, .int 0, .ref (g 12 63), .ref (g 12 64), .int 0, .int 0, .int 0, .ref (g 12 68), .ref (g 12 69), .ref (g 12 70), .ref (g 12 71), .ref (g 12 72), .ref (g 12 73), .ref (g 12 74)])), ((g 12 32), .inl ((ca 12 32), 200, .inl f27))] H := hP
              have hD : va_D A [(h, .inr (12, [.int 0, .int 0, .ref (g 12 2), .int 0, .ref (g 12 4), .ref (g 12 5), .ref (g 12 6), .ref (g 12 7), .ref (g 12 8), .ref (g 12 9), .ref (g 12 10), .ref (g 12 11), .ref (g 12 12), .int 0, .ref (g 12 14), .ref (g 12 15), .ref (g 12 16), .long 0, .long 0, .int 0, .int (-1), .int (-1), .int (-1), .int 0, .ref (g 12 24), .ref (g 12 25), .ref (g 12 26), .ref (g 12 27), .ref (g 12 28), .ref (g 12 29), .ref (g 12 30), .ref (g 12 31), .ref (g 12 32), .int 3, .int 0, .int 0, .int (-1), .int 0, .int 0, .ref (g 12 39), .ref (g 12 40), .int 0, .ref (g 12 42), .ref (g 12 43), .long 0, .long 0, .long 0, .long 0, .int 0, .ref (g 12 49), .ref (g 12 50), .ref (g 12 51), .ref (g 12 52), .ref (g 12 53), .ref (g 12 54), .ref (g 12 55), .ref (g 12 56), .int 0, .ref (g 12 58), .ref (g 12 59), .int 0, .int 0, .int 0, .ref (g 12 63), .ref (g 12 64), .int 0, .int 0, .int 0, .ref (g 12 68), .ref (g 12 69), .ref (g 12 70), .ref (g 12 71), .ref (g 12 72), .ref (g 12 73), .ref (g 12 74)])), ((g 12 32), .inl ((ca 12 32), 200, .inl f27))] := hD
              obtain ⟨v29, ev29⟩ : ∃ y : Int32, y = v21 + (-1) := ⟨_, rfl⟩
              have tv29 := z_add ev29 rfl (by decide : ((-1) : Int32).toInt = (-1)) (by omega) (by omega)
              refine lv_iinc (v := v29) (lv' := [(4, .int v29), (0, .ref h), (1, .int n), (2, .long k)]) hx hb dX12_feed_71 hl (k := 0) rfl (by rw [ev29]; rfl) (by decide) rfl (fun ls hl => ?_)
              refine lv_goto (tgt := 35) hx hb dX12_feed_74 (by decide) ?_
              refine lv_iload hx hb dX12_feed_35 (lv_at hl 0 rfl) ?_
              refine lv_if_lt (tgt := 77) hx hb dX12_feed_37 (by decide) (fun c30 => ?_) (fun c30 => ?_)
              · have fc30 := z_lt (rfl : (v29).toInt = _) (by decide : (0 : Int32).toInt = 0) c30
                refine lv_aload_n hx hb dX12_feed_77 rfl (lv_at hl 1 rfl) ?_
                refine va_get (D := (dC, dI)) (ci := 12) (v := .int 3) (C := RX12) (T := TX12) (N := 75) hx hb ht inX12 hown hK hP 0 rfl rfl 33 (by decide) (ht _ m_1172) (fun _ h9 => h9) rfl dX12_feed_78 ?_
                exact W.iret (v := 3) hx hb hr (fun t ht9 hW => ⟨⟨3, (), rfl, (by unfold F_feed; first | decide | ((repeat' split) <;> first | rfl | (exfalso; omega) | exact z_of (by decide) (by omega))), trivial⟩, hS.F ht9⟩) hS.2.2 dX12_feed_81
              · have fc30 := z_nlt (rfl : (v29).toInt = _) (by decide : (0 : Int32).toInt = 0) c30
                refine lv_aload_n hx hb dX12_feed_40 rfl (lv_at hl 1 rfl) ?_
                refine va_get (D := (dC, dI)) (ci := 12) (v := .ref (g 12 32)) (C := RX12) (T := TX12) (N := 75) hx hb ht inX12 hown hK hP 0 rfl rfl 32 (by decide) (ht _ m_1171) (fun _ h9 => h9) rfl dX12_feed_41 ?_
                refine lv_aload_n hx hb dX12_feed_44 rfl (lv_at hl 1 rfl) ?_
                refine va_get (D := (dC, dI)) (ci := 12) (v := .int 3) (C := RX12) (T := TX12) (N := 75) hx hb ht inX12 hown hK hP 0 rfl rfl 33 (by decide) (ht _ m_1172) (fun _ h9 => h9) rfl dX12_feed_45 ?_
                refine lv_lload_n hx hb dX12_feed_48 rfl (lv_at hl 3 rfl) ?_
                refine lv_bipush (v := 8) hx hb dX12_feed_49 (by decide) ?_
                refine lv_iload hx hb dX12_feed_51 (lv_at hl 0 rfl) ?_
                refine lv_imul hx hb dX12_feed_53 ?_
                refine lv_topi (fun v31 ev31 => ?_)
                obtain ⟨w32, ew32⟩ : ∃ y : Int64, k >>> ((v31 : Int32).toInt64 &&& 63) = y := ⟨_, rfl⟩
                refine lv_lshr (v := w32) hx hb dX12_feed_54 ew32 ?_
                refine lv_ldc2 hx hb hown (ht _ m_1453) dX12_feed_55 ?_
                refine lv_land hx hb dX12_feed_58 ?_
                refine lv_topl (fun w33 ew33 => ?_)
                obtain ⟨v34, ev34⟩ : ∃ y : Int32, w33.toInt32 = y := ⟨_, rfl⟩
                refine lv_l2i (v := v34) hx hb dX12_feed_59 ev34 ?_
                refine va_iast (D := (dC, dI)) hx hb hK hP hD hS 1 0 rfl rfl (by decide) dX12_feed_60 (fun H locs hP hD hS => ?_)
                obtain ⟨f35, hP, hD⟩ : ∃ f35 : Nat → Int32, va_P (dC, dI) classes [(h, .inr (12, [.int 0, .int 0, .ref (g 12 2), .int 0, .ref (g 12 4), .ref (g 12 5), .ref (g 12 6), .ref (g 12 7), .ref (g 12 8), .ref (g 12 9), .ref (g 12 10), .ref (g 12 11), .ref (g 12 12), .int 0, .ref (g 12 14), .ref (g 12 15), .ref (g 12 16), .long 0, .long 0, .int 0, .int (-1), .int (-1), .int (-1), .int 0, .ref (g 12 24), .ref (g 12 25), .ref (g 12 26), .ref (g 12 27), .ref (g 12 28), .ref (g 12 29), .ref (g 12 30), .ref (g 12 31), .ref (g 12 32), .int 3, .int 0, .int 0, .int (-1), .int 0, .int 0, .ref (g 12 39), .ref (g 12 40), .int 0, .ref (g 12 42), .ref (g 12 43), .long 0, .long 0, .long 0, .long 0, .int 0, .ref (g 12 49), .ref (g 12 50), .ref (g 12 51), .ref (g 12 52), .ref (g 12 53), .ref (g 12 54), .ref (g 12 55), .ref (g 12 56), .int 0, .ref (g 12 58), .ref (g 12 59), .int 0, .int 0, .int 0, .ref (g 12 63), .ref (g 12 64), .int 0, .int 0, .int 0, .ref (g 12 68), .ref (g 12 69), .ref (g 12 70), .ref (g 12 71), .ref (g 12 72), .ref (g 12 73), .ref (g 12 74)])), ((g 12 32), .inl ((ca 12 32), 200, .inl f35))] H ∧ va_D A [(h, .inr (12, [.int 0, .int 0, .ref (g 12 2), .int 0, .ref (g 12 4), .ref (g 12 5), .ref (g 12 6), .ref (g 12 7), .ref (g 12 8), .ref (g 12 9), .ref (g 12 10), .ref (g 12 11), .ref (g 12 12), .int 0, .ref (g 12 14), .ref (g 12 15), .ref (g 12 16), .long 0, .long 0, .int 0, .int (-1), .int (-1), .int (-1), .int 0, .ref (g 12 24), .ref (g 12 25), .ref (g 12 26), .ref (g 12 27), .ref (g 12 28), .ref (g 12 29), .ref (g 12 30), .ref (g 12 31), .ref (g 12 32), .int 3, .int 0, .int 0, .int (-1), .int 0, .int 0, .ref (g 12 39), .ref (g 12 40), .int 0, .ref (g 12 42), .ref (g 12 43), .long 0, .long 0, .long 0, .long 0, .int 0, .ref (g 12 49), .ref (g 12 50), .ref (g 12 51), .ref (g 12 52), .ref (g 12 53), .ref (g 12 54), .ref (g 12 55), .ref (g 12 56), .int 0, .ref (g 12 58), .ref (g 12 59), .int 0, .int 0, .int 0, .ref (g 12 63), .ref (g 12 64), .int 0, .int 0, .int 0, .ref (g 12 68), .ref (g 12 69), .ref (g 12 70), .ref (g 12 71), .ref (g 12 72), .ref (g 12 73), .ref (g 12 74)])), ((g 12 32), .inl ((ca 12 32), 200, .inl f35))] := ⟨_, hP, hD⟩
                refine lv_aload_n hx hb dX12_feed_61 rfl (lv_at hl 1 rfl) ?_
                refine lv_dup hx hb dX12_feed_62 rfl ?_
                refine va_get (D := (dC, dI)) (ci := 12) (v := .int 3) (C := RX12) (T := TX12) (N := 75) hx hb ht inX12 hown hK hP 0 rfl rfl 33 (by decide) (ht _ m_1172) (fun _ h9 => h9) rfl dX12_feed_63 ?_
                refine lv_iconst (v := 1) hx hb dX12_feed_66 (by decide) ?_
                refine lv_iadd hx hb dX12_feed_67 ?_
                refine lv_topi (fun v36 ev36 => ?_)
                obtain rfl : 4 = v36 := (ev36.trans (by decide)).symm
                refine va_put (D := (dC, dI)) (ci := 12) (v := .int 4) (ty := (.int)) (C := RX12) (T := TX12) (N := 75) hx hb ht inX12 tyX12 tyX12_ok nmX12 hown hK hP hD hS 0 rfl rfl 33 (by decide) (ht _ m_1172) (fun _ h9 => h9) rfl (by decide +kernel) rfl rfl (Nat.le_of_ble_eq_true rfl) dX12_feed_68 (fun H locs hP hD hS => ?_)
                have hP : va_P (dC, dI) classes [(h, .inr (12, [.int 0, .int 0, .ref (g 12 2), .int 0, .ref (g 12 4), .ref (g 12 5), .ref (g 12 6), .ref (g 12 7), .ref (g 12 8), .ref (g 12 9), .ref (g 12 10), .ref (g 12 11), .ref (g 12 12), .int 0, .ref (g 12 14), .ref (g 12 15), .ref (g 12 16), .long 0, .long 0, .int 0, .int (-1), .int (-1), .int (-1), .int 0, .ref (g 12 24), .ref (g 12 25), .ref (g 12 26), .ref (g 12 27), .ref (g 12 28), .ref (g 12 29), .ref (g 12 30), .ref (g 12 31), .ref (g 12 32), .int 4, .int 0, .int 0, .int (-1), .int 0, .int 0, .ref (g 12 39), .ref (g 12 40), .int 0, .ref (g 12 42), .ref (g 12 43), .long 0, .long 0, .long 0, .long 0, .int 0, .ref (g 12 49), .ref (g 12 50), .ref (g 12 51), .ref (g 12 52), .ref (g 12 53), .ref (g 12 54), .ref (g 12 55), .ref (g 12 56), .int 0, .ref (g 12 58), .ref (g 12 59), .int 0, .int 0, .int 0, .ref (g 12 63), .ref (g 12 64), .int 0, .int 0, .int 0, .ref (g 12 68), .ref (g 12 69), .ref (g 12 70), .ref (g 12 71), .ref (g 12 72), .ref (g 12 73), .ref (g 12 74)])), ((g 12 32), .inl ((ca 12 32), 200, .inl f35))] H := hP
                have hD : va_D A [(h, .inr (12, [.int 0, .int 0, .ref (g 12 2), .int 0, .ref (g 12 4), .ref (g 12 5), .ref (g 12 6), .ref (g 12 7), .ref (g 12 8), .ref (g 12 9), .ref (g 12 10), .ref (g 12 11), .ref (g 12 12), .int 0, .ref (g 12 14), .ref (g 12 15), .ref (g 12 16), .long 0, .long 0, .int 0, .int (-1), .int (-1), .int (-1), .int 0, .ref (g 12 24), .ref (g 12 25), .ref (g 12 26), .ref (g 12 27), .ref (g 12 28), .ref (g 12 29), .ref (g 12 30), .ref (g 12 31), .ref (g 12 32), .int 4, .int 0, .int 0, .int (-1), .int 0, .int 0, .ref (g 12 39), .ref (g 12 40), .int 0, .ref (g 12 42), .ref (g 12 43), .long 0, .long 0, .long 0, .long 0, .int 0, .ref (g 12 49), .ref (g 12 50), .ref (g 12 51), .ref (g 12 52), .ref (g 12 53), .ref (g 12 54), .ref (g 12 55), .ref (g 12 56), .int 0, .ref (g 12 58), .ref (g 12 59), .int 0, .int 0, .int 0, .ref (g 12 63), .ref (g 12 64), .int 0, .int 0, .int 0, .ref (g 12 68), .ref (g 12 69), .ref (g 12 70), .ref (g 12 71), .ref (g 12 72), .ref (g 12 73), .ref (g 12 74)])), ((g 12 32), .inl ((ca 12 32), 200, .inl f35))] := hD
                obtain ⟨v37, ev37⟩ : ∃ y : Int32, y = v29 + (-1) := ⟨_, rfl⟩
                have tv37 := z_add ev37 rfl (by decide : ((-1) : Int32).toInt = (-1)) (by omega) (by omega)
                refine lv_iinc (v := v37) (lv' := [(4, .int v37), (0, .ref h), (1, .int n), (2, .long k)]) hx hb dX12_feed_71 hl (k := 0) rfl (by rw [ev37]; rfl) (by decide) rfl (fun ls hl => ?_)
                refine lv_goto (tgt := 35) hx hb dX12_feed_74 (by decide) ?_
                refine lv_iload hx hb dX12_feed_35 (lv_at hl 0 rfl) ?_
                refine lv_if_lt (tgt := 77) hx hb dX12_feed_37 (by decide) (fun c38 => ?_) (fun c38 => ?_)
                · have fc38 := z_lt (rfl : (v37).toInt = _) (by decide : (0 : Int32).toInt = 0) c38
                  refine lv_aload_n hx hb dX12_feed_77 rfl (lv_at hl 1 rfl) ?_
                  refine va_get (D := (dC, dI)) (ci := 12) (v := .int 4) (C := RX12) (T := TX12) (N := 75) hx hb ht inX12 hown hK hP 0 rfl rfl 33 (by decide) (ht _ m_1172) (fun _ h9 => h9) rfl dX12_feed_78 ?_
                  exact W.iret (v := 4) hx hb hr (fun t ht9 hW => ⟨⟨4, (), rfl, (by unfold F_feed; first | decide | ((repeat' split) <;> first | rfl | (exfalso; omega) | exact z_of (by decide) (by omega))), trivial⟩, hS.F ht9⟩) hS.2.2 dX12_feed_81
                · have fc38 := z_nlt (rfl : (v37).toInt = _) (by decide : (0 : Int32).toInt = 0) c38
                  refine lv_aload_n hx hb dX12_feed_40 rfl (lv_at hl 1 rfl) ?_
                  refine va_get (D := (dC, dI)) (ci := 12) (v := .ref (g 12 32)) (C := RX12) (T := TX12) (N := 75) hx hb ht inX12 hown hK hP 0 rfl rfl 32 (by decide) (ht _ m_1171) (fun _ h9 => h9) rfl dX12_feed_41 ?_
                  refine lv_aload_n hx hb dX12_feed_44 rfl (lv_at hl 1 rfl) ?_
                  refine va_get (D := (dC, dI)) (ci := 12) (v := .int 4) (C := RX12) (T := TX12) (N := 75) hx hb ht inX12 hown hK hP 0 rfl rfl 33 (by decide) (ht _ m_1172) (fun _ h9 => h9) rfl dX12_feed_45 ?_
                  refine lv_lload_n hx hb dX12_feed_48 rfl (lv_at hl 3 rfl) ?_
                  refine lv_bipush (v := 8) hx hb dX12_feed_49 (by decide) ?_
                  refine lv_iload hx hb dX12_feed_51 (lv_at hl 0 rfl) ?_
                  refine lv_imul hx hb dX12_feed_53 ?_
                  refine lv_topi (fun v39 ev39 => ?_)
                  obtain ⟨w40, ew40⟩ : ∃ y : Int64, k >>> ((v39 : Int32).toInt64 &&& 63) = y := ⟨_, rfl⟩
                  refine lv_lshr (v := w40) hx hb dX12_feed_54 ew40 ?_
                  refine lv_ldc2 hx hb hown (ht _ m_1453) dX12_feed_55 ?_
                  refine lv_land hx hb dX12_feed_58 ?_
                  refine lv_topl (fun w41 ew41 => ?_)
                  obtain ⟨v42, ev42⟩ : ∃ y : Int32, w41.toInt32 = y := ⟨_, rfl⟩
                  refine lv_l2i (v := v42) hx hb dX12_feed_59 ev42 ?_
                  refine va_iast (D := (dC, dI)) hx hb hK hP hD hS 1 0 rfl rfl (by decide) dX12_feed_60 (fun H locs hP hD hS => ?_)
                  obtain ⟨f43, hP, hD⟩ : ∃ f43 : Nat → Int32, va_P (dC, dI) classes [(h, .inr (12, [.int 0, .int 0, .ref (g 12 2), .int 0, .ref (g 12 4), .ref (g 12 5), .ref (g 12 6), .ref (g 12 7), .ref (g 12 8), .ref (g 12 9), .ref (g 12 10), .ref (g 12 11), .ref (g 12 12), .int 0, .ref (g 12 14), .ref (g 12 15), .ref (g 12 16), .long 0, .long 0, .int 0, .int (-1), .int (-1), .int (-1), .int 0, .ref (g 12 24), .ref (g 12 25), .ref (g 12 26), .ref (g 12 27), .ref (g 12 28), .ref (g 12 29), .ref (g 12 30), .ref (g 12 31), .ref (g 12 32), .int 4, .int 0, .int 0, .int (-1), .int 0, .int 0, .ref (g 12 39), .ref (g 12 40), .int 0, .ref (g 12 42), .ref (g 12 43), .long 0, .long 0, .long 0, .long 0, .int 0, .ref (g 12 49), .ref (g 12 50), .ref (g 12 51), .ref (g 12 52), .ref (g 12 53), .ref (g 12 54), .ref (g 12 55), .ref (g 12 56), .int 0, .ref (g 12 58), .ref (g 12 59), .int 0, .int 0, .int 0, .ref (g 12 63), .ref (g 12 64), .int 0, .int 0, .int 0, .ref (g 12 68), .ref (g 12 69), .ref (g 12 70), .ref (g 12 71), .ref (g 12 72), .ref (g 12 73), .ref (g 12 74)])), ((g 12 32), .inl ((ca 12 32), 200, .inl f43))] H ∧ va_D A [(h, .inr (12, [.int 0, .int 0, .ref (g 12 2), .int 0, .ref (g 12 4), .ref (g 12 5), .ref (g 12 6), .ref (g 12 7), .ref (g 12 8), .ref (g 12 9), .ref (g 12 10), .ref (g 12 11), .ref (g 12 12), .int 0, .ref (g 12 14), .ref (g 12 15), .ref (g 12 16), .long 0, .long 0, .int 0, .int (-1), .int (-1), .int (-1), .int 0, .ref (g 12 24), .ref (g 12 25), .ref (g 12 26), .ref (g 12 27), .ref (g 12 28), .ref (g 12 29), .ref (g 12 30), .ref (g 12 31), .ref (g 12 32), .int 4, .int 0, .int 0, .int (-1), .int 0, .int 0, .ref (g 12 39), .ref (g 12 40), .int 0, .ref (g 12 42), .ref (g 12 43), .long 0, .long 0, .long 0, .long 0, .int 0, .ref (g 12 49), .ref (g 12 50), .ref (g 12 51), .ref (g 12 52), .ref (g 12 53), .ref (g 12 54), .ref (g 12 55), .ref (g 12 56), .int 0, .ref (g 12 58), .ref (g 12 59), .int 0, .int 0, .int 0, .ref (g 12 63), .ref (g 12 64), .int 0, .int 0, .int 0, .ref (g 12 68), .ref (g 12 69), .ref (g 12 70), .ref (g 12 71), .ref (g 12 72), .ref (g 12 73), .ref (g 12 74)])), ((g 12 32), .inl ((ca 12 32), 200, .inl f43))] := ⟨_, hP, hD⟩
                  refine lv_aload_n hx hb dX12_feed_61 rfl (lv_at hl 1 rfl) ?_
                  refine lv_dup hx hb dX12_feed_62 rfl ?_
                  refine va_get (D := (dC, dI)) (ci := 12) (v := .int 4) (C := RX12) (T := TX12) (N := 75) hx hb ht inX12 hown hK hP 0 rfl rfl 33 (by decide) (ht _ m_1172) (fun _ h9 => h9) rfl dX12_feed_63 ?_
                  refine lv_iconst (v := 1) hx hb dX12_feed_66 (by decide) ?_
                  refine lv_iadd hx hb dX12_feed_67 ?_
                  refine lv_topi (fun v44 ev44 => ?_)
                  obtain rfl : 5 = v44 := (ev44.trans (by decide)).symm
                  refine va_put (D := (dC, dI)) (ci := 12) (v := .int 5) (ty := (.int)) (C := RX12) (T := TX12) (N := 75) hx hb ht inX12 tyX12 tyX12_ok nmX12 hown hK hP hD hS 0 rfl rfl 33 (by decide) (ht _ m_1172) (fun _ h9 => h9) rfl (by decide +kernel) rfl rfl (Nat.le_of_ble_eq_true rfl) dX12_feed_68 (fun H locs hP hD hS => ?_)
                  have hP : va_P (dC, dI) classes [(h, .inr (12, [.int 0, .int 0, .ref (g 12 2), .int 0, .ref (g 12 4), .ref (g 12 5), .ref (g 12 6), .ref (g 12 7), .ref (g 12 8), .ref (g 12 9), .ref (g 12 10), .ref (g 12 11), .ref (g 12 12), .int 0, .ref (g 12 14), .ref (g 12 15), .ref (g 12 16), .long 0, .long 0, .int 0, .int (-1), .int (-1), .int (-1), .int 0, .ref (g 12 24), .ref (g 12 25), .ref (g 12 26), .ref (g 12 27), .ref (g 12 28), .ref (g 12 29), .ref (g 12 30), .ref (g 12 31), .ref (g 12 32), .int 5, .int 0, .int 0, .int (-1), .int 0, .int 0, .ref (g 12 39), .ref (g 12 40), .int 0, .ref (g 12 42), .ref (g 12 43), .long 0, .long 0, .long 0, .long 0, .int 0, .ref (g 12 49), .ref (g 12 50), .ref (g 12 51), .ref (g 12 52), .ref (g 12 53), .ref (g 12 54), .ref (g 12 55), .ref (g 12 56), .int 0, .ref (g 12 58), .ref (g 12 59), .int 0, .int 0, .int 0, .ref (g 12 63), .ref (g 12 64), .int 0, .int 0, .int 0, .ref (g 12 68), .ref (g 12 69), .ref (g 12 70), .ref (g 12 71), .ref (g 12 72), .ref (g 12 73), .ref (g 12 74)])), ((g 12 32), .inl ((ca 12 32), 200, .inl f43))] H := hP
                  have hD : va_D A [(h, .inr (12, [.int 0, .int 0, .ref (g 12 2), .int 0, .ref (g 12 4), .ref (g 12 5), .ref (g 12 6), .ref (g 12 7), .ref (g 12 8), .ref (g 12 9), .ref (g 12 10), .ref (g 12 11), .ref (g 12 12), .int 0, .ref (g 12 14), .ref (g 12 15), .ref (g 12 16), .long 0, .long 0, .int 0, .int (-1), .int (-1), .int (-1), .int 0, .ref (g 12 24), .ref (g 12 25), .ref (g 12 26), .ref (g 12 27), .ref (g 12 28), .ref (g 12 29), .ref (g 12 30), .ref (g 12 31), .ref (g 12 32), .int 5, .int 0, .int 0, .int (-1), .int 0, .int 0, .ref (g 12 39), .ref (g 12 40), .int 0, .ref (g 12 42), .ref (g 12 43), .long 0, .long 0, .long 0, .long 0, .int 0, .ref (g 12 49), .ref (g 12 50), .ref (g 12 51), .ref (g 12 52), .ref (g 12 53), .ref (g 12 54), .ref (g 12 55), .ref (g 12 56), .int 0, .ref (g 12 58), .ref (g 12 59), .int 0, .int 0, .int 0, .ref (g 12 63), .ref (g 12 64), .int 0, .int 0, .int 0, .ref (g 12 68), .ref (g 12 69), .ref (g 12 70), .ref (g 12 71), .ref (g 12 72), .ref (g 12 73), .ref (g 12 74)])), ((g 12 32), .inl ((ca 12 32), 200, .inl f43))] := hD
                  obtain ⟨v45, ev45⟩ : ∃ y : Int32, y = v37 + (-1) := ⟨_, rfl⟩
                  have tv45 := z_add ev45 rfl (by decide : ((-1) : Int32).toInt = (-1)) (by omega) (by omega)
                  refine lv_iinc (v := v45) (lv' := [(4, .int v45), (0, .ref h), (1, .int n), (2, .long k)]) hx hb dX12_feed_71 hl (k := 0) rfl (by rw [ev45]; rfl) (by decide) rfl (fun ls hl => ?_)
                  refine lv_goto (tgt := 35) hx hb dX12_feed_74 (by decide) ?_
                  refine lv_iload hx hb dX12_feed_35 (lv_at hl 0 rfl) ?_
                  refine lv_if_lt (tgt := 77) hx hb dX12_feed_37 (by decide) (fun c46 => ?_) (fun c46 => ?_)
                  · have fc46 := z_lt (rfl : (v45).toInt = _) (by decide : (0 : Int32).toInt = 0) c46
                    refine lv_aload_n hx hb dX12_feed_77 rfl (lv_at hl 1 rfl) ?_
                    refine va_get (D := (dC, dI)) (ci := 12) (v := .int 5) (C := RX12) (T := TX12) (N := 75) hx hb ht inX12 hown hK hP 0 rfl rfl 33 (by decide) (ht _ m_1172) (fun _ h9 => h9) rfl dX12_feed_78 ?_
                    exact W.iret (v := 5) hx hb hr (fun t ht9 hW => ⟨⟨5, (), rfl, (by unfold F_feed; first | decide | ((repeat' split) <;> first | rfl | (exfalso; omega) | exact z_of (by decide) (by omega))), trivial⟩, hS.F ht9⟩) hS.2.2 dX12_feed_81
                  · have fc46 := z_nlt (rfl : (v45).toInt = _) (by decide : (0 : Int32).toInt = 0) c46
                    refine lv_aload_n hx hb dX12_feed_40 rfl (lv_at hl 1 rfl) ?_
                    refine va_get (D := (dC, dI)) (ci := 12) (v := .ref (g 12 32)) (C := RX12) (T := TX12) (N := 75) hx hb ht inX12 hown hK hP 0 rfl rfl 32 (by decide) (ht _ m_1171) (fun _ h9 => h9) rfl dX12_feed_41 ?_
                    refine lv_aload_n hx hb dX12_feed_44 rfl (lv_at hl 1 rfl) ?_
                    refine va_get (D := (dC, dI)) (ci := 12) (v := .int 5) (C := RX12) (T := TX12) (N := 75) hx hb ht inX12 hown hK hP 0 rfl rfl 33 (by decide) (ht _ m_1172) (fun _ h9 => h9) rfl dX12_feed_45 ?_
                    refine lv_lload_n hx hb dX12_feed_48 rfl (lv_at hl 3 rfl) ?_
                    refine lv_bipush (v := 8) hx hb dX12_feed_49 (by decide) ?_
                    refine lv_iload hx hb dX12_feed_51 (lv_at hl 0 rfl) ?_
                    refine lv_imul hx hb dX12_feed_53 ?_
                    refine lv_topi (fun v47 ev47 => ?_)
                    obtain ⟨w48, ew48⟩ : ∃ y : Int64, k >>> ((v47 : Int32).toInt64 &&& 63) = y := ⟨_, rfl⟩
                    refine lv_lshr (v := w48) hx hb dX12_feed_54 ew48 ?_
                    refine lv_ldc2 hx hb hown (ht _ m_1453) dX12_feed_55 ?_
                    refine lv_land hx hb dX12_feed_58 ?_
                    refine lv_topl (fun w49 ew49 => ?_)
                    obtain ⟨v50, ev50⟩ : ∃ y : Int32, w49.toInt32 = y := ⟨_, rfl⟩
                    refine lv_l2i (v := v50) hx hb dX12_feed_59 ev50 ?_
                    refine va_iast (D := (dC, dI)) hx hb hK hP hD hS 1 0 rfl rfl (by decide) dX12_feed_60 (fun H locs hP hD hS => ?_)
                    obtain ⟨f51, hP, hD⟩ : ∃ f51 : Nat → Int32, va_P (dC, dI) classes [(h, .inr (12, [.int 0, .int 0, .ref (g 12 2), .int 0, .ref (g 12 4), .ref (g 12 5), .ref (g 12 6), .ref (g 12 7), .ref (g 12 8), .ref (g 12 9), .ref (g 12 10), .ref (g 12 11), .ref (g 12 12), .int 0, .ref (g 12 14), .ref (g 12 15), .ref (g 12 16), .long 0, .long 0, .int 0, .int (-1), .int (-1), .int (-1), .int 0, .ref (g 12 24), .ref (g 12 25), .ref (g 12 26), .ref (g 12 27), .ref (g 12 28), .ref (g 12 29), .ref (g 12 30), .ref (g 12 31), .ref (g 12 32), .int 5, .int 0, .int 0, .int (-1), .int 0, .int 0, .ref (g 12 39), .ref (g 12 40), .int 0, .ref (g 12 42), .ref (g 12 43), .long 0, .long 0, .long 0, .long 0, .int 0, .ref (g 12 49), .ref (g 12 50), .ref (g 12 51), .ref (g 12 52), .ref (g 12 53), .ref (g 12 54), .ref (g 12 55), .ref (g 12 56), .int 0, .ref (g 12 58), .ref (g 12 59), .int 0, .int 0, .int 0, .ref (g 12 63), .ref (g 12 64), .int 0, .int 0, .int 0, .ref (g 12 68), .ref (g 12 69), .ref (g 12 70), .ref (g 12 71), .ref (g 12 72), .ref (g 12 73), .ref (g 12 74)])), ((g 12 32), .inl ((ca 12 32), 200, .inl f51))] H ∧ va_D A [(h, .inr (12, [.int 0, .int 0, .ref (g 12 2), .int 0, .ref (g 12 4), .ref (g 12 5), .ref (g 12 6), .ref (g 12 7), .ref (g 12 8), .ref (g 12 9), .ref (g 12 10), .ref (g 12 11), .ref (g 12 12), .int 0, .ref (g 12 14), .ref (g 12 15), .ref (g 12 16), .long 0, .long 0, .int 0, .int (-1), .int (-1), .int (-1), .int 0, .ref (g 12 24), .ref (g 12 25), .ref (g 12 26), .ref (g 12 27), .ref (g 12 28), .ref (g 12 29), .ref (g 12 30), .ref (g 12 31), .ref (g 12 32), .int 5, .int 0, .int 0, .int (-1), .int 0, .int 0, .ref (g 12 39), .ref (g 12 40), .int 0, .ref (g 12 42), .ref (g 12 43), .long 0, .long 0, .long 0, .long 0, .int 0, .ref (g 12 49), .ref (g 12 50), .ref (g 12 51), .ref (g 12 52), .ref (g 12 53), .ref (g 12 54), .ref (g 12 55), .ref (g 12 56), .int 0, .ref (g 12 58), .ref (g 12 59), .int 0, .int 0, .int 0, .ref (g 12 63), .ref (g 12 64), .int 0, .int 0, .int 0, .ref (g 12 68), .ref (g 12 69), .ref (g 12 70), .ref (g 12 71), .ref (g 12 72), .ref (g 12 73), .ref (g 12 74)])), ((g 12 32), .inl ((ca 12 32), 200, .inl f51))] := ⟨_, hP, hD⟩
                    refine lv_aload_n hx hb dX12_feed_61 rfl (lv_at hl 1 rfl) ?_
                    refine lv_dup hx hb dX12_feed_62 rfl ?_
                    refine va_get (D := (dC, dI)) (ci := 12) (v := .int 5) (C := RX12) (T := TX12) (N := 75) hx hb ht inX12 hown hK hP 0 rfl rfl 33 (by decide) (ht _ m_1172) (fun _ h9 => h9) rfl dX12_feed_63 ?_
                    refine lv_iconst (v := 1) hx hb dX12_feed_66 (by decide) ?_
                    refine lv_iadd hx hb dX12_feed_67 ?_
                    refine lv_topi (fun v52 ev52 => ?_)
                    obtain rfl : 6 = v52 := (ev52.trans (by decide)).symm
                    refine va_put (D := (dC, dI)) (ci := 12) (v := .int 6) (ty := (.int)) (C := RX12) (T := TX12) (N := 75) hx hb ht inX12 tyX12 tyX12_ok nmX12 hown hK hP hD hS 0 rfl rfl 33 (by decide) (ht _ m_1172) (fun _ h9 => h9) rfl (by decide +kernel) rfl rfl (Nat.le_of_ble_eq_true rfl) dX12_feed_68 (fun H locs hP hD hS => ?_)
                    have hP : va_P (dC, dI) classes [(h, .inr (12, [.int 0, .int 0, .ref (g 12 2), .int 0, .ref (g 12 4), .ref (g 12 5), .ref (g 12 6), .ref (g 12 7), .ref (g 12 8), .ref (g 12 9), .ref (g 12 10), .ref (g 12 11), .ref (g 12 12), .int 0, .ref (g 12 14), .ref (g 12 15), .ref (g 12 16), .long 0, .long 0, .int 0, .int (-1), .int (-1), .int (-1), .int 0, .ref (g 12 24), .ref (g 12 25), .ref (g 12 26), .ref (g 12 27), .ref (g 12 28), .ref (g 12 29), .ref (g 12 30), .ref (g 12 31), .ref (g 12 32), .int 6, .int 0, .int 0, .int (-1), .int 0, .int 0, .ref (g 12 39), .ref (g 12 40), .int 0, .ref (g 12 42), .ref (g 12 43), .long 0, .long 0, .long 0, .long 0, .int 0, .ref (g 12 49), .ref (g 12 50), .ref (g 12 51), .ref (g 12 52), .ref (g 12 53), .ref (g 12 54), .ref (g 12 55), .ref (g 12 56), .int 0, .ref (g 12 58), .ref (g 12 59), .int 0, .int 0, .int 0, .ref (g 12 63), .ref (g 12 64), .int 0, .int 0, .int 0, .ref (g 12 68), .ref (g 12 69), .ref (g 12 70), .ref (g 12 71), .ref (g 12 72), .ref (g 12 73), .ref (g 12 74)])), ((g 12 32), .inl ((ca 12 32), 200, .inl f51))] H := hP
                    have hD : va_D A [(h, .inr (12, [.int 0, .int 0, .ref (g 12 2), .int 0, .ref (g 12 4), .ref (g 12 5), .ref (g 12 6), .ref (g 12 7), .ref (g 12 8), .ref (g 12 9), .ref (g 12 10), .ref (g 12 11), .ref (g 12 12), .int 0, .ref (g 12 14), .ref (g 12 15), .ref (g 12 16), .long 0, .long 0, .int 0, .int (-1), .int (-1), .int (-1), .int 0, .ref (g 12 24), .ref (g 12 25), .ref (g 12 26), .ref (g 12 27), .ref (g 12 28), .ref (g 12 29), .ref (g 12 30), .ref (g 12 31), .ref (g 12 32), .int 6, .int 0, .int 0, .int (-1), .int 0, .int 0, .ref (g 12 39), .ref (g 12 40), .int 0, .ref (g 12 42), .ref (g 12 43), .long 0, .long 0, .long 0, .long 0, .int 0, .ref (g 12 49), .ref (g 12 50), .ref (g 12 51), .ref (g 12 52), .ref (g 12 53), .ref (g 12 54), .ref (g 12 55), .ref (g 12 56), .int 0, .ref (g 12 58), .ref (g 12 59), .int 0, .int 0, .int 0, .ref (g 12 63), .ref (g 12 64), .int 0, .int 0, .int 0, .ref (g 12 68), .ref (g 12 69), .ref (g 12 70), .ref (g 12 71), .ref (g 12 72), .ref (g 12 73), .ref (g 12 74)])), ((g 12 32), .inl ((ca 12 32), 200, .inl f51))] := hD
                    obtain ⟨v53, ev53⟩ : ∃ y : Int32, y = v45 + (-1) := ⟨_, rfl⟩
                    have tv53 := z_add ev53 rfl (by decide : ((-1) : Int32).toInt = (-1)) (by omega) (by omega)
                    refine lv_iinc (v := v53) (lv' := [(4, .int v53), (0, .ref h), (1, .int n), (2, .long k)]) hx hb dX12_feed_71 hl (k := 0) rfl (by rw [ev53]; rfl) (by decide) rfl (fun ls hl => ?_)
                    refine lv_goto (tgt := 35) hx hb dX12_feed_74 (by decide) ?_
                    refine lv_iload hx hb dX12_feed_35 (lv_at hl 0 rfl) ?_
                    refine lv_if_lt (tgt := 77) hx hb dX12_feed_37 (by decide) (fun c54 => ?_) (fun c54 => ?_)
                    · have fc54 := z_lt (rfl : (v53).toInt = _) (by decide : (0 : Int32).toInt = 0) c54
                      refine lv_aload_n hx hb dX12_feed_77 rfl (lv_at hl 1 rfl) ?_
                      refine va_get (D := (dC, dI)) (ci := 12) (v := .int 6) (C := RX12) (T := TX12) (N := 75) hx hb ht inX12 hown hK hP 0 rfl rfl 33 (by decide) (ht _ m_1172) (fun _ h9 => h9) rfl dX12_feed_78 ?_
                      exact W.iret (v := 6) hx hb hr (fun t ht9 hW => ⟨⟨6, (), rfl, (by unfold F_feed; first | decide | ((repeat' split) <;> first | rfl | (exfalso; omega) | exact z_of (by decide) (by omega))), trivial⟩, hS.F ht9⟩) hS.2.2 dX12_feed_81
                    · have fc54 := z_nlt (rfl : (v53).toInt = _) (by decide : (0 : Int32).toInt = 0) c54
                      refine lv_aload_n hx hb dX12_feed_40 rfl (lv_at hl 1 rfl) ?_
                      refine va_get (D := (dC, dI)) (ci := 12) (v := .ref (g 12 32)) (C := RX12) (T := TX12) (N := 75) hx hb ht inX12 hown hK hP 0 rfl rfl 32 (by decide) (ht _ m_1171) (fun _ h9 => h9) rfl dX12_feed_41 ?_
                      refine lv_aload_n hx hb dX12_feed_44 rfl (lv_at hl 1 rfl) ?_
                      refine va_get (D := (dC, dI)) (ci := 12) (v := .int 6) (C := RX12) (T := TX12) (N := 75) hx hb ht inX12 hown hK hP 0 rfl rfl 33 (by decide) (ht _ m_1172) (fun _ h9 => h9) rfl dX12_feed_45 ?_
                      refine lv_lload_n hx hb dX12_feed_48 rfl (lv_at hl 3 rfl) ?_
                      refine lv_bipush (v := 8) hx hb dX12_feed_49 (by decide) ?_
                      refine lv_iload hx hb dX12_feed_51 (lv_at hl 0 rfl) ?_
                      refine lv_imul hx hb dX12_feed_53 ?_
                      refine lv_topi (fun v55 ev55 => ?_)
                      obtain ⟨w56, ew56⟩ : ∃ y : Int64, k >>> ((v55 : Int32).toInt64 &&& 63) = y := ⟨_, rfl⟩
                      refine lv_lshr (v := w56) hx hb dX12_feed_54 ew56 ?_
                      refine lv_ldc2 hx hb hown (ht _ m_1453) dX12_feed_55 ?_
                      refine lv_land hx hb dX12_feed_58 ?_
                      refine lv_topl (fun w57 ew57 => ?_)
                      obtain ⟨v58, ev58⟩ : ∃ y : Int32, w57.toInt32 = y := ⟨_, rfl⟩
                      refine lv_l2i (v := v58) hx hb dX12_feed_59 ev58 ?_
                      refine va_iast (D := (dC, dI)) hx hb hK hP hD hS 1 0 rfl rfl (by decide) dX12_feed_60 (fun H locs hP hD hS => ?_)
                      obtain ⟨f59, hP, hD⟩ : ∃ f59 : Nat → Int32, va_P (dC, dI) classes [(h, .inr (12, [.int 0, .int 0, .ref (g 12 2), .int 0, .ref (g 12 4), .ref (g 12 5), .ref (g 12 6), .ref (g 12 7), .ref (g 12 8), .ref (g 12 9), .ref (g 12 10), .ref (g 12 11), .ref (g 12 12), .int 0, .ref (g 12 14), .ref (g 12 15), .ref (g 12 16), .long 0, .long 0, .int 0, .int (-1), .int (-1), .int (-1), .int 0, .ref (g 12 24), .ref (g 12 25), .ref (g 12 26), .ref (g 12 27), .ref (g 12 28), .ref (g 12 29), .ref (g 12 30), .ref (g 12 31), .ref (g 12 32), .int 6, .int 0, .int 0, .int (-1), .int 0, .int 0, .ref (g 12 39), .ref (g 12 40), .int 0, .ref (g 12 42), .ref (g 12 43), .long 0, .long 0, .long 0, .long 0, .int 0, .ref (g 12 49), .ref (g 12 50), .ref (g 12 51), .ref (g 12 52), .ref (g 12 53), .ref (g 12 54), .ref (g 12 55), .ref (g 12 56), .int 0, .ref (g 12 58), .ref (g 12 59), .int 0, .int 0, .int 0, .ref (g 12 63), .ref (g 12 64), .int 0, .int 0, .int 0, .ref (g 12 68), .ref (g 12 69), .ref (g 12 70), .ref (g 12 71), .ref (g 12 72), .ref (g 12 73), .ref (g 12 74)])), ((g 12 32), .inl ((ca 12 32), 200, .inl f59))] H ∧ va_D A [(h, .inr (12, [.int 0, .int 0, .ref (g 12 2), .int 0, .ref (g 12 4), .ref (g 12 5), .ref (g 12 6), .ref (g 12 7), .ref (g 12 8), .ref (g 12 9), .ref (g 12 10), .ref (g 12 11), .ref (g 12 12), .int 0, .ref (g 12 14), .ref (g 12 15), .ref (g 12 16), .long 0, .long 0, .int 0, .int (-1), .int (-1), .int (-1), .int 0, .ref (g 12 24), .ref (g 12 25), .ref (g 12 26), .ref (g 12 27), .ref (g 12 28), .ref (g 12 29), .ref (g 12 30), .ref (g 12 31), .ref (g 12 32), .int 6, .int 0, .int 0, .int (-1), .int 0, .int 0, .ref (g 12 39), .ref (g 12 40), .int 0, .ref (g 12 42), .ref (g 12 43), .long 0, .long 0, .long 0, .long 0, .int 0, .ref (g 12 49), .ref (g 12 50), .ref (g 12 51), .ref (g 12 52), .ref (g 12 53), .ref (g 12 54), .ref (g 12 55), .ref (g 12 56), .int 0, .ref (g 12 58), .ref (g 12 59), .int 0, .int 0, .int 0, .ref (g 12 63), .ref (g 12 64), .int 0, .int 0, .int 0, .ref (g 12 68), .ref (g 12 69), .ref (g 12 70), .ref (g 12 71), .ref (g 12 72), .ref (g 12 73), .ref (g 12 74)])), ((g 12 32), .inl ((ca 12 32), 200, .inl f59))] := ⟨_, hP, hD⟩
                      refine lv_aload_n hx hb dX12_feed_61 rfl (lv_at hl 1 rfl) ?_
                      refine lv_dup hx hb dX12_feed_62 rfl ?_
                      refine va_get (D := (dC, dI)) (ci := 12) (v := .int 6) (C := RX12) (T := TX12) (N := 75) hx hb ht inX12 hown hK hP 0 rfl rfl 33 (by decide) (ht _ m_1172) (fun _ h9 => h9) rfl dX12_feed_63 ?_
                      refine lv_iconst (v := 1) hx hb dX12_feed_66 (by decide) ?_
                      refine lv_iadd hx hb dX12_feed_67 ?_
                      refine lv_topi (fun v60 ev60 => ?_)
                      obtain rfl : 7 = v60 := (ev60.trans (by decide)).symm
                      refine va_put (D := (dC, dI)) (ci := 12) (v := .int 7) (ty := (.int)) (C := RX12) (T := TX12) (N := 75) hx hb ht inX12 tyX12 tyX12_ok nmX12 hown hK hP hD hS 0 rfl rfl 33 (by decide) (ht _ m_1172) (fun _ h9 => h9) rfl (by decide +kernel) rfl rfl (Nat.le_of_ble_eq_true rfl) dX12_feed_68 (fun H locs hP hD hS => ?_)
                      have hP : va_P (dC, dI) classes [(h, .inr (12, [.int 0, .int 0, .ref (g 12 2), .int 0, .ref (g 12 4), .ref (g 12 5), .ref (g 12 6), .ref (g 12 7), .ref (g 12 8), .ref (g 12 9), .ref (g 12 10), .ref (g 12 11), .ref (g 12 12), .int 0, .ref (g 12 14), .ref (g 12 15), .ref (g 12 16), .long 0, .long 0, .int 0, .int (-1), .int (-1), .int (-1), .int 0, .ref (g 12 24), .ref (g 12 25), .ref (g 12 26), .ref (g 12 27), .ref (g 12 28), .ref (g 12 29), .ref (g 12 30), .ref (g 12 31), .ref (g 12 32), .int 7, .int 0, .int 0, .int (-1), .int 0, .int 0, .ref (g 12 39), .ref (g 12 40), .int 0, .ref (g 12 42), .ref (g 12 43), .long 0, .long 0, .long 0, .long 0, .int 0, .ref (g 12 49), .ref (g 12 50), .ref (g 12 51), .ref (g 12 52), .ref (g 12 53), .ref (g 12 54), .ref (g 12 55), .ref (g 12 56), .int 0, .ref (g 12 58), .ref (g 12 59), .int 0, .int 0, .int 0, .ref (g 12 63), .ref (g 12 64), .int 0, .int 0, .int 0, .ref (g 12 68), .ref (g 12 69), .ref (g 12 70), .ref (g 12 71), .ref (g 12 72), .ref (g 12 73), .ref (g 12 74)])), ((g 12 32), .inl ((ca 12 32), 200, .inl f59))] H := hP
                      have hD : va_D A [(h, .inr (12, [.int 0, .int 0, .ref (g 12 2), .int 0, .ref (g 12 4), .ref (g 12 5), .ref (g 12 6), .ref (g 12 7), .ref (g 12 8), .ref (g 12 9), .ref (g 12 10), .ref (g 12 11), .ref (g 12 12), .int 0, .ref (g 12 14), .ref (g 12 15), .ref (g 12 16), .long 0, .long 0, .int 0, .int (-1), .int (-1), .int (-1), .int 0, .ref (g 12 24), .ref (g 12 25), .ref (g 12 26), .ref (g 12 27), .ref (g 12 28), .ref (g 12 29), .ref (g 12 30), .ref (g 12 31), .ref (g 12 32), .int 7, .int 0, .int 0, .int (-1), .int 0, .int 0, .ref (g 12 39), .ref (g 12 40), .int 0, .ref (g 12 42), .ref (g 12 43), .long 0, .long 0, .long 0, .long 0, .int 0, .ref (g 12 49), .ref (g 12 50), .ref (g 12 51), .ref (g 12 52), .ref (g 12 53), .ref (g 12 54), .ref (g 12 55), .ref (g 12 56), .int 0, .ref (g 12 58), .ref (g 12 59), .int 0, .int 0, .int 0, .ref (g 12 63), .ref (g 12 64), .int 0, .int 0, .int 0, .ref (g 12 68), .ref (g 12 69), .ref (g 12 70), .ref (g 12 71), .ref (g 12 72), .ref (g 12 73), .ref (g 12 74)])), ((g 12 32), .inl ((ca 12 32), 200, .inl f59))] := hD
                      obtain ⟨v61, ev61⟩ : ∃ y : Int32, y = v53 + (-1) := ⟨_, rfl⟩
                      have tv61 := z_add ev61 rfl (by decide : ((-1) : Int32).toInt = (-1)) (by omega) (by omega)
                      refine lv_iinc (v := v61) (lv' := [(4, .int v61), (0, .ref h), (1, .int n), (2, .long k)]) hx hb dX12_feed_71 hl (k := 0) rfl (by rw [ev61]; rfl) (by decide) rfl (fun ls hl => ?_)
                      refine lv_goto (tgt := 35) hx hb dX12_feed_74 (by decide) ?_
                      refine lv_iload hx hb dX12_feed_35 (lv_at hl 0 rfl) ?_
                      refine lv_if_lt (tgt := 77) hx hb dX12_feed_37 (by decide) (fun c62 => ?_) (fun c62 => ?_)
                      · have fc62 := z_lt (rfl : (v61).toInt = _) (by decide : (0 : Int32).toInt = 0) c62
                        refine lv_aload_n hx hb dX12_feed_77 rfl (lv_at hl 1 rfl) ?_
                        refine va_get (D := (dC, dI)) (ci := 12) (v := .int 7) (C := RX12) (T := TX12) (N := 75) hx hb ht inX12 hown hK hP 0 rfl rfl 33 (by decide) (ht _ m_1172) (fun _ h9 => h9) rfl dX12_feed_78 ?_
                        exact W.iret (v := 7) hx hb hr (fun t ht9 hW => ⟨⟨7, (), rfl, (by unfold F_feed; first | decide | ((repeat' split) <;> first | rfl | (exfalso; omega) | exact z_of (by decide) (by omega))), trivial⟩, hS.F ht9⟩) hS.2.2 dX12_feed_81
                      · have fc62 := z_nlt (rfl : (v61).toInt = _) (by decide : (0 : Int32).toInt = 0) c62
                        refine lv_aload_n hx hb dX12_feed_40 rfl (lv_at hl 1 rfl) ?_
                        refine va_get (D := (dC, dI)) (ci := 12) (v := .ref (g 12 32)) (C := RX12) (T := TX12) (N := 75) hx hb ht inX12 hown hK hP 0 rfl rfl 32 (by decide) (ht _ m_1171) (fun _ h9 => h9) rfl dX12_feed_41 ?_
                        refine lv_aload_n hx hb dX12_feed_44 rfl (lv_at hl 1 rfl) ?_
                        refine va_get (D := (dC, dI)) (ci := 12) (v := .int 7) (C := RX12) (T := TX12) (N := 75) hx hb ht inX12 hown hK hP 0 rfl rfl 33 (by decide) (ht _ m_1172) (fun _ h9 => h9) rfl dX12_feed_45 ?_
                        refine lv_lload_n hx hb dX12_feed_48 rfl (lv_at hl 3 rfl) ?_
                        refine lv_bipush (v := 8) hx hb dX12_feed_49 (by decide) ?_
                        refine lv_iload hx hb dX12_feed_51 (lv_at hl 0 rfl) ?_
                        refine lv_imul hx hb dX12_feed_53 ?_
                        refine lv_topi (fun v63 ev63 => ?_)
                        obtain ⟨w64, ew64⟩ : ∃ y : Int64, k >>> ((v63 : Int32).toInt64 &&& 63) = y := ⟨_, rfl⟩
                        refine lv_lshr (v := w64) hx hb dX12_feed_54 ew64 ?_
                        refine lv_ldc2 hx hb hown (ht _ m_1453) dX12_feed_55 ?_
                        refine lv_land hx hb dX12_feed_58 ?_
                        refine lv_topl (fun w65 ew65 => ?_)
                        obtain ⟨v66, ev66⟩ : ∃ y : Int32, w65.toInt32 = y := ⟨_, rfl⟩
                        refine lv_l2i (v := v66) hx hb dX12_feed_59 ev66 ?_
                        refine va_iast (D := (dC, dI)) hx hb hK hP hD hS 1 0 rfl rfl (by decide) dX12_feed_60 (fun H locs hP hD hS => ?_)
                        obtain ⟨f67, hP, hD⟩ : ∃ f67 : Nat → Int32, va_P (dC, dI) classes [(h, .inr (12, [.int 0, .int 0, .ref (g 12 2), .int 0, .ref (g 12 4), .ref (g 12 5), .ref (g 12 6), .ref (g 12 7), .ref (g 12 8), .ref (g 12 9), .ref (g 12 10), .ref (g 12 11), .ref (g 12 12), .int 0, .ref (g 12 14), .ref (g 12 15), .ref (g 12 16), .long 0, .long 0, .int 0, .int (-1), .int (-1), .int (-1), .int 0, .ref (g 12 24), .ref (g 12 25), .ref (g 12 26), .ref (g 12 27), .ref (g 12 28), .ref (g 12 29), .ref (g 12 30), .ref (g 12 31), .ref (g 12 32), .int 7, .int 0, .int 0, .int (-1), .int 0, .int 0, .ref (g 12 39), .ref (g 12 40), .int 0, .ref (g 12 42), .ref (g 12 43), .long 0, .long 0, .long 0, .long 0, .int 0, .ref (g 12 49), .ref (g 12 50), .ref (g 12 51), .ref (g 12 52), .ref (g 12 53), .ref (g 12 54), .ref (g 12 55), .ref (g 12 56), .int 0, .ref (g 12 58), .ref (g 12 59), .int 0, .int 0, .int 0, .ref (g 12 63), .ref (g 12 64), .int 0, .int 0, .int 0, .ref (g 12 68), .ref (g 12 69), .ref (g 12 70), .ref (g 12 71), .ref (g 12 72), .ref (g 12 73), .ref (g 12 74)])), ((g 12 32), .inl ((ca 12 32), 200, .inl f67))] H ∧ va_D A [(h, .inr (12, [.int 0, .int 0, .ref (g 12 2), .int 0, .ref (g 12 4), .ref (g 12 5), .ref (g 12 6), .ref (g 12 7), .ref (g 12 8), .ref (g 12 9), .ref (g 12 10), .ref (g 12 11), .ref (g 12 12), .int 0, .ref (g 12 14), .ref (g 12 15), .ref (g 12 16), .long 0, .long 0, .int 0, .int (-1), .int (-1), .int (-1), .int 0, .ref (g 12 24), .ref (g 12 25), .ref (g 12 26), .ref (g 12 27), .ref (g 12 28), .ref (g 12 29), .ref (g 12 30), .ref (g 12 31), .ref (g 12 32), .int 7, .int 0, .int 0, .int (-1), .int 0, .int 0, .ref (g 12 39), .ref (g 12 40), .int 0, .ref (g 12 42), .ref (g 12 43), .long 0, .long 0, .long 0, .long 0, .int 0, .ref (g 12 49), .ref (g 12 50), .ref (g 12 51), .ref (g 12 52), .ref (g 12 53), .ref (g 12 54), .ref (g 12 55), .ref (g 12 56), .int 0, .ref (g 12 58), .ref (g 12 59), .int 0, .int 0, .int 0, .ref (g 12 63), .ref (g 12 64), .int 0, .int 0, .int 0, .ref (g 12 68), .ref (g 12 69), .ref (g 12 70), .ref (g 12 71), .ref (g 12 72), .ref (g 12 73), .ref (g 12 74)])), ((g 12 32), .inl ((ca 12 32), 200, .inl f67))] := ⟨_, hP, hD⟩
                        refine lv_aload_n hx hb dX12_feed_61 rfl (lv_at hl 1 rfl) ?_
                        refine lv_dup hx hb dX12_feed_62 rfl ?_
                        refine va_get (D := (dC, dI)) (ci := 12) (v := .int 7) (C := RX12) (T := TX12) (N := 75) hx hb ht inX12 hown hK hP 0 rfl rfl 33 (by decide) (ht _ m_1172) (fun _ h9 => h9) rfl dX12_feed_63 ?_
                        refine lv_iconst (v := 1) hx hb dX12_feed_66 (by decide) ?_
                        refine lv_iadd hx hb dX12_feed_67 ?_
                        refine lv_topi (fun v68 ev68 => ?_)
                        obtain rfl : 8 = v68 := (ev68.trans (by decide)).symm
                        refine va_put (D := (dC, dI)) (ci := 12) (v := .int 8) (ty := (.int)) (C := RX12) (T := TX12) (N := 75) hx hb ht inX12 tyX12 tyX12_ok nmX12 hown hK hP hD hS 0 rfl rfl 33 (by decide) (ht _ m_1172) (fun _ h9 => h9) rfl (by decide +kernel) rfl rfl (Nat.le_of_ble_eq_true rfl) dX12_feed_68 (fun H locs hP hD hS => ?_)
                        have hP : va_P (dC, dI) classes [(h, .inr (12, [.int 0, .int 0, .ref (g 12 2), .int 0, .ref (g 12 4), .ref (g 12 5), .ref (g 12 6), .ref (g 12 7), .ref (g 12 8), .ref (g 12 9), .ref (g 12 10), .ref (g 12 11), .ref (g 12 12), .int 0, .ref (g 12 14), .ref (g 12 15), .ref (g 12 16), .long 0, .long 0, .int 0, .int (-1), .int (-1), .int (-1), .int 0, .ref (g 12 24), .ref (g 12 25), .ref (g 12 26), .ref (g 12 27), .ref (g 12 28), .ref (g 12 29), .ref (g 12 30), .ref (g 12 31), .ref (g 12 32), .int 8, .int 0, .int 0, .int (-1), .int 0, .int 0, .ref (g 12 39), .ref (g 12 40), .int 0, .ref (g 12 42), .ref (g 12 43), .long 0, .long 0, .long 0, .long 0, .int 0, .ref (g 12 49), .ref (g 12 50), .ref (g 12 51), .ref (g 12 52), .ref (g 12 53), .ref (g 12 54), .ref (g 12 55), .ref (g 12 56), .int 0, .ref (g 12 58), .ref (g 12 59), .int 0, .int 0, .int 0, .ref (g 12 63), .ref (g 12 64), .int 0, .int 0, .int 0, .ref (g 12 68), .ref (g 12 69), .ref (g 12 70), .ref (g 12 71), .ref (g 12 72), .ref (g 12 73), .ref (g 12 74)])), ((g 12 32), .inl ((ca 12 32), 200, .inl f67))] H := hP
                        have hD : va_D A [(h, .inr (12, [.int 0, .int 0, .ref (g 12 2), .int 0, .ref (g 12 4), .ref (g 12 5), .ref (g 12 6), .ref (g 12 7), .ref (g 12 8), .ref (g 12 9), .ref (g 12 10), .ref (g 12 11), .ref (g 12 12), .int 0, .ref (g 12 14), .ref (g 12 15), .ref (g 12 16), .long 0, .long 0, .int 0, .int (-1), .int (-1), .int (-1), .int 0, .ref (g 12 24), .ref (g 12 25), .ref (g 12 26), .ref (g 12 27), .ref (g 12 28), .ref (g 12 29), .ref (g 12 30), .ref (g 12 31), .ref (g 12 32), .int 8, .int 0, .int 0, .int (-1), .int 0, .int 0, .ref (g 12 39), .ref (g 12 40), .int 0, .ref (g 12 42), .ref (g 12 43), .long 0, .long 0, .long 0, .long 0, .int 0, .ref (g 12 49), .ref (g 12 50), .ref (g 12 51), .ref (g 12 52), .ref (g 12 53), .ref (g 12 54), .ref (g 12 55), .ref (g 12 56), .int 0, .ref (g 12 58), .ref (g 12 59), .int 0, .int 0, .int 0, .ref (g 12 63), .ref (g 12 64), .int 0, .int 0, .int 0, .ref (g 12 68), .ref (g 12 69), .ref (g 12 70), .ref (g 12 71), .ref (g 12 72), .ref (g 12 73), .ref (g 12 74)])), ((g 12 32), .inl ((ca 12 32), 200, .inl f67))] := hD
                        obtain ⟨v69, ev69⟩ : ∃ y : Int32, y = v61 + (-1) := ⟨_, rfl⟩
                        have tv69 := z_add ev69 rfl (by decide : ((-1) : Int32).toInt = (-1)) (by omega) (by omega)
                        refine lv_iinc (v := v69) (lv' := [(4, .int v69), (0, .ref h), (1, .int n), (2, .long k)]) hx hb dX12_feed_71 hl (k := 0) rfl (by rw [ev69]; rfl) (by decide) rfl (fun ls hl => ?_)
                        refine lv_goto (tgt := 35) hx hb dX12_feed_74 (by decide) ?_
                        refine lv_iload hx hb dX12_feed_35 (lv_at hl 0 rfl) ?_
                        refine lv_if_lt (tgt := 77) hx hb dX12_feed_37 (by decide) (fun c70 => ?_) (fun c70 => ?_)
                        · skip
                          refine lv_aload_n hx hb dX12_feed_77 rfl (lv_at hl 1 rfl) ?_
                          refine va_get (D := (dC, dI)) (ci := 12) (v := .int 8) (C := RX12) (T := TX12) (N := 75) hx hb ht inX12 hown hK hP 0 rfl rfl 33 (by decide) (ht _ m_1172) (fun _ h9 => h9) rfl dX12_feed_78 ?_
                          exact W.iret (v := 8) hx hb hr (fun t ht9 hW => ⟨⟨8, (), rfl, (by unfold F_feed; first | decide | ((repeat' split) <;> first | rfl | (exfalso; omega) | exact z_of (by decide) (by omega))), trivial⟩, hS.F ht9⟩) hS.2.2 dX12_feed_81
                        · have fc70 := z_nlt (rfl : (v69).toInt = _) (by decide : (0 : Int32).toInt = 0) c70; exfalso; omega
      · have fc4 := z_nle (rfl : (n).toInt = _) (by decide : (200 : Int32).toInt = 200) c4; exfalso; omega
    · exact absurd c2 (by decide)
  · skip
    refine lv_if_ne (tgt := 15) hx hb dX12_feed_9 (by decide) (fun c71 => ?_) (fun c71 => ?_)
    · exact absurd rfl c71
    · skip
      refine lv_ldc hx hb hown (ht _ m_1373) dX12_feed_12 ?_
      exact W.iret (v := (-100002)) hx hb hr (fun t ht9 hW => ⟨⟨(-100002), (), rfl, (by unfold F_feed; first | decide | ((repeat' split) <;> first | rfl | (exfalso; omega) | exact z_of (by decide) (by omega))), trivial⟩, hS.F ht9⟩) hS.2.2 dX12_feed_14
end
section
set_option maxHeartbeats 4000000 in
set_option maxRecDepth 100000 in
/-- X12_rule -/
theorem c_X12_rule (l : Launch) (dC : Nat → ClassId) (dI : Nat → Nat → Nat) (sz : Nat) (h : Nat) (g : Nat → Nat → Nat) (ca : Nat → Nat → ClassId) (n : Int32) : Met l yX12_rule (wc yX12_rule cX12_rule 4 (some .int)) ({ frames := 2, cells := 0, slots := 0, locals := 45 } : Room) (pW (dC, dI) classes [(h, .inr (12, (o12 h g))), ((g 12 25), .inl ((ca 12 25), 8, .inl (fun _ => 0))), ((g 12 24), .inl ((ca 12 24), 8, .inl (fun _ => 0)))] [((ca 12 25), .int), ((ca 12 24), .int)] sz [.ref h, .int n]) (va_Qi (fun r (_ : Unit) => r = F_rule n) (fun _ _ => True) (va_A [(h, .inr (12, (o12 h g))), ((g 12 25), .inl ((ca 12 25), 8, .inl (fun _ => 0))), ((g 12 24), .inl ((ca 12 24), 8, .inl (fun _ => 0)))] sz)) 0 0 (va_A [(h, .inr (12, (o12 h g))), ((g 12 25), .inl ((ca 12 25), 8, .inl (fun _ => 0))), ((g 12 24), .inl ((ca 12 24), 8, .inl (fun _ => 0)))] sz) := by
  refine Met.ofW (cc := cX12_rule) (maxL := 4) (ret := (some .int)) (by decide) rfl ?_
  intro p e s m args below meth c s₁ B hml hv
  obtain ⟨rfl, hsz, hP, hK, hD0⟩ := hv
  have hx := B.exec
  have hb := B.bytes
  have hr := B.returns
  have ht := tb_tl (atoms_spec (ws := wc yX12_rule cX12_rule 4 (some .int)) B.pre)
  have hown : s.vm.findClass RX12 = some m.cls := findClass_of_methodNamed B.named
  have hlocks := B.notSynchronized
  subst hsz
  have hD := hD0.self (sz := s.heap.size)
  generalize hAe : va_A [(h, .inr (12, (o12 h g))), ((g 12 25), .inl ((ca 12 25), 8, .inl (fun _ => 0))), ((g 12 24), .inl ((ca 12 24), 8, .inl (fun _ => 0)))] s.heap.size = A at hD ⊢
  have hA : ∀ q : Nat, s.heap.size ≤ q → A q := fun q h => by rw [← hAe]; exact Or.inr h
  have hS : va_S A s.heap s.heap [] := va_S.rf
  have hP : va_P (dC, dI) classes [(h, .inr (12, (o12 h g))), ((g 12 25), .inl ((ca 12 25), 8, .inl (fun _ => 0))), ((g 12 24), .inl ((ca 12 24), 8, .inl (fun _ => 0)))] s.heap := hP
  have hl := lv_entry [.ref h, .int n] (n := 4) (Nat.le_of_ble_eq_true rfl)
  rw [lg_entry_eq]
  generalize (lg_sl [.ref h, .int n] ++ List.replicate (4 - (lg_sl [.ref h, .int n]).length) Slot.unset).toArray = ls at hl ⊢
  have hl : lv_has ls 4 [(0, .ref h), (1, .int n)] := hl
  refine lv_iload_n hx hb dX12_rule_0 rfl (lv_at hl 1 rfl) ?_
  have hPc := hP.sub (ws' := []) [] rfl
  have hKc := hK.sub (tys' := []) [] rfl
  refine vp_callSi (W.runS (As := [.int n]) (rest := []) ⟨hx, hb, hml, hown, ht⟩ (c_X12_isDay l dC dI n) (kS 1 ht m_1422 m_1423 m_89 m_1424 rfl rfl hd_X12_isDay_v ⟨Nat.le_of_ble_eq_true rfl, Nat.le_of_ble_eq_true rfl⟩) (sR hPc hKc) rfl rfl hl.1 rfl (lv_room (Nat.le_of_ble_eq_true rfl)) dX12_rule_1 ⟨Nat.le_of_ble_eq_true rfl, Nat.le_of_ble_eq_true rfl⟩) (fun r1 hr1 => ?_)
  rcases hr1 with ⟨rfl, fr1⟩ | ⟨rfl, fr1⟩
  · skip
    refine lv_if_ne (tgt := 10) hx hb dX12_rule_4 (by decide) (fun c2 => ?_) (fun c2 => ?_)
    · skip
      refine lv_aload_n hx hb dX12_rule_10 rfl (lv_at hl 0 rfl) ?_
      refine va_get (D := (dC, dI)) (ci := 12) (v := .int 0) (C := RX12) (T := TX12) (N := 75) hx hb ht inX12 hown hK hP 0 rfl rfl 23 (by decide) (ht _ m_1162) (fun _ h9 => h9) rfl dX12_rule_11 ?_
      refine lv_bipush (v := 8) hx hb dX12_rule_14 (by decide) ?_
      refine lv_icmp_ne (tgt := 22) hx hb dX12_rule_16 (by decide) (fun c3 => ?_) (fun c3 => ?_)
      · skip
        refine lv_aload_n hx hb dX12_rule_22 rfl (lv_at hl 0 rfl) ?_
        refine lv_iconst (v := 0) hx hb dX12_rule_23 (by decide) ?_
        refine va_put (D := (dC, dI)) (ci := 12) (v := .int 0) (ty := (.int)) (C := RX12) (T := TX12) (N := 75) hx hb ht inX12 tyX12 tyX12_ok nmX12 hown hK hP hD hS 0 rfl rfl 34 (by decide) (ht _ m_1173) (fun _ h9 => h9) rfl (by decide +kernel) rfl rfl (Nat.le_of_ble_eq_true rfl) dX12_rule_24 (fun H locs hP hD hS => ?_)
        have hP : va_P (dC, dI) classes [(h, .inr (12, (o12 h g))), ((g 12 25), .inl ((ca 12 25), 8, .inl (fun _ => 0))), ((g 12 24), .inl ((ca 12 24), 8, .inl (fun _ => 0)))] H := hP
        have hD : va_D A [(h, .inr (12, (o12 h g))), ((g 12 25), .inl ((ca 12 25), 8, .inl (fun _ => 0))), ((g 12 24), .inl ((ca 12 24), 8, .inl (fun _ => 0)))] := hD
        refine lv_aload_n hx hb dX12_rule_27 rfl (lv_at hl 0 rfl) ?_
        refine lv_iconst (v := 0) hx hb dX12_rule_28 (by decide) ?_
        refine va_put (D := (dC, dI)) (ci := 12) (v := .int 0) (ty := (.int)) (C := RX12) (T := TX12) (N := 75) hx hb ht inX12 tyX12 tyX12_ok nmX12 hown hK hP hD hS 0 rfl rfl 35 (by decide) (ht _ m_1174) (fun _ h9 => h9) rfl (by decide +kernel) rfl rfl (Nat.le_of_ble_eq_true rfl) dX12_rule_29 (fun H locs hP hD hS => ?_)
        have hP : va_P (dC, dI) classes [(h, .inr (12, (o12 h g))), ((g 12 25), .inl ((ca 12 25), 8, .inl (fun _ => 0))), ((g 12 24), .inl ((ca 12 24), 8, .inl (fun _ => 0)))] H := hP
        have hD : va_D A [(h, .inr (12, (o12 h g))), ((g 12 25), .inl ((ca 12 25), 8, .inl (fun _ => 0))), ((g 12 24), .inl ((ca 12 24), 8, .inl (fun _ => 0)))] := hD
        refine lv_aload_n hx hb dX12_rule_32 rfl (lv_at hl 0 rfl) ?_
        refine lv_iconst (v := (-1)) hx hb dX12_rule_33 (by decide) ?_
        refine va_put (D := (dC, dI)) (ci := 12) (v := .int (-1)) (ty := (.int)) (C := RX12) (T := TX12) (N := 75) hx hb ht inX12 tyX12 tyX12_ok nmX12 hown hK hP hD hS 0 rfl rfl 36 (by decide) (ht _ m_1175) (fun _ h9 => h9) rfl (by decide +kernel) rfl rfl (Nat.le_of_ble_eq_true rfl) dX12_rule_34 (fun H locs hP hD hS => ?_)
        have hP : va_P (dC, dI) classes [(h, .inr (12, (o12 h g))), ((g 12 25), .inl ((ca 12 25), 8, .inl (fun _ => 0))), ((g 12 24), .inl ((ca 12 24), 8, .inl (fun _ => 0)))] H := hP
        have hD : va_D A [(h, .inr (12, (o12 h g))), ((g 12 25), .inl ((ca 12 25), 8, .inl (fun _ => 0))), ((g 12 24), .inl ((ca 12 24), 8, .inl (fun _ => 0)))] := hD
        refine lv_iconst (v := 0) hx hb dX12_rule_37 (by decide) ?_
        refine lv_istore_n (lv' := [(2, .int 0), (0, .ref h), (1, .int n)]) hx hb dX12_rule_38 rfl hl (by decide) rfl (fun ls hl => ?_)
        refine lv_aload_n hx hb dX12_rule_39 rfl (lv_at hl 1 rfl) ?_
        refine va_get (D := (dC, dI)) (ci := 12) (v := .int 0) (C := RX12) (T := TX12) (N := 75) hx hb ht inX12 hown hK hP 0 rfl rfl 35 (by decide) (ht _ m_1174) (fun _ h9 => h9) rfl dX12_rule_40 ?_
        refine lv_if_ne (tgt := 213) hx hb dX12_rule_43 (by decide) (fun c4 => ?_) (fun c4 => ?_)
        · exact absurd rfl c4
        · skip
          refine lv_aload_n hx hb dX12_rule_46 rfl (lv_at hl 1 rfl) ?_
          have hPc := hP.sub (ws' := [(h, .inr (12, (o12 h g)))]) [0] rfl
          have hKc := hK.sub (tys' := []) [] rfl
          refine vp_callSi (W.runV (As := []) (rest := []) ⟨hx, hb, hml, hown, ht⟩ (c_X12_here l dC dI h g ca) (kV 0 ht m_1458 m_1460 m_47 m_89 m_1461 rfl rfl hd_X12_here_v ⟨Nat.le_of_ble_eq_true rfl, Nat.le_of_ble_eq_true rfl⟩) (vR hPc hKc (va_recv hKc hPc (ci := 12) (q0 := 0) rfl rfl)) rfl rfl hl.1 rfl (lv_room (Nat.le_of_ble_eq_true rfl)) dX12_rule_47 ⟨Nat.le_of_ble_eq_true rfl, Nat.le_of_ble_eq_true rfl⟩) (fun r5 hr5 => ?_)
          obtain rfl : (-1) = r5 := hr5.symm
          refine lv_if_lt (tgt := 213) hx hb dX12_rule_50 (by decide) (fun c6 => ?_) (fun c6 => ?_)
          · skip
            refine lv_aload_n hx hb dX12_rule_213 rfl (lv_at hl 1 rfl) ?_
            refine lv_iconst (v := 0) hx hb dX12_rule_214 (by decide) ?_
            refine va_put (D := (dC, dI)) (ci := 12) (v := .int 0) (ty := (.int)) (C := RX12) (T := TX12) (N := 75) hx hb ht inX12 tyX12 tyX12_ok nmX12 hown hK hP hD hS 0 rfl rfl 33 (by decide) (ht _ m_1172) (fun _ h9 => h9) rfl (by decide +kernel) rfl rfl (Nat.le_of_ble_eq_true rfl) dX12_rule_215 (fun H locs hP hD hS => ?_)
            have hP : va_P (dC, dI) classes [(h, .inr (12, (o12 h g))), ((g 12 25), .inl ((ca 12 25), 8, .inl (fun _ => 0))), ((g 12 24), .inl ((ca 12 24), 8, .inl (fun _ => 0)))] H := hP
            have hD : va_D A [(h, .inr (12, (o12 h g))), ((g 12 25), .inl ((ca 12 25), 8, .inl (fun _ => 0))), ((g 12 24), .inl ((ca 12 24), 8, .inl (fun _ => 0)))] := hD
            refine lv_aload_n hx hb dX12_rule_218 rfl (lv_at hl 1 rfl) ?_
            refine va_get (D := (dC, dI)) (ci := 12) (v := .int 0) (C := RX12) (T := TX12) (N := 75) hx hb ht inX12 hown hK hP 0 rfl rfl 35 (by decide) (ht _ m_1174) (fun _ h9 => h9) rfl dX12_rule_219 ?_
            refine lv_if_le (tgt := 233) hx hb dX12_rule_222 (by decide) (fun c7 => ?_) (fun c7 => ?_)
            · skip
              refine lv_aload_n hx hb dX12_rule_233 rfl (lv_at hl 1 rfl) ?_
              refine va_get (D := (dC, dI)) (ci := 12) (v := .ref (g 12 25)) (C := RX12) (T := TX12) (N := 75) hx hb ht inX12 hown hK hP 0 rfl rfl 25 (by decide) (ht _ m_1164) (fun _ h9 => h9) rfl dX12_rule_234 ?_
              refine lv_aload_n hx hb dX12_rule_237 rfl (lv_at hl 1 rfl) ?_
              refine va_get (D := (dC, dI)) (ci := 12) (v := .int 0) (C := RX12) (T := TX12) (N := 75) hx hb ht inX12 hown hK hP 0 rfl rfl 23 (by decide) (ht _ m_1162) (fun _ h9 => h9) rfl dX12_rule_238 ?_
              refine lv_iload_n hx hb dX12_rule_241 rfl (lv_at hl 0 rfl) ?_
              refine va_iast (D := (dC, dI)) hx hb hK hP hD hS 1 0 rfl rfl (by decide) dX12_rule_242 (fun H locs hP hD hS => ?_)
              obtain ⟨f8, hP, hD⟩ : ∃ f8 : Nat → Int32, va_P (dC, dI) classes [(h, .inr (12, (o12 h g))), ((g 12 25), .inl ((ca 12 25), 8, .inl f8)), ((g 12 24), .inl ((ca 12 24), 8, .inl (fun _ => 0)))] H ∧ va_D A [(h, .inr (12, (o12 h g))), ((g 12 25), .inl ((ca 12 25), 8, .inl f8)), ((g 12 24), .inl ((ca 12 24), 8, .inl (fun _ => 0)))] := ⟨_, hP, hD⟩
              refine lv_aload_n hx hb dX12_rule_243 rfl (lv_at hl 1 rfl) ?_
              refine va_get (D := (dC, dI)) (ci := 12) (v := .ref (g 12 24)) (C := RX12) (T := TX12) (N := 75) hx hb ht inX12 hown hK hP 0 rfl rfl 24 (by decide) (ht _ m_1163) (fun _ h9 => h9) rfl dX12_rule_244 ?_
              refine lv_aload_n hx hb dX12_rule_247 rfl (lv_at hl 1 rfl) ?_
              refine va_get (D := (dC, dI)) (ci := 12) (v := .int 0) (C := RX12) (T := TX12) (N := 75) hx hb ht inX12 hown hK hP 0 rfl rfl 23 (by decide) (ht _ m_1162) (fun _ h9 => h9) rfl dX12_rule_248 ?_
              refine lv_iload_n hx hb dX12_rule_251 rfl (lv_at hl 2 rfl) ?_
              refine va_iast (D := (dC, dI)) hx hb hK hP hD hS 2 1 rfl rfl (by decide) dX12_rule_252 (fun H locs hP hD hS => ?_)
              obtain ⟨f9, hP, hD⟩ : ∃ f9 : Nat → Int32, va_P (dC, dI) classes [(h, .inr (12, (o12 h g))), ((g 12 25), .inl ((ca 12 25), 8, .inl f8)), ((g 12 24), .inl ((ca 12 24), 8, .inl f9))] H ∧ va_D A [(h, .inr (12, (o12 h g))), ((g 12 25), .inl ((ca 12 25), 8, .inl f8)), ((g 12 24), .inl ((ca 12 24), 8, .inl f9))] := ⟨_, hP, hD⟩
              refine lv_aload_n hx hb dX12_rule_253 rfl (lv_at hl 1 rfl) ?_
              refine lv_dup hx hb dX12_rule_254 rfl ?_
              refine va_get (D := (dC, dI)) (ci := 12) (v := .int 0) (C := RX12) (T := TX12) (N := 75) hx hb ht inX12 hown hK hP 0 rfl rfl 23 (by decide) (ht _ m_1162) (fun _ h9 => h9) rfl dX12_rule_255 ?_
              refine lv_iconst (v := 1) hx hb dX12_rule_258 (by decide) ?_
              refine lv_iadd hx hb dX12_rule_259 ?_
              refine lv_topi (fun v10 ev10 => ?_)
              obtain rfl : 1 = v10 := (ev10.trans (by decide)).symm
              refine va_put (D := (dC, dI)) (ci := 12) (v := .int 1) (ty := (.int)) (C := RX12) (T := TX12) (N := 75) hx hb ht inX12 tyX12 tyX12_ok nmX12 hown hK hP hD hS 0 rfl rfl 23 (by decide) (ht _ m_1162) (fun _ h9 => h9) rfl (by decide +kernel) rfl rfl (Nat.le_of_ble_eq_true rfl) dX12_rule_260 (fun H locs hP hD hS => ?_)
              have hP : va_P (dC, dI) classes [(h, .inr (12, [.int 0, .int 0, .ref (g 12 2), .int 0, .ref (g 12 4), .ref (g 12 5), .ref (g 12 6), .ref (g 12 7), .ref (g 12 8), .ref (g 12 9), .ref (g 12 10), .ref (g 12 11), .ref (g 12 12), .int 0, .ref (g 12 14), .ref (g 12 15), .ref (g 12 16), .long 0, .long 0, .int 0, .int (-1), .int (-1), .int (-1), .int 1, .ref (g 12 24), .ref (g 12 25), .ref (g 12 26), .ref (g 12 27), .ref (g 12 28), .ref (g 12 29), .ref (g 12 30), .ref (g 12 31), .ref (g 12 32), .int 0, .int 0, .int 0, .int (-1), .int 0, .int 0, .ref (g 12 39), .ref (g 12 40), .int 0, .ref (g 12 42), .ref (g 12 43), .long 0, .long 0, .long 0, .long 0, .int 0, .ref (g 12 49), .ref (g 12 50), .ref (g 12 51), .ref (g 12 52), .ref (g 12 53), .ref (g 12 54), .ref (g 12 55), .ref (g 12 56), .int 0, .ref (g 12 58), .ref (g 12 59), .int 0, .int 0, .int 0, .ref (g 12 63), .ref (g 12 64), .int 0, .int 0, .int 0, .ref (g 12 68), .ref (g 12 69), .ref (g 12 70), .ref (g 12 71), .ref (g 12 72), .ref (g 12 73), .ref (g 12 74)])), ((g 12 25), .inl ((ca 12 25), 8, .inl f8)), ((g 12 24), .inl ((ca 12 24), 8, .inl f9))] H := hP
              have hD : va_D A [(h, .inr (12, [.int 0, .int 0, .ref (g 12 2), .int 0, .ref (g 12 4), .ref (g 12 5), .ref (g 12 6), .ref (g 12 7), .ref (g 12 8), .ref (g 12 9), .ref (g 12 10), .ref (g 12 11), .ref (g 12 12), .int 0, .ref (g 12 14), .ref (g 12 15), .ref (g 12 16), .long 0, .long 0, .int 0, .int (-1), .int (-1), .int (-1), .int 1, .ref (g 12 24), .ref (g 12 25), .ref (g 12 26), .ref (g 12 27), .ref (g 12 28), .ref (g 12 29), .ref (g 12 30), .ref (g 12 31), .ref (g 12 32), .int 0, .int 0, .int 0, .int (-1), .int 0, .int 0, .ref (g 12 39), .ref (g 12 40), .int 0, .ref (g 12 42), .ref (g 12 43), .long 0, .long 0, .long 0, .long 0, .int 0, .ref (g 12 49), .ref (g 12 50), .ref (g 12 51), .ref (g 12 52), .ref (g 12 53), .ref (g 12 54), .ref (g 12 55), .ref (g 12 56), .int 0, .ref (g 12 58), .ref (g 12 59), .int 0, .int 0, .int 0, .ref (g 12 63), .ref (g 12 64), .int 0, .int 0, .int 0, .ref (g 12 68), .ref (g 12 69), .ref (g 12 70), .ref (g 12 71), .ref (g 12 72), .ref (g 12 73), .ref (g 12 74)])), ((g 12 25), .inl ((ca 12 25), 8, .inl f8)), ((g 12 24), .inl ((ca 12 24), 8, .inl f9))] := hD
              refine lv_aload_n hx hb dX12_rule_263 rfl (lv_at hl 1 rfl) ?_
              refine va_get (D := (dC, dI)) (ci := 12) (v := .int 1) (C := RX12) (T := TX12) (N := 75) hx hb ht inX12 hown hK hP 0 rfl rfl 23 (by decide) (ht _ m_1162) (fun _ h9 => h9) rfl dX12_rule_264 ?_
              refine lv_iconst (v := 1) hx hb dX12_rule_267 (by decide) ?_
              refine lv_isub hx hb dX12_rule_268 ?_
              refine lv_topi (fun v11 ev11 => ?_)
              obtain rfl : 0 = v11 := (ev11.trans (by decide)).symm
              exact W.iret (v := 0) hx hb hr (fun t ht9 hW => ⟨⟨0, (), rfl, (by unfold F_rule; first | decide | ((repeat' split) <;> first | rfl | (exfalso; omega) | exact z_of (by decide) (by omega))), trivial⟩, hS.F ht9⟩) hS.2.2 dX12_rule_269
            · exact absurd rfl c7
          · exact absurd c6 (by decide)
      · exact absurd c3 (by decide)
    · exact absurd c2 (by decide)
  · skip
    refine lv_if_ne (tgt := 10) hx hb dX12_rule_4 (by decide) (fun c12 => ?_) (fun c12 => ?_)
    · exact absurd rfl c12
    · skip
      refine lv_ldc hx hb hown (ht _ m_1373) dX12_rule_7 ?_
      exact W.iret (v := (-100002)) hx hb hr (fun t ht9 hW => ⟨⟨(-100002), (), rfl, (by unfold F_rule; first | decide | ((repeat' split) <;> first | rfl | (exfalso; omega) | exact z_of (by decide) (by omega))), trivial⟩, hS.F ht9⟩) hS.2.2 dX12_rule_9
set_option maxHeartbeats 4000000 in
set_option maxRecDepth 100000 in
/-- X12_fault -/
theorem c_X12_fault (l : Launch) (dC : Nat → ClassId) (dI : Nat → Nat → Nat) (h : Nat) (g : Nat → Nat → Nat) (ca : Nat → Nat → ClassId) : Met l yX12_fault (wc yX12_fault cX12_fault 1 (some .int)) ({ frames := 0, cells := 0, slots := 0, locals := 0 } : Room) (pR (dC, dI) classes [(h, .inr (12, (o12 h g)))] [] [.ref h]) (vp_Si (fun r => r = -1)) 0 0 (fun _ => False) := by
  refine Met.ofW (cc := cX12_fault) (maxL := 1) (ret := (some .int)) (by decide) rfl ?_
  intro p e s m args below meth c s₁ B hml hv
  obtain ⟨rfl, hP, hK⟩ := hv
  have hx := B.exec
  have hb := B.bytes
  have hr := B.returns
  have ht := tb_tl (atoms_spec (ws := wc yX12_fault cX12_fault 1 (some .int)) B.pre)
  have hown : s.vm.findClass RX12 = some m.cls := findClass_of_methodNamed B.named
  have hlocks := B.notSynchronized
  have hl := lv_entry [.ref h] (n := 1) (Nat.le_of_ble_eq_true rfl)
  rw [lg_entry_eq]
  generalize (lg_sl [.ref h] ++ List.replicate (1 - (lg_sl [.ref h]).length) Slot.unset).toArray = ls at hl ⊢
  have hl : lv_has ls 1 [(0, .ref h)] := hl
  refine lv_aload_n hx hb dX12_fault_0 rfl (lv_at hl 0 rfl) ?_
  refine va_get (D := (dC, dI)) (ci := 12) (v := .int (-1)) (C := RX12) (T := TX12) (N := 75) hx hb ht inX12 hown hK hP 0 rfl rfl 36 (by decide) (ht _ m_1175) (fun _ h9 => h9) rfl dX12_fault_1 ?_
  exact W.iret (v := (-1)) hx hb hr (fun t ht9 hW => ⟨(-1), rfl, rfl, ht9⟩) (fun q hq => by cases hq) dX12_fault_4
set_option maxHeartbeats 4000000 in
set_option maxRecDepth 100000 in
/-- X12_force -/
theorem c_X12_force (l : Launch) (dC : Nat → ClassId) (dI : Nat → Nat → Nat) (sz : Nat) (h : Nat) (g : Nat → Nat → Nat) (ca : Nat → Nat → ClassId) (n : Int32) (d : Int32) : Met l yX12_force (wc yX12_force cX12_force 3 (some .int)) ({ frames := 2, cells := 0, slots := 0, locals := 49 } : Room) (pW (dC, dI) classes [(h, .inr (12, (o12 h g)))] [] sz [.ref h, .int n, .int d]) (va_Qi (fun r (_ : Unit) => r = F_force n d) (fun _ _ => True) (va_A [(h, .inr (12, (o12 h g)))] sz)) 0 0 (va_A [(h, .inr (12, (o12 h g)))] sz) := by
  refine Met.ofW (cc := cX12_force) (maxL := 3) (ret := (some .int)) (by decide) rfl ?_
  intro p e s m args below meth c s₁ B hml hv
  obtain ⟨rfl, hsz, hP, hK, hD0⟩ := hv
  have hx := B.exec
  have hb := B.bytes
  have hr := B.returns
  have ht := tb_tl (atoms_spec (ws := wc yX12_force cX12_force 3 (some .int)) B.pre)
  have hown : s.vm.findClass RX12 = some m.cls := findClass_of_methodNamed B.named
  have hlocks := B.notSynchronized
  subst hsz
  have hD := hD0.self (sz := s.heap.size)
  generalize hAe : va_A [(h, .inr (12, (o12 h g)))] s.heap.size = A at hD ⊢
  have hA : ∀ q : Nat, s.heap.size ≤ q → A q := fun q h => by rw [← hAe]; exact Or.inr h
  have hS : va_S A s.heap s.heap [] := va_S.rf
  have hP : va_P (dC, dI) classes [(h, .inr (12, (o12 h g)))] s.heap := hP
  have hl := lv_entry [.ref h, .int n, .int d] (n := 3) (Nat.le_of_ble_eq_true rfl)
  rw [lg_entry_eq]
  generalize (lg_sl [.ref h, .int n, .int d] ++ List.replicate (3 - (lg_sl [.ref h, .int n, .int d]).length) Slot.unset).toArray = ls at hl ⊢
  have hl : lv_has ls 3 [(0, .ref h), (1, .int n), (2, .int d)] := hl
  refine lv_iload_n hx hb dX12_force_0 rfl (lv_at hl 1 rfl) ?_
  refine lv_i2l (v := (n.toInt64)) hx hb dX12_force_1 rfl ?_
  refine lv_lconst (v := 0) hx hb dX12_force_2 (by decide) ?_
  refine lv_ldc2 hx hb hown (ht _ m_1508) dX12_force_3 ?_
  have hPc := hP.sub (ws' := []) [] rfl
  have hKc := hK.sub (tys' := []) [] rfl
  refine vp_callSi (W.runS (As := [.long (n.toInt64), .long 0, .long 5]) (rest := []) ⟨hx, hb, hml, hown, ht⟩ (c_X12_in l dC dI (n.toInt64) 0 5 (n.toInt) (0) (5) ((Int32.toInt_toInt64 n).trans rfl) (by decide : (0 : Int64).toInt = 0) (by decide : (5 : Int64).toInt = 5)) (kS 3 ht m_1370 m_1371 m_89 m_1372 rfl rfl hd_X12_in_v ⟨Nat.le_of_ble_eq_true rfl, Nat.le_of_ble_eq_true rfl⟩) (sR hPc hKc) rfl rfl hl.1 rfl (lv_room (Nat.le_of_ble_eq_true rfl)) dX12_force_6 ⟨Nat.le_of_ble_eq_true rfl, Nat.le_of_ble_eq_true rfl⟩) (fun r1 hr1 => ?_)
  rcases hr1 with ⟨rfl, fr1⟩ | ⟨rfl, fr1⟩
  · skip
    refine lv_if_eq (tgt := 28) hx hb dX12_force_9 (by decide) (fun c2 => ?_) (fun c2 => ?_)
    · exact absurd c2 (by decide)
    · skip
      refine lv_iload_n hx hb dX12_force_12 rfl (lv_at hl 2 rfl) ?_
      have hPc := hP.sub (ws' := []) [] rfl
      have hKc := hK.sub (tys' := []) [] rfl
      refine vp_callSi (W.runS (As := [.int d]) (rest := []) ⟨hx, hb, hml, hown, ht⟩ (c_X12_isDay l dC dI d) (kS 1 ht m_1422 m_1423 m_89 m_1424 rfl rfl hd_X12_isDay_v ⟨Nat.le_of_ble_eq_true rfl, Nat.le_of_ble_eq_true rfl⟩) (sR hPc hKc) rfl rfl hl.1 rfl (lv_room (Nat.le_of_ble_eq_true rfl)) dX12_force_13 ⟨Nat.le_of_ble_eq_true rfl, Nat.le_of_ble_eq_true rfl⟩) (fun r3 hr3 => ?_)
      rcases hr3 with ⟨rfl, fr3⟩ | ⟨rfl, fr3⟩
      · skip
        refine lv_if_eq (tgt := 28) hx hb dX12_force_16 (by decide) (fun c4 => ?_) (fun c4 => ?_)
        · exact absurd c4 (by decide)
        · skip
          refine lv_aload_n hx hb dX12_force_19 rfl (lv_at hl 0 rfl) ?_
          refine lv_iload_n hx hb dX12_force_20 rfl (lv_at hl 1 rfl) ?_
          refine lv_iload_n hx hb dX12_force_21 rfl (lv_at hl 2 rfl) ?_
          have hPc := hP.sub (ws' := [(h, .inr (12, (o12 h g)))]) [0] rfl
          have hKc := hK.sub (tys' := []) [] rfl
          have hDc := hD.sub (ws' := [(h, .inr (12, (o12 h g)))]) [0] (by decide) rfl
          have hFc := va_free (wc := [(h, .inr (12, (o12 h g)))]) hD hS hA [0] rfl
          refine va_calli (va_runV (As := [.int n, .int d]) (rest := []) ⟨hx, hb, hml, hown, ht⟩ (c_X12_forceOf l dC dI H.size h g ca n d) (kV 2 ht m_1509 m_1511 m_55 m_89 m_1512 rfl rfl hd_X12_forceOf_v ⟨Nat.le_of_ble_eq_true rfl, Nat.le_of_ble_eq_true rfl⟩) (vW hPc hKc hDc (va_recv hKc hPc (ci := 12) (q0 := 0) rfl rfl)) rfl rfl hl.1 rfl (lv_room (Nat.le_of_ble_eq_true rfl)) dX12_force_22 ⟨Nat.le_of_ble_eq_true rfl, Nat.le_of_ble_eq_true rfl⟩) hS (fun q _ h => hFc q h) hFc (fun r5 u t H1 locs ht9 hvm hr5 hB hz1 hk1 hS => ?_)
          have hP1 : va_P (dC, dI) classes [] H1 := noP
          have hD1 : va_D (va_A [(h, .inr (12, (o12 h g)))] H.size) [] := noD
          obtain ⟨hP, hD⟩ := va_join (wr := []) (w1 := []) hP hD [0] [] rfl rfl (by decide) (by decide) hk1 hFc hP1 hD1
          generalize H1 = H at hP hS ⊢
          have hP : va_P (dC, dI) classes [] H := hP
          have hD : va_D A [] := hD
          obtain rfl : (F_atF n) = r5 := hr5.symm
          refine lv_goto (tgt := 30) hx hb dX12_force_25 (by decide) ?_
          exact W.iret (v := (F_atF n)) hx hb hr (fun t ht9 hW => ⟨⟨(F_atF n), (), rfl, (by unfold F_force; first | decide | ((repeat' split) <;> first | rfl | (exfalso; omega) | exact z_of (by decide) (by omega))), trivial⟩, hS.F ht9⟩) hS.2.2 dX12_force_30
      · skip
        refine lv_if_eq (tgt := 28) hx hb dX12_force_16 (by decide) (fun c6 => ?_) (fun c6 => ?_)
        · skip
          refine lv_ldc hx hb hown (ht _ m_1373) dX12_force_28 ?_
          exact W.iret (v := (-100002)) hx hb hr (fun t ht9 hW => ⟨⟨(-100002), (), rfl, (by unfold F_force; first | decide | ((repeat' split) <;> first | rfl | (exfalso; omega) | exact z_of (by decide) (by omega))), trivial⟩, hS.F ht9⟩) hS.2.2 dX12_force_30
        · exact absurd rfl c6
  · skip
    refine lv_if_eq (tgt := 28) hx hb dX12_force_9 (by decide) (fun c7 => ?_) (fun c7 => ?_)
    · skip
      refine lv_ldc hx hb hown (ht _ m_1373) dX12_force_28 ?_
      exact W.iret (v := (-100002)) hx hb hr (fun t ht9 hW => ⟨⟨(-100002), (), rfl, (by unfold F_force; first | decide | ((repeat' split) <;> first | rfl | (exfalso; omega) | exact z_of (by decide) (by omega))), trivial⟩, hS.F ht9⟩) hS.2.2 dX12_force_30
    · exact absurd rfl c7
set_option maxHeartbeats 4000000 in
set_option maxRecDepth 100000 in
/-- X12_load -/
theorem c_X12_load (l : Launch) (dC : Nat → ClassId) (dI : Nat → Nat → Nat) (sz : Nat) (h : Nat) (g : Nat → Nat → Nat) (ca : Nat → Nat → ClassId) (n : Int32) : Met l yX12_load (wc yX12_load cX12_load 2 (some .int)) ({ frames := 1, cells := 0, slots := 0, locals := 25 } : Room) (pW (dC, dI) classes [(h, .inr (12, (o12 h g))), ((g 12 58), .inl ((ca 12 58), 8, .inl (fun _ => 0)))] [((ca 12 58), .int)] sz [.ref h, .int n]) (va_Qi (fun r (_ : Unit) => r = F_load n) (fun _ _ => True) (va_A [(h, .inr (12, (o12 h g))), ((g 12 58), .inl ((ca 12 58), 8, .inl (fun _ => 0)))] sz)) 0 0 (va_A [(h, .inr (12, (o12 h g))), ((g 12 58), .inl ((ca 12 58), 8, .inl (fun _ => 0)))] sz) := by
  refine Met.ofW (cc := cX12_load) (maxL := 2) (ret := (some .int)) (by decide) rfl ?_
  intro p e s m args below meth c s₁ B hml hv
  obtain ⟨rfl, hsz, hP, hK, hD0⟩ := hv
  have hx := B.exec
  have hb := B.bytes
  have hr := B.returns
  have ht := tb_tl (atoms_spec (ws := wc yX12_load cX12_load 2 (some .int)) B.pre)
  have hown : s.vm.findClass RX12 = some m.cls := findClass_of_methodNamed B.named
  have hlocks := B.notSynchronized
  subst hsz
  have hD := hD0.self (sz := s.heap.size)
  generalize hAe : va_A [(h, .inr (12, (o12 h g))), ((g 12 58), .inl ((ca 12 58), 8, .inl (fun _ => 0)))] s.heap.size = A at hD ⊢
  have hA : ∀ q : Nat, s.heap.size ≤ q → A q := fun q h => by rw [← hAe]; exact Or.inr h
  have hS : va_S A s.heap s.heap [] := va_S.rf
  have hP : va_P (dC, dI) classes [(h, .inr (12, (o12 h g))), ((g 12 58), .inl ((ca 12 58), 8, .inl (fun _ => 0)))] s.heap := hP
  have hl := lv_entry [.ref h, .int n] (n := 2) (Nat.le_of_ble_eq_true rfl)
  rw [lg_entry_eq]
  generalize (lg_sl [.ref h, .int n] ++ List.replicate (2 - (lg_sl [.ref h, .int n]).length) Slot.unset).toArray = ls at hl ⊢
  have hl : lv_has ls 2 [(0, .ref h), (1, .int n)] := hl
  refine lv_iload_n hx hb dX12_load_0 rfl (lv_at hl 1 rfl) ?_
  refine lv_i2l (v := (n.toInt64)) hx hb dX12_load_1 rfl ?_
  refine lv_lconst (v := 1) hx hb dX12_load_2 (by decide) ?_
  refine lv_ldc2 hx hb hown (ht _ m_1369) dX12_load_3 ?_
  have hPc := hP.sub (ws' := []) [] rfl
  have hKc := hK.sub (tys' := []) [] rfl
  refine vp_callSi (W.runS (As := [.long (n.toInt64), .long 1, .long 999]) (rest := []) ⟨hx, hb, hml, hown, ht⟩ (c_X12_in l dC dI (n.toInt64) 1 999 (n.toInt) (1) (999) ((Int32.toInt_toInt64 n).trans rfl) (by decide : (1 : Int64).toInt = 1) (by decide : (999 : Int64).toInt = 999)) (kS 3 ht m_1370 m_1371 m_89 m_1372 rfl rfl hd_X12_in_v ⟨Nat.le_of_ble_eq_true rfl, Nat.le_of_ble_eq_true rfl⟩) (sR hPc hKc) rfl rfl hl.1 rfl (lv_room (Nat.le_of_ble_eq_true rfl)) dX12_load_6 ⟨Nat.le_of_ble_eq_true rfl, Nat.le_of_ble_eq_true rfl⟩) (fun r1 hr1 => ?_)
  rcases hr1 with ⟨rfl, fr1⟩ | ⟨rfl, fr1⟩
  · skip
    refine lv_if_ne (tgt := 15) hx hb dX12_load_9 (by decide) (fun c2 => ?_) (fun c2 => ?_)
    · skip
      refine lv_aload_n hx hb dX12_load_15 rfl (lv_at hl 0 rfl) ?_
      refine va_get (D := (dC, dI)) (ci := 12) (v := .int 0) (C := RX12) (T := TX12) (N := 75) hx hb ht inX12 hown hK hP 0 rfl rfl 57 (by decide) (ht _ m_1196) (fun _ h9 => h9) rfl dX12_load_16 ?_
      refine lv_bipush (v := 8) hx hb dX12_load_19 (by decide) ?_
      refine lv_icmp_ne (tgt := 27) hx hb dX12_load_21 (by decide) (fun c3 => ?_) (fun c3 => ?_)
      · skip
        refine lv_aload_n hx hb dX12_load_27 rfl (lv_at hl 0 rfl) ?_
        refine va_get (D := (dC, dI)) (ci := 12) (v := .ref (g 12 58)) (C := RX12) (T := TX12) (N := 75) hx hb ht inX12 hown hK hP 0 rfl rfl 58 (by decide) (ht _ m_1197) (fun _ h9 => h9) rfl dX12_load_28 ?_
        refine lv_aload_n hx hb dX12_load_31 rfl (lv_at hl 0 rfl) ?_
        refine va_get (D := (dC, dI)) (ci := 12) (v := .int 0) (C := RX12) (T := TX12) (N := 75) hx hb ht inX12 hown hK hP 0 rfl rfl 57 (by decide) (ht _ m_1196) (fun _ h9 => h9) rfl dX12_load_32 ?_
        refine lv_iload_n hx hb dX12_load_35 rfl (lv_at hl 1 rfl) ?_
        refine va_iast (D := (dC, dI)) hx hb hK hP hD hS 1 0 rfl rfl (by decide) dX12_load_36 (fun H locs hP hD hS => ?_)
        obtain ⟨f4, hP, hD⟩ : ∃ f4 : Nat → Int32, va_P (dC, dI) classes [(h, .inr (12, (o12 h g))), ((g 12 58), .inl ((ca 12 58), 8, .inl f4))] H ∧ va_D A [(h, .inr (12, (o12 h g))), ((g 12 58), .inl ((ca 12 58), 8, .inl f4))] := ⟨_, hP, hD⟩
        refine lv_aload_n hx hb dX12_load_37 rfl (lv_at hl 0 rfl) ?_
        refine lv_dup hx hb dX12_load_38 rfl ?_
        refine va_get (D := (dC, dI)) (ci := 12) (v := .int 0) (C := RX12) (T := TX12) (N := 75) hx hb ht inX12 hown hK hP 0 rfl rfl 57 (by decide) (ht _ m_1196) (fun _ h9 => h9) rfl dX12_load_39 ?_
        refine lv_iconst (v := 1) hx hb dX12_load_42 (by decide) ?_
        refine lv_iadd hx hb dX12_load_43 ?_
        refine lv_topi (fun v5 ev5 => ?_)
        obtain rfl : 1 = v5 := (ev5.trans (by decide)).symm
        refine va_put (D := (dC, dI)) (ci := 12) (v := .int 1) (ty := (.int)) (C := RX12) (T := TX12) (N := 75) hx hb ht inX12 tyX12 tyX12_ok nmX12 hown hK hP hD hS 0 rfl rfl 57 (by decide) (ht _ m_1196) (fun _ h9 => h9) rfl (by decide +kernel) rfl rfl (Nat.le_of_ble_eq_true rfl) dX12_load_44 (fun H locs hP hD hS => ?_)
        have hP : va_P (dC, dI) classes [(h, .inr (12, [.int 0, .int 0, .ref (g 12 2), .int 0, .ref (g 12 4), .ref (g 12 5), .ref (g 12 6), .ref (g 12 7), .ref (g 12 8), .ref (g 12 9), .ref (g 12 10), .ref (g 12 11), .ref (g 12 12), .int 0, .ref (g 12 14), .ref (g 12 15), .ref (g 12 16), .long 0, .long 0, .int 0, .int (-1), .int (-1), .int (-1), .int 0, .ref (g 12 24), .ref (g 12 25), .ref (g 12 26), .ref (g 12 27), .ref (g 12 28), .ref (g 12 29), .ref (g 12 30), .ref (g 12 31), .ref (g 12 32), .int 0, .int 0, .int 0, .int (-1), .int 0, .int 0, .ref (g 12 39), .ref (g 12 40), .int 0, .ref (g 12 42), .ref (g 12 43), .long 0, .long 0, .long 0, .long 0, .int 0, .ref (g 12 49), .ref (g 12 50), .ref (g 12 51), .ref (g 12 52), .ref (g 12 53), .ref (g 12 54), .ref (g 12 55), .ref (g 12 56), .int 1, .ref (g 12 58), .ref (g 12 59), .int 0, .int 0, .int 0, .ref (g 12 63), .ref (g 12 64), .int 0, .int 0, .int 0, .ref (g 12 68), .ref (g 12 69), .ref (g 12 70), .ref (g 12 71), .ref (g 12 72), .ref (g 12 73), .ref (g 12 74)])), ((g 12 58), .inl ((ca 12 58), 8, .inl f4))] H := hP
        have hD : va_D A [(h, .inr (12, [.int 0, .int 0, .ref (g 12 2), .int 0, .ref (g 12 4), .ref (g 12 5), .ref (g 12 6), .ref (g 12 7), .ref (g 12 8), .ref (g 12 9), .ref (g 12 10), .ref (g 12 11), .ref (g 12 12), .int 0, .ref (g 12 14), .ref (g 12 15), .ref (g 12 16), .long 0, .long 0, .int 0, .int (-1), .int (-1), .int (-1), .int 0, .ref (g 12 24), .ref (g 12 25), .ref (g 12 26), .ref (g 12 27), .ref (g 12 28), .ref (g 12 29), .ref (g 12 30), .ref (g 12 31), .ref (g 12 32), .int 0, .int 0, .int 0, .int (-1), .int 0, .int 0, .ref (g 12 39), .ref (g 12 40), .int 0, .ref (g 12 42), .ref (g 12 43), .long 0, .long 0, .long 0, .long 0, .int 0, .ref (g 12 49), .ref (g 12 50), .ref (g 12 51), .ref (g 12 52), .ref (g 12 53), .ref (g 12 54), .ref (g 12 55), .ref (g 12 56), .int 1, .ref (g 12 58), .ref (g 12 59), .int 0, .int 0, .int 0, .ref (g 12 63), .ref (g 12 64), .int 0, .int 0, .int 0, .ref (g 12 68), .ref (g 12 69), .ref (g 12 70), .ref (g 12 71), .ref (g 12 72), .ref (g 12 73), .ref (g 12 74)])), ((g 12 58), .inl ((ca 12 58), 8, .inl f4))] := hD
        refine lv_aload_n hx hb dX12_load_47 rfl (lv_at hl 0 rfl) ?_
        refine va_get (D := (dC, dI)) (ci := 12) (v := .int 1) (C := RX12) (T := TX12) (N := 75) hx hb ht inX12 hown hK hP 0 rfl rfl 57 (by decide) (ht _ m_1196) (fun _ h9 => h9) rfl dX12_load_48 ?_
        exact W.iret (v := 1) hx hb hr (fun t ht9 hW => ⟨⟨1, (), rfl, (by unfold F_load; first | decide | ((repeat' split) <;> first | rfl | (exfalso; omega) | exact z_of (by decide) (by omega))), trivial⟩, hS.F ht9⟩) hS.2.2 dX12_load_51
      · exact absurd c3 (by decide)
    · exact absurd c2 (by decide)
  · skip
    refine lv_if_ne (tgt := 15) hx hb dX12_load_9 (by decide) (fun c6 => ?_) (fun c6 => ?_)
    · exact absurd rfl c6
    · skip
      refine lv_ldc hx hb hown (ht _ m_1373) dX12_load_12 ?_
      exact W.iret (v := (-100002)) hx hb hr (fun t ht9 hW => ⟨⟨(-100002), (), rfl, (by unfold F_load; first | decide | ((repeat' split) <;> first | rfl | (exfalso; omega) | exact z_of (by decide) (by omega))), trivial⟩, hS.F ht9⟩) hS.2.2 dX12_load_14
set_option maxHeartbeats 4000000 in
set_option maxRecDepth 100000 in
/-- X12_order -/
theorem c_X12_order (l : Launch) (dC : Nat → ClassId) (dI : Nat → Nat → Nat) (sz : Nat) (h : Nat) (g : Nat → Nat → Nat) (ca : Nat → Nat → ClassId) (n : Int32) (i : Int32) : Met l yX12_order (wc yX12_order cX12_order 3 (some .int)) ({ frames := 2, cells := 0, slots := 0, locals := 49 } : Room) (pW (dC, dI) classes [(h, .inr (12, (o12 h g))), ((g 12 59), .inl ((ca 12 59), 3, .inl (fun _ => 0)))] [((ca 12 59), .int)] sz [.ref h, .int n, .int i]) (va_Qi (fun r (_ : Unit) => r = F_order n i) (fun _ _ => True) (va_A [(h, .inr (12, (o12 h g))), ((g 12 59), .inl ((ca 12 59), 3, .inl (fun _ => 0)))] sz)) 0 0 (va_A [(h, .inr (12, (o12 h g))), ((g 12 59), .inl ((ca 12 59), 3, .inl (fun _ => 0)))] sz) := by
  refine Met.ofW (cc := cX12_order) (maxL := 3) (ret := (some .int)) (by decide) rfl ?_
  intro p e s m args below meth c s₁ B hml hv
  obtain ⟨rfl, hsz, hP, hK, hD0⟩ := hv
  have hx := B.exec
  have hb := B.bytes
  have hr := B.returns
  have ht := tb_tl (atoms_spec (ws := wc yX12_order cX12_order 3 (some .int)) B.pre)
  have hown : s.vm.findClass RX12 = some m.cls := findClass_of_methodNamed B.named
  have hlocks := B.notSynchronized
  subst hsz
  have hD := hD0.self (sz := s.heap.size)
  generalize hAe : va_A [(h, .inr (12, (o12 h g))), ((g 12 59), .inl ((ca 12 59), 3, .inl (fun _ => 0)))] s.heap.size = A at hD ⊢
  have hA : ∀ q : Nat, s.heap.size ≤ q → A q := fun q h => by rw [← hAe]; exact Or.inr h
  have hS : va_S A s.heap s.heap [] := va_S.rf
  have hP : va_P (dC, dI) classes [(h, .inr (12, (o12 h g))), ((g 12 59), .inl ((ca 12 59), 3, .inl (fun _ => 0)))] s.heap := hP
  have hl := lv_entry [.ref h, .int n, .int i] (n := 3) (Nat.le_of_ble_eq_true rfl)
  rw [lg_entry_eq]
  generalize (lg_sl [.ref h, .int n, .int i] ++ List.replicate (3 - (lg_sl [.ref h, .int n, .int i]).length) Slot.unset).toArray = ls at hl ⊢
  have hl : lv_has ls 3 [(0, .ref h), (1, .int n), (2, .int i)] := hl
  refine lv_iload_n hx hb dX12_order_0 rfl (lv_at hl 1 rfl) ?_
  refine lv_i2l (v := (n.toInt64)) hx hb dX12_order_1 rfl ?_
  refine lv_lconst (v := 1) hx hb dX12_order_2 (by decide) ?_
  refine lv_ldc2 hx hb hown (ht _ m_1391) dX12_order_3 ?_
  have hPc := hP.sub (ws' := []) [] rfl
  have hKc := hK.sub (tys' := []) [] rfl
  refine vp_callSi (W.runS (As := [.long (n.toInt64), .long 1, .long 3]) (rest := []) ⟨hx, hb, hml, hown, ht⟩ (c_X12_in l dC dI (n.toInt64) 1 3 (n.toInt) (1) (3) ((Int32.toInt_toInt64 n).trans rfl) (by decide : (1 : Int64).toInt = 1) (by decide : (3 : Int64).toInt = 3)) (kS 3 ht m_1370 m_1371 m_89 m_1372 rfl rfl hd_X12_in_v ⟨Nat.le_of_ble_eq_true rfl, Nat.le_of_ble_eq_true rfl⟩) (sR hPc hKc) rfl rfl hl.1 rfl (lv_room (Nat.le_of_ble_eq_true rfl)) dX12_order_6 ⟨Nat.le_of_ble_eq_true rfl, Nat.le_of_ble_eq_true rfl⟩) (fun r1 hr1 => ?_)
  rcases hr1 with ⟨rfl, fr1⟩ | ⟨rfl, fr1⟩
  · skip
    refine lv_if_ne (tgt := 15) hx hb dX12_order_9 (by decide) (fun c2 => ?_) (fun c2 => ?_)
    · skip
      refine lv_aload_n hx hb dX12_order_15 rfl (lv_at hl 0 rfl) ?_
      refine lv_iload_n hx hb dX12_order_16 rfl (lv_at hl 1 rfl) ?_
      have hPc := hP.sub (ws' := [(h, .inr (12, (o12 h g))), ((g 12 59), .inl ((ca 12 59), 3, .inl (fun _ => 0)))]) [0, 1] rfl
      have hKc := hK.sub (tys' := [((ca 12 59), .int)]) [0] rfl
      have hDc := hD.sub (ws' := [(h, .inr (12, (o12 h g))), ((g 12 59), .inl ((ca 12 59), 3, .inl (fun _ => 0)))]) [0, 1] (by decide) rfl
      have hFc := va_free (wc := [(h, .inr (12, (o12 h g))), ((g 12 59), .inl ((ca 12 59), 3, .inl (fun _ => 0)))]) hD hS hA [0, 1] rfl
      refine va_callv (va_runV (As := [.int n]) (rest := []) ⟨hx, hb, hml, hown, ht⟩ (c_X12_findOrder l dC dI H.size h g ca n) (kV 1 ht m_1645 m_1647 m_69 m_89 m_1648 rfl rfl hd_X12_findOrder_v ⟨Nat.le_of_ble_eq_true rfl, Nat.le_of_ble_eq_true rfl⟩) (vW hPc hKc hDc (va_recv hKc hPc (ci := 12) (q0 := 0) rfl rfl)) rfl rfl hl.1 rfl (lv_room (Nat.le_of_ble_eq_true rfl)) dX12_order_17 ⟨Nat.le_of_ble_eq_true rfl, Nat.le_of_ble_eq_true rfl⟩) hS (fun q _ h => hFc q h) hFc (fun u t H1 locs ht9 hvm hw hB hz1 hk1 hS => ?_)
      obtain ⟨hP1, hD1⟩ := hB
      rw [ht9] at hP1
      obtain ⟨hP, hD⟩ := va_join (wr := []) (w1 := [(h, .inr (12, (o12 h g)))]) hP hD [0, 1] [] rfl rfl (by decide) (by decide) hk1 hFc hP1 hD1
      generalize H1 = H at hP hS ⊢
      have hP : va_P (dC, dI) classes [(h, .inr (12, (o12 h g)))] H := hP
      have hD : va_D A [(h, .inr (12, (o12 h g)))] := hD
      refine lv_iload_n hx hb dX12_order_20 rfl (lv_at hl 2 rfl) ?_
      refine lv_iconst (v := (-1)) hx hb dX12_order_21 (by decide) ?_
      refine lv_icmp_ne (tgt := 32) hx hb dX12_order_22 (by decide) (fun c4 => ?_) (fun c4 => ?_)
      · have fc4 := z_ne (rfl : (i).toInt = _) (by decide : ((-1) : Int32).toInt = (-1)) c4
        refine lv_iload_n hx hb dX12_order_32 rfl (lv_at hl 2 rfl) ?_
        refine lv_i2l (v := (i.toInt64)) hx hb dX12_order_33 rfl ?_
        refine lv_lconst (v := 0) hx hb dX12_order_34 (by decide) ?_
        refine lv_aload_n hx hb dX12_order_35 rfl (lv_at hl 0 rfl) ?_
        refine va_get (D := (dC, dI)) (ci := 12) (v := .int 0) (C := RX12) (T := TX12) (N := 75) hx hb ht inX12 hown hK hP 0 rfl rfl 57 (by decide) (ht _ m_1196) (fun _ h9 => h9) rfl dX12_order_36 ?_
        refine lv_iconst (v := 1) hx hb dX12_order_39 (by decide) ?_
        refine lv_isub hx hb dX12_order_40 ?_
        refine lv_topi (fun v5 ev5 => ?_)
        obtain rfl : (-1) = v5 := (ev5.trans (by decide)).symm
        refine lv_i2l (v := (-1)) hx hb dX12_order_41 (by decide) ?_
        have hPc := hP.sub (ws' := []) [] rfl
        have hKc := hK.sub (tys' := []) [] rfl
        refine vp_callSi (W.runS (As := [.long (i.toInt64), .long 0, .long (-1)]) (rest := []) ⟨hx, hb, hml, hown, ht⟩ (c_X12_in l dC dI (i.toInt64) 0 (-1) (i.toInt) (0) ((-1)) ((Int32.toInt_toInt64 i).trans rfl) (by decide : (0 : Int64).toInt = 0) (by decide : ((-1) : Int64).toInt = (-1))) (kS 3 ht m_1370 m_1371 m_89 m_1372 rfl rfl hd_X12_in_v ⟨Nat.le_of_ble_eq_true rfl, Nat.le_of_ble_eq_true rfl⟩) (sR hPc hKc) rfl rfl hl.1 rfl (lv_room (Nat.le_of_ble_eq_true rfl)) dX12_order_42 ⟨Nat.le_of_ble_eq_true rfl, Nat.le_of_ble_eq_true rfl⟩) (fun r6 hr6 => ?_)
        rcases hr6 with ⟨rfl, fr6⟩ | ⟨rfl, fr6⟩
        · exfalso; omega
        · skip
          refine lv_if_eq (tgt := 61) hx hb dX12_order_45 (by decide) (fun c7 => ?_) (fun c7 => ?_)
          · skip
            refine lv_iconst (v := (-1)) hx hb dX12_order_61 (by decide) ?_
            exact W.iret (v := (-1)) hx hb hr (fun t ht9 hW => ⟨⟨(-1), (), rfl, (by unfold F_order; first | decide | ((repeat' split) <;> first | rfl | (exfalso; omega) | exact z_of (by decide) (by omega))), trivial⟩, hS.F ht9⟩) hS.2.2 dX12_order_62
          · exact absurd rfl c7
      · have fc4 := z_eq (rfl : (i).toInt = _) (by decide : ((-1) : Int32).toInt = (-1)) c4
        refine lv_aload_n hx hb dX12_order_25 rfl (lv_at hl 0 rfl) ?_
        refine va_get (D := (dC, dI)) (ci := 12) (v := .int 0) (C := RX12) (T := TX12) (N := 75) hx hb ht inX12 hown hK hP 0 rfl rfl 61 (by decide) (ht _ m_1200) (fun _ h9 => h9) rfl dX12_order_26 ?_
        refine lv_goto (tgt := 62) hx hb dX12_order_29 (by decide) ?_
        exact W.iret (v := 0) hx hb hr (fun t ht9 hW => ⟨⟨0, (), rfl, (by unfold F_order; first | decide | ((repeat' split) <;> first | rfl | (exfalso; omega) | exact z_of (by decide) (by omega))), trivial⟩, hS.F ht9⟩) hS.2.2 dX12_order_62
    · exact absurd c2 (by decide)
  · skip
    refine lv_if_ne (tgt := 15) hx hb dX12_order_9 (by decide) (fun c8 => ?_) (fun c8 => ?_)
    · exact absurd rfl c8
    · skip
      refine lv_ldc hx hb hown (ht _ m_1373) dX12_order_12 ?_
      exact W.iret (v := (-100002)) hx hb hr (fun t ht9 hW => ⟨⟨(-100002), (), rfl, (by unfold F_order; first | decide | ((repeat' split) <;> first | rfl | (exfalso; omega) | exact z_of (by decide) (by omega))), trivial⟩, hS.F ht9⟩) hS.2.2 dX12_order_14
set_option maxHeartbeats 4000000 in
set_option maxRecDepth 100000 in
/-- X12_empty -/
theorem c_X12_empty (l : Launch) (dC : Nat → ClassId) (dI : Nat → Nat → Nat) (sz : Nat) (h : Nat) (g : Nat → Nat → Nat) (ca : Nat → Nat → ClassId) : Met l yX12_empty (wc yX12_empty cX12_empty 2 (some .int)) ({ frames := 0, cells := 0, slots := 0, locals := 0 } : Room) (pW (dC, dI) classes [(h, .inr (12, (o12 h g)))] [] sz [.ref h]) (va_Qi (fun r (_ : Unit) => r = 0) (fun _ _ => True) (va_A [(h, .inr (12, (o12 h g)))] sz)) 0 0 (va_A [(h, .inr (12, (o12 h g)))] sz) := by
  refine Met.ofW (cc := cX12_empty) (maxL := 2) (ret := (some .int)) (by decide) rfl ?_
  intro p e s m args below meth c s₁ B hml hv
  obtain ⟨rfl, hsz, hP, hK, hD0⟩ := hv
  have hx := B.exec
  have hb := B.bytes
  have hr := B.returns
  have ht := tb_tl (atoms_spec (ws := wc yX12_empty cX12_empty 2 (some .int)) B.pre)
  have hown : s.vm.findClass RX12 = some m.cls := findClass_of_methodNamed B.named
  have hlocks := B.notSynchronized
  subst hsz
  have hD := hD0.self (sz := s.heap.size)
  generalize hAe : va_A [(h, .inr (12, (o12 h g)))] s.heap.size = A at hD ⊢
  have hA : ∀ q : Nat, s.heap.size ≤ q → A q := fun q h => by rw [← hAe]; exact Or.inr h
  have hS : va_S A s.heap s.heap [] := va_S.rf
  have hP : va_P (dC, dI) classes [(h, .inr (12, (o12 h g)))] s.heap := hP
  have hl := lv_entry [.ref h] (n := 2) (Nat.le_of_ble_eq_true rfl)
  rw [lg_entry_eq]
  generalize (lg_sl [.ref h] ++ List.replicate (2 - (lg_sl [.ref h]).length) Slot.unset).toArray = ls at hl ⊢
  have hl : lv_has ls 2 [(0, .ref h)] := hl
  refine lv_aload_n hx hb dX12_empty_0 rfl (lv_at hl 0 rfl) ?_
  refine va_get (D := (dC, dI)) (ci := 12) (v := .int 0) (C := RX12) (T := TX12) (N := 75) hx hb ht inX12 hown hK hP 0 rfl rfl 57 (by decide) (ht _ m_1196) (fun _ h9 => h9) rfl dX12_empty_1 ?_
  refine lv_istore_n (lv' := [(1, .int 0), (0, .ref h)]) hx hb dX12_empty_4 rfl hl (by decide) rfl (fun ls hl => ?_)
  refine lv_aload_n hx hb dX12_empty_5 rfl (lv_at hl 1 rfl) ?_
  refine lv_iconst (v := 0) hx hb dX12_empty_6 (by decide) ?_
  refine va_put (D := (dC, dI)) (ci := 12) (v := .int 0) (ty := (.int)) (C := RX12) (T := TX12) (N := 75) hx hb ht inX12 tyX12 tyX12_ok nmX12 hown hK hP hD hS 0 rfl rfl 57 (by decide) (ht _ m_1196) (fun _ h9 => h9) rfl (by decide +kernel) rfl rfl (Nat.le_of_ble_eq_true rfl) dX12_empty_7 (fun H locs hP hD hS => ?_)
  have hP : va_P (dC, dI) classes [(h, .inr (12, (o12 h g)))] H := hP
  have hD : va_D A [(h, .inr (12, (o12 h g)))] := hD
  refine lv_iload_n hx hb dX12_empty_10 rfl (lv_at hl 0 rfl) ?_
  exact W.iret (v := 0) hx hb hr (fun t ht9 hW => ⟨⟨0, (), rfl, rfl, trivial⟩, hS.F ht9⟩) hS.2.2 dX12_empty_11
set_option maxHeartbeats 4000000 in
set_option maxRecDepth 100000 in
/-- X12_shared -/
theorem c_X12_shared (l : Launch) (dC : Nat → ClassId) (dI : Nat → Nat → Nat) (sz : Nat) (h : Nat) (g : Nat → Nat → Nat) (ca : Nat → Nat → ClassId) (a : Int32) (b : Int32) (d : Int32) (k : Int32) : Met l yX12_shared (wc yX12_shared cX12_shared 5 (some .int)) ({ frames := 1, cells := 0, slots := 0, locals := 25 } : Room) (pW (dC, dI) classes [(h, .inr (12, (o12 h g))), ((g 12 63), .inl ((ca 12 63), 8, .inl (fun _ => 0))), ((g 12 64), .inl ((ca 12 64), 8, .inl (fun _ => 0)))] [((ca 12 63), .int), ((ca 12 64), .int)] sz [.ref h, .int a, .int b, .int d, .int k]) (va_Qi (fun r (_ : Unit) => r = F_shared a b d k) (fun _ _ => True) (va_A [(h, .inr (12, (o12 h g))), ((g 12 63), .inl ((ca 12 63), 8, .inl (fun _ => 0))), ((g 12 64), .inl ((ca 12 64), 8, .inl (fun _ => 0)))] sz)) 0 0 (va_A [(h, .inr (12, (o12 h g))), ((g 12 63), .inl ((ca 12 63), 8, .inl (fun _ => 0))), ((g 12 64), .inl ((ca 12 64), 8, .inl (fun _ => 0)))] sz) := by
  refine Met.ofW (cc := cX12_shared) (maxL := 5) (ret := (some .int)) (by decide) rfl ?_
  intro p e s m args below meth c s₁ B hml hv
  obtain ⟨rfl, hsz, hP, hK, hD0⟩ := hv
  have hx := B.exec
  have hb := B.bytes
  have hr := B.returns
  have ht := tb_tl (atoms_spec (ws := wc yX12_shared cX12_shared 5 (some .int)) B.pre)
  have hown : s.vm.findClass RX12 = some m.cls := findClass_of_methodNamed B.named
  have hlocks := B.notSynchronized
  subst hsz
  have hD := hD0.self (sz := s.heap.size)
  generalize hAe : va_A [(h, .inr (12, (o12 h g))), ((g 12 63), .inl ((ca 12 63), 8, .inl (fun _ => 0))), ((g 12 64), .inl ((ca 12 64), 8, .inl (fun _ => 0)))] s.heap.size = A at hD ⊢
  have hA : ∀ q : Nat, s.heap.size ≤ q → A q := fun q h => by rw [← hAe]; exact Or.inr h
  have hS : va_S A s.heap s.heap [] := va_S.rf
  have hP : va_P (dC, dI) classes [(h, .inr (12, (o12 h g))), ((g 12 63), .inl ((ca 12 63), 8, .inl (fun _ => 0))), ((g 12 64), .inl ((ca 12 64), 8, .inl (fun _ => 0)))] s.heap := hP
  have hl := lv_entry [.ref h, .int a, .int b, .int d, .int k] (n := 5) (Nat.le_of_ble_eq_true rfl)
  rw [lg_entry_eq]
  generalize (lg_sl [.ref h, .int a, .int b, .int d, .int k] ++ List.replicate (5 - (lg_sl [.ref h, .int a, .int b, .int d, .int k]).length) Slot.unset).toArray = ls at hl ⊢
  have hl : lv_has ls 5 [(0, .ref h), (1, .int a), (2, .int b), (3, .int d), (4, .int k)] := hl
  refine lv_iload_n hx hb dX12_shared_0 rfl (lv_at hl 1 rfl) ?_
  refine lv_i2l (v := (a.toInt64)) hx hb dX12_shared_1 rfl ?_
  refine lv_lconst (v := 1) hx hb dX12_shared_2 (by decide) ?_
  refine lv_iload_n hx hb dX12_shared_3 rfl (lv_at hl 2 rfl) ?_
  refine lv_i2l (v := (b.toInt64)) hx hb dX12_shared_4 rfl ?_
  have hPc := hP.sub (ws' := []) [] rfl
  have hKc := hK.sub (tys' := []) [] rfl
  refine vp_callSi (W.runS (As := [.long (a.toInt64), .long 1, .long (b.toInt64)]) (rest := []) ⟨hx, hb, hml, hown, ht⟩ (c_X12_in l dC dI (a.toInt64) 1 (b.toInt64) (a.toInt) (1) (b.toInt) ((Int32.toInt_toInt64 a).trans rfl) (by decide : (1 : Int64).toInt = 1) ((Int32.toInt_toInt64 b).trans rfl)) (kS 3 ht m_1370 m_1371 m_89 m_1372 rfl rfl hd_X12_in_v ⟨Nat.le_of_ble_eq_true rfl, Nat.le_of_ble_eq_true rfl⟩) (sR hPc hKc) rfl rfl hl.1 rfl (lv_room (Nat.le_of_ble_eq_true rfl)) dX12_shared_5 ⟨Nat.le_of_ble_eq_true rfl, Nat.le_of_ble_eq_true rfl⟩) (fun r1 hr1 => ?_)
  rcases hr1 with ⟨rfl, fr1⟩ | ⟨rfl, fr1⟩
  · skip
    refine lv_if_eq (tgt := 38) hx hb dX12_shared_8 (by decide) (fun c2 => ?_) (fun c2 => ?_)
    · exact absurd c2 (by decide)
    · skip
      refine lv_iload_n hx hb dX12_shared_11 rfl (lv_at hl 2 rfl) ?_
      refine lv_sipush (v := 9999) hx hb dX12_shared_12 (by decide) ?_
      refine lv_icmp_gt (tgt := 38) hx hb dX12_shared_15 (by decide) (fun c3 => ?_) (fun c3 => ?_)
      · have fc3 := z_lt (by decide : (9999 : Int32).toInt = 9999) (rfl : (b).toInt = _) c3
        refine lv_ldc hx hb hown (ht _ m_1373) dX12_shared_38 ?_
        exact W.iret (v := (-100002)) hx hb hr (fun t ht9 hW => ⟨⟨(-100002), (), rfl, (by unfold F_shared; first | decide | ((repeat' split) <;> first | rfl | (exfalso; omega) | exact z_of (by decide) (by omega))), trivial⟩, hS.F ht9⟩) hS.2.2 dX12_shared_40
      · have fc3 := z_nlt (by decide : (9999 : Int32).toInt = 9999) (rfl : (b).toInt = _) c3
        refine lv_iload_n hx hb dX12_shared_18 rfl (lv_at hl 3 rfl) ?_
        refine lv_i2l (v := (d.toInt64)) hx hb dX12_shared_19 rfl ?_
        refine lv_lconst (v := 1) hx hb dX12_shared_20 (by decide) ?_
        refine lv_iload hx hb dX12_shared_21 (lv_at hl 4 rfl) ?_
        refine lv_i2l (v := (k.toInt64)) hx hb dX12_shared_23 rfl ?_
        have hPc := hP.sub (ws' := []) [] rfl
        have hKc := hK.sub (tys' := []) [] rfl
        refine vp_callSi (W.runS (As := [.long (d.toInt64), .long 1, .long (k.toInt64)]) (rest := []) ⟨hx, hb, hml, hown, ht⟩ (c_X12_in l dC dI (d.toInt64) 1 (k.toInt64) (d.toInt) (1) (k.toInt) ((Int32.toInt_toInt64 d).trans rfl) (by decide : (1 : Int64).toInt = 1) ((Int32.toInt_toInt64 k).trans rfl)) (kS 3 ht m_1370 m_1371 m_89 m_1372 rfl rfl hd_X12_in_v ⟨Nat.le_of_ble_eq_true rfl, Nat.le_of_ble_eq_true rfl⟩) (sR hPc hKc) rfl rfl hl.1 rfl (lv_room (Nat.le_of_ble_eq_true rfl)) dX12_shared_24 ⟨Nat.le_of_ble_eq_true rfl, Nat.le_of_ble_eq_true rfl⟩) (fun r4 hr4 => ?_)
        rcases hr4 with ⟨rfl, fr4⟩ | ⟨rfl, fr4⟩
        · skip
          refine lv_if_eq (tgt := 38) hx hb dX12_shared_27 (by decide) (fun c5 => ?_) (fun c5 => ?_)
          · exact absurd c5 (by decide)
          · skip
            refine lv_iload hx hb dX12_shared_30 (lv_at hl 4 rfl) ?_
            refine lv_sipush (v := 9999) hx hb dX12_shared_32 (by decide) ?_
            refine lv_icmp_le (tgt := 41) hx hb dX12_shared_35 (by decide) (fun c6 => ?_) (fun c6 => ?_)
            · have fc6 := z_le (rfl : (k).toInt = _) (by decide : (9999 : Int32).toInt = 9999) c6
              refine lv_aload_n hx hb dX12_shared_41 rfl (lv_at hl 0 rfl) ?_
              refine va_get (D := (dC, dI)) (ci := 12) (v := .int 0) (C := RX12) (T := TX12) (N := 75) hx hb ht inX12 hown hK hP 0 rfl rfl 62 (by decide) (ht _ m_1201) (fun _ h9 => h9) rfl dX12_shared_42 ?_
              refine lv_bipush (v := 8) hx hb dX12_shared_45 (by decide) ?_
              refine lv_icmp_ne (tgt := 53) hx hb dX12_shared_47 (by decide) (fun c7 => ?_) (fun c7 => ?_)
              · skip
                refine lv_aload_n hx hb dX12_shared_53 rfl (lv_at hl 0 rfl) ?_
                refine va_get (D := (dC, dI)) (ci := 12) (v := .ref (g 12 63)) (C := RX12) (T := TX12) (N := 75) hx hb ht inX12 hown hK hP 0 rfl rfl 63 (by decide) (ht _ m_1202) (fun _ h9 => h9) rfl dX12_shared_54 ?_
                refine lv_aload_n hx hb dX12_shared_57 rfl (lv_at hl 0 rfl) ?_
                refine va_get (D := (dC, dI)) (ci := 12) (v := .int 0) (C := RX12) (T := TX12) (N := 75) hx hb ht inX12 hown hK hP 0 rfl rfl 62 (by decide) (ht _ m_1201) (fun _ h9 => h9) rfl dX12_shared_58 ?_
                refine lv_iload_n hx hb dX12_shared_61 rfl (lv_at hl 1 rfl) ?_
                refine lv_iload hx hb dX12_shared_62 (lv_at hl 4 rfl) ?_
                refine lv_isub hx hb dX12_shared_64 ?_
                refine lv_topi (fun v8 ev8 => ?_)
                have tv8 := z_sub ev8 (rfl : (a).toInt = _) (rfl : (k).toInt = _) (by omega) (by omega)
                refine va_iast (D := (dC, dI)) hx hb hK hP hD hS 1 0 rfl rfl (by decide) dX12_shared_65 (fun H locs hP hD hS => ?_)
                obtain ⟨f9, hP, hD⟩ : ∃ f9 : Nat → Int32, va_P (dC, dI) classes [(h, .inr (12, (o12 h g))), ((g 12 63), .inl ((ca 12 63), 8, .inl f9)), ((g 12 64), .inl ((ca 12 64), 8, .inl (fun _ => 0)))] H ∧ va_D A [(h, .inr (12, (o12 h g))), ((g 12 63), .inl ((ca 12 63), 8, .inl f9)), ((g 12 64), .inl ((ca 12 64), 8, .inl (fun _ => 0)))] := ⟨_, hP, hD⟩
                refine lv_aload_n hx hb dX12_shared_66 rfl (lv_at hl 0 rfl) ?_
                refine va_get (D := (dC, dI)) (ci := 12) (v := .ref (g 12 64)) (C := RX12) (T := TX12) (N := 75) hx hb ht inX12 hown hK hP 0 rfl rfl 64 (by decide) (ht _ m_1203) (fun _ h9 => h9) rfl dX12_shared_67 ?_
                refine lv_aload_n hx hb dX12_shared_70 rfl (lv_at hl 0 rfl) ?_
                refine va_get (D := (dC, dI)) (ci := 12) (v := .int 0) (C := RX12) (T := TX12) (N := 75) hx hb ht inX12 hown hK hP 0 rfl rfl 62 (by decide) (ht _ m_1201) (fun _ h9 => h9) rfl dX12_shared_71 ?_
                refine lv_iload_n hx hb dX12_shared_74 rfl (lv_at hl 2 rfl) ?_
                refine lv_iload_n hx hb dX12_shared_75 rfl (lv_at hl 3 rfl) ?_
                refine lv_isub hx hb dX12_shared_76 ?_
                refine lv_topi (fun v10 ev10 => ?_)
                have tv10 := z_sub ev10 (rfl : (b).toInt = _) (rfl : (d).toInt = _) (by omega) (by omega)
                refine va_iast (D := (dC, dI)) hx hb hK hP hD hS 2 1 rfl rfl (by decide) dX12_shared_77 (fun H locs hP hD hS => ?_)
                obtain ⟨f11, hP, hD⟩ : ∃ f11 : Nat → Int32, va_P (dC, dI) classes [(h, .inr (12, (o12 h g))), ((g 12 63), .inl ((ca 12 63), 8, .inl f9)), ((g 12 64), .inl ((ca 12 64), 8, .inl f11))] H ∧ va_D A [(h, .inr (12, (o12 h g))), ((g 12 63), .inl ((ca 12 63), 8, .inl f9)), ((g 12 64), .inl ((ca 12 64), 8, .inl f11))] := ⟨_, hP, hD⟩
                refine lv_aload_n hx hb dX12_shared_78 rfl (lv_at hl 0 rfl) ?_
                refine lv_dup hx hb dX12_shared_79 rfl ?_
                refine va_get (D := (dC, dI)) (ci := 12) (v := .int 0) (C := RX12) (T := TX12) (N := 75) hx hb ht inX12 hown hK hP 0 rfl rfl 62 (by decide) (ht _ m_1201) (fun _ h9 => h9) rfl dX12_shared_80 ?_
                refine lv_iconst (v := 1) hx hb dX12_shared_83 (by decide) ?_
                refine lv_iadd hx hb dX12_shared_84 ?_
                refine lv_topi (fun v12 ev12 => ?_)
                obtain rfl : 1 = v12 := (ev12.trans (by decide)).symm
                refine va_put (D := (dC, dI)) (ci := 12) (v := .int 1) (ty := (.int)) (C := RX12) (T := TX12) (N := 75) hx hb ht inX12 tyX12 tyX12_ok nmX12 hown hK hP hD hS 0 rfl rfl 62 (by decide) (ht _ m_1201) (fun _ h9 => h9) rfl (by decide +kernel) rfl rfl (Nat.le_of_ble_eq_true rfl) dX12_shared_85 (fun H locs hP hD hS => ?_)
                have hP : va_P (dC, dI) classes [(h, .inr (12, [.int 0, .int 0, .ref (g 12 2), .int 0, .ref (g 12 4), .ref (g 12 5), .ref (g 12 6), .ref (g 12 7), .ref (g 12 8), .ref (g 12 9), .ref (g 12 10), .ref (g 12 11), .ref (g 12 12), .int 0, .ref (g 12 14), .ref (g 12 15), .ref (g 12 16), .long 0, .long 0, .int 0, .int (-1), .int (-1), .int (-1), .int 0, .ref (g 12 24), .ref (g 12 25), .ref (g 12 26), .ref (g 12 27), .ref (g 12 28), .ref (g 12 29), .ref (g 12 30), .ref (g 12 31), .ref (g 12 32), .int 0, .int 0, .int 0, .int (-1), .int 0, .int 0, .ref (g 12 39), .ref (g 12 40), .int 0, .ref (g 12 42), .ref (g 12 43), .long 0, .long 0, .long 0, .long 0, .int 0, .ref (g 12 49), .ref (g 12 50), .ref (g 12 51), .ref (g 12 52), .ref (g 12 53), .ref (g 12 54), .ref (g 12 55), .ref (g 12 56), .int 0, .ref (g 12 58), .ref (g 12 59), .int 0, .int 0, .int 1, .ref (g 12 63), .ref (g 12 64), .int 0, .int 0, .int 0, .ref (g 12 68), .ref (g 12 69), .ref (g 12 70), .ref (g 12 71), .ref (g 12 72), .ref (g 12 73), .ref (g 12 74)])), ((g 12 63), .inl ((ca 12 63), 8, .inl f9)), ((g 12 64), .inl ((ca 12 64), 8, .inl f11))] H := hP
                have hD : va_D A [(h, .inr (12, [.int 0, .int 0, .ref (g 12 2), .int 0, .ref (g 12 4), .ref (g 12 5), .ref (g 12 6), .ref (g 12 7), .ref (g 12 8), .ref (g 12 9), .ref (g 12 10), .ref (g 12 11), .ref (g 12 12), .int 0, .ref (g 12 14), .ref (g 12 15), .ref (g 12 16), .long 0, .long 0, .int 0, .int (-1), .int (-1), .int (-1), .int 0, .ref (g 12 24), .ref (g 12 25), .ref (g 12 26), .ref (g 12 27), .ref (g 12 28), .ref (g 12 29), .ref (g 12 30), .ref (g 12 31), .ref (g 12 32), .int 0, .int 0, .int 0, .int (-1), .int 0, .int 0, .ref (g 12 39), .ref (g 12 40), .int 0, .ref (g 12 42), .ref (g 12 43), .long 0, .long 0, .long 0, .long 0, .int 0, .ref (g 12 49), .ref (g 12 50), .ref (g 12 51), .ref (g 12 52), .ref (g 12 53), .ref (g 12 54), .ref (g 12 55), .ref (g 12 56), .int 0, .ref (g 12 58), .ref (g 12 59), .int 0, .int 0, .int 1, .ref (g 12 63), .ref (g 12 64), .int 0, .int 0, .int 0, .ref (g 12 68), .ref (g 12 69), .ref (g 12 70), .ref (g 12 71), .ref (g 12 72), .ref (g 12 73), .ref (g 12 74)])), ((g 12 63), .inl ((ca 12 63), 8, .inl f9)), ((g 12 64), .inl ((ca 12 64), 8, .inl f11))] := hD
                refine lv_aload_n hx hb dX12_shared_88 rfl (lv_at hl 0 rfl) ?_
                refine va_get (D := (dC, dI)) (ci := 12) (v := .int 1) (C := RX12) (T := TX12) (N := 75) hx hb ht inX12 hown hK hP 0 rfl rfl 62 (by decide) (ht _ m_1201) (fun _ h9 => h9) rfl dX12_shared_89 ?_
                exact W.iret (v := 1) hx hb hr (fun t ht9 hW => ⟨⟨1, (), rfl, (by unfold F_shared; first | decide | ((repeat' split) <;> first | rfl | (exfalso; omega) | exact z_of (by decide) (by omega))), trivial⟩, hS.F ht9⟩) hS.2.2 dX12_shared_92
              · exact absurd c7 (by decide)
            · have fc6 := z_nle (rfl : (k).toInt = _) (by decide : (9999 : Int32).toInt = 9999) c6
              refine lv_ldc hx hb hown (ht _ m_1373) dX12_shared_38 ?_
              exact W.iret (v := (-100002)) hx hb hr (fun t ht9 hW => ⟨⟨(-100002), (), rfl, (by unfold F_shared; first | decide | ((repeat' split) <;> first | rfl | (exfalso; omega) | exact z_of (by decide) (by omega))), trivial⟩, hS.F ht9⟩) hS.2.2 dX12_shared_40
        · skip
          refine lv_if_eq (tgt := 38) hx hb dX12_shared_27 (by decide) (fun c13 => ?_) (fun c13 => ?_)
          · skip
            refine lv_ldc hx hb hown (ht _ m_1373) dX12_shared_38 ?_
            exact W.iret (v := (-100002)) hx hb hr (fun t ht9 hW => ⟨⟨(-100002), (), rfl, (by unfold F_shared; first | decide | ((repeat' split) <;> first | rfl | (exfalso; omega) | exact z_of (by decide) (by omega))), trivial⟩, hS.F ht9⟩) hS.2.2 dX12_shared_40
          · exact absurd rfl c13
  · skip
    refine lv_if_eq (tgt := 38) hx hb dX12_shared_8 (by decide) (fun c14 => ?_) (fun c14 => ?_)
    · skip
      refine lv_ldc hx hb hown (ht _ m_1373) dX12_shared_38 ?_
      exact W.iret (v := (-100002)) hx hb hr (fun t ht9 hW => ⟨⟨(-100002), (), rfl, (by unfold F_shared; first | decide | ((repeat' split) <;> first | rfl | (exfalso; omega) | exact z_of (by decide) (by omega))), trivial⟩, hS.F ht9⟩) hS.2.2 dX12_shared_40
    · exact absurd rfl c14
set_option maxHeartbeats 4000000 in
set_option maxRecDepth 100000 in
/-- X12_houses -/
theorem c_X12_houses (l : Launch) (dC : Nat → ClassId) (dI : Nat → Nat → Nat) (h : Nat) (g : Nat → Nat → Nat) (ca : Nat → Nat → ClassId) (n : Int32) : Met l yX12_houses (wc yX12_houses cX12_houses 4 (some .int)) ({ frames := 1, cells := 0, slots := 0, locals := 25 } : Room) (pR (dC, dI) classes [(h, .inr (12, (o12 h g)))] [] [.ref h, .int n]) (vp_Si (fun r => r = F_houses n)) 0 0 (fun _ => False) := by
  refine Met.ofW (cc := cX12_houses) (maxL := 4) (ret := (some .int)) (by decide) rfl ?_
  intro p e s m args below meth c s₁ B hml hv
  obtain ⟨rfl, hP, hK⟩ := hv
  have hx := B.exec
  have hb := B.bytes
  have hr := B.returns
  have ht := tb_tl (atoms_spec (ws := wc yX12_houses cX12_houses 4 (some .int)) B.pre)
  have hown : s.vm.findClass RX12 = some m.cls := findClass_of_methodNamed B.named
  have hlocks := B.notSynchronized
  have hl := lv_entry [.ref h, .int n] (n := 4) (Nat.le_of_ble_eq_true rfl)
  rw [lg_entry_eq]
  generalize (lg_sl [.ref h, .int n] ++ List.replicate (4 - (lg_sl [.ref h, .int n]).length) Slot.unset).toArray = ls at hl ⊢
  have hl : lv_has ls 4 [(0, .ref h), (1, .int n)] := hl
  refine lv_iload_n hx hb dX12_houses_0 rfl (lv_at hl 1 rfl) ?_
  refine lv_i2l (v := (n.toInt64)) hx hb dX12_houses_1 rfl ?_
  refine lv_lconst (v := 0) hx hb dX12_houses_2 (by decide) ?_
  refine lv_ldc2 hx hb hown (ht _ m_1390) dX12_houses_3 ?_
  have hPc := hP.sub (ws' := []) [] rfl
  have hKc := hK.sub (tys' := []) [] rfl
  refine vp_callSi (W.runS (As := [.long (n.toInt64), .long 0, .long 2]) (rest := []) ⟨hx, hb, hml, hown, ht⟩ (c_X12_in l dC dI (n.toInt64) 0 2 (n.toInt) (0) (2) ((Int32.toInt_toInt64 n).trans rfl) (by decide : (0 : Int64).toInt = 0) (by decide : (2 : Int64).toInt = 2)) (kS 3 ht m_1370 m_1371 m_89 m_1372 rfl rfl hd_X12_in_v ⟨Nat.le_of_ble_eq_true rfl, Nat.le_of_ble_eq_true rfl⟩) (sR hPc hKc) rfl rfl hl.1 rfl (lv_room (Nat.le_of_ble_eq_true rfl)) dX12_houses_6 ⟨Nat.le_of_ble_eq_true rfl, Nat.le_of_ble_eq_true rfl⟩) (fun r1 hr1 => ?_)
  rcases hr1 with ⟨rfl, fr1⟩ | ⟨rfl, fr1⟩
  · skip
    refine lv_if_ne (tgt := 15) hx hb dX12_houses_9 (by decide) (fun c2 => ?_) (fun c2 => ?_)
    · skip
      refine lv_aload_n hx hb dX12_houses_15 rfl (lv_at hl 0 rfl) ?_
      refine va_get (D := (dC, dI)) (ci := 12) (v := .int 0) (C := RX12) (T := TX12) (N := 75) hx hb ht inX12 hown hK hP 0 rfl rfl 62 (by decide) (ht _ m_1201) (fun _ h9 => h9) rfl dX12_houses_16 ?_
      refine lv_if_ne (tgt := 25) hx hb dX12_houses_19 (by decide) (fun c3 => ?_) (fun c3 => ?_)
      · exact absurd rfl c3
      · skip
        refine lv_ldc hx hb hown (ht _ m_1374) dX12_houses_22 ?_
        exact W.iret (v := (-100003)) hx hb hr (fun t ht9 hW => ⟨(-100003), rfl, (by unfold F_houses; first | decide | ((repeat' split) <;> first | rfl | (exfalso; omega) | exact z_of (by decide) (by omega))), ht9⟩) (fun q hq => by cases hq) dX12_houses_24
    · exact absurd c2 (by decide)
  · skip
    refine lv_if_ne (tgt := 15) hx hb dX12_houses_9 (by decide) (fun c4 => ?_) (fun c4 => ?_)
    · exact absurd rfl c4
    · skip
      refine lv_ldc hx hb hown (ht _ m_1373) dX12_houses_12 ?_
      exact W.iret (v := (-100002)) hx hb hr (fun t ht9 hW => ⟨(-100002), rfl, (by unfold F_houses; first | decide | ((repeat' split) <;> first | rfl | (exfalso; omega) | exact z_of (by decide) (by omega))), ht9⟩) (fun q hq => by cases hq) dX12_houses_14
set_option maxHeartbeats 4000000 in
set_option maxRecDepth 100000 in
/-- X12_stood -/
theorem c_X12_stood (l : Launch) (dC : Nat → ClassId) (dI : Nat → Nat → Nat) (h : Nat) (g : Nat → Nat → Nat) (ca : Nat → Nat → ClassId) (d : Int32) (n : Int32) : Met l yX12_stood (wc yX12_stood cX12_stood 7 (some .long)) ({ frames := 2, cells := 0, slots := 0, locals := 46 } : Room) (pR (dC, dI) classes [(h, .inr (12, (o12 h g)))] [] [.ref h, .int d, .int n]) (vp_Sl (fun r => r = F_stood d n)) 0 0 (fun _ => False) := by
  refine Met.ofW (cc := cX12_stood) (maxL := 7) (ret := (some .long)) (by decide) rfl ?_
  intro p e s m args below meth c s₁ B hml hv
  obtain ⟨rfl, hP, hK⟩ := hv
  have hx := B.exec
  have hb := B.bytes
  have hr := B.returns
  have ht := tb_tl (atoms_spec (ws := wc yX12_stood cX12_stood 7 (some .long)) B.pre)
  have hown : s.vm.findClass RX12 = some m.cls := findClass_of_methodNamed B.named
  have hlocks := B.notSynchronized
  have hl := lv_entry [.ref h, .int d, .int n] (n := 7) (Nat.le_of_ble_eq_true rfl)
  rw [lg_entry_eq]
  generalize (lg_sl [.ref h, .int d, .int n] ++ List.replicate (7 - (lg_sl [.ref h, .int d, .int n]).length) Slot.unset).toArray = ls at hl ⊢
  have hl : lv_has ls 7 [(0, .ref h), (1, .int d), (2, .int n)] := hl
  refine lv_aload_n hx hb dX12_stood_0 rfl (lv_at hl 0 rfl) ?_
  refine lv_iload_n hx hb dX12_stood_1 rfl (lv_at hl 1 rfl) ?_
  have hPc := hP.sub (ws' := [(h, .inr (12, (o12 h g)))]) [0] rfl
  have hKc := hK.sub (tys' := []) [] rfl
  refine vp_callSi (W.runV (As := [.int d]) (rest := []) ⟨hx, hb, hml, hown, ht⟩ (c_X12_isPast l dC dI h g ca d) (kV 1 ht m_1528 m_1530 m_57 m_89 m_1531 rfl rfl hd_X12_isPast_v ⟨Nat.le_of_ble_eq_true rfl, Nat.le_of_ble_eq_true rfl⟩) (vR hPc hKc (va_recv hKc hPc (ci := 12) (q0 := 0) rfl rfl)) rfl rfl hl.1 rfl (lv_room (Nat.le_of_ble_eq_true rfl)) dX12_stood_2 ⟨Nat.le_of_ble_eq_true rfl, Nat.le_of_ble_eq_true rfl⟩) (fun r1 hr1 => ?_)
  rcases hr1 with ⟨rfl, fr1⟩ | ⟨rfl, fr1⟩
  · skip
    refine lv_if_eq (tgt := 18) hx hb dX12_stood_5 (by decide) (fun c2 => ?_) (fun c2 => ?_)
    · exact absurd c2 (by decide)
    · skip
      refine lv_iload_n hx hb dX12_stood_8 rfl (lv_at hl 2 rfl) ?_
      refine lv_i2l (v := (n.toInt64)) hx hb dX12_stood_9 rfl ?_
      refine lv_lconst (v := 0) hx hb dX12_stood_10 (by decide) ?_
      refine lv_lconst (v := 1) hx hb dX12_stood_11 (by decide) ?_
      have hPc := hP.sub (ws' := []) [] rfl
      have hKc := hK.sub (tys' := []) [] rfl
      refine vp_callSi (W.runS (As := [.long (n.toInt64), .long 0, .long 1]) (rest := []) ⟨hx, hb, hml, hown, ht⟩ (c_X12_in l dC dI (n.toInt64) 0 1 (n.toInt) (0) (1) ((Int32.toInt_toInt64 n).trans rfl) (by decide : (0 : Int64).toInt = 0) (by decide : (1 : Int64).toInt = 1)) (kS 3 ht m_1370 m_1371 m_89 m_1372 rfl rfl hd_X12_in_v ⟨Nat.le_of_ble_eq_true rfl, Nat.le_of_ble_eq_true rfl⟩) (sR hPc hKc) rfl rfl hl.1 rfl (lv_room (Nat.le_of_ble_eq_true rfl)) dX12_stood_12 ⟨Nat.le_of_ble_eq_true rfl, Nat.le_of_ble_eq_true rfl⟩) (fun r3 hr3 => ?_)
      rcases hr3 with ⟨rfl, fr3⟩ | ⟨rfl, fr3⟩
      · skip
        refine lv_if_ne (tgt := 22) hx hb dX12_stood_15 (by decide) (fun c4 => ?_) (fun c4 => ?_)
        · skip
          refine lv_lconst (v := 0) hx hb dX12_stood_22 (by decide) ?_
          refine lv_lstore_n (lv' := [(3, .long 0), (0, .ref h), (1, .int d), (2, .int n)]) hx hb dX12_stood_23 rfl hl (by decide) rfl (fun ls hl => ?_)
          refine lv_iconst (v := 0) hx hb dX12_stood_24 (by decide) ?_
          refine lv_istore (lv' := [(5, .int 0), (3, .long 0), (0, .ref h), (1, .int d), (2, .int n)]) hx hb dX12_stood_25 hl (by decide) rfl (fun ls hl => ?_)
          refine lv_iload hx hb dX12_stood_27 (lv_at hl 0 rfl) ?_
          refine lv_aload_n hx hb dX12_stood_29 rfl (lv_at hl 2 rfl) ?_
          refine va_get (D := (dC, dI)) (ci := 12) (v := .int 0) (C := RX12) (T := TX12) (N := 75) hx hb ht inX12 hown hK hP 0 rfl rfl 67 (by decide) (ht _ m_1206) (fun _ h9 => h9) rfl dX12_stood_30 ?_
          refine lv_icmp_ge (tgt := 113) hx hb dX12_stood_33 (by decide) (fun c5 => ?_) (fun c5 => ?_)
          · skip
            refine lv_lload_n hx hb dX12_stood_113 rfl (lv_at hl 1 rfl) ?_
            exact W.lret (v := 0) hx hb hr (fun t ht9 hW => ⟨0, rfl, (by unfold F_stood; first | decide | ((repeat' split) <;> first | rfl | (exfalso; omega) | exact z_of (by decide) (by omega))), ht9⟩) (fun q hq => by cases hq) dX12_stood_114
          · exact absurd rfl c5
        · exact absurd c4 (by decide)
      · skip
        refine lv_if_ne (tgt := 22) hx hb dX12_stood_15 (by decide) (fun c6 => ?_) (fun c6 => ?_)
        · exact absurd rfl c6
        · skip
          refine lv_ldc2 hx hb hown (ht _ m_1561) dX12_stood_18 ?_
          exact W.lret (v := (-100002)) hx hb hr (fun t ht9 hW => ⟨(-100002), rfl, (by unfold F_stood; first | decide | ((repeat' split) <;> first | rfl | (exfalso; omega) | exact z_of (by decide) (by omega))), ht9⟩) (fun q hq => by cases hq) dX12_stood_21
  · skip
    refine lv_if_eq (tgt := 18) hx hb dX12_stood_5 (by decide) (fun c7 => ?_) (fun c7 => ?_)
    · skip
      refine lv_ldc2 hx hb hown (ht _ m_1561) dX12_stood_18 ?_
      exact W.lret (v := (-100002)) hx hb hr (fun t ht9 hW => ⟨(-100002), rfl, (by unfold F_stood; first | decide | ((repeat' split) <;> first | rfl | (exfalso; omega) | exact z_of (by decide) (by omega))), ht9⟩) (fun q hq => by cases hq) dX12_stood_21
    · exact absurd rfl c7
end
