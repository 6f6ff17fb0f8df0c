section
-- ===== PART A: goes FIRST, ahead of the names: the tables' words, and 'selects' of the private methods out of them =====
/-- a private method of a class that the tables say can be made, by its rows of tables_1 -/
def lw_okq (q : MethodName × Nat) : Prop := (q.1.cls ≠ "java/lang/invoke/MethodHandle" ∧ q.1.cls ≠ "java/lang/invoke/VarHandle") ∧ Cond.instantiable q.1.cls q.2 ∈ tables_1 ∧ Cond.privateMethod q.1 ∈ tables_1 ∧ Cond.instanceMethod q.1 ∈ tables_1
theorem lw_p0 : lw_okq (⟨"HallCoughs$Hall", "oneNearDid", "(I)Z"⟩, 13) := ⟨⟨by decide +kernel, by decide +kernel⟩, List.mem_of_getElem? (i := 27) (by decide +kernel), List.mem_of_getElem? (i := 312) (by decide +kernel), List.mem_of_getElem? (i := 313) (by decide +kernel)⟩
theorem lw_p1 : lw_okq (⟨"HallCoughs$Hall", "draw", "()I"⟩, 13) := ⟨⟨by decide +kernel, by decide +kernel⟩, List.mem_of_getElem? (i := 27) (by decide +kernel), List.mem_of_getElem? (i := 375) (by decide +kernel), List.mem_of_getElem? (i := 376) (by decide +kernel)⟩
theorem lw_p2 : lw_okq (⟨"HallCoughs$Hall", "freeSeatFrom", "(I)I"⟩, 13) := ⟨⟨by decide +kernel, by decide +kernel⟩, List.mem_of_getElem? (i := 27) (by decide +kernel), List.mem_of_getElem? (i := 380) (by decide +kernel), List.mem_of_getElem? (i := 381) (by decide +kernel)⟩
theorem lw_p3 : lw_okq (⟨"HallCoughs$Hall", "throatsGrow", "()V"⟩, 13) := ⟨⟨by decide +kernel, by decide +kernel⟩, List.mem_of_getElem? (i := 27) (by decide +kernel), List.mem_of_getElem? (i := 425) (by decide +kernel), List.mem_of_getElem? (i := 426) (by decide +kernel)⟩
theorem lw_p4 : lw_okq (⟨"HallCoughs$Hall", "whoLetsGo", "(I)I"⟩, 13) := ⟨⟨by decide +kernel, by decide +kernel⟩, List.mem_of_getElem? (i := 27) (by decide +kernel), List.mem_of_getElem? (i := 430) (by decide +kernel), List.mem_of_getElem? (i := 431) (by decide +kernel)⟩
theorem lw_p5 : lw_okq (⟨"HallCoughs$Hall", "theyCough", "(I)V"⟩, 13) := ⟨⟨by decide +kernel, by decide +kernel⟩, List.mem_of_getElem? (i := 27) (by decide +kernel), List.mem_of_getElem? (i := 441) (by decide +kernel), List.mem_of_getElem? (i := 442) (by decide +kernel)⟩
theorem lw_p6 : lw_okq (⟨"HallCoughs$Hall", "harmOf", "(II)I"⟩, 13) := ⟨⟨by decide +kernel, by decide +kernel⟩, List.mem_of_getElem? (i := 27) (by decide +kernel), List.mem_of_getElem? (i := 445) (by decide +kernel), List.mem_of_getElem? (i := 446) (by decide +kernel)⟩
theorem lw_p7 : lw_okq (⟨"HallCoughs", "secondsOtherwise", "(LHallCoughs$Row;II)I"⟩, 11) := ⟨⟨by decide +kernel, by decide +kernel⟩, List.mem_of_getElem? (i := 19) (by decide +kernel), List.mem_of_getElem? (i := 510) (by decide +kernel), List.mem_of_getElem? (i := 511) (by decide +kernel)⟩
theorem lw_p8 : lw_okq (⟨"HallCoughs", "putBytes", "(I)V"⟩, 11) := ⟨⟨by decide +kernel, by decide +kernel⟩, List.mem_of_getElem? (i := 19) (by decide +kernel), List.mem_of_getElem? (i := 531) (by decide +kernel), List.mem_of_getElem? (i := 532) (by decide +kernel)⟩
theorem lw_p9 : lw_okq (⟨"HallCoughs$Reader", "goOn", "()V"⟩, 10) := ⟨⟨by decide +kernel, by decide +kernel⟩, List.mem_of_getElem? (i := 126) (by decide +kernel), List.mem_of_getElem? (i := 548) (by decide +kernel), List.mem_of_getElem? (i := 549) (by decide +kernel)⟩
theorem lw_p10 : lw_okq (⟨"HallCoughs$Reader", "sortAt", "(I)I"⟩, 10) := ⟨⟨by decide +kernel, by decide +kernel⟩, List.mem_of_getElem? (i := 126) (by decide +kernel), List.mem_of_getElem? (i := 552) (by decide +kernel), List.mem_of_getElem? (i := 553) (by decide +kernel)⟩
theorem lw_p11 : lw_okq (⟨"HallCoughs$Reader", "takeKey", "()V"⟩, 10) := ⟨⟨by decide +kernel, by decide +kernel⟩, List.mem_of_getElem? (i := 126) (by decide +kernel), List.mem_of_getElem? (i := 556) (by decide +kernel), List.mem_of_getElem? (i := 557) (by decide +kernel)⟩
theorem lw_p12 : lw_okq (⟨"HallCoughs$Reader", "isWord", "(Ljava/lang/String;)Z"⟩, 10) := ⟨⟨by decide +kernel, by decide +kernel⟩, List.mem_of_getElem? (i := 126) (by decide +kernel), List.mem_of_getElem? (i := 561) (by decide +kernel), List.mem_of_getElem? (i := 562) (by decide +kernel)⟩
theorem lw_p13 : lw_okq (⟨"HallCoughs$Reader", "isFault", "()V"⟩, 10) := ⟨⟨by decide +kernel, by decide +kernel⟩, List.mem_of_getElem? (i := 126) (by decide +kernel), List.mem_of_getElem? (i := 615) (by decide +kernel), List.mem_of_getElem? (i := 616) (by decide +kernel)⟩
theorem lw_p14 : lw_okq (⟨"HallCoughs$Reader", "takeLevel", "(III)V"⟩, 10) := ⟨⟨by decide +kernel, by decide +kernel⟩, List.mem_of_getElem? (i := 126) (by decide +kernel), List.mem_of_getElem? (i := 619) (by decide +kernel), List.mem_of_getElem? (i := 620) (by decide +kernel)⟩
theorem lw_p15 : lw_okq (⟨"HallCoughs$Reader", "takeBelow", "(III)V"⟩, 10) := ⟨⟨by decide +kernel, by decide +kernel⟩, List.mem_of_getElem? (i := 126) (by decide +kernel), List.mem_of_getElem? (i := 623) (by decide +kernel), List.mem_of_getElem? (i := 624) (by decide +kernel)⟩
def lw_privs_1 : List (MethodName × Nat) := [(⟨"HallCoughs$Hall", "oneNearDid", "(I)Z"⟩, 13), (⟨"HallCoughs$Hall", "draw", "()I"⟩, 13), (⟨"HallCoughs$Hall", "freeSeatFrom", "(I)I"⟩, 13), (⟨"HallCoughs$Hall", "throatsGrow", "()V"⟩, 13), (⟨"HallCoughs$Hall", "whoLetsGo", "(I)I"⟩, 13), (⟨"HallCoughs$Hall", "theyCough", "(I)V"⟩, 13), (⟨"HallCoughs$Hall", "harmOf", "(II)I"⟩, 13), (⟨"HallCoughs", "secondsOtherwise", "(LHallCoughs$Row;II)I"⟩, 11), (⟨"HallCoughs", "putBytes", "(I)V"⟩, 11), (⟨"HallCoughs$Reader", "goOn", "()V"⟩, 10), (⟨"HallCoughs$Reader", "sortAt", "(I)I"⟩, 10), (⟨"HallCoughs$Reader", "takeKey", "()V"⟩, 10), (⟨"HallCoughs$Reader", "isWord", "(Ljava/lang/String;)Z"⟩, 10), (⟨"HallCoughs$Reader", "isFault", "()V"⟩, 10), (⟨"HallCoughs$Reader", "takeLevel", "(III)V"⟩, 10), (⟨"HallCoughs$Reader", "takeBelow", "(III)V"⟩, 10)]
theorem lw_r1 : ∀ q ∈ lw_privs_1, lw_okq q := List.forall_mem_cons.mpr ⟨lw_p0, List.forall_mem_cons.mpr ⟨lw_p1, List.forall_mem_cons.mpr ⟨lw_p2, List.forall_mem_cons.mpr ⟨lw_p3, List.forall_mem_cons.mpr ⟨lw_p4, List.forall_mem_cons.mpr ⟨lw_p5, List.forall_mem_cons.mpr ⟨lw_p6, List.forall_mem_cons.mpr ⟨lw_p7, List.forall_mem_cons.mpr ⟨lw_p8, List.forall_mem_cons.mpr ⟨lw_p9, List.forall_mem_cons.mpr ⟨lw_p10, List.forall_mem_cons.mpr ⟨lw_p11, List.forall_mem_cons.mpr ⟨lw_p12, List.forall_mem_cons.mpr ⟨lw_p13, List.forall_mem_cons.mpr ⟨lw_p14, List.forall_mem_cons.mpr ⟨lw_p15, fun _ h => absurd h List.not_mem_nil⟩⟩⟩⟩⟩⟩⟩⟩⟩⟩⟩⟩⟩⟩⟩⟩
theorem lw_p16 : lw_okq (⟨"HallCoughs$Reader", "takePiece", "(II)V"⟩, 10) := ⟨⟨by decide +kernel, by decide +kernel⟩, List.mem_of_getElem? (i := 126) (by decide +kernel), List.mem_of_getElem? (i := 627) (by decide +kernel), List.mem_of_getElem? (i := 628) (by decide +kernel)⟩
theorem lw_p17 : lw_okq (⟨"HallCoughs$Reader", "numberAtHand", "()I"⟩, 10) := ⟨⟨by decide +kernel, by decide +kernel⟩, List.mem_of_getElem? (i := 126) (by decide +kernel), List.mem_of_getElem? (i := 631) (by decide +kernel), List.mem_of_getElem? (i := 632) (by decide +kernel)⟩
theorem lw_p18 : lw_okq (⟨"HallCoughs$Reader", "takeLeaf", "(I)V"⟩, 10) := ⟨⟨by decide +kernel, by decide +kernel⟩, List.mem_of_getElem? (i := 126) (by decide +kernel), List.mem_of_getElem? (i := 635) (by decide +kernel), List.mem_of_getElem? (i := 636) (by decide +kernel)⟩
theorem lw_p19 : lw_okq (⟨"HallCoughs$Reader", "write", "(I)V"⟩, 10) := ⟨⟨by decide +kernel, by decide +kernel⟩, List.mem_of_getElem? (i := 126) (by decide +kernel), List.mem_of_getElem? (i := 639) (by decide +kernel), List.mem_of_getElem? (i := 640) (by decide +kernel)⟩
theorem lw_p20 : lw_okq (⟨"HallCoughs$Reader", "takeName", "()V"⟩, 10) := ⟨⟨by decide +kernel, by decide +kernel⟩, List.mem_of_getElem? (i := 126) (by decide +kernel), List.mem_of_getElem? (i := 643) (by decide +kernel), List.mem_of_getElem? (i := 644) (by decide +kernel)⟩
theorem lw_p21 : lw_okq (⟨"HallCoughs$Reader", "namesOfKey", "()Ljava/lang/String;"⟩, 10) := ⟨⟨by decide +kernel, by decide +kernel⟩, List.mem_of_getElem? (i := 126) (by decide +kernel), List.mem_of_getElem? (i := 647) (by decide +kernel), List.mem_of_getElem? (i := 648) (by decide +kernel)⟩
theorem lw_p22 : lw_okq (⟨"HallCoughs$Reader", "isSign", "(C)Z"⟩, 10) := ⟨⟨by decide +kernel, by decide +kernel⟩, List.mem_of_getElem? (i := 126) (by decide +kernel), List.mem_of_getElem? (i := 709) (by decide +kernel), List.mem_of_getElem? (i := 710) (by decide +kernel)⟩
theorem lw_p23 : lw_okq (⟨"HallCoughs$Reader", "takeClosing", "()V"⟩, 10) := ⟨⟨by decide +kernel, by decide +kernel⟩, List.mem_of_getElem? (i := 126) (by decide +kernel), List.mem_of_getElem? (i := 713) (by decide +kernel), List.mem_of_getElem? (i := 714) (by decide +kernel)⟩
theorem lw_p24 : lw_okq (⟨"HallCoughs$Reader", "levelAtHand", "()I"⟩, 10) := ⟨⟨by decide +kernel, by decide +kernel⟩, List.mem_of_getElem? (i := 126) (by decide +kernel), List.mem_of_getElem? (i := 717) (by decide +kernel), List.mem_of_getElem? (i := 718) (by decide +kernel)⟩
theorem lw_p25 : lw_okq (⟨"HallCoughs", "firstNotTold", "(II)I"⟩, 11) := ⟨⟨by decide +kernel, by decide +kernel⟩, List.mem_of_getElem? (i := 19) (by decide +kernel), List.mem_of_getElem? (i := 834) (by decide +kernel), List.mem_of_getElem? (i := 835) (by decide +kernel)⟩
theorem lw_p26 : lw_okq (⟨"HallCoughs", "waitedAt", "(III)Z"⟩, 11) := ⟨⟨by decide +kernel, by decide +kernel⟩, List.mem_of_getElem? (i := 19) (by decide +kernel), List.mem_of_getElem? (i := 838) (by decide +kernel), List.mem_of_getElem? (i := 839) (by decide +kernel)⟩
theorem lw_p27 : lw_okq (⟨"HallCoughsModel", "whoOn", "(I)I"⟩, 33) := ⟨⟨by decide +kernel, by decide +kernel⟩, List.mem_of_getElem? (i := 854) (by decide +kernel), List.mem_of_getElem? (i := 973) (by decide +kernel), List.mem_of_getElem? (i := 974) (by decide +kernel)⟩
theorem lw_p28 : lw_okq (⟨"HallCoughsModel", "of", "(II)I"⟩, 33) := ⟨⟨by decide +kernel, by decide +kernel⟩, List.mem_of_getElem? (i := 854) (by decide +kernel), List.mem_of_getElem? (i := 977) (by decide +kernel), List.mem_of_getElem? (i := 978) (by decide +kernel)⟩
theorem lw_p29 : lw_okq (⟨"HallCoughsModel", "comes", "(III)I"⟩, 33) := ⟨⟨by decide +kernel, by decide +kernel⟩, List.mem_of_getElem? (i := 854) (by decide +kernel), List.mem_of_getElem? (i := 983) (by decide +kernel), List.mem_of_getElem? (i := 984) (by decide +kernel)⟩
theorem lw_p30 : lw_okq (⟨"HallCoughsModel", "put", "(III)V"⟩, 33) := ⟨⟨by decide +kernel, by decide +kernel⟩, List.mem_of_getElem? (i := 854) (by decide +kernel), List.mem_of_getElem? (i := 987) (by decide +kernel), List.mem_of_getElem? (i := 988) (by decide +kernel)⟩
theorem lw_p31 : lw_okq (⟨"HallCoughsModel", "isOne", "(I)Z"⟩, 33) := ⟨⟨by decide +kernel, by decide +kernel⟩, List.mem_of_getElem? (i := 854) (by decide +kernel), List.mem_of_getElem? (i := 995) (by decide +kernel), List.mem_of_getElem? (i := 996) (by decide +kernel)⟩
def lw_privs_2 : List (MethodName × Nat) := [(⟨"HallCoughs$Reader", "takePiece", "(II)V"⟩, 10), (⟨"HallCoughs$Reader", "numberAtHand", "()I"⟩, 10), (⟨"HallCoughs$Reader", "takeLeaf", "(I)V"⟩, 10), (⟨"HallCoughs$Reader", "write", "(I)V"⟩, 10), (⟨"HallCoughs$Reader", "takeName", "()V"⟩, 10), (⟨"HallCoughs$Reader", "namesOfKey", "()Ljava/lang/String;"⟩, 10), (⟨"HallCoughs$Reader", "isSign", "(C)Z"⟩, 10), (⟨"HallCoughs$Reader", "takeClosing", "()V"⟩, 10), (⟨"HallCoughs$Reader", "levelAtHand", "()I"⟩, 10), (⟨"HallCoughs", "firstNotTold", "(II)I"⟩, 11), (⟨"HallCoughs", "waitedAt", "(III)Z"⟩, 11), (⟨"HallCoughsModel", "whoOn", "(I)I"⟩, 33), (⟨"HallCoughsModel", "of", "(II)I"⟩, 33), (⟨"HallCoughsModel", "comes", "(III)I"⟩, 33), (⟨"HallCoughsModel", "put", "(III)V"⟩, 33), (⟨"HallCoughsModel", "isOne", "(I)Z"⟩, 33)]
theorem lw_r2 : ∀ q ∈ lw_privs_2, lw_okq q := List.forall_mem_cons.mpr ⟨lw_p16, List.forall_mem_cons.mpr ⟨lw_p17, List.forall_mem_cons.mpr ⟨lw_p18, List.forall_mem_cons.mpr ⟨lw_p19, List.forall_mem_cons.mpr ⟨lw_p20, List.forall_mem_cons.mpr ⟨lw_p21, List.forall_mem_cons.mpr ⟨lw_p22, List.forall_mem_cons.mpr ⟨lw_p23, List.forall_mem_cons.mpr ⟨lw_p24, List.forall_mem_cons.mpr ⟨lw_p25, List.forall_mem_cons.mpr ⟨lw_p26, List.forall_mem_cons.mpr ⟨lw_p27, List.forall_mem_cons.mpr ⟨lw_p28, List.forall_mem_cons.mpr ⟨lw_p29, List.forall_mem_cons.mpr ⟨lw_p30, List.forall_mem_cons.mpr ⟨lw_p31, fun _ h => absurd h List.not_mem_nil⟩⟩⟩⟩⟩⟩⟩⟩⟩⟩⟩⟩⟩⟩⟩⟩
theorem lw_p32 : lw_okq (⟨"HallCoughsModel", "growsBy", "(I)I"⟩, 33) := ⟨⟨by decide +kernel, by decide +kernel⟩, List.mem_of_getElem? (i := 854) (by decide +kernel), List.mem_of_getElem? (i := 999) (by decide +kernel), List.mem_of_getElem? (i := 1000) (by decide +kernel)⟩
theorem lw_p33 : lw_okq (⟨"HallCoughsModel", "counts", "(I)I"⟩, 33) := ⟨⟨by decide +kernel, by decide +kernel⟩, List.mem_of_getElem? (i := 854) (by decide +kernel), List.mem_of_getElem? (i := 1003) (by decide +kernel), List.mem_of_getElem? (i := 1004) (by decide +kernel)⟩
theorem lw_p34 : lw_okq (⟨"HallCoughsModel", "worksOut", "(I)I"⟩, 33) := ⟨⟨by decide +kernel, by decide +kernel⟩, List.mem_of_getElem? (i := 854) (by decide +kernel), List.mem_of_getElem? (i := 1007) (by decide +kernel), List.mem_of_getElem? (i := 1008) (by decide +kernel)⟩
theorem lw_p35 : lw_okq (⟨"HallCoughsModel", "letsGo", "(I)Z"⟩, 33) := ⟨⟨by decide +kernel, by decide +kernel⟩, List.mem_of_getElem? (i := 854) (by decide +kernel), List.mem_of_getElem? (i := 1017) (by decide +kernel), List.mem_of_getElem? (i := 1018) (by decide +kernel)⟩
theorem lw_p36 : lw_okq (⟨"HallCoughsModel", "loudOn", "(I)I"⟩, 33) := ⟨⟨by decide +kernel, by decide +kernel⟩, List.mem_of_getElem? (i := 854) (by decide +kernel), List.mem_of_getElem? (i := 1021) (by decide +kernel), List.mem_of_getElem? (i := 1022) (by decide +kernel)⟩
theorem lw_p37 : lw_okq (⟨"HallCoughsModel", "isSetOff", "(I)Z"⟩, 33) := ⟨⟨by decide +kernel, by decide +kernel⟩, List.mem_of_getElem? (i := 854) (by decide +kernel), List.mem_of_getElem? (i := 1025) (by decide +kernel), List.mem_of_getElem? (i := 1026) (by decide +kernel)⟩
theorem lw_p38 : lw_okq (⟨"HallCoughsModel", "worthOf", "(I)I"⟩, 33) := ⟨⟨by decide +kernel, by decide +kernel⟩, List.mem_of_getElem? (i := 854) (by decide +kernel), List.mem_of_getElem? (i := 1029) (by decide +kernel), List.mem_of_getElem? (i := 1030) (by decide +kernel)⟩
theorem lw_p39 : lw_okq (⟨"HallCoughsModel", "becomes", "(II)I"⟩, 33) := ⟨⟨by decide +kernel, by decide +kernel⟩, List.mem_of_getElem? (i := 854) (by decide +kernel), List.mem_of_getElem? (i := 1045) (by decide +kernel), List.mem_of_getElem? (i := 1046) (by decide +kernel)⟩
theorem lw_p40 : lw_okq (⟨"HallCoughsModel", "draw", "()I"⟩, 33) := ⟨⟨by decide +kernel, by decide +kernel⟩, List.mem_of_getElem? (i := 854) (by decide +kernel), List.mem_of_getElem? (i := 1069) (by decide +kernel), List.mem_of_getElem? (i := 1070) (by decide +kernel)⟩
theorem lw_p41 : lw_okq (⟨"HallCoughsModel", "seconds", "(I)I"⟩, 33) := ⟨⟨by decide +kernel, by decide +kernel⟩, List.mem_of_getElem? (i := 854) (by decide +kernel), List.mem_of_getElem? (i := 1099) (by decide +kernel), List.mem_of_getElem? (i := 1100) (by decide +kernel)⟩
theorem lw_p42 : lw_okq (⟨"HallCoughsModel", "second", "()I"⟩, 33) := ⟨⟨by decide +kernel, by decide +kernel⟩, List.mem_of_getElem? (i := 854) (by decide +kernel), List.mem_of_getElem? (i := 1103) (by decide +kernel), List.mem_of_getElem? (i := 1104) (by decide +kernel)⟩
theorem lw_p43 : lw_okq (⟨"HallCoughsModel", "harmBy", "(I)I"⟩, 33) := ⟨⟨by decide +kernel, by decide +kernel⟩, List.mem_of_getElem? (i := 854) (by decide +kernel), List.mem_of_getElem? (i := 1110) (by decide +kernel), List.mem_of_getElem? (i := 1111) (by decide +kernel)⟩
theorem lw_p44 : lw_okq (⟨"HallCoughsModel", "thinks", "()V"⟩, 33) := ⟨⟨by decide +kernel, by decide +kernel⟩, List.mem_of_getElem? (i := 854) (by decide +kernel), List.mem_of_getElem? (i := 1122) (by decide +kernel), List.mem_of_getElem? (i := 1123) (by decide +kernel)⟩
theorem lw_p45 : lw_okq (⟨"HallCoughsModel", "behindAll", "(II)I"⟩, 33) := ⟨⟨by decide +kernel, by decide +kernel⟩, List.mem_of_getElem? (i := 854) (by decide +kernel), List.mem_of_getElem? (i := 1126) (by decide +kernel), List.mem_of_getElem? (i := 1127) (by decide +kernel)⟩
theorem lw_p46 : lw_okq (⟨"HallCoughsModel", "coughsAll", "()I"⟩, 33) := ⟨⟨by decide +kernel, by decide +kernel⟩, List.mem_of_getElem? (i := 854) (by decide +kernel), List.mem_of_getElem? (i := 1130) (by decide +kernel), List.mem_of_getElem? (i := 1131) (by decide +kernel)⟩
theorem lw_p47 : lw_okq (⟨"HallCoughsModel", "mostItch", "()I"⟩, 33) := ⟨⟨by decide +kernel, by decide +kernel⟩, List.mem_of_getElem? (i := 854) (by decide +kernel), List.mem_of_getElem? (i := 1134) (by decide +kernel), List.mem_of_getElem? (i := 1135) (by decide +kernel)⟩
def lw_privs_3 : List (MethodName × Nat) := [(⟨"HallCoughsModel", "growsBy", "(I)I"⟩, 33), (⟨"HallCoughsModel", "counts", "(I)I"⟩, 33), (⟨"HallCoughsModel", "worksOut", "(I)I"⟩, 33), (⟨"HallCoughsModel", "letsGo", "(I)Z"⟩, 33), (⟨"HallCoughsModel", "loudOn", "(I)I"⟩, 33), (⟨"HallCoughsModel", "isSetOff", "(I)Z"⟩, 33), (⟨"HallCoughsModel", "worthOf", "(I)I"⟩, 33), (⟨"HallCoughsModel", "becomes", "(II)I"⟩, 33), (⟨"HallCoughsModel", "draw", "()I"⟩, 33), (⟨"HallCoughsModel", "seconds", "(I)I"⟩, 33), (⟨"HallCoughsModel", "second", "()I"⟩, 33), (⟨"HallCoughsModel", "harmBy", "(I)I"⟩, 33), (⟨"HallCoughsModel", "thinks", "()V"⟩, 33), (⟨"HallCoughsModel", "behindAll", "(II)I"⟩, 33), (⟨"HallCoughsModel", "coughsAll", "()I"⟩, 33), (⟨"HallCoughsModel", "mostItch", "()I"⟩, 33)]
theorem lw_r3 : ∀ q ∈ lw_privs_3, lw_okq q := List.forall_mem_cons.mpr ⟨lw_p32, List.forall_mem_cons.mpr ⟨lw_p33, List.forall_mem_cons.mpr ⟨lw_p34, List.forall_mem_cons.mpr ⟨lw_p35, List.forall_mem_cons.mpr ⟨lw_p36, List.forall_mem_cons.mpr ⟨lw_p37, List.forall_mem_cons.mpr ⟨lw_p38, List.forall_mem_cons.mpr ⟨lw_p39, List.forall_mem_cons.mpr ⟨lw_p40, List.forall_mem_cons.mpr ⟨lw_p41, List.forall_mem_cons.mpr ⟨lw_p42, List.forall_mem_cons.mpr ⟨lw_p43, List.forall_mem_cons.mpr ⟨lw_p44, List.forall_mem_cons.mpr ⟨lw_p45, List.forall_mem_cons.mpr ⟨lw_p46, List.forall_mem_cons.mpr ⟨lw_p47, fun _ h => absurd h List.not_mem_nil⟩⟩⟩⟩⟩⟩⟩⟩⟩⟩⟩⟩⟩⟩⟩⟩
theorem lw_p48 : lw_okq (⟨"HallCoughsModel", "putsBack", "()V"⟩, 33) := ⟨⟨by decide +kernel, by decide +kernel⟩, List.mem_of_getElem? (i := 854) (by decide +kernel), List.mem_of_getElem? (i := 1138) (by decide +kernel), List.mem_of_getElem? (i := 1139) (by decide +kernel)⟩
theorem lw_p49 : lw_okq (⟨"HallCoughsModel", "otherwise", "(III)I"⟩, 33) := ⟨⟨by decide +kernel, by decide +kernel⟩, List.mem_of_getElem? (i := 854) (by decide +kernel), List.mem_of_getElem? (i := 1174) (by decide +kernel), List.mem_of_getElem? (i := 1175) (by decide +kernel)⟩
theorem lw_p50 : lw_okq (⟨"HallCoughsModel", "go", "()V"⟩, 33) := ⟨⟨by decide +kernel, by decide +kernel⟩, List.mem_of_getElem? (i := 854) (by decide +kernel), List.mem_of_getElem? (i := 1194) (by decide +kernel), List.mem_of_getElem? (i := 1195) (by decide +kernel)⟩
theorem lw_p51 : lw_okq (⟨"HallCoughsModel", "isLetter", "(I)Z"⟩, 33) := ⟨⟨by decide +kernel, by decide +kernel⟩, List.mem_of_getElem? (i := 854) (by decide +kernel), List.mem_of_getElem? (i := 1198) (by decide +kernel), List.mem_of_getElem? (i := 1199) (by decide +kernel)⟩
theorem lw_p52 : lw_okq (⟨"HallCoughsModel", "isFigure", "(I)Z"⟩, 33) := ⟨⟨by decide +kernel, by decide +kernel⟩, List.mem_of_getElem? (i := 854) (by decide +kernel), List.mem_of_getElem? (i := 1202) (by decide +kernel), List.mem_of_getElem? (i := 1203) (by decide +kernel)⟩
theorem lw_p53 : lw_okq (⟨"HallCoughsModel", "takesKey", "()Z"⟩, 33) := ⟨⟨by decide +kernel, by decide +kernel⟩, List.mem_of_getElem? (i := 854) (by decide +kernel), List.mem_of_getElem? (i := 1206) (by decide +kernel), List.mem_of_getElem? (i := 1207) (by decide +kernel)⟩
theorem lw_p54 : lw_okq (⟨"HallCoughsModel", "takesE", "()Z"⟩, 33) := ⟨⟨by decide +kernel, by decide +kernel⟩, List.mem_of_getElem? (i := 854) (by decide +kernel), List.mem_of_getElem? (i := 1210) (by decide +kernel), List.mem_of_getElem? (i := 1211) (by decide +kernel)⟩
theorem lw_p55 : lw_okq (⟨"HallCoughsModel", "takesPart", "()Z"⟩, 33) := ⟨⟨by decide +kernel, by decide +kernel⟩, List.mem_of_getElem? (i := 854) (by decide +kernel), List.mem_of_getElem? (i := 1214) (by decide +kernel), List.mem_of_getElem? (i := 1215) (by decide +kernel)⟩
theorem lw_p56 : lw_okq (⟨"HallCoughsModel", "nameOf", "(I)I"⟩, 33) := ⟨⟨by decide +kernel, by decide +kernel⟩, List.mem_of_getElem? (i := 854) (by decide +kernel), List.mem_of_getElem? (i := 1218) (by decide +kernel), List.mem_of_getElem? (i := 1219) (by decide +kernel)⟩
theorem lw_p57 : lw_okq (⟨"HallCoughsModel", "settle", "(I)V"⟩, 33) := ⟨⟨by decide +kernel, by decide +kernel⟩, List.mem_of_getElem? (i := 854) (by decide +kernel), List.mem_of_getElem? (i := 1222) (by decide +kernel), List.mem_of_getElem? (i := 1223) (by decide +kernel)⟩
theorem lw_p58 : lw_okq (⟨"HallCoughsModel", "notsOpen", "()I"⟩, 33) := ⟨⟨by decide +kernel, by decide +kernel⟩, List.mem_of_getElem? (i := 854) (by decide +kernel), List.mem_of_getElem? (i := 1229) (by decide +kernel), List.mem_of_getElem? (i := 1230) (by decide +kernel)⟩
theorem lw_p59 : lw_okq (⟨"HallCoughsModel", "signHere", "()I"⟩, 33) := ⟨⟨by decide +kernel, by decide +kernel⟩, List.mem_of_getElem? (i := 854) (by decide +kernel), List.mem_of_getElem? (i := 1233) (by decide +kernel), List.mem_of_getElem? (i := 1234) (by decide +kernel)⟩
def lw_privs_4 : List (MethodName × Nat) := [(⟨"HallCoughsModel", "putsBack", "()V"⟩, 33), (⟨"HallCoughsModel", "otherwise", "(III)I"⟩, 33), (⟨"HallCoughsModel", "go", "()V"⟩, 33), (⟨"HallCoughsModel", "isLetter", "(I)Z"⟩, 33), (⟨"HallCoughsModel", "isFigure", "(I)Z"⟩, 33), (⟨"HallCoughsModel", "takesKey", "()Z"⟩, 33), (⟨"HallCoughsModel", "takesE", "()Z"⟩, 33), (⟨"HallCoughsModel", "takesPart", "()Z"⟩, 33), (⟨"HallCoughsModel", "nameOf", "(I)I"⟩, 33), (⟨"HallCoughsModel", "settle", "(I)V"⟩, 33), (⟨"HallCoughsModel", "notsOpen", "()I"⟩, 33), (⟨"HallCoughsModel", "signHere", "()I"⟩, 33)]
theorem lw_r4 : ∀ q ∈ lw_privs_4, lw_okq q := List.forall_mem_cons.mpr ⟨lw_p48, List.forall_mem_cons.mpr ⟨lw_p49, List.forall_mem_cons.mpr ⟨lw_p50, List.forall_mem_cons.mpr ⟨lw_p51, List.forall_mem_cons.mpr ⟨lw_p52, List.forall_mem_cons.mpr ⟨lw_p53, List.forall_mem_cons.mpr ⟨lw_p54, List.forall_mem_cons.mpr ⟨lw_p55, List.forall_mem_cons.mpr ⟨lw_p56, List.forall_mem_cons.mpr ⟨lw_p57, List.forall_mem_cons.mpr ⟨lw_p58, List.forall_mem_cons.mpr ⟨lw_p59, fun _ h => absurd h List.not_mem_nil⟩⟩⟩⟩⟩⟩⟩⟩⟩⟩⟩⟩
def lw_privs : List (MethodName × Nat) := lw_privs_1 ++ (lw_privs_2 ++ (lw_privs_3 ++ (lw_privs_4)))
def lw_tbl : List Cond := k2_sels lw_privs ++ tables_1
theorem lw_privs_ok : ∀ q ∈ lw_privs, lw_okq q := by
  show ∀ q ∈ lw_privs_1 ++ (lw_privs_2 ++ (lw_privs_3 ++ (lw_privs_4))), lw_okq q
  exact List.forall_mem_append.mpr ⟨lw_r1, List.forall_mem_append.mpr ⟨lw_r2, List.forall_mem_append.mpr ⟨lw_r3, lw_r4⟩⟩⟩
end
section
theorem goodIn_r {big : List Cond} (ws : List Cond) (ps : List Nat) (hp : ws = ps.filterMap (fun i => big[i]?)) (h : ws.all goodWord = true) : GoodIn big ws := by
  intro w hw
  have h1 := List.all_eq_true.mp h w hw
  rw [hp] at hw
  obtain ⟨i, -, hi⟩ := List.mem_filterMap.mp hw
  have hm : w ∈ big := by first | exact List.mem_of_getElem? hi | exact List.getElem?_mem hi
  exact ⟨hm, good_of_word h1⟩
theorem goodIn_app {big a b : List Cond} (ha : GoodIn big a) (hb : GoodIn big b) : GoodIn big (a ++ b) := fun w h => (List.mem_append.mp h).elim (ha w) (hb w)
theorem goodIn_ca {big a b : List Cond} {c : Cond} (ha : GoodIn big (c :: a)) (hb : GoodIn big b) : GoodIn big (c :: (a ++ b)) := fun w h => (List.mem_cons.mp h).elim (fun e => ha w (List.mem_cons.mpr (Or.inl e))) (fun h => (List.mem_append.mp h).elim (fun h => ha w (List.mem_cons.mpr (Or.inr h))) (hb w))
theorem goodIn_sub {big ws : List Cond} (hm : ∀ w ∈ ws, w ∈ big) (h : ws.all goodWord = true) : GoodIn big ws := fun w hw => ⟨hm w hw, good_of_word (List.all_eq_true.mp h w hw)⟩
def RX0 : String := "HallCoughs$Hall"
def TX0 : u_T := fun k => match k with
  | 0 => ("HallCoughs$Hall", "people", "[LHallCoughs$Person;", true)
  | 1 => ("HallCoughs$Hall", "loud", "[I", true)
  | 2 => ("HallCoughs$Hall", "laws", "[LHallCoughs$Text;", true)
  | 3 => ("HallCoughs$Hall", "counting", "[I", true)
  | 4 => ("HallCoughs$Hall", "size", "I", false)
  | 5 => ("HallCoughs$Hall", "bars", "I", false)
  | 6 => ("HallCoughs$Hall", "texts", "I", false)
  | 7 => ("HallCoughs$Hall", "dry", "I", false)
  | 8 => ("HallCoughs$Hall", "near", "I", false)
  | 9 => ("HallCoughs$Hall", "second", "I", false)
  | 10 => ("HallCoughs$Hall", "harm", "I", false)
  | 11 => ("HallCoughs$Hall", "did", "I", false)
  | _ => ("HallCoughs$Hall", "z", "I", false)
def tyX0 : Nat → FieldType := fun k => match k with
  | 0 => .array (.object "HallCoughs$Person")
  | 1 => .array .int
  | 2 => .array (.object "HallCoughs$Text")
  | 3 => .array .int
  | 4 => .int
  | 5 => .int
  | 6 => .int
  | 7 => .int
  | 8 => .int
  | 9 => .int
  | 10 => .int
  | 11 => .int
  | _ => .int
abbrev wsX00 : List Cond := u_ws RX0 TX0 13
theorem nmX0 : ∀ a, a < 13 → ∀ b, b < 13 → a ≠ b → (TX0 a).2.1 ≠ (TX0 b).2.1 := by decide +kernel
theorem tyX0_ok : ∀ k, k < 13 → parseFieldDescriptor (TX0 k).2.2.1 = some (tyX0 k) := by decide +kernel
abbrev cX0_init : ByteArray := prog_2_method_1_code
def yX0_init : MethodName := ⟨RX0, "<init>", "()V"⟩
abbrev cX0_becomes : ByteArray := prog_2_method_2_code
def yX0_becomes : MethodName := ⟨RX0, "becomes", "(LHallCoughs$Hall;)V"⟩
abbrev cX0_has : ByteArray := prog_2_method_3_code
def yX0_has : MethodName := ⟨RX0, "has", "(I)Z"⟩
abbrev cX0_whoSits : ByteArray := prog_2_method_4_code
def yX0_whoSits : MethodName := ⟨RX0, "whoSits", "(I)I"⟩
abbrev cX0_comes : ByteArray := prog_2_method_5_code
def yX0_comes : MethodName := ⟨RX0, "comes", "(III)I"⟩
abbrev cX0_comesByLot : ByteArray := prog_2_method_6_code
def yX0_comesByLot : MethodName := ⟨RX0, "comesByLot", "()V"⟩
abbrev cX0_draw : ByteArray := prog_2_method_7_code
def yX0_draw : MethodName := ⟨RX0, "draw", "()I"⟩
abbrev cX0_freeSeatFrom : ByteArray := prog_2_method_8_code
def yX0_freeSeatFrom : MethodName := ⟨RX0, "freeSeatFrom", "(I)I"⟩
abbrev cX0_swapSeats : ByteArray := prog_2_method_9_code
def yX0_swapSeats : MethodName := ⟨RX0, "swapSeats", "(II)V"⟩
abbrev cX0_loudIn : ByteArray := prog_2_method_10_code
def yX0_loudIn : MethodName := ⟨RX0, "loudIn", "(I)I"⟩
abbrev cX0_upToTheLast : ByteArray := prog_2_method_11_code
def yX0_upToTheLast : MethodName := ⟨RX0, "upToTheLast", "(I)I"⟩
abbrev cX0_hasCoughed : ByteArray := prog_2_method_12_code
def yX0_hasCoughed : MethodName := ⟨RX0, "hasCoughed", "(I)Z"⟩
abbrev cX0_allCoughs : ByteArray := prog_2_method_13_code
def yX0_allCoughs : MethodName := ⟨RX0, "allCoughs", "()I"⟩
abbrev cX0_greatestItch : ByteArray := prog_2_method_14_code
def yX0_greatestItch : MethodName := ⟨RX0, "greatestItch", "()I"⟩
abbrev cX0_takesText : ByteArray := prog_2_method_15_code
def yX0_takesText : MethodName := ⟨RX0, "takesText", "(LHallCoughs$Text;)I"⟩
abbrev cX0_lawAt : ByteArray := prog_2_method_16_code
def yX0_lawAt : MethodName := ⟨RX0, "lawAt", "(I)LHallCoughs$Text;"⟩
abbrev cX0_grows : ByteArray := prog_2_method_17_code
def yX0_grows : MethodName := ⟨RX0, "grows", "(LHallCoughs$Person;)I"⟩
abbrev cX0_harmOf : ByteArray := prog_2_method_18_code
def yX0_harmOf : MethodName := ⟨RX0, "harmOf", "(II)I"⟩
abbrev cX0_fineOf : ByteArray := prog_2_method_19_code
def yX0_fineOf : MethodName := ⟨RX0, "fineOf", "(LHallCoughs$Person;)I"⟩
abbrev cX0_letsGo : ByteArray := prog_2_method_20_code
def yX0_letsGo : MethodName := ⟨RX0, "letsGo", "(II)Z"⟩
abbrev cX0_oneNearDid : ByteArray := prog_2_method_21_code
def yX0_oneNearDid : MethodName := ⟨RX0, "oneNearDid", "(I)Z"⟩
abbrev cX0_passSeconds : ByteArray := prog_2_method_22_code
def yX0_passSeconds : MethodName := ⟨RX0, "passSeconds", "(I)I"⟩
abbrev cX0_passSecond : ByteArray := prog_2_method_23_code
def yX0_passSecond : MethodName := ⟨RX0, "passSecond", "()I"⟩
abbrev cX0_throatsGrow : ByteArray := prog_2_method_24_code
def yX0_throatsGrow : MethodName := ⟨RX0, "throatsGrow", "()V"⟩
abbrev cX0_whoLetsGo : ByteArray := prog_2_method_25_code
def yX0_whoLetsGo : MethodName := ⟨RX0, "whoLetsGo", "(I)I"⟩
abbrev cX0_theyCough : ByteArray := prog_2_method_26_code
def yX0_theyCough : MethodName := ⟨RX0, "theyCough", "(I)V"⟩
def RX1 : String := "HallCoughs$Person"
def TX1 : u_T := fun k => match k with
  | 0 => ("HallCoughs$Person", "kind", "I", false)
  | 1 => ("HallCoughs$Person", "seat", "I", false)
  | 2 => ("HallCoughs$Person", "age", "I", false)
  | 3 => ("HallCoughs$Person", "itch", "I", false)
  | 4 => ("HallCoughs$Person", "sweet", "I", false)
  | _ => ("HallCoughs$Person", "coughs", "I", false)
def tyX1 : Nat → FieldType := fun k => match k with
  | 0 => .int
  | 1 => .int
  | 2 => .int
  | 3 => .int
  | 4 => .int
  | _ => .int
abbrev wsX10 : List Cond := u_ws RX1 TX1 6
theorem nmX1 : ∀ a, a < 6 → ∀ b, b < 6 → a ≠ b → (TX1 a).2.1 ≠ (TX1 b).2.1 := by decide +kernel
theorem tyX1_ok : ∀ k, k < 6 → parseFieldDescriptor (TX1 k).2.2.1 = some (tyX1 k) := by decide +kernel
abbrev cX1_init : ByteArray := prog_3_method_1_code
def yX1_init : MethodName := ⟨RX1, "<init>", "()V"⟩
abbrev cX1_becomes : ByteArray := prog_3_method_2_code
def yX1_becomes : MethodName := ⟨RX1, "becomes", "(LHallCoughs$Person;)V"⟩
abbrev cX1_comesNew : ByteArray := prog_3_method_3_code
def yX1_comesNew : MethodName := ⟨RX1, "comesNew", "(III)V"⟩
abbrev cX1_changeAge : ByteArray := prog_3_method_4_code
def yX1_changeAge : MethodName := ⟨RX1, "changeAge", "(I)I"⟩
abbrev cX1_changeItch : ByteArray := prog_3_method_5_code
def yX1_changeItch : MethodName := ⟨RX1, "changeItch", "(I)I"⟩
abbrev cX1_changeSweet : ByteArray := prog_3_method_6_code
def yX1_changeSweet : MethodName := ⟨RX1, "changeSweet", "(I)I"⟩
abbrev cX1_isOf : ByteArray := prog_3_method_7_code
def yX1_isOf : MethodName := ⟨RX1, "isOf", "(I)Z"⟩
abbrev cX1_worth : ByteArray := prog_3_method_8_code
def yX1_worth : MethodName := ⟨RX1, "worth", "()I"⟩
def RX2 : String := "HallCoughs$Reader"
def TX2 : u_T := fun k => match k with
  | 0 => ("HallCoughs$Reader", "fault", "I", false)
  | 1 => ("HallCoughs$Reader", "code", "[I", true)
  | 2 => ("HallCoughs$Reader", "bytes", "[B", false)
  | 3 => ("HallCoughs$Reader", "length", "I", false)
  | 4 => ("HallCoughs$Reader", "place", "I", false)
  | 5 => ("HallCoughs$Reader", "end", "I", false)
  | 6 => ("HallCoughs$Reader", "sort", "I", false)
  | 7 => ("HallCoughs$Reader", "key", "I", false)
  | 8 => ("HallCoughs$Reader", "written", "I", false)
  | _ => ("HallCoughs$Reader", "leaves", "I", false)
def tyX2 : Nat → FieldType := fun k => match k with
  | 0 => .int
  | 1 => .array .int
  | 2 => .array .byte
  | 3 => .int
  | 4 => .int
  | 5 => .int
  | 6 => .int
  | 7 => .int
  | 8 => .int
  | _ => .int
abbrev wsX20 : List Cond := u_ws RX2 TX2 10
theorem nmX2 : ∀ a, a < 10 → ∀ b, b < 10 → a ≠ b → (TX2 a).2.1 ≠ (TX2 b).2.1 := by decide +kernel
theorem tyX2_ok : ∀ k, k < 10 → parseFieldDescriptor (TX2 k).2.2.1 = some (tyX2 k) := by decide +kernel
abbrev cX2_init : ByteArray := prog_4_method_1_code
def yX2_init : MethodName := ⟨RX2, "<init>", "()V"⟩
abbrev cX2_readTape : ByteArray := prog_4_method_2_code
def yX2_readTape : MethodName := ⟨RX2, "readTape", "([BI)LHallCoughs$Text;"⟩
abbrev cX2_isFault : ByteArray := prog_4_method_3_code
def yX2_isFault : MethodName := ⟨RX2, "isFault", "()V"⟩
abbrev cX2_goOn : ByteArray := prog_4_method_4_code
def yX2_goOn : MethodName := ⟨RX2, "goOn", "()V"⟩
abbrev cX2_sortAt : ByteArray := prog_4_method_5_code
def yX2_sortAt : MethodName := ⟨RX2, "sortAt", "(I)I"⟩
abbrev cX2_takeKey : ByteArray := prog_4_method_6_code
def yX2_takeKey : MethodName := ⟨RX2, "takeKey", "()V"⟩
abbrev cX2_isWord : ByteArray := prog_4_method_7_code
def yX2_isWord : MethodName := ⟨RX2, "isWord", "(Ljava/lang/String;)Z"⟩
abbrev cX2_takeLevel : ByteArray := prog_4_method_8_code
def yX2_takeLevel : MethodName := ⟨RX2, "takeLevel", "(III)V"⟩
abbrev cX2_takeBelow : ByteArray := prog_4_method_9_code
def yX2_takeBelow : MethodName := ⟨RX2, "takeBelow", "(III)V"⟩
abbrev cX2_levelAtHand : ByteArray := prog_4_method_10_code
def yX2_levelAtHand : MethodName := ⟨RX2, "levelAtHand", "()I"⟩
abbrev cX2_takePiece : ByteArray := prog_4_method_11_code
def yX2_takePiece : MethodName := ⟨RX2, "takePiece", "(II)V"⟩
abbrev cX2_isSign : ByteArray := prog_4_method_12_code
def yX2_isSign : MethodName := ⟨RX2, "isSign", "(C)Z"⟩
abbrev cX2_takeClosing : ByteArray := prog_4_method_13_code
def yX2_takeClosing : MethodName := ⟨RX2, "takeClosing", "()V"⟩
abbrev cX2_takeName : ByteArray := prog_4_method_14_code
def yX2_takeName : MethodName := ⟨RX2, "takeName", "()V"⟩
abbrev cX2_namesOfKey : ByteArray := prog_4_method_15_code
def yX2_namesOfKey : MethodName := ⟨RX2, "namesOfKey", "()Ljava/lang/String;"⟩
abbrev cX2_numberAtHand : ByteArray := prog_4_method_16_code
def yX2_numberAtHand : MethodName := ⟨RX2, "numberAtHand", "()I"⟩
abbrev cX2_takeLeaf : ByteArray := prog_4_method_17_code
def yX2_takeLeaf : MethodName := ⟨RX2, "takeLeaf", "(I)V"⟩
abbrev cX2_write : ByteArray := prog_4_method_18_code
def yX2_write : MethodName := ⟨RX2, "write", "(I)V"⟩
def RX3 : String := "HallCoughs$Row"
def TX3 : u_T := fun k => match k with
  | 0 => ("HallCoughs$Row", "places", "[I", true)
  | 1 => ("HallCoughs$Row", "sort", "I", false)
  | _ => ("HallCoughs$Row", "size", "I", false)
def tyX3 : Nat → FieldType := fun k => match k with
  | 0 => .array .int
  | 1 => .int
  | _ => .int
abbrev wsX30 : List Cond := u_ws RX3 TX3 3
theorem nmX3 : ∀ a, a < 3 → ∀ b, b < 3 → a ≠ b → (TX3 a).2.1 ≠ (TX3 b).2.1 := by decide +kernel
theorem tyX3_ok : ∀ k, k < 3 → parseFieldDescriptor (TX3 k).2.2.1 = some (tyX3 k) := by decide +kernel
abbrev cX3_init : ByteArray := prog_5_method_1_code
def yX3_init : MethodName := ⟨RX3, "<init>", "()V"⟩
abbrev cX3_becomes : ByteArray := prog_5_method_2_code
def yX3_becomes : MethodName := ⟨RX3, "becomes", "(LHallCoughs$Row;)V"⟩
abbrev cX3_clears : ByteArray := prog_5_method_3_code
def yX3_clears : MethodName := ⟨RX3, "clears", "(II)V"⟩
abbrev cX3_isNumber : ByteArray := prog_5_method_4_code
def yX3_isNumber : MethodName := ⟨RX3, "isNumber", "(I)Z"⟩
abbrev cX3_hasStretch : ByteArray := prog_5_method_5_code
def yX3_hasStretch : MethodName := ⟨RX3, "hasStretch", "(II)Z"⟩
def RX4 : String := "HallCoughs$Slot"
def TX4 : u_T := fun k => match k with
  | 0 => ("HallCoughs$Slot", "thing", "I", false)
  | 1 => ("HallCoughs$Slot", "one", "LHallCoughs$Person;", true)
  | 2 => ("HallCoughs$Slot", "row", "LHallCoughs$Row;", true)
  | _ => ("HallCoughs$Slot", "number", "I", false)
def tyX4 : Nat → FieldType := fun k => match k with
  | 0 => .int
  | 1 => .object "HallCoughs$Person"
  | 2 => .object "HallCoughs$Row"
  | _ => .int
abbrev wsX40 : List Cond := u_ws RX4 TX4 4
theorem nmX4 : ∀ a, a < 4 → ∀ b, b < 4 → a ≠ b → (TX4 a).2.1 ≠ (TX4 b).2.1 := by decide +kernel
theorem tyX4_ok : ∀ k, k < 4 → parseFieldDescriptor (TX4 k).2.2.1 = some (tyX4 k) := by decide +kernel
abbrev cX4_init : ByteArray := prog_6_method_1_code
def yX4_init : MethodName := ⟨RX4, "<init>", "()V"⟩
def RX5 : String := "HallCoughs$Text"
def TX5 : u_T := fun k => match k with
  | 0 => ("HallCoughs$Text", "key", "I", true)
  | 1 => ("HallCoughs$Text", "leaves", "I", true)
  | 2 => ("HallCoughs$Text", "code", "[I", true)
  | _ => ("HallCoughs$Text", "stack", "[I", true)
def tyX5 : Nat → FieldType := fun k => match k with
  | 0 => .int
  | 1 => .int
  | 2 => .array .int
  | _ => .array .int
abbrev wsX50 : List Cond := u_ws RX5 TX5 4
theorem nmX5 : ∀ a, a < 4 → ∀ b, b < 4 → a ≠ b → (TX5 a).2.1 ≠ (TX5 b).2.1 := by decide +kernel
theorem tyX5_ok : ∀ k, k < 4 → parseFieldDescriptor (TX5 k).2.2.1 = some (tyX5 k) := by decide +kernel
abbrev cX5_init : ByteArray := prog_7_method_1_code
def yX5_init : MethodName := ⟨RX5, "<init>", "(II[I)V"⟩
abbrev cX5_gives : ByteArray := prog_7_method_2_code
def yX5_gives : MethodName := ⟨RX5, "gives", "(III)I"⟩
abbrev cX5_leaf : ByteArray := prog_7_method_3_code
def yX5_leaf : MethodName := ⟨RX5, "leaf", "(IIII)I"⟩
abbrev cX5_joined : ByteArray := prog_7_method_4_code
def yX5_joined : MethodName := ⟨RX5, "joined", "(III)I"⟩
def RX6 : String := "HallCoughs"
def TX6 : u_T := fun k => match k with
  | 0 => ("HallCoughs", "now", "LHallCoughs$Hall;", true)
  | 1 => ("HallCoughs", "image", "LHallCoughs$Hall;", true)
  | 2 => ("HallCoughs", "thought", "LHallCoughs$Hall;", true)
  | 3 => ("HallCoughs", "reader", "LHallCoughs$Reader;", true)
  | 4 => ("HallCoughs", "sheets", "[LHallCoughs$Row;", true)
  | 5 => ("HallCoughs", "slots", "[LHallCoughs$Slot;", true)
  | 6 => ("HallCoughs", "tape", "[B", true)
  | 7 => ("HallCoughs", "waiting", "[I", true)
  | 8 => ("HallCoughs", "imageKept", "Z", false)
  | 9 => ("HallCoughs", "tapeLength", "I", false)
  | _ => ("HallCoughs", "waits", "I", false)
def tyX6 : Nat → FieldType := fun k => match k with
  | 0 => .object "HallCoughs$Hall"
  | 1 => .object "HallCoughs$Hall"
  | 2 => .object "HallCoughs$Hall"
  | 3 => .object "HallCoughs$Reader"
  | 4 => .array (.object "HallCoughs$Row")
  | 5 => .array (.object "HallCoughs$Slot")
  | 6 => .array .byte
  | 7 => .array .int
  | 8 => .boolean
  | 9 => .int
  | _ => .int
abbrev wsX60 : List Cond := u_ws RX6 TX6 11
theorem nmX6 : ∀ a, a < 11 → ∀ b, b < 11 → a ≠ b → (TX6 a).2.1 ≠ (TX6 b).2.1 := by decide +kernel
theorem tyX6_ok : ∀ k, k < 11 → parseFieldDescriptor (TX6 k).2.2.1 = some (tyX6 k) := by decide +kernel
abbrev cX6_init : ByteArray := prog_1_method_1_code
def yX6_init : MethodName := ⟨RX6, "<init>", "()V"⟩
abbrev cX6_person : ByteArray := prog_1_method_2_code
def yX6_person : MethodName := ⟨RX6, "person", "(III)I"⟩
abbrev cX6_told : ByteArray := prog_1_method_3_code
def yX6_told : MethodName := ⟨RX6, "told", "(II)I"⟩
abbrev cX6_as : ByteArray := prog_1_method_4_code
def yX6_as : MethodName := ⟨RX6, "as", "(II)I"⟩
abbrev cX6_turns : ByteArray := prog_1_method_5_code
def yX6_turns : MethodName := ⟨RX6, "turns", "(II)I"⟩
abbrev cX6_set : ByteArray := prog_1_method_6_code
def yX6_set : MethodName := ⟨RX6, "set", "(III)I"⟩
abbrev cX6_move : ByteArray := prog_1_method_7_code
def yX6_move : MethodName := ⟨RX6, "move", "(II)I"⟩
abbrev cX6_onSeat : ByteArray := prog_1_method_8_code
def yX6_onSeat : MethodName := ⟨RX6, "onSeat", "(I)I"⟩
abbrev cX6_deal : ByteArray := prog_1_method_9_code
def yX6_deal : MethodName := ⟨RX6, "deal", "(I)I"⟩
abbrev cX6_seed : ByteArray := prog_1_method_10_code
def yX6_seed : MethodName := ⟨RX6, "seed", "(I)I"⟩
abbrev cX6_hall : ByteArray := prog_1_method_11_code
def yX6_hall : MethodName := ⟨RX6, "hall", "(II)I"⟩
abbrev cX6_bars : ByteArray := prog_1_method_12_code
def yX6_bars : MethodName := ⟨RX6, "bars", "(I)I"⟩
abbrev cX6_loud : ByteArray := prog_1_method_13_code
def yX6_loud : MethodName := ⟨RX6, "loud", "(II)I"⟩
abbrev cX6_music : ByteArray := prog_1_method_14_code
def yX6_music : MethodName := ⟨RX6, "music", "(I)I"⟩
abbrev cX6_run : ByteArray := prog_1_method_15_code
def yX6_run : MethodName := ⟨RX6, "run", "(I)I"⟩
abbrev cX6_did : ByteArray := prog_1_method_16_code
def yX6_did : MethodName := ⟨RX6, "did", "()I"⟩
abbrev cX6_behind : ByteArray := prog_1_method_17_code
def yX6_behind : MethodName := ⟨RX6, "behind", "(II)I"⟩
abbrev cX6_first : ByteArray := prog_1_method_18_code
def yX6_first : MethodName := ⟨RX6, "first", "()I"⟩
abbrev cX6_rest : ByteArray := prog_1_method_19_code
def yX6_rest : MethodName := ⟨RX6, "rest", "(I)I"⟩
abbrev cX6_change : ByteArray := prog_1_method_20_code
def yX6_change : MethodName := ⟨RX6, "change", "(I)I"⟩
abbrev cX6_sweet : ByteArray := prog_1_method_21_code
def yX6_sweet : MethodName := ⟨RX6, "sweet", "(I)I"⟩
abbrev cX6_setOff : ByteArray := prog_1_method_22_code
def yX6_setOff : MethodName := ⟨RX6, "setOff", "(III)I"⟩
abbrev cX6_loudest : ByteArray := prog_1_method_23_code
def yX6_loudest : MethodName := ⟨RX6, "loudest", "()I"⟩
abbrev cX6_toldBy : ByteArray := prog_1_method_24_code
def yX6_toldBy : MethodName := ⟨RX6, "toldBy", "(III)I"⟩
abbrev cX6_fine : ByteArray := prog_1_method_25_code
def yX6_fine : MethodName := ⟨RX6, "fine", "(I)I"⟩
abbrev cX6_feed : ByteArray := prog_1_method_26_code
def yX6_feed : MethodName := ⟨RX6, "feed", "(III)I"⟩
abbrev cX6_trim : ByteArray := prog_1_method_27_code
def yX6_trim : MethodName := ⟨RX6, "trim", "(I)I"⟩
abbrev cX6_text : ByteArray := prog_1_method_28_code
def yX6_text : MethodName := ⟨RX6, "text", "()I"⟩
abbrev cX6_textTold : ByteArray := prog_1_method_29_code
def yX6_textTold : MethodName := ⟨RX6, "textTold", "(II)I"⟩
abbrev cX6_why : ByteArray := prog_1_method_30_code
def yX6_why : MethodName := ⟨RX6, "why", "(I)I"⟩
abbrev cX6_sheet : ByteArray := prog_1_method_31_code
def yX6_sheet : MethodName := ⟨RX6, "sheet", "(III)I"⟩
abbrev cX6_mark : ByteArray := prog_1_method_32_code
def yX6_mark : MethodName := ⟨RX6, "mark", "(III)I"⟩
abbrev cX6_pour : ByteArray := prog_1_method_33_code
def yX6_pour : MethodName := ⟨RX6, "pour", "(I)I"⟩
abbrev cX6_reads : ByteArray := prog_1_method_34_code
def yX6_reads : MethodName := ⟨RX6, "reads", "(I)I"⟩
abbrev cX6_copy : ByteArray := prog_1_method_35_code
def yX6_copy : MethodName := ⟨RX6, "copy", "(IIIII)I"⟩
abbrev cX6_lay : ByteArray := prog_1_method_36_code
def yX6_lay : MethodName := ⟨RX6, "lay", "(III)I"⟩
abbrev cX6_ask : ByteArray := prog_1_method_37_code
def yX6_ask : MethodName := ⟨RX6, "ask", "(II)I"⟩
abbrev cX6_item : ByteArray := prog_1_method_38_code
def yX6_item : MethodName := ⟨RX6, "item", "(II)I"⟩
abbrev cX6_remains : ByteArray := prog_1_method_39_code
def yX6_remains : MethodName := ⟨RX6, "remains", "(II)I"⟩
abbrev cX6_tell : ByteArray := prog_1_method_40_code
def yX6_tell : MethodName := ⟨RX6, "tell", "(I)I"⟩
abbrev cX6_check : ByteArray := prog_1_method_41_code
def yX6_check : MethodName := ⟨RX6, "check", "(I)I"⟩
abbrev cX6_keep : ByteArray := prog_1_method_42_code
def yX6_keep : MethodName := ⟨RX6, "keep", "()I"⟩
abbrev cX6_back : ByteArray := prog_1_method_43_code
def yX6_back : MethodName := ⟨RX6, "back", "()I"⟩
abbrev cX6_count : ByteArray := prog_1_method_44_code
def yX6_count : MethodName := ⟨RX6, "count", "(I)I"⟩
abbrev cX6_within : ByteArray := prog_1_method_45_code
def yX6_within : MethodName := ⟨RX6, "within", "(II)Z"⟩
abbrev cX6_held : ByteArray := prog_1_method_46_code
def yX6_held : MethodName := ⟨RX6, "held", "(II)I"⟩
abbrev cX6_secondsOtherwise : ByteArray := prog_1_method_47_code
def yX6_secondsOtherwise : MethodName := ⟨RX6, "secondsOtherwise", "(LHallCoughs$Row;II)I"⟩
abbrev cX6_putBytes : ByteArray := prog_1_method_48_code
def yX6_putBytes : MethodName := ⟨RX6, "putBytes", "(I)V"⟩
abbrev cX6_firstNotTold : ByteArray := prog_1_method_49_code
def yX6_firstNotTold : MethodName := ⟨RX6, "firstNotTold", "(II)I"⟩
abbrev cX6_waitedAt : ByteArray := prog_1_method_50_code
def yX6_waitedAt : MethodName := ⟨RX6, "waitedAt", "(III)Z"⟩
def RX7 : String := "HallCoughsModel"
def TX7 : u_T := fun k => match k with
  | 0 => ("HallCoughsModel", "now", "[I", true)
  | 1 => ("HallCoughsModel", "image", "[I", true)
  | 2 => ("HallCoughsModel", "aside", "[I", true)
  | 3 => ("HallCoughsModel", "hasImage", "Z", false)
  | 4 => ("HallCoughsModel", "before", "[I", true)
  | 5 => ("HallCoughsModel", "tape", "[I", true)
  | 6 => ("HallCoughsModel", "taped", "I", false)
  | 7 => ("HallCoughsModel", "next", "I", false)
  | 8 => ("HallCoughsModel", "from", "I", false)
  | 9 => ("HallCoughsModel", "token", "I", false)
  | 10 => ("HallCoughsModel", "value", "I", false)
  | 11 => ("HallCoughsModel", "ended", "I", false)
  | 12 => ("HallCoughsModel", "key", "I", false)
  | 13 => ("HallCoughsModel", "keys", "[C", true)
  | 14 => ("HallCoughsModel", "keyAt", "[I", true)
  | 15 => ("HallCoughsModel", "code", "[I", true)
  | 16 => ("HallCoughsModel", "codes", "I", false)
  | 17 => ("HallCoughsModel", "atoms", "I", false)
  | 18 => ("HallCoughsModel", "waits", "[I", true)
  | 19 => ("HallCoughsModel", "held", "I", false)
  | 20 => ("HallCoughsModel", "tested", "[Z", true)
  | 21 => ("HallCoughsModel", "stack", "[I", true)
  | 22 => ("HallCoughsModel", "facts", "[I", true)
  | 23 => ("HallCoughsModel", "sorts", "[I", true)
  | 24 => ("HallCoughsModel", "sizes", "[I", true)
  | 25 => ("HallCoughsModel", "cells", "[I", true)
  | 26 => ("HallCoughsModel", "holds", "[I", true)
  | 27 => ("HallCoughsModel", "holdsA", "[I", true)
  | 28 => ("HallCoughsModel", "holdsB", "[I", true)
  | 29 => ("HallCoughsModel", "heldCells", "[I", true)
  | 30 => ("HallCoughsModel", "moved", "[I", true)
  | 31 => ("HallCoughsModel", "tells", "[I", true)
  | _ => ("HallCoughsModel", "waiting", "I", false)
def tyX7 : Nat → FieldType := fun k => match k with
  | 0 => .array .int
  | 1 => .array .int
  | 2 => .array .int
  | 3 => .boolean
  | 4 => .array .int
  | 5 => .array .int
  | 6 => .int
  | 7 => .int
  | 8 => .int
  | 9 => .int
  | 10 => .int
  | 11 => .int
  | 12 => .int
  | 13 => .array .char
  | 14 => .array .int
  | 15 => .array .int
  | 16 => .int
  | 17 => .int
  | 18 => .array .int
  | 19 => .int
  | 20 => .array .boolean
  | 21 => .array .int
  | 22 => .array .int
  | 23 => .array .int
  | 24 => .array .int
  | 25 => .array .int
  | 26 => .array .int
  | 27 => .array .int
  | 28 => .array .int
  | 29 => .array .int
  | 30 => .array .int
  | 31 => .array .int
  | _ => .int
abbrev wsX70 : List Cond := u_ws RX7 TX7 33
theorem nmX7 : ∀ a, a < 33 → ∀ b, b < 33 → a ≠ b → (TX7 a).2.1 ≠ (TX7 b).2.1 := by decide +kernel
theorem tyX7_ok : ∀ k, k < 33 → parseFieldDescriptor (TX7 k).2.2.1 = some (tyX7 k) := by decide +kernel
abbrev cX7_init : ByteArray := prog_9_method_1_code
def yX7_init : MethodName := ⟨RX7, "<init>", "()V"⟩
abbrev cX7_in : ByteArray := prog_9_method_2_code
def yX7_in : MethodName := ⟨RX7, "in", "(III)Z"⟩
abbrev cX7_within : ByteArray := prog_9_method_3_code
def yX7_within : MethodName := ⟨RX7, "within", "(III)I"⟩
abbrev cX7_copyAll : ByteArray := prog_9_method_4_code
def yX7_copyAll : MethodName := ⟨RX7, "copyAll", "([I[I)V"⟩
abbrev cX7_told0 : ByteArray := prog_9_method_5_code
def yX7_told0 : MethodName := ⟨RX7, "told0", "(I)I"⟩
abbrev cX7_isOne : ByteArray := prog_9_method_6_code
def yX7_isOne : MethodName := ⟨RX7, "isOne", "(I)Z"⟩
abbrev cX7_isSeat : ByteArray := prog_9_method_7_code
def yX7_isSeat : MethodName := ⟨RX7, "isSeat", "(I)Z"⟩
abbrev cX7_of : ByteArray := prog_9_method_8_code
def yX7_of : MethodName := ⟨RX7, "of", "(II)I"⟩
abbrev cX7_put : ByteArray := prog_9_method_9_code
def yX7_put : MethodName := ⟨RX7, "put", "(III)V"⟩
abbrev cX7_becomes : ByteArray := prog_9_method_10_code
def yX7_becomes : MethodName := ⟨RX7, "becomes", "(II)I"⟩
abbrev cX7_whoOn : ByteArray := prog_9_method_11_code
def yX7_whoOn : MethodName := ⟨RX7, "whoOn", "(I)I"⟩
abbrev cX7_comes : ByteArray := prog_9_method_12_code
def yX7_comes : MethodName := ⟨RX7, "comes", "(III)I"⟩
abbrev cX7_person : ByteArray := prog_9_method_13_code
def yX7_person : MethodName := ⟨RX7, "person", "(III)I"⟩
abbrev cX7_loudOn : ByteArray := prog_9_method_14_code
def yX7_loudOn : MethodName := ⟨RX7, "loudOn", "(I)I"⟩
abbrev cX7_growsBy : ByteArray := prog_9_method_15_code
def yX7_growsBy : MethodName := ⟨RX7, "growsBy", "(I)I"⟩
abbrev cX7_isSetOff : ByteArray := prog_9_method_16_code
def yX7_isSetOff : MethodName := ⟨RX7, "isSetOff", "(I)Z"⟩
abbrev cX7_letsGo : ByteArray := prog_9_method_17_code
def yX7_letsGo : MethodName := ⟨RX7, "letsGo", "(I)Z"⟩
abbrev cX7_worthOf : ByteArray := prog_9_method_18_code
def yX7_worthOf : MethodName := ⟨RX7, "worthOf", "(I)I"⟩
abbrev cX7_told : ByteArray := prog_9_method_19_code
def yX7_told : MethodName := ⟨RX7, "told", "(II)I"⟩
abbrev cX7_isUnder : ByteArray := prog_9_method_20_code
def yX7_isUnder : MethodName := ⟨RX7, "isUnder", "(II)Z"⟩
abbrev cX7_as : ByteArray := prog_9_method_21_code
def yX7_as : MethodName := ⟨RX7, "as", "(II)I"⟩
abbrev cX7_turns : ByteArray := prog_9_method_22_code
def yX7_turns : MethodName := ⟨RX7, "turns", "(II)I"⟩
abbrev cX7_set : ByteArray := prog_9_method_23_code
def yX7_set : MethodName := ⟨RX7, "set", "(III)I"⟩
abbrev cX7_move : ByteArray := prog_9_method_24_code
def yX7_move : MethodName := ⟨RX7, "move", "(II)I"⟩
abbrev cX7_onSeat : ByteArray := prog_9_method_25_code
def yX7_onSeat : MethodName := ⟨RX7, "onSeat", "(I)I"⟩
abbrev cX7_draw : ByteArray := prog_9_method_26_code
def yX7_draw : MethodName := ⟨RX7, "draw", "()I"⟩
abbrev cX7_deal : ByteArray := prog_9_method_27_code
def yX7_deal : MethodName := ⟨RX7, "deal", "(I)I"⟩
abbrev cX7_seed : ByteArray := prog_9_method_28_code
def yX7_seed : MethodName := ⟨RX7, "seed", "(I)I"⟩
abbrev cX7_hall : ByteArray := prog_9_method_29_code
def yX7_hall : MethodName := ⟨RX7, "hall", "(II)I"⟩
abbrev cX7_bars : ByteArray := prog_9_method_30_code
def yX7_bars : MethodName := ⟨RX7, "bars", "(I)I"⟩
abbrev cX7_loud : ByteArray := prog_9_method_31_code
def yX7_loud : MethodName := ⟨RX7, "loud", "(II)I"⟩
abbrev cX7_music : ByteArray := prog_9_method_32_code
def yX7_music : MethodName := ⟨RX7, "music", "(I)I"⟩
abbrev cX7_harmBy : ByteArray := prog_9_method_33_code
def yX7_harmBy : MethodName := ⟨RX7, "harmBy", "(I)I"⟩
abbrev cX7_bitsOf : ByteArray := prog_9_method_34_code
def yX7_bitsOf : MethodName := ⟨RX7, "bitsOf", "(I)I"⟩
abbrev cX7_second : ByteArray := prog_9_method_35_code
def yX7_second : MethodName := ⟨RX7, "second", "()I"⟩
abbrev cX7_seconds : ByteArray := prog_9_method_36_code
def yX7_seconds : MethodName := ⟨RX7, "seconds", "(I)I"⟩
abbrev cX7_run : ByteArray := prog_9_method_37_code
def yX7_run : MethodName := ⟨RX7, "run", "(I)I"⟩
abbrev cX7_did : ByteArray := prog_9_method_38_code
def yX7_did : MethodName := ⟨RX7, "did", "()I"⟩
abbrev cX7_thinks : ByteArray := prog_9_method_39_code
def yX7_thinks : MethodName := ⟨RX7, "thinks", "()V"⟩
abbrev cX7_putsBack : ByteArray := prog_9_method_40_code
def yX7_putsBack : MethodName := ⟨RX7, "putsBack", "()V"⟩
abbrev cX7_coughsAll : ByteArray := prog_9_method_41_code
def yX7_coughsAll : MethodName := ⟨RX7, "coughsAll", "()I"⟩
abbrev cX7_mostItch : ByteArray := prog_9_method_42_code
def yX7_mostItch : MethodName := ⟨RX7, "mostItch", "()I"⟩
abbrev cX7_behindAll : ByteArray := prog_9_method_43_code
def yX7_behindAll : MethodName := ⟨RX7, "behindAll", "(II)I"⟩
abbrev cX7_behind : ByteArray := prog_9_method_44_code
def yX7_behind : MethodName := ⟨RX7, "behind", "(II)I"⟩
abbrev cX7_first : ByteArray := prog_9_method_45_code
def yX7_first : MethodName := ⟨RX7, "first", "()I"⟩
abbrev cX7_rest : ByteArray := prog_9_method_46_code
def yX7_rest : MethodName := ⟨RX7, "rest", "(I)I"⟩
abbrev cX7_change : ByteArray := prog_9_method_47_code
def yX7_change : MethodName := ⟨RX7, "change", "(I)I"⟩
abbrev cX7_sweet : ByteArray := prog_9_method_48_code
def yX7_sweet : MethodName := ⟨RX7, "sweet", "(I)I"⟩
abbrev cX7_setOff : ByteArray := prog_9_method_49_code
def yX7_setOff : MethodName := ⟨RX7, "setOff", "(III)I"⟩
abbrev cX7_loudest : ByteArray := prog_9_method_50_code
def yX7_loudest : MethodName := ⟨RX7, "loudest", "()I"⟩
abbrev cX7_otherwise : ByteArray := prog_9_method_51_code
def yX7_otherwise : MethodName := ⟨RX7, "otherwise", "(III)I"⟩
abbrev cX7_toldBy : ByteArray := prog_9_method_52_code
def yX7_toldBy : MethodName := ⟨RX7, "toldBy", "(III)I"⟩
abbrev cX7_fine : ByteArray := prog_9_method_53_code
def yX7_fine : MethodName := ⟨RX7, "fine", "(I)I"⟩
abbrev cX7_feed : ByteArray := prog_9_method_54_code
def yX7_feed : MethodName := ⟨RX7, "feed", "(III)I"⟩
abbrev cX7_trim : ByteArray := prog_9_method_55_code
def yX7_trim : MethodName := ⟨RX7, "trim", "(I)I"⟩
abbrev cX7_isLetter : ByteArray := prog_9_method_56_code
def yX7_isLetter : MethodName := ⟨RX7, "isLetter", "(I)Z"⟩
abbrev cX7_isFigure : ByteArray := prog_9_method_57_code
def yX7_isFigure : MethodName := ⟨RX7, "isFigure", "(I)Z"⟩
abbrev cX7_go : ByteArray := prog_9_method_58_code
def yX7_go : MethodName := ⟨RX7, "go", "()V"⟩
abbrev cX7_takesKey : ByteArray := prog_9_method_59_code
def yX7_takesKey : MethodName := ⟨RX7, "takesKey", "()Z"⟩
abbrev cX7_nameOf : ByteArray := prog_9_method_60_code
def yX7_nameOf : MethodName := ⟨RX7, "nameOf", "(I)I"⟩
abbrev cX7_rank : ByteArray := prog_9_method_61_code
def yX7_rank : MethodName := ⟨RX7, "rank", "(I)I"⟩
abbrev cX7_settle : ByteArray := prog_9_method_62_code
def yX7_settle : MethodName := ⟨RX7, "settle", "(I)V"⟩
abbrev cX7_signHere : ByteArray := prog_9_method_63_code
def yX7_signHere : MethodName := ⟨RX7, "signHere", "()I"⟩
abbrev cX7_takesPart : ByteArray := prog_9_method_64_code
def yX7_takesPart : MethodName := ⟨RX7, "takesPart", "()Z"⟩
abbrev cX7_takesE : ByteArray := prog_9_method_65_code
def yX7_takesE : MethodName := ⟨RX7, "takesE", "()Z"⟩
abbrev cX7_notsOpen : ByteArray := prog_9_method_66_code
def yX7_notsOpen : MethodName := ⟨RX7, "notsOpen", "()I"⟩
abbrev cX7_text : ByteArray := prog_9_method_67_code
def yX7_text : MethodName := ⟨RX7, "text", "()I"⟩
abbrev cX7_textTold : ByteArray := prog_9_method_68_code
def yX7_textTold : MethodName := ⟨RX7, "textTold", "(II)I"⟩
abbrev cX7_counts : ByteArray := prog_9_method_69_code
def yX7_counts : MethodName := ⟨RX7, "counts", "(I)I"⟩
abbrev cX7_why : ByteArray := prog_9_method_70_code
def yX7_why : MethodName := ⟨RX7, "why", "(I)I"⟩
abbrev cX7_two : ByteArray := prog_9_method_71_code
def yX7_two : MethodName := ⟨RX7, "two", "(III)I"⟩
abbrev cX7_worksOut : ByteArray := prog_9_method_72_code
def yX7_worksOut : MethodName := ⟨RX7, "worksOut", "(I)I"⟩
abbrev cX7_isSheet : ByteArray := prog_9_method_73_code
def yX7_isSheet : MethodName := ⟨RX7, "isSheet", "(I)Z"⟩
abbrev cX7_isSlot : ByteArray := prog_9_method_74_code
def yX7_isSlot : MethodName := ⟨RX7, "isSlot", "(I)Z"⟩
abbrev cX7_sheet : ByteArray := prog_9_method_75_code
def yX7_sheet : MethodName := ⟨RX7, "sheet", "(III)I"⟩
abbrev cX7_mark : ByteArray := prog_9_method_76_code
def yX7_mark : MethodName := ⟨RX7, "mark", "(III)I"⟩
abbrev cX7_pour : ByteArray := prog_9_method_77_code
def yX7_pour : MethodName := ⟨RX7, "pour", "(I)I"⟩
abbrev cX7_reads : ByteArray := prog_9_method_78_code
def yX7_reads : MethodName := ⟨RX7, "reads", "(I)I"⟩
abbrev cX7_copy : ByteArray := prog_9_method_79_code
def yX7_copy : MethodName := ⟨RX7, "copy", "(IIIII)I"⟩
abbrev cX7_lay : ByteArray := prog_9_method_80_code
def yX7_lay : MethodName := ⟨RX7, "lay", "(III)I"⟩
abbrev cX7_ask : ByteArray := prog_9_method_81_code
def yX7_ask : MethodName := ⟨RX7, "ask", "(II)I"⟩
abbrev cX7_item : ByteArray := prog_9_method_82_code
def yX7_item : MethodName := ⟨RX7, "item", "(II)I"⟩
abbrev cX7_remains : ByteArray := prog_9_method_83_code
def yX7_remains : MethodName := ⟨RX7, "remains", "(II)I"⟩
abbrev cX7_tell : ByteArray := prog_9_method_84_code
def yX7_tell : MethodName := ⟨RX7, "tell", "(I)I"⟩
abbrev cX7_check : ByteArray := prog_9_method_85_code
def yX7_check : MethodName := ⟨RX7, "check", "(I)I"⟩
abbrev cX7_keep : ByteArray := prog_9_method_86_code
def yX7_keep : MethodName := ⟨RX7, "keep", "()I"⟩
abbrev cX7_back : ByteArray := prog_9_method_87_code
def yX7_back : MethodName := ⟨RX7, "back", "()I"⟩
abbrev cX7_count : ByteArray := prog_9_method_88_code
def yX7_count : MethodName := ⟨RX7, "count", "(I)I"⟩
def RJx145de : String := "java/io/Serializable"
def TJx145de : u_T := fun k => match k with
  | _ => ("", "", "", false)
def tyJx145de : Nat → FieldType := fun k => match k with
  | _ => .int
abbrev wsJx145de0 : List Cond := u_ws RJx145de TJx145de 0
theorem nmJx145de : ∀ a, a < 0 → ∀ b, b < 0 → a ≠ b → (TJx145de a).2.1 ≠ (TJx145de b).2.1 := by decide +kernel
theorem tyJx145de_ok : ∀ k, k < 0 → parseFieldDescriptor (TJx145de k).2.2.1 = some (tyJx145de k) := by decide +kernel
def RJx9f9b0 : String := "java/lang/CharSequence"
def TJx9f9b0 : u_T := fun k => match k with
  | _ => ("", "", "", false)
def tyJx9f9b0 : Nat → FieldType := fun k => match k with
  | _ => .int
abbrev wsJx9f9b00 : List Cond := u_ws RJx9f9b0 TJx9f9b0 0
theorem nmJx9f9b0 : ∀ a, a < 0 → ∀ b, b < 0 → a ≠ b → (TJx9f9b0 a).2.1 ≠ (TJx9f9b0 b).2.1 := by decide +kernel
theorem tyJx9f9b0_ok : ∀ k, k < 0 → parseFieldDescriptor (TJx9f9b0 k).2.2.1 = some (tyJx9f9b0 k) := by decide +kernel
def RJ11 : String := "java/lang/Character"
def TJ11 : u_T := fun k => match k with
  | _ => ("", "", "", false)
def tyJ11 : Nat → FieldType := fun k => match k with
  | _ => .int
abbrev wsJ110 : List Cond := u_ws RJ11 TJ11 0
theorem nmJ11 : ∀ a, a < 0 → ∀ b, b < 0 → a ≠ b → (TJ11 a).2.1 ≠ (TJ11 b).2.1 := by decide +kernel
theorem tyJ11_ok : ∀ k, k < 0 → parseFieldDescriptor (TJ11 k).2.2.1 = some (tyJ11 k) := by decide +kernel
abbrev cJ11_isValidCodePoint_9a6ad : ByteArray := prog_10_method_11_code
def yJ11_isValidCodePoint_9a6ad : MethodName := ⟨RJ11, "isValidCodePoint", "(I)Z"⟩
abbrev cJ11_highSurrogate_5068e : ByteArray := prog_10_method_28_code
def yJ11_highSurrogate_5068e : MethodName := ⟨RJ11, "highSurrogate", "(I)C"⟩
abbrev cJ11_lowSurrogate_5068e : ByteArray := prog_10_method_29_code
def yJ11_lowSurrogate_5068e : MethodName := ⟨RJ11, "lowSurrogate", "(I)C"⟩
def RJx8e188 : String := "java/lang/Cloneable"
def TJx8e188 : u_T := fun k => match k with
  | _ => ("", "", "", false)
def tyJx8e188 : Nat → FieldType := fun k => match k with
  | _ => .int
abbrev wsJx8e1880 : List Cond := u_ws RJx8e188 TJx8e188 0
theorem nmJx8e188 : ∀ a, a < 0 → ∀ b, b < 0 → a ≠ b → (TJx8e188 a).2.1 ≠ (TJx8e188 b).2.1 := by decide +kernel
theorem tyJx8e188_ok : ∀ k, k < 0 → parseFieldDescriptor (TJx8e188 k).2.2.1 = some (tyJx8e188 k) := by decide +kernel
def RJxb160c : String := "java/lang/Comparable"
def TJxb160c : u_T := fun k => match k with
  | _ => ("", "", "", false)
def tyJxb160c : Nat → FieldType := fun k => match k with
  | _ => .int
abbrev wsJxb160c0 : List Cond := u_ws RJxb160c TJxb160c 0
theorem nmJxb160c : ∀ a, a < 0 → ∀ b, b < 0 → a ≠ b → (TJxb160c a).2.1 ≠ (TJxb160c b).2.1 := by decide +kernel
theorem tyJxb160c_ok : ∀ k, k < 0 → parseFieldDescriptor (TJxb160c k).2.2.1 = some (tyJxb160c k) := by decide +kernel
def RJ6 : String := "java/lang/Integer"
def TJ6 : u_T := fun k => match k with
  | _ => ("", "", "", false)
def tyJ6 : Nat → FieldType := fun k => match k with
  | _ => .int
abbrev wsJ60 : List Cond := u_ws RJ6 TJ6 0
theorem nmJ6 : ∀ a, a < 0 → ∀ b, b < 0 → a ≠ b → (TJ6 a).2.1 ≠ (TJ6 b).2.1 := by decide +kernel
theorem tyJ6_ok : ∀ k, k < 0 → parseFieldDescriptor (TJ6 k).2.2.1 = some (tyJ6 k) := by decide +kernel
abbrev cJ6_bitCount_0f7a4 : ByteArray := prog_12_method_49_code
def yJ6_bitCount_0f7a4 : MethodName := ⟨RJ6, "bitCount", "(I)I"⟩
def RJ9 : String := "java/lang/Math"
def TJ9 : u_T := fun k => match k with
  | _ => ("", "", "", false)
def tyJ9 : Nat → FieldType := fun k => match k with
  | _ => .int
abbrev wsJ90 : List Cond := u_ws RJ9 TJ9 0
theorem nmJ9 : ∀ a, a < 0 → ∀ b, b < 0 → a ≠ b → (TJ9 a).2.1 ≠ (TJ9 b).2.1 := by decide +kernel
theorem tyJ9_ok : ∀ k, k < 0 → parseFieldDescriptor (TJ9 k).2.2.1 = some (tyJ9 k) := by decide +kernel
abbrev cJ9_abs_0f7a4 : ByteArray := prog_13_method_59_code
def yJ9_abs_0f7a4 : MethodName := ⟨RJ9, "abs", "(I)I"⟩
abbrev cJ9_max_7cf53 : ByteArray := prog_13_method_65_code
def yJ9_max_7cf53 : MethodName := ⟨RJ9, "max", "(II)I"⟩
abbrev cJ9_min_7cf53 : ByteArray := prog_13_method_69_code
def yJ9_min_7cf53 : MethodName := ⟨RJ9, "min", "(II)I"⟩
def RJ0 : String := "java/lang/String"
def TJ0 : u_T := fun k => match k with
  | _ => ("", "", "", false)
def tyJ0 : Nat → FieldType := fun k => match k with
  | _ => .int
abbrev wsJ00 : List Cond := u_ws RJ0 TJ0 0
theorem nmJ0 : ∀ a, a < 0 → ∀ b, b < 0 → a ≠ b → (TJ0 a).2.1 ≠ (TJ0 b).2.1 := by decide +kernel
theorem tyJ0_ok : ∀ k, k < 0 → parseFieldDescriptor (TJ0 k).2.2.1 = some (tyJ0 k) := by decide +kernel
abbrev cJ0_length_8abf5 : ByteArray := prog_14_method_54_code
def yJ0_length_8abf5 : MethodName := ⟨RJ0, "length", "()I"⟩
abbrev cJ0_charAt_5068e : ByteArray := prog_14_method_56_code
def yJ0_charAt_5068e : MethodName := ⟨RJ0, "charAt", "(I)C"⟩
abbrev cJ0_indexOf_0f7a4 : ByteArray := prog_14_method_79_code
def yJ0_indexOf_0f7a4 : MethodName := ⟨RJ0, "indexOf", "(I)I"⟩
abbrev cJ0_indexOf_7cf53 : ByteArray := prog_14_method_80_code
def yJ0_indexOf_7cf53 : MethodName := ⟨RJ0, "indexOf", "(II)I"⟩
abbrev cJ0_coder_7d493 : ByteArray := prog_14_method_152_code
def yJ0_coder_7d493 : MethodName := ⟨RJ0, "coder", "()B"⟩
abbrev cJ0_isLatin1_aae02 : ByteArray := prog_14_method_154_code
def yJ0_isLatin1_aae02 : MethodName := ⟨RJ0, "isLatin1", "()Z"⟩
abbrev cJ0_checkIndex_df160 : ByteArray := prog_14_method_155_code
def yJ0_checkIndex_df160 : MethodName := ⟨RJ0, "checkIndex", "(II)V"⟩
abbrev cJ0_checkBoundsBeginEnd_23922 : ByteArray := prog_14_method_158_code
def yJ0_checkBoundsBeginEnd_23922 : MethodName := ⟨RJ0, "checkBoundsBeginEnd", "(III)V"⟩
def RJ1 : String := "java/lang/StringLatin1"
def TJ1 : u_T := fun k => match k with
  | _ => ("", "", "", false)
def tyJ1 : Nat → FieldType := fun k => match k with
  | _ => .int
abbrev wsJ10 : List Cond := u_ws RJ1 TJ1 0
theorem nmJ1 : ∀ a, a < 0 → ∀ b, b < 0 → a ≠ b → (TJ1 a).2.1 ≠ (TJ1 b).2.1 := by decide +kernel
theorem tyJ1_ok : ∀ k, k < 0 → parseFieldDescriptor (TJ1 k).2.2.1 = some (tyJ1 k) := by decide +kernel
abbrev cJ1_charAt_3b067 : ByteArray := prog_15_method_2_code
def yJ1_charAt_3b067 : MethodName := ⟨RJ1, "charAt", "([BI)C"⟩
abbrev cJ1_canEncode_9a6ad : ByteArray := prog_15_method_4_code
def yJ1_canEncode_9a6ad : MethodName := ⟨RJ1, "canEncode", "(I)Z"⟩
abbrev cJ1_indexOf_4cfef : ByteArray := prog_15_method_22_code
def yJ1_indexOf_4cfef : MethodName := ⟨RJ1, "indexOf", "([BIII)I"⟩
abbrev cJ1_indexOfChar_4cfef : ByteArray := prog_15_method_23_code
def yJ1_indexOfChar_4cfef : MethodName := ⟨RJ1, "indexOfChar", "([BIII)I"⟩
def RJ2 : String := "java/lang/StringUTF16"
def TJ2 : u_T := fun k => match k with
  | _ => ("", "", "", false)
def tyJ2 : Nat → FieldType := fun k => match k with
  | _ => .int
abbrev wsJ20 : List Cond := u_ws RJ2 TJ2 0
theorem nmJ2 : ∀ a, a < 0 → ∀ b, b < 0 → a ≠ b → (TJ2 a).2.1 ≠ (TJ2 b).2.1 := by decide +kernel
theorem tyJ2_ok : ∀ k, k < 0 → parseFieldDescriptor (TJ2 k).2.2.1 = some (tyJ2 k) := by decide +kernel
abbrev cJ2_getChar_3b067 : ByteArray := prog_16_method_5_code
def yJ2_getChar_3b067 : MethodName := ⟨RJ2, "getChar", "([BI)C"⟩
abbrev cJ2_length_9d52b : ByteArray := prog_16_method_6_code
def yJ2_length_9d52b : MethodName := ⟨RJ2, "length", "([B)I"⟩
abbrev cJ2_indexOf_4cfef : ByteArray := prog_16_method_40_code
def yJ2_indexOf_4cfef : MethodName := ⟨RJ2, "indexOf", "([BIII)I"⟩
abbrev cJ2_indexOfChar_4cfef : ByteArray := prog_16_method_47_code
def yJ2_indexOfChar_4cfef : MethodName := ⟨RJ2, "indexOfChar", "([BIII)I"⟩
abbrev cJ2_indexOfCharUnsafe_4cfef : ByteArray := prog_16_method_48_code
def yJ2_indexOfCharUnsafe_4cfef : MethodName := ⟨RJ2, "indexOfCharUnsafe", "([BIII)I"⟩
abbrev cJ2_indexOfSupplementary_4cfef : ByteArray := prog_16_method_49_code
def yJ2_indexOfSupplementary_4cfef : MethodName := ⟨RJ2, "indexOfSupplementary", "([BIII)I"⟩
abbrev cJ2_charAt_3b067 : ByteArray := prog_16_method_83_code
def yJ2_charAt_3b067 : MethodName := ⟨RJ2, "charAt", "([BI)C"⟩
abbrev cJ2_checkIndex_2214a : ByteArray := prog_16_method_91_code
def yJ2_checkIndex_2214a : MethodName := ⟨RJ2, "checkIndex", "(I[B)V"⟩
abbrev cJ2_checkBoundsBeginEnd_d044e : ByteArray := prog_16_method_93_code
def yJ2_checkBoundsBeginEnd_d044e : MethodName := ⟨RJ2, "checkBoundsBeginEnd", "(II[B)V"⟩
def RJ10 : String := "java/lang/System"
def TJ10 : u_T := fun k => match k with
  | _ => ("", "", "", false)
def tyJ10 : Nat → FieldType := fun k => match k with
  | _ => .int
abbrev wsJ100 : List Cond := u_ws RJ10 TJ10 0
theorem nmJ10 : ∀ a, a < 0 → ∀ b, b < 0 → a ≠ b → (TJ10 a).2.1 ≠ (TJ10 b).2.1 := by decide +kernel
theorem tyJ10_ok : ∀ k, k < 0 → parseFieldDescriptor (TJ10 k).2.2.1 = some (tyJ10 k) := by decide +kernel
def RJxfd54e : String := "java/lang/constant/Constable"
def TJxfd54e : u_T := fun k => match k with
  | _ => ("", "", "", false)
def tyJxfd54e : Nat → FieldType := fun k => match k with
  | _ => .int
abbrev wsJxfd54e0 : List Cond := u_ws RJxfd54e TJxfd54e 0
theorem nmJxfd54e : ∀ a, a < 0 → ∀ b, b < 0 → a ≠ b → (TJxfd54e a).2.1 ≠ (TJxfd54e b).2.1 := by decide +kernel
theorem tyJxfd54e_ok : ∀ k, k < 0 → parseFieldDescriptor (TJxfd54e k).2.2.1 = some (tyJxfd54e k) := by decide +kernel
def RJx3cf43 : String := "java/lang/constant/ConstantDesc"
def TJx3cf43 : u_T := fun k => match k with
  | _ => ("", "", "", false)
def tyJx3cf43 : Nat → FieldType := fun k => match k with
  | _ => .int
abbrev wsJx3cf430 : List Cond := u_ws RJx3cf43 TJx3cf43 0
theorem nmJx3cf43 : ∀ a, a < 0 → ∀ b, b < 0 → a ≠ b → (TJx3cf43 a).2.1 ≠ (TJx3cf43 b).2.1 := by decide +kernel
theorem tyJx3cf43_ok : ∀ k, k < 0 → parseFieldDescriptor (TJx3cf43 k).2.2.1 = some (tyJx3cf43 k) := by decide +kernel
def RJ7 : String := "java/util/Arrays"
def TJ7 : u_T := fun k => match k with
  | _ => ("", "", "", false)
def tyJ7 : Nat → FieldType := fun k => match k with
  | _ => .int
abbrev wsJ70 : List Cond := u_ws RJ7 TJ7 0
theorem nmJ7 : ∀ a, a < 0 → ∀ b, b < 0 → a ≠ b → (TJ7 a).2.1 ≠ (TJ7 b).2.1 := by decide +kernel
theorem tyJ7_ok : ∀ k, k < 0 → parseFieldDescriptor (TJ7 k).2.2.1 = some (tyJ7 k) := by decide +kernel
abbrev cJ7_copyOf_59c91 : ByteArray := prog_18_method_123_code
def yJ7_copyOf_59c91 : MethodName := ⟨RJ7, "copyOf", "([II)[I"⟩
def RJ3 : String := "jdk/internal/util/Preconditions"
def TJ3 : u_T := fun k => match k with
  | _ => ("", "", "", false)
def tyJ3 : Nat → FieldType := fun k => match k with
  | _ => .int
abbrev wsJ30 : List Cond := u_ws RJ3 TJ3 0
theorem nmJ3 : ∀ a, a < 0 → ∀ b, b < 0 → a ≠ b → (TJ3 a).2.1 ≠ (TJ3 b).2.1 := by decide +kernel
theorem tyJ3_ok : ∀ k, k < 0 → parseFieldDescriptor (TJ3 k).2.2.1 = some (tyJ3 k) := by decide +kernel
abbrev cJ3_checkIndex_8e157 : ByteArray := prog_19_method_11_code
def yJ3_checkIndex_8e157 : MethodName := ⟨RJ3, "checkIndex", "(IILjava/util/function/BiFunction;)I"⟩
abbrev cJ3_checkFromToIndex_8c36e : ByteArray := prog_19_method_12_code
def yJ3_checkFromToIndex_8c36e : MethodName := ⟨RJ3, "checkFromToIndex", "(IIILjava/util/function/BiFunction;)I"⟩
def RL : String := "HallCoughsLaw"
abbrev cL_law : ByteArray := code
def yL_law : MethodName := ⟨RL, "law", "([I)Z"⟩
abbrev vwCl : List vw_C := [(RX0, TX0, 13), (RX1, TX1, 6), (RX2, TX2, 10), (RX3, TX3, 3), (RX4, TX4, 4), (RX5, TX5, 4), (RX6, TX6, 11), (RX7, TX7, 33)]
end
section
theorem dX0_init_0 : decode cX0_init 0 = .ok (.aload_n 0, 1) := by decide +kernel
theorem dX0_init_1 : decode cX0_init 1 = .ok (.invokespecial 3, 3) := by decide +kernel
theorem dX0_init_4 : decode cX0_init 4 = .ok (.aload_n 0, 1) := by decide +kernel
theorem dX0_init_5 : decode cX0_init 5 = .ok (.bipush 10, 2) := by decide +kernel
theorem dX0_init_7 : decode cX0_init 7 = .ok (.anewarray 9, 3) := by decide +kernel
theorem dX0_init_10 : decode cX0_init 10 = .ok (.putfield 11, 3) := by decide +kernel
theorem dX0_init_13 : decode cX0_init 13 = .ok (.aload_n 0, 1) := by decide +kernel
theorem dX0_init_14 : decode cX0_init 14 = .ok (.bipush 24, 2) := by decide +kernel
theorem dX0_init_16 : decode cX0_init 16 = .ok (.newarray .int, 2) := by decide +kernel
theorem dX0_init_18 : decode cX0_init 18 = .ok (.putfield 17, 3) := by decide +kernel
theorem dX0_init_21 : decode cX0_init 21 = .ok (.aload_n 0, 1) := by decide +kernel
theorem dX0_init_22 : decode cX0_init 22 = .ok (.bipush 14, 2) := by decide +kernel
theorem dX0_init_24 : decode cX0_init 24 = .ok (.anewarray 21, 3) := by decide +kernel
theorem dX0_init_27 : decode cX0_init 27 = .ok (.putfield 23, 3) := by decide +kernel
theorem dX0_init_30 : decode cX0_init 30 = .ok (.aload_n 0, 1) := by decide +kernel
theorem dX0_init_31 : decode cX0_init 31 = .ok (.iconst 3, 1) := by decide +kernel
theorem dX0_init_32 : decode cX0_init 32 = .ok (.newarray .int, 2) := by decide +kernel
theorem dX0_init_34 : decode cX0_init 34 = .ok (.dup, 1) := by decide +kernel
theorem dX0_init_35 : decode cX0_init 35 = .ok (.iconst 0, 1) := by decide +kernel
theorem dX0_init_36 : decode cX0_init 36 = .ok (.iconst (-1), 1) := by decide +kernel
theorem dX0_init_37 : decode cX0_init 37 = .ok (.iastore, 1) := by decide +kernel
theorem dX0_init_38 : decode cX0_init 38 = .ok (.dup, 1) := by decide +kernel
theorem dX0_init_39 : decode cX0_init 39 = .ok (.iconst 1, 1) := by decide +kernel
theorem dX0_init_40 : decode cX0_init 40 = .ok (.iconst (-1), 1) := by decide +kernel
theorem dX0_init_41 : decode cX0_init 41 = .ok (.iastore, 1) := by decide +kernel
theorem dX0_init_42 : decode cX0_init 42 = .ok (.dup, 1) := by decide +kernel
theorem dX0_init_43 : decode cX0_init 43 = .ok (.iconst 2, 1) := by decide +kernel
theorem dX0_init_44 : decode cX0_init 44 = .ok (.iconst (-1), 1) := by decide +kernel
theorem dX0_init_45 : decode cX0_init 45 = .ok (.iastore, 1) := by decide +kernel
theorem dX0_init_46 : decode cX0_init 46 = .ok (.putfield 27, 3) := by decide +kernel
theorem dX0_init_49 : decode cX0_init 49 = .ok (.aload_n 0, 1) := by decide +kernel
theorem dX0_init_50 : decode cX0_init 50 = .ok (.iconst 4, 1) := by decide +kernel
theorem dX0_init_51 : decode cX0_init 51 = .ok (.putfield 30, 3) := by decide +kernel
theorem dX0_init_54 : decode cX0_init 54 = .ok (.aload_n 0, 1) := by decide +kernel
theorem dX0_init_55 : decode cX0_init 55 = .ok (.bipush 30, 2) := by decide +kernel
theorem dX0_init_57 : decode cX0_init 57 = .ok (.putfield 34, 3) := by decide +kernel
theorem dX0_init_60 : decode cX0_init 60 = .ok (.aload_n 0, 1) := by decide +kernel
theorem dX0_init_61 : decode cX0_init 61 = .ok (.iconst 3, 1) := by decide +kernel
theorem dX0_init_62 : decode cX0_init 62 = .ok (.putfield 37, 3) := by decide +kernel
theorem dX0_init_65 : decode cX0_init 65 = .ok (.aload_n 0, 1) := by decide +kernel
theorem dX0_init_66 : decode cX0_init 66 = .ok (.iconst 1, 1) := by decide +kernel
theorem dX0_init_67 : decode cX0_init 67 = .ok (.putfield 40, 3) := by decide +kernel
theorem dX0_init_70 : decode cX0_init 70 = .ok (.iconst 0, 1) := by decide +kernel
theorem dX0_init_71 : decode cX0_init 71 = .ok (.istore_n 1, 1) := by decide +kernel
theorem dX0_init_72 : decode cX0_init 72 = .ok (.iload_n 1, 1) := by decide +kernel
theorem dX0_init_73 : decode cX0_init 73 = .ok (.bipush 10, 2) := by decide +kernel
theorem dX0_init_75 : decode cX0_init 75 = .ok (.if_icmp .ge 22, 3) := by decide +kernel
theorem dX0_init_78 : decode cX0_init 78 = .ok (.aload_n 0, 1) := by decide +kernel
theorem dX0_init_79 : decode cX0_init 79 = .ok (.getfield 11, 3) := by decide +kernel
theorem dX0_init_82 : decode cX0_init 82 = .ok (.iload_n 1, 1) := by decide +kernel
theorem dX0_init_83 : decode cX0_init 83 = .ok (.new 9, 3) := by decide +kernel
theorem dX0_init_86 : decode cX0_init 86 = .ok (.dup, 1) := by decide +kernel
theorem dX0_init_87 : decode cX0_init 87 = .ok (.invokespecial 43, 3) := by decide +kernel
theorem dX0_init_90 : decode cX0_init 90 = .ok (.aastore, 1) := by decide +kernel
theorem dX0_init_91 : decode cX0_init 91 = .ok (.iinc 1 1, 3) := by decide +kernel
theorem dX0_init_94 : decode cX0_init 94 = .ok (.goto (-22), 3) := by decide +kernel
theorem dX0_init_97 : decode cX0_init 97 = .ok (.return_, 1) := by decide +kernel
theorem dX0_becomes_0 : decode cX0_becomes 0 = .ok (.iconst 0, 1) := by decide +kernel
theorem dX0_becomes_1 : decode cX0_becomes 1 = .ok (.istore_n 2, 1) := by decide +kernel
theorem dX0_becomes_2 : decode cX0_becomes 2 = .ok (.iload_n 2, 1) := by decide +kernel
theorem dX0_becomes_3 : decode cX0_becomes 3 = .ok (.aload_n 1, 1) := by decide +kernel
theorem dX0_becomes_4 : decode cX0_becomes 4 = .ok (.getfield 44, 3) := by decide +kernel
theorem dX0_becomes_7 : decode cX0_becomes 7 = .ok (.if_icmp .ge 24, 3) := by decide +kernel
theorem dX0_becomes_10 : decode cX0_becomes 10 = .ok (.aload_n 0, 1) := by decide +kernel
theorem dX0_becomes_11 : decode cX0_becomes 11 = .ok (.getfield 11, 3) := by decide +kernel
theorem dX0_becomes_14 : decode cX0_becomes 14 = .ok (.iload_n 2, 1) := by decide +kernel
theorem dX0_becomes_15 : decode cX0_becomes 15 = .ok (.aaload, 1) := by decide +kernel
theorem dX0_becomes_16 : decode cX0_becomes 16 = .ok (.aload_n 1, 1) := by decide +kernel
theorem dX0_becomes_17 : decode cX0_becomes 17 = .ok (.getfield 11, 3) := by decide +kernel
theorem dX0_becomes_20 : decode cX0_becomes 20 = .ok (.iload_n 2, 1) := by decide +kernel
theorem dX0_becomes_21 : decode cX0_becomes 21 = .ok (.aaload, 1) := by decide +kernel
theorem dX0_becomes_22 : decode cX0_becomes 22 = .ok (.invokevirtual 47, 3) := by decide +kernel
theorem dX0_becomes_25 : decode cX0_becomes 25 = .ok (.iinc 2 1, 3) := by decide +kernel
theorem dX0_becomes_28 : decode cX0_becomes 28 = .ok (.goto (-26), 3) := by decide +kernel
theorem dX0_becomes_31 : decode cX0_becomes 31 = .ok (.iconst 0, 1) := by decide +kernel
theorem dX0_becomes_32 : decode cX0_becomes 32 = .ok (.istore_n 2, 1) := by decide +kernel
theorem dX0_becomes_33 : decode cX0_becomes 33 = .ok (.iload_n 2, 1) := by decide +kernel
theorem dX0_becomes_34 : decode cX0_becomes 34 = .ok (.aload_n 1, 1) := by decide +kernel
theorem dX0_becomes_35 : decode cX0_becomes 35 = .ok (.getfield 30, 3) := by decide +kernel
theorem dX0_becomes_38 : decode cX0_becomes 38 = .ok (.if_icmp .ge 21, 3) := by decide +kernel
theorem dX0_becomes_41 : decode cX0_becomes 41 = .ok (.aload_n 0, 1) := by decide +kernel
theorem dX0_becomes_42 : decode cX0_becomes 42 = .ok (.getfield 17, 3) := by decide +kernel
theorem dX0_becomes_45 : decode cX0_becomes 45 = .ok (.iload_n 2, 1) := by decide +kernel
theorem dX0_becomes_46 : decode cX0_becomes 46 = .ok (.aload_n 1, 1) := by decide +kernel
theorem dX0_becomes_47 : decode cX0_becomes 47 = .ok (.getfield 17, 3) := by decide +kernel
theorem dX0_becomes_50 : decode cX0_becomes 50 = .ok (.iload_n 2, 1) := by decide +kernel
theorem dX0_becomes_51 : decode cX0_becomes 51 = .ok (.iaload, 1) := by decide +kernel
theorem dX0_becomes_52 : decode cX0_becomes 52 = .ok (.iastore, 1) := by decide +kernel
theorem dX0_becomes_53 : decode cX0_becomes 53 = .ok (.iinc 2 1, 3) := by decide +kernel
theorem dX0_becomes_56 : decode cX0_becomes 56 = .ok (.goto (-23), 3) := by decide +kernel
theorem dX0_becomes_59 : decode cX0_becomes 59 = .ok (.iconst 0, 1) := by decide +kernel
theorem dX0_becomes_60 : decode cX0_becomes 60 = .ok (.istore_n 2, 1) := by decide +kernel
theorem dX0_becomes_61 : decode cX0_becomes 61 = .ok (.iload_n 2, 1) := by decide +kernel
theorem dX0_becomes_62 : decode cX0_becomes 62 = .ok (.aload_n 1, 1) := by decide +kernel
theorem dX0_becomes_63 : decode cX0_becomes 63 = .ok (.getfield 51, 3) := by decide +kernel
theorem dX0_becomes_66 : decode cX0_becomes 66 = .ok (.if_icmp .ge 21, 3) := by decide +kernel
theorem dX0_becomes_69 : decode cX0_becomes 69 = .ok (.aload_n 0, 1) := by decide +kernel
theorem dX0_becomes_70 : decode cX0_becomes 70 = .ok (.getfield 23, 3) := by decide +kernel
theorem dX0_becomes_73 : decode cX0_becomes 73 = .ok (.iload_n 2, 1) := by decide +kernel
theorem dX0_becomes_74 : decode cX0_becomes 74 = .ok (.aload_n 1, 1) := by decide +kernel
theorem dX0_becomes_75 : decode cX0_becomes 75 = .ok (.getfield 23, 3) := by decide +kernel
theorem dX0_becomes_78 : decode cX0_becomes 78 = .ok (.iload_n 2, 1) := by decide +kernel
theorem dX0_becomes_79 : decode cX0_becomes 79 = .ok (.aaload, 1) := by decide +kernel
theorem dX0_becomes_80 : decode cX0_becomes 80 = .ok (.aastore, 1) := by decide +kernel
theorem dX0_becomes_81 : decode cX0_becomes 81 = .ok (.iinc 2 1, 3) := by decide +kernel
theorem dX0_becomes_84 : decode cX0_becomes 84 = .ok (.goto (-23), 3) := by decide +kernel
theorem dX0_becomes_87 : decode cX0_becomes 87 = .ok (.iconst 0, 1) := by decide +kernel
theorem dX0_becomes_88 : decode cX0_becomes 88 = .ok (.istore_n 2, 1) := by decide +kernel
theorem dX0_becomes_89 : decode cX0_becomes 89 = .ok (.iload_n 2, 1) := by decide +kernel
theorem dX0_becomes_90 : decode cX0_becomes 90 = .ok (.iconst 3, 1) := by decide +kernel
theorem dX0_becomes_91 : decode cX0_becomes 91 = .ok (.if_icmp .ge 21, 3) := by decide +kernel
theorem dX0_becomes_94 : decode cX0_becomes 94 = .ok (.aload_n 0, 1) := by decide +kernel
theorem dX0_becomes_95 : decode cX0_becomes 95 = .ok (.getfield 27, 3) := by decide +kernel
theorem dX0_becomes_98 : decode cX0_becomes 98 = .ok (.iload_n 2, 1) := by decide +kernel
theorem dX0_becomes_99 : decode cX0_becomes 99 = .ok (.aload_n 1, 1) := by decide +kernel
theorem dX0_becomes_100 : decode cX0_becomes 100 = .ok (.getfield 27, 3) := by decide +kernel
theorem dX0_becomes_103 : decode cX0_becomes 103 = .ok (.iload_n 2, 1) := by decide +kernel
theorem dX0_becomes_104 : decode cX0_becomes 104 = .ok (.iaload, 1) := by decide +kernel
theorem dX0_becomes_105 : decode cX0_becomes 105 = .ok (.iastore, 1) := by decide +kernel
theorem dX0_becomes_106 : decode cX0_becomes 106 = .ok (.iinc 2 1, 3) := by decide +kernel
theorem dX0_becomes_109 : decode cX0_becomes 109 = .ok (.goto (-20), 3) := by decide +kernel
theorem dX0_becomes_112 : decode cX0_becomes 112 = .ok (.aload_n 0, 1) := by decide +kernel
theorem dX0_becomes_113 : decode cX0_becomes 113 = .ok (.aload_n 1, 1) := by decide +kernel
theorem dX0_becomes_114 : decode cX0_becomes 114 = .ok (.getfield 44, 3) := by decide +kernel
theorem dX0_becomes_117 : decode cX0_becomes 117 = .ok (.putfield 44, 3) := by decide +kernel
theorem dX0_becomes_120 : decode cX0_becomes 120 = .ok (.aload_n 0, 1) := by decide +kernel
theorem dX0_becomes_121 : decode cX0_becomes 121 = .ok (.aload_n 1, 1) := by decide +kernel
theorem dX0_becomes_122 : decode cX0_becomes 122 = .ok (.getfield 30, 3) := by decide +kernel
theorem dX0_becomes_125 : decode cX0_becomes 125 = .ok (.putfield 30, 3) := by decide +kernel
theorem dX0_becomes_128 : decode cX0_becomes 128 = .ok (.aload_n 0, 1) := by decide +kernel
theorem dX0_becomes_129 : decode cX0_becomes 129 = .ok (.aload_n 1, 1) := by decide +kernel
theorem dX0_becomes_130 : decode cX0_becomes 130 = .ok (.getfield 51, 3) := by decide +kernel
theorem dX0_becomes_133 : decode cX0_becomes 133 = .ok (.putfield 51, 3) := by decide +kernel
theorem dX0_becomes_136 : decode cX0_becomes 136 = .ok (.aload_n 0, 1) := by decide +kernel
theorem dX0_becomes_137 : decode cX0_becomes 137 = .ok (.aload_n 1, 1) := by decide +kernel
theorem dX0_becomes_138 : decode cX0_becomes 138 = .ok (.getfield 34, 3) := by decide +kernel
theorem dX0_becomes_141 : decode cX0_becomes 141 = .ok (.putfield 34, 3) := by decide +kernel
theorem dX0_becomes_144 : decode cX0_becomes 144 = .ok (.aload_n 0, 1) := by decide +kernel
theorem dX0_becomes_145 : decode cX0_becomes 145 = .ok (.aload_n 1, 1) := by decide +kernel
theorem dX0_becomes_146 : decode cX0_becomes 146 = .ok (.getfield 37, 3) := by decide +kernel
theorem dX0_becomes_149 : decode cX0_becomes 149 = .ok (.putfield 37, 3) := by decide +kernel
theorem dX0_becomes_152 : decode cX0_becomes 152 = .ok (.aload_n 0, 1) := by decide +kernel
theorem dX0_becomes_153 : decode cX0_becomes 153 = .ok (.aload_n 1, 1) := by decide +kernel
theorem dX0_becomes_154 : decode cX0_becomes 154 = .ok (.getfield 54, 3) := by decide +kernel
theorem dX0_becomes_157 : decode cX0_becomes 157 = .ok (.putfield 54, 3) := by decide +kernel
theorem dX0_becomes_160 : decode cX0_becomes 160 = .ok (.aload_n 0, 1) := by decide +kernel
theorem dX0_becomes_161 : decode cX0_becomes 161 = .ok (.aload_n 1, 1) := by decide +kernel
theorem dX0_becomes_162 : decode cX0_becomes 162 = .ok (.getfield 57, 3) := by decide +kernel
theorem dX0_becomes_165 : decode cX0_becomes 165 = .ok (.putfield 57, 3) := by decide +kernel
theorem dX0_becomes_168 : decode cX0_becomes 168 = .ok (.aload_n 0, 1) := by decide +kernel
theorem dX0_becomes_169 : decode cX0_becomes 169 = .ok (.aload_n 1, 1) := by decide +kernel
theorem dX0_becomes_170 : decode cX0_becomes 170 = .ok (.getfield 60, 3) := by decide +kernel
theorem dX0_becomes_173 : decode cX0_becomes 173 = .ok (.putfield 60, 3) := by decide +kernel
theorem dX0_becomes_176 : decode cX0_becomes 176 = .ok (.aload_n 0, 1) := by decide +kernel
theorem dX0_becomes_177 : decode cX0_becomes 177 = .ok (.aload_n 1, 1) := by decide +kernel
theorem dX0_becomes_178 : decode cX0_becomes 178 = .ok (.getfield 40, 3) := by decide +kernel
theorem dX0_becomes_181 : decode cX0_becomes 181 = .ok (.putfield 40, 3) := by decide +kernel
theorem dX0_becomes_184 : decode cX0_becomes 184 = .ok (.return_, 1) := by decide +kernel
theorem dX0_has_0 : decode cX0_has 0 = .ok (.iload_n 1, 1) := by decide +kernel
theorem dX0_has_1 : decode cX0_has 1 = .ok (.aload_n 0, 1) := by decide +kernel
theorem dX0_has_2 : decode cX0_has 2 = .ok (.getfield 44, 3) := by decide +kernel
theorem dX0_has_5 : decode cX0_has 5 = .ok (.invokestatic 63, 3) := by decide +kernel
theorem dX0_has_8 : decode cX0_has 8 = .ok (.ireturn, 1) := by decide +kernel
theorem dX0_whoSits_0 : decode cX0_whoSits 0 = .ok (.iconst 0, 1) := by decide +kernel
theorem dX0_whoSits_1 : decode cX0_whoSits 1 = .ok (.istore_n 2, 1) := by decide +kernel
theorem dX0_whoSits_2 : decode cX0_whoSits 2 = .ok (.iload_n 2, 1) := by decide +kernel
theorem dX0_whoSits_3 : decode cX0_whoSits 3 = .ok (.aload_n 0, 1) := by decide +kernel
theorem dX0_whoSits_4 : decode cX0_whoSits 4 = .ok (.getfield 44, 3) := by decide +kernel
theorem dX0_whoSits_7 : decode cX0_whoSits 7 = .ok (.if_icmp .ge 24, 3) := by decide +kernel
theorem dX0_whoSits_10 : decode cX0_whoSits 10 = .ok (.aload_n 0, 1) := by decide +kernel
theorem dX0_whoSits_11 : decode cX0_whoSits 11 = .ok (.getfield 11, 3) := by decide +kernel
theorem dX0_whoSits_14 : decode cX0_whoSits 14 = .ok (.iload_n 2, 1) := by decide +kernel
theorem dX0_whoSits_15 : decode cX0_whoSits 15 = .ok (.aaload, 1) := by decide +kernel
theorem dX0_whoSits_16 : decode cX0_whoSits 16 = .ok (.getfield 67, 3) := by decide +kernel
theorem dX0_whoSits_19 : decode cX0_whoSits 19 = .ok (.iload_n 1, 1) := by decide +kernel
theorem dX0_whoSits_20 : decode cX0_whoSits 20 = .ok (.if_icmp .ne 5, 3) := by decide +kernel
theorem dX0_whoSits_23 : decode cX0_whoSits 23 = .ok (.iload_n 2, 1) := by decide +kernel
theorem dX0_whoSits_24 : decode cX0_whoSits 24 = .ok (.ireturn, 1) := by decide +kernel
theorem dX0_whoSits_25 : decode cX0_whoSits 25 = .ok (.iinc 2 1, 3) := by decide +kernel
theorem dX0_whoSits_28 : decode cX0_whoSits 28 = .ok (.goto (-26), 3) := by decide +kernel
theorem dX0_whoSits_31 : decode cX0_whoSits 31 = .ok (.iconst (-1), 1) := by decide +kernel
theorem dX0_whoSits_32 : decode cX0_whoSits 32 = .ok (.ireturn, 1) := by decide +kernel
theorem dX0_comes_0 : decode cX0_comes 0 = .ok (.aload_n 0, 1) := by decide +kernel
theorem dX0_comes_1 : decode cX0_comes 1 = .ok (.getfield 11, 3) := by decide +kernel
theorem dX0_comes_4 : decode cX0_comes 4 = .ok (.aload_n 0, 1) := by decide +kernel
theorem dX0_comes_5 : decode cX0_comes 5 = .ok (.getfield 44, 3) := by decide +kernel
theorem dX0_comes_8 : decode cX0_comes 8 = .ok (.aaload, 1) := by decide +kernel
theorem dX0_comes_9 : decode cX0_comes 9 = .ok (.iload_n 1, 1) := by decide +kernel
theorem dX0_comes_10 : decode cX0_comes 10 = .ok (.iload_n 2, 1) := by decide +kernel
theorem dX0_comes_11 : decode cX0_comes 11 = .ok (.iload_n 3, 1) := by decide +kernel
theorem dX0_comes_12 : decode cX0_comes 12 = .ok (.invokevirtual 70, 3) := by decide +kernel
theorem dX0_comes_15 : decode cX0_comes 15 = .ok (.aload_n 0, 1) := by decide +kernel
theorem dX0_comes_16 : decode cX0_comes 16 = .ok (.dup, 1) := by decide +kernel
theorem dX0_comes_17 : decode cX0_comes 17 = .ok (.getfield 44, 3) := by decide +kernel
theorem dX0_comes_20 : decode cX0_comes 20 = .ok (.iconst 1, 1) := by decide +kernel
theorem dX0_comes_21 : decode cX0_comes 21 = .ok (.iadd, 1) := by decide +kernel
theorem dX0_comes_22 : decode cX0_comes 22 = .ok (.putfield 44, 3) := by decide +kernel
theorem dX0_comes_25 : decode cX0_comes 25 = .ok (.aload_n 0, 1) := by decide +kernel
theorem dX0_comes_26 : decode cX0_comes 26 = .ok (.getfield 44, 3) := by decide +kernel
theorem dX0_comes_29 : decode cX0_comes 29 = .ok (.iconst 1, 1) := by decide +kernel
theorem dX0_comes_30 : decode cX0_comes 30 = .ok (.isub, 1) := by decide +kernel
theorem dX0_comes_31 : decode cX0_comes 31 = .ok (.ireturn, 1) := by decide +kernel
theorem dX0_comesByLot_0 : decode cX0_comesByLot 0 = .ok (.aload_n 0, 1) := by decide +kernel
theorem dX0_comesByLot_1 : decode cX0_comesByLot 1 = .ok (.invokevirtual 74, 3) := by decide +kernel
theorem dX0_comesByLot_4 : decode cX0_comesByLot 4 = .ok (.bipush 6, 2) := by decide +kernel
theorem dX0_comesByLot_6 : decode cX0_comesByLot 6 = .ok (.irem, 1) := by decide +kernel
theorem dX0_comesByLot_7 : decode cX0_comesByLot 7 = .ok (.istore_n 1, 1) := by decide +kernel
theorem dX0_comesByLot_8 : decode cX0_comesByLot 8 = .ok (.aload_n 0, 1) := by decide +kernel
theorem dX0_comesByLot_9 : decode cX0_comesByLot 9 = .ok (.invokevirtual 74, 3) := by decide +kernel
theorem dX0_comesByLot_12 : decode cX0_comesByLot 12 = .ok (.bipush 100, 2) := by decide +kernel
theorem dX0_comesByLot_14 : decode cX0_comesByLot 14 = .ok (.irem, 1) := by decide +kernel
theorem dX0_comesByLot_15 : decode cX0_comesByLot 15 = .ok (.istore_n 2, 1) := by decide +kernel
theorem dX0_comesByLot_16 : decode cX0_comesByLot 16 = .ok (.aload_n 0, 1) := by decide +kernel
theorem dX0_comesByLot_17 : decode cX0_comesByLot 17 = .ok (.aload_n 0, 1) := by decide +kernel
theorem dX0_comesByLot_18 : decode cX0_comesByLot 18 = .ok (.invokevirtual 74, 3) := by decide +kernel
theorem dX0_comesByLot_21 : decode cX0_comesByLot 21 = .ok (.bipush 30, 2) := by decide +kernel
theorem dX0_comesByLot_23 : decode cX0_comesByLot 23 = .ok (.irem, 1) := by decide +kernel
theorem dX0_comesByLot_24 : decode cX0_comesByLot 24 = .ok (.invokevirtual 78, 3) := by decide +kernel
theorem dX0_comesByLot_27 : decode cX0_comesByLot 27 = .ok (.istore_n 3, 1) := by decide +kernel
theorem dX0_comesByLot_28 : decode cX0_comesByLot 28 = .ok (.aload_n 0, 1) := by decide +kernel
theorem dX0_comesByLot_29 : decode cX0_comesByLot 29 = .ok (.iload_n 1, 1) := by decide +kernel
theorem dX0_comesByLot_30 : decode cX0_comesByLot 30 = .ok (.iload_n 3, 1) := by decide +kernel
theorem dX0_comesByLot_31 : decode cX0_comesByLot 31 = .ok (.iload_n 2, 1) := by decide +kernel
theorem dX0_comesByLot_32 : decode cX0_comesByLot 32 = .ok (.invokevirtual 82, 3) := by decide +kernel
theorem dX0_comesByLot_35 : decode cX0_comesByLot 35 = .ok (.pop, 1) := by decide +kernel
theorem dX0_comesByLot_36 : decode cX0_comesByLot 36 = .ok (.return_, 1) := by decide +kernel
theorem dX0_draw_0 : decode cX0_draw 0 = .ok (.aload_n 0, 1) := by decide +kernel
theorem dX0_draw_1 : decode cX0_draw 1 = .ok (.aload_n 0, 1) := by decide +kernel
theorem dX0_draw_2 : decode cX0_draw 2 = .ok (.getfield 40, 3) := by decide +kernel
theorem dX0_draw_5 : decode cX0_draw 5 = .ok (.ldc 86, 2) := by decide +kernel
theorem dX0_draw_7 : decode cX0_draw 7 = .ok (.imul, 1) := by decide +kernel
theorem dX0_draw_8 : decode cX0_draw 8 = .ok (.sipush 12345, 3) := by decide +kernel
theorem dX0_draw_11 : decode cX0_draw 11 = .ok (.iadd, 1) := by decide +kernel
theorem dX0_draw_12 : decode cX0_draw 12 = .ok (.putfield 40, 3) := by decide +kernel
theorem dX0_draw_15 : decode cX0_draw 15 = .ok (.aload_n 0, 1) := by decide +kernel
theorem dX0_draw_16 : decode cX0_draw 16 = .ok (.getfield 40, 3) := by decide +kernel
theorem dX0_draw_19 : decode cX0_draw 19 = .ok (.bipush 8, 2) := by decide +kernel
theorem dX0_draw_21 : decode cX0_draw 21 = .ok (.iushr, 1) := by decide +kernel
theorem dX0_draw_22 : decode cX0_draw 22 = .ok (.ireturn, 1) := by decide +kernel
theorem dX0_freeSeatFrom_0 : decode cX0_freeSeatFrom 0 = .ok (.iconst 0, 1) := by decide +kernel
theorem dX0_freeSeatFrom_1 : decode cX0_freeSeatFrom 1 = .ok (.istore_n 2, 1) := by decide +kernel
theorem dX0_freeSeatFrom_2 : decode cX0_freeSeatFrom 2 = .ok (.iload_n 2, 1) := by decide +kernel
theorem dX0_freeSeatFrom_3 : decode cX0_freeSeatFrom 3 = .ok (.bipush 30, 2) := by decide +kernel
theorem dX0_freeSeatFrom_5 : decode cX0_freeSeatFrom 5 = .ok (.if_icmp .ge 26, 3) := by decide +kernel
theorem dX0_freeSeatFrom_8 : decode cX0_freeSeatFrom 8 = .ok (.iload_n 1, 1) := by decide +kernel
theorem dX0_freeSeatFrom_9 : decode cX0_freeSeatFrom 9 = .ok (.iload_n 2, 1) := by decide +kernel
theorem dX0_freeSeatFrom_10 : decode cX0_freeSeatFrom 10 = .ok (.iadd, 1) := by decide +kernel
theorem dX0_freeSeatFrom_11 : decode cX0_freeSeatFrom 11 = .ok (.bipush 30, 2) := by decide +kernel
theorem dX0_freeSeatFrom_13 : decode cX0_freeSeatFrom 13 = .ok (.irem, 1) := by decide +kernel
theorem dX0_freeSeatFrom_14 : decode cX0_freeSeatFrom 14 = .ok (.istore_n 3, 1) := by decide +kernel
theorem dX0_freeSeatFrom_15 : decode cX0_freeSeatFrom 15 = .ok (.aload_n 0, 1) := by decide +kernel
theorem dX0_freeSeatFrom_16 : decode cX0_freeSeatFrom 16 = .ok (.iload_n 3, 1) := by decide +kernel
theorem dX0_freeSeatFrom_17 : decode cX0_freeSeatFrom 17 = .ok (.invokevirtual 87, 3) := by decide +kernel
theorem dX0_freeSeatFrom_20 : decode cX0_freeSeatFrom 20 = .ok (.ifCond .ge 5, 3) := by decide +kernel
theorem dX0_freeSeatFrom_23 : decode cX0_freeSeatFrom 23 = .ok (.iload_n 3, 1) := by decide +kernel
theorem dX0_freeSeatFrom_24 : decode cX0_freeSeatFrom 24 = .ok (.ireturn, 1) := by decide +kernel
theorem dX0_freeSeatFrom_25 : decode cX0_freeSeatFrom 25 = .ok (.iinc 2 1, 3) := by decide +kernel
theorem dX0_freeSeatFrom_28 : decode cX0_freeSeatFrom 28 = .ok (.goto (-26), 3) := by decide +kernel
theorem dX0_freeSeatFrom_31 : decode cX0_freeSeatFrom 31 = .ok (.iload_n 1, 1) := by decide +kernel
theorem dX0_freeSeatFrom_32 : decode cX0_freeSeatFrom 32 = .ok (.ireturn, 1) := by decide +kernel
theorem dX0_swapSeats_0 : decode cX0_swapSeats 0 = .ok (.aload_n 0, 1) := by decide +kernel
theorem dX0_swapSeats_1 : decode cX0_swapSeats 1 = .ok (.getfield 11, 3) := by decide +kernel
theorem dX0_swapSeats_4 : decode cX0_swapSeats 4 = .ok (.iload_n 1, 1) := by decide +kernel
theorem dX0_swapSeats_5 : decode cX0_swapSeats 5 = .ok (.aaload, 1) := by decide +kernel
theorem dX0_swapSeats_6 : decode cX0_swapSeats 6 = .ok (.getfield 67, 3) := by decide +kernel
theorem dX0_swapSeats_9 : decode cX0_swapSeats 9 = .ok (.istore_n 3, 1) := by decide +kernel
theorem dX0_swapSeats_10 : decode cX0_swapSeats 10 = .ok (.aload_n 0, 1) := by decide +kernel
theorem dX0_swapSeats_11 : decode cX0_swapSeats 11 = .ok (.getfield 11, 3) := by decide +kernel
theorem dX0_swapSeats_14 : decode cX0_swapSeats 14 = .ok (.iload_n 1, 1) := by decide +kernel
theorem dX0_swapSeats_15 : decode cX0_swapSeats 15 = .ok (.aaload, 1) := by decide +kernel
theorem dX0_swapSeats_16 : decode cX0_swapSeats 16 = .ok (.aload_n 0, 1) := by decide +kernel
theorem dX0_swapSeats_17 : decode cX0_swapSeats 17 = .ok (.getfield 11, 3) := by decide +kernel
theorem dX0_swapSeats_20 : decode cX0_swapSeats 20 = .ok (.iload_n 2, 1) := by decide +kernel
theorem dX0_swapSeats_21 : decode cX0_swapSeats 21 = .ok (.aaload, 1) := by decide +kernel
theorem dX0_swapSeats_22 : decode cX0_swapSeats 22 = .ok (.getfield 67, 3) := by decide +kernel
theorem dX0_swapSeats_25 : decode cX0_swapSeats 25 = .ok (.putfield 67, 3) := by decide +kernel
theorem dX0_swapSeats_28 : decode cX0_swapSeats 28 = .ok (.aload_n 0, 1) := by decide +kernel
theorem dX0_swapSeats_29 : decode cX0_swapSeats 29 = .ok (.getfield 11, 3) := by decide +kernel
theorem dX0_swapSeats_32 : decode cX0_swapSeats 32 = .ok (.iload_n 2, 1) := by decide +kernel
theorem dX0_swapSeats_33 : decode cX0_swapSeats 33 = .ok (.aaload, 1) := by decide +kernel
theorem dX0_swapSeats_34 : decode cX0_swapSeats 34 = .ok (.iload_n 3, 1) := by decide +kernel
theorem dX0_swapSeats_35 : decode cX0_swapSeats 35 = .ok (.putfield 67, 3) := by decide +kernel
theorem dX0_swapSeats_38 : decode cX0_swapSeats 38 = .ok (.return_, 1) := by decide +kernel
theorem dX0_loudIn_0 : decode cX0_loudIn 0 = .ok (.aload_n 0, 1) := by decide +kernel
theorem dX0_loudIn_1 : decode cX0_loudIn 1 = .ok (.getfield 30, 3) := by decide +kernel
theorem dX0_loudIn_4 : decode cX0_loudIn 4 = .ok (.iconst 1, 1) := by decide +kernel
theorem dX0_loudIn_5 : decode cX0_loudIn 5 = .ok (.if_icmp .ge 7, 3) := by decide +kernel
theorem dX0_loudIn_8 : decode cX0_loudIn 8 = .ok (.iconst 0, 1) := by decide +kernel
theorem dX0_loudIn_9 : decode cX0_loudIn 9 = .ok (.goto 19, 3) := by decide +kernel
theorem dX0_loudIn_12 : decode cX0_loudIn 12 = .ok (.aload_n 0, 1) := by decide +kernel
theorem dX0_loudIn_13 : decode cX0_loudIn 13 = .ok (.getfield 17, 3) := by decide +kernel
theorem dX0_loudIn_16 : decode cX0_loudIn 16 = .ok (.aload_n 0, 1) := by decide +kernel
theorem dX0_loudIn_17 : decode cX0_loudIn 17 = .ok (.getfield 54, 3) := by decide +kernel
theorem dX0_loudIn_20 : decode cX0_loudIn 20 = .ok (.iload_n 1, 1) := by decide +kernel
theorem dX0_loudIn_21 : decode cX0_loudIn 21 = .ok (.iadd, 1) := by decide +kernel
theorem dX0_loudIn_22 : decode cX0_loudIn 22 = .ok (.aload_n 0, 1) := by decide +kernel
theorem dX0_loudIn_23 : decode cX0_loudIn 23 = .ok (.getfield 30, 3) := by decide +kernel
theorem dX0_loudIn_26 : decode cX0_loudIn 26 = .ok (.irem, 1) := by decide +kernel
theorem dX0_loudIn_27 : decode cX0_loudIn 27 = .ok (.iaload, 1) := by decide +kernel
theorem dX0_loudIn_28 : decode cX0_loudIn 28 = .ok (.ireturn, 1) := by decide +kernel
theorem dX0_upToTheLast_0 : decode cX0_upToTheLast 0 = .ok (.iload_n 1, 1) := by decide +kernel
theorem dX0_upToTheLast_1 : decode cX0_upToTheLast 1 = .ok (.ldc 90, 2) := by decide +kernel
theorem dX0_upToTheLast_3 : decode cX0_upToTheLast 3 = .ok (.aload_n 0, 1) := by decide +kernel
theorem dX0_upToTheLast_4 : decode cX0_upToTheLast 4 = .ok (.getfield 54, 3) := by decide +kernel
theorem dX0_upToTheLast_7 : decode cX0_upToTheLast 7 = .ok (.isub, 1) := by decide +kernel
theorem dX0_upToTheLast_8 : decode cX0_upToTheLast 8 = .ok (.invokestatic 91, 3) := by decide +kernel
theorem dX0_upToTheLast_11 : decode cX0_upToTheLast 11 = .ok (.ireturn, 1) := by decide +kernel
theorem dX0_hasCoughed_0 : decode cX0_hasCoughed 0 = .ok (.aload_n 0, 1) := by decide +kernel
theorem dX0_hasCoughed_1 : decode cX0_hasCoughed 1 = .ok (.getfield 60, 3) := by decide +kernel
theorem dX0_hasCoughed_4 : decode cX0_hasCoughed 4 = .ok (.iload_n 1, 1) := by decide +kernel
theorem dX0_hasCoughed_5 : decode cX0_hasCoughed 5 = .ok (.iushr, 1) := by decide +kernel
theorem dX0_hasCoughed_6 : decode cX0_hasCoughed 6 = .ok (.iconst 1, 1) := by decide +kernel
theorem dX0_hasCoughed_7 : decode cX0_hasCoughed 7 = .ok (.iand, 1) := by decide +kernel
theorem dX0_hasCoughed_8 : decode cX0_hasCoughed 8 = .ok (.iconst 1, 1) := by decide +kernel
theorem dX0_hasCoughed_9 : decode cX0_hasCoughed 9 = .ok (.if_icmp .ne 7, 3) := by decide +kernel
theorem dX0_hasCoughed_12 : decode cX0_hasCoughed 12 = .ok (.iconst 1, 1) := by decide +kernel
theorem dX0_hasCoughed_13 : decode cX0_hasCoughed 13 = .ok (.goto 4, 3) := by decide +kernel
theorem dX0_hasCoughed_16 : decode cX0_hasCoughed 16 = .ok (.iconst 0, 1) := by decide +kernel
theorem dX0_hasCoughed_17 : decode cX0_hasCoughed 17 = .ok (.ireturn, 1) := by decide +kernel
theorem dX0_allCoughs_0 : decode cX0_allCoughs 0 = .ok (.iconst 0, 1) := by decide +kernel
theorem dX0_allCoughs_1 : decode cX0_allCoughs 1 = .ok (.istore_n 1, 1) := by decide +kernel
theorem dX0_allCoughs_2 : decode cX0_allCoughs 2 = .ok (.iconst 0, 1) := by decide +kernel
theorem dX0_allCoughs_3 : decode cX0_allCoughs 3 = .ok (.istore_n 2, 1) := by decide +kernel
theorem dX0_allCoughs_4 : decode cX0_allCoughs 4 = .ok (.iload_n 2, 1) := by decide +kernel
theorem dX0_allCoughs_5 : decode cX0_allCoughs 5 = .ok (.aload_n 0, 1) := by decide +kernel
theorem dX0_allCoughs_6 : decode cX0_allCoughs 6 = .ok (.getfield 44, 3) := by decide +kernel
theorem dX0_allCoughs_9 : decode cX0_allCoughs 9 = .ok (.if_icmp .ge 21, 3) := by decide +kernel
theorem dX0_allCoughs_12 : decode cX0_allCoughs 12 = .ok (.iload_n 1, 1) := by decide +kernel
theorem dX0_allCoughs_13 : decode cX0_allCoughs 13 = .ok (.aload_n 0, 1) := by decide +kernel
theorem dX0_allCoughs_14 : decode cX0_allCoughs 14 = .ok (.getfield 11, 3) := by decide +kernel
theorem dX0_allCoughs_17 : decode cX0_allCoughs 17 = .ok (.iload_n 2, 1) := by decide +kernel
theorem dX0_allCoughs_18 : decode cX0_allCoughs 18 = .ok (.aaload, 1) := by decide +kernel
theorem dX0_allCoughs_19 : decode cX0_allCoughs 19 = .ok (.getfield 97, 3) := by decide +kernel
theorem dX0_allCoughs_22 : decode cX0_allCoughs 22 = .ok (.iadd, 1) := by decide +kernel
theorem dX0_allCoughs_23 : decode cX0_allCoughs 23 = .ok (.istore_n 1, 1) := by decide +kernel
theorem dX0_allCoughs_24 : decode cX0_allCoughs 24 = .ok (.iinc 2 1, 3) := by decide +kernel
theorem dX0_allCoughs_27 : decode cX0_allCoughs 27 = .ok (.goto (-23), 3) := by decide +kernel
theorem dX0_allCoughs_30 : decode cX0_allCoughs 30 = .ok (.iload_n 1, 1) := by decide +kernel
theorem dX0_allCoughs_31 : decode cX0_allCoughs 31 = .ok (.ireturn, 1) := by decide +kernel
theorem dX0_greatestItch_0 : decode cX0_greatestItch 0 = .ok (.iconst 0, 1) := by decide +kernel
theorem dX0_greatestItch_1 : decode cX0_greatestItch 1 = .ok (.istore_n 1, 1) := by decide +kernel
theorem dX0_greatestItch_2 : decode cX0_greatestItch 2 = .ok (.iconst 0, 1) := by decide +kernel
theorem dX0_greatestItch_3 : decode cX0_greatestItch 3 = .ok (.istore_n 2, 1) := by decide +kernel
theorem dX0_greatestItch_4 : decode cX0_greatestItch 4 = .ok (.iload_n 2, 1) := by decide +kernel
theorem dX0_greatestItch_5 : decode cX0_greatestItch 5 = .ok (.aload_n 0, 1) := by decide +kernel
theorem dX0_greatestItch_6 : decode cX0_greatestItch 6 = .ok (.getfield 44, 3) := by decide +kernel
theorem dX0_greatestItch_9 : decode cX0_greatestItch 9 = .ok (.if_icmp .ge 23, 3) := by decide +kernel
theorem dX0_greatestItch_12 : decode cX0_greatestItch 12 = .ok (.iload_n 1, 1) := by decide +kernel
theorem dX0_greatestItch_13 : decode cX0_greatestItch 13 = .ok (.aload_n 0, 1) := by decide +kernel
theorem dX0_greatestItch_14 : decode cX0_greatestItch 14 = .ok (.getfield 11, 3) := by decide +kernel
theorem dX0_greatestItch_17 : decode cX0_greatestItch 17 = .ok (.iload_n 2, 1) := by decide +kernel
theorem dX0_greatestItch_18 : decode cX0_greatestItch 18 = .ok (.aaload, 1) := by decide +kernel
theorem dX0_greatestItch_19 : decode cX0_greatestItch 19 = .ok (.getfield 100, 3) := by decide +kernel
theorem dX0_greatestItch_22 : decode cX0_greatestItch 22 = .ok (.invokestatic 103, 3) := by decide +kernel
theorem dX0_greatestItch_25 : decode cX0_greatestItch 25 = .ok (.istore_n 1, 1) := by decide +kernel
theorem dX0_greatestItch_26 : decode cX0_greatestItch 26 = .ok (.iinc 2 1, 3) := by decide +kernel
theorem dX0_greatestItch_29 : decode cX0_greatestItch 29 = .ok (.goto (-25), 3) := by decide +kernel
theorem dX0_greatestItch_32 : decode cX0_greatestItch 32 = .ok (.iload_n 1, 1) := by decide +kernel
theorem dX0_greatestItch_33 : decode cX0_greatestItch 33 = .ok (.ireturn, 1) := by decide +kernel
theorem dX0_takesText_0 : decode cX0_takesText 0 = .ok (.aload_n 0, 1) := by decide +kernel
theorem dX0_takesText_1 : decode cX0_takesText 1 = .ok (.getfield 23, 3) := by decide +kernel
theorem dX0_takesText_4 : decode cX0_takesText 4 = .ok (.aload_n 0, 1) := by decide +kernel
theorem dX0_takesText_5 : decode cX0_takesText 5 = .ok (.getfield 51, 3) := by decide +kernel
theorem dX0_takesText_8 : decode cX0_takesText 8 = .ok (.aload_n 1, 1) := by decide +kernel
theorem dX0_takesText_9 : decode cX0_takesText 9 = .ok (.aastore, 1) := by decide +kernel
theorem dX0_takesText_10 : decode cX0_takesText 10 = .ok (.aload_n 0, 1) := by decide +kernel
theorem dX0_takesText_11 : decode cX0_takesText 11 = .ok (.getfield 27, 3) := by decide +kernel
theorem dX0_takesText_14 : decode cX0_takesText 14 = .ok (.aload_n 1, 1) := by decide +kernel
theorem dX0_takesText_15 : decode cX0_takesText 15 = .ok (.getfield 106, 3) := by decide +kernel
theorem dX0_takesText_18 : decode cX0_takesText 18 = .ok (.aload_n 0, 1) := by decide +kernel
theorem dX0_takesText_19 : decode cX0_takesText 19 = .ok (.getfield 51, 3) := by decide +kernel
theorem dX0_takesText_22 : decode cX0_takesText 22 = .ok (.iastore, 1) := by decide +kernel
theorem dX0_takesText_23 : decode cX0_takesText 23 = .ok (.aload_n 0, 1) := by decide +kernel
theorem dX0_takesText_24 : decode cX0_takesText 24 = .ok (.dup, 1) := by decide +kernel
theorem dX0_takesText_25 : decode cX0_takesText 25 = .ok (.getfield 51, 3) := by decide +kernel
theorem dX0_takesText_28 : decode cX0_takesText 28 = .ok (.iconst 1, 1) := by decide +kernel
theorem dX0_takesText_29 : decode cX0_takesText 29 = .ok (.iadd, 1) := by decide +kernel
theorem dX0_takesText_30 : decode cX0_takesText 30 = .ok (.putfield 51, 3) := by decide +kernel
theorem dX0_takesText_33 : decode cX0_takesText 33 = .ok (.aload_n 0, 1) := by decide +kernel
theorem dX0_takesText_34 : decode cX0_takesText 34 = .ok (.getfield 51, 3) := by decide +kernel
theorem dX0_takesText_37 : decode cX0_takesText 37 = .ok (.iconst 1, 1) := by decide +kernel
theorem dX0_takesText_38 : decode cX0_takesText 38 = .ok (.isub, 1) := by decide +kernel
theorem dX0_takesText_39 : decode cX0_takesText 39 = .ok (.ireturn, 1) := by decide +kernel
theorem dX0_lawAt_0 : decode cX0_lawAt 0 = .ok (.iload_n 1, 1) := by decide +kernel
theorem dX0_lawAt_1 : decode cX0_lawAt 1 = .ok (.aload_n 0, 1) := by decide +kernel
theorem dX0_lawAt_2 : decode cX0_lawAt 2 = .ok (.getfield 51, 3) := by decide +kernel
theorem dX0_lawAt_5 : decode cX0_lawAt 5 = .ok (.invokestatic 63, 3) := by decide +kernel
theorem dX0_lawAt_8 : decode cX0_lawAt 8 = .ok (.ifCond .eq 12, 3) := by decide +kernel
theorem dX0_lawAt_11 : decode cX0_lawAt 11 = .ok (.aload_n 0, 1) := by decide +kernel
theorem dX0_lawAt_12 : decode cX0_lawAt 12 = .ok (.getfield 23, 3) := by decide +kernel
theorem dX0_lawAt_15 : decode cX0_lawAt 15 = .ok (.iload_n 1, 1) := by decide +kernel
theorem dX0_lawAt_16 : decode cX0_lawAt 16 = .ok (.aaload, 1) := by decide +kernel
theorem dX0_lawAt_17 : decode cX0_lawAt 17 = .ok (.goto 4, 3) := by decide +kernel
theorem dX0_lawAt_20 : decode cX0_lawAt 20 = .ok (.aconst_null, 1) := by decide +kernel
theorem dX0_lawAt_21 : decode cX0_lawAt 21 = .ok (.areturn, 1) := by decide +kernel
theorem dX0_grows_0 : decode cX0_grows 0 = .ok (.aload_n 1, 1) := by decide +kernel
theorem dX0_grows_1 : decode cX0_grows 1 = .ok (.getfield 109, 3) := by decide +kernel
theorem dX0_grows_4 : decode cX0_grows 4 = .ok (.ifCond .le 5, 3) := by decide +kernel
theorem dX0_grows_7 : decode cX0_grows 7 = .ok (.iconst 0, 1) := by decide +kernel
theorem dX0_grows_8 : decode cX0_grows 8 = .ok (.ireturn, 1) := by decide +kernel
theorem dX0_grows_9 : decode cX0_grows 9 = .ok (.aload_n 0, 1) := by decide +kernel
theorem dX0_grows_10 : decode cX0_grows 10 = .ok (.aload_n 0, 1) := by decide +kernel
theorem dX0_grows_11 : decode cX0_grows 11 = .ok (.getfield 27, 3) := by decide +kernel
theorem dX0_grows_14 : decode cX0_grows 14 = .ok (.iconst 0, 1) := by decide +kernel
theorem dX0_grows_15 : decode cX0_grows 15 = .ok (.iaload, 1) := by decide +kernel
theorem dX0_grows_16 : decode cX0_grows 16 = .ok (.invokevirtual 112, 3) := by decide +kernel
theorem dX0_grows_19 : decode cX0_grows 19 = .ok (.astore_n 2, 1) := by decide +kernel
theorem dX0_grows_20 : decode cX0_grows 20 = .ok (.aload_n 2, 1) := by decide +kernel
theorem dX0_grows_21 : decode cX0_grows 21 = .ok (.ifnonnull 23, 3) := by decide +kernel
theorem dX0_grows_24 : decode cX0_grows 24 = .ok (.iconst 1, 1) := by decide +kernel
theorem dX0_grows_25 : decode cX0_grows 25 = .ok (.aload_n 1, 1) := by decide +kernel
theorem dX0_grows_26 : decode cX0_grows 26 = .ok (.getfield 116, 3) := by decide +kernel
theorem dX0_grows_29 : decode cX0_grows 29 = .ok (.bipush 20, 2) := by decide +kernel
theorem dX0_grows_31 : decode cX0_grows 31 = .ok (.idiv, 1) := by decide +kernel
theorem dX0_grows_32 : decode cX0_grows 32 = .ok (.iadd, 1) := by decide +kernel
theorem dX0_grows_33 : decode cX0_grows 33 = .ok (.aload_n 0, 1) := by decide +kernel
theorem dX0_grows_34 : decode cX0_grows 34 = .ok (.getfield 34, 3) := by decide +kernel
theorem dX0_grows_37 : decode cX0_grows 37 = .ok (.bipush 10, 2) := by decide +kernel
theorem dX0_grows_39 : decode cX0_grows 39 = .ok (.idiv, 1) := by decide +kernel
theorem dX0_grows_40 : decode cX0_grows 40 = .ok (.iadd, 1) := by decide +kernel
theorem dX0_grows_41 : decode cX0_grows 41 = .ok (.goto 24, 3) := by decide +kernel
theorem dX0_grows_44 : decode cX0_grows 44 = .ok (.aload_n 2, 1) := by decide +kernel
theorem dX0_grows_45 : decode cX0_grows 45 = .ok (.aload_n 1, 1) := by decide +kernel
theorem dX0_grows_46 : decode cX0_grows 46 = .ok (.getfield 116, 3) := by decide +kernel
theorem dX0_grows_49 : decode cX0_grows 49 = .ok (.aload_n 0, 1) := by decide +kernel
theorem dX0_grows_50 : decode cX0_grows 50 = .ok (.getfield 34, 3) := by decide +kernel
theorem dX0_grows_53 : decode cX0_grows 53 = .ok (.aload_n 1, 1) := by decide +kernel
theorem dX0_grows_54 : decode cX0_grows 54 = .ok (.getfield 100, 3) := by decide +kernel
theorem dX0_grows_57 : decode cX0_grows 57 = .ok (.invokevirtual 119, 3) := by decide +kernel
theorem dX0_grows_60 : decode cX0_grows 60 = .ok (.bipush 99, 2) := by decide +kernel
theorem dX0_grows_62 : decode cX0_grows 62 = .ok (.invokestatic 122, 3) := by decide +kernel
theorem dX0_grows_65 : decode cX0_grows 65 = .ok (.ireturn, 1) := by decide +kernel
theorem dX0_harmOf_0 : decode cX0_harmOf 0 = .ok (.aload_n 0, 1) := by decide +kernel
theorem dX0_harmOf_1 : decode cX0_harmOf 1 = .ok (.aload_n 0, 1) := by decide +kernel
theorem dX0_harmOf_2 : decode cX0_harmOf 2 = .ok (.getfield 27, 3) := by decide +kernel
theorem dX0_harmOf_5 : decode cX0_harmOf 5 = .ok (.iconst 1, 1) := by decide +kernel
theorem dX0_harmOf_6 : decode cX0_harmOf 6 = .ok (.iaload, 1) := by decide +kernel
theorem dX0_harmOf_7 : decode cX0_harmOf 7 = .ok (.invokevirtual 112, 3) := by decide +kernel
theorem dX0_harmOf_10 : decode cX0_harmOf 10 = .ok (.astore_n 3, 1) := by decide +kernel
theorem dX0_harmOf_11 : decode cX0_harmOf 11 = .ok (.aload_n 3, 1) := by decide +kernel
theorem dX0_harmOf_12 : decode cX0_harmOf 12 = .ok (.ifnonnull 16, 3) := by decide +kernel
theorem dX0_harmOf_15 : decode cX0_harmOf 15 = .ok (.iload_n 1, 1) := by decide +kernel
theorem dX0_harmOf_16 : decode cX0_harmOf 16 = .ok (.iconst 0, 1) := by decide +kernel
theorem dX0_harmOf_17 : decode cX0_harmOf 17 = .ok (.bipush 60, 2) := by decide +kernel
theorem dX0_harmOf_19 : decode cX0_harmOf 19 = .ok (.iload_n 2, 1) := by decide +kernel
theorem dX0_harmOf_20 : decode cX0_harmOf 20 = .ok (.isub, 1) := by decide +kernel
theorem dX0_harmOf_21 : decode cX0_harmOf 21 = .ok (.invokestatic 103, 3) := by decide +kernel
theorem dX0_harmOf_24 : decode cX0_harmOf 24 = .ok (.imul, 1) := by decide +kernel
theorem dX0_harmOf_25 : decode cX0_harmOf 25 = .ok (.goto 16, 3) := by decide +kernel
theorem dX0_harmOf_28 : decode cX0_harmOf 28 = .ok (.aload_n 3, 1) := by decide +kernel
theorem dX0_harmOf_29 : decode cX0_harmOf 29 = .ok (.iload_n 1, 1) := by decide +kernel
theorem dX0_harmOf_30 : decode cX0_harmOf 30 = .ok (.iload_n 2, 1) := by decide +kernel
theorem dX0_harmOf_31 : decode cX0_harmOf 31 = .ok (.iconst 0, 1) := by decide +kernel
theorem dX0_harmOf_32 : decode cX0_harmOf 32 = .ok (.invokevirtual 119, 3) := by decide +kernel
theorem dX0_harmOf_35 : decode cX0_harmOf 35 = .ok (.sipush 9999, 3) := by decide +kernel
theorem dX0_harmOf_38 : decode cX0_harmOf 38 = .ok (.invokestatic 122, 3) := by decide +kernel
theorem dX0_harmOf_41 : decode cX0_harmOf 41 = .ok (.ireturn, 1) := by decide +kernel
theorem dX0_fineOf_0 : decode cX0_fineOf 0 = .ok (.aload_n 0, 1) := by decide +kernel
theorem dX0_fineOf_1 : decode cX0_fineOf 1 = .ok (.aload_n 0, 1) := by decide +kernel
theorem dX0_fineOf_2 : decode cX0_fineOf 2 = .ok (.getfield 27, 3) := by decide +kernel
theorem dX0_fineOf_5 : decode cX0_fineOf 5 = .ok (.iconst 2, 1) := by decide +kernel
theorem dX0_fineOf_6 : decode cX0_fineOf 6 = .ok (.iaload, 1) := by decide +kernel
theorem dX0_fineOf_7 : decode cX0_fineOf 7 = .ok (.invokevirtual 112, 3) := by decide +kernel
theorem dX0_fineOf_10 : decode cX0_fineOf 10 = .ok (.astore_n 2, 1) := by decide +kernel
theorem dX0_fineOf_11 : decode cX0_fineOf 11 = .ok (.aload_n 2, 1) := by decide +kernel
theorem dX0_fineOf_12 : decode cX0_fineOf 12 = .ok (.ifnonnull 10, 3) := by decide +kernel
theorem dX0_fineOf_15 : decode cX0_fineOf 15 = .ok (.aload_n 1, 1) := by decide +kernel
theorem dX0_fineOf_16 : decode cX0_fineOf 16 = .ok (.getfield 97, 3) := by decide +kernel
theorem dX0_fineOf_19 : decode cX0_fineOf 19 = .ok (.goto 16, 3) := by decide +kernel
theorem dX0_fineOf_22 : decode cX0_fineOf 22 = .ok (.aload_n 2, 1) := by decide +kernel
theorem dX0_fineOf_23 : decode cX0_fineOf 23 = .ok (.aload_n 1, 1) := by decide +kernel
theorem dX0_fineOf_24 : decode cX0_fineOf 24 = .ok (.getfield 97, 3) := by decide +kernel
theorem dX0_fineOf_27 : decode cX0_fineOf 27 = .ok (.aload_n 0, 1) := by decide +kernel
theorem dX0_fineOf_28 : decode cX0_fineOf 28 = .ok (.getfield 57, 3) := by decide +kernel
theorem dX0_fineOf_31 : decode cX0_fineOf 31 = .ok (.iconst 0, 1) := by decide +kernel
theorem dX0_fineOf_32 : decode cX0_fineOf 32 = .ok (.invokevirtual 119, 3) := by decide +kernel
theorem dX0_fineOf_35 : decode cX0_fineOf 35 = .ok (.ireturn, 1) := by decide +kernel
theorem dX0_letsGo_0 : decode cX0_letsGo 0 = .ok (.aload_n 0, 1) := by decide +kernel
theorem dX0_letsGo_1 : decode cX0_letsGo 1 = .ok (.getfield 11, 3) := by decide +kernel
theorem dX0_letsGo_4 : decode cX0_letsGo 4 = .ok (.iload_n 1, 1) := by decide +kernel
theorem dX0_letsGo_5 : decode cX0_letsGo 5 = .ok (.aaload, 1) := by decide +kernel
theorem dX0_letsGo_6 : decode cX0_letsGo 6 = .ok (.astore_n 3, 1) := by decide +kernel
theorem dX0_letsGo_7 : decode cX0_letsGo 7 = .ok (.aload_n 3, 1) := by decide +kernel
theorem dX0_letsGo_8 : decode cX0_letsGo 8 = .ok (.getfield 100, 3) := by decide +kernel
theorem dX0_letsGo_11 : decode cX0_letsGo 11 = .ok (.bipush 100, 2) := by decide +kernel
theorem dX0_letsGo_13 : decode cX0_letsGo 13 = .ok (.if_icmp .lt 7, 3) := by decide +kernel
theorem dX0_letsGo_16 : decode cX0_letsGo 16 = .ok (.iconst 1, 1) := by decide +kernel
theorem dX0_letsGo_17 : decode cX0_letsGo 17 = .ok (.goto 4, 3) := by decide +kernel
theorem dX0_letsGo_20 : decode cX0_letsGo 20 = .ok (.iconst 0, 1) := by decide +kernel
theorem dX0_letsGo_21 : decode cX0_letsGo 21 = .ok (.istore 4, 2) := by decide +kernel
theorem dX0_letsGo_23 : decode cX0_letsGo 23 = .ok (.aload_n 3, 1) := by decide +kernel
theorem dX0_letsGo_24 : decode cX0_letsGo 24 = .ok (.getfield 100, 3) := by decide +kernel
theorem dX0_letsGo_27 : decode cX0_letsGo 27 = .ok (.sipush 200, 3) := by decide +kernel
theorem dX0_letsGo_30 : decode cX0_letsGo 30 = .ok (.if_icmp .lt 7, 3) := by decide +kernel
theorem dX0_letsGo_33 : decode cX0_letsGo 33 = .ok (.iconst 1, 1) := by decide +kernel
theorem dX0_letsGo_34 : decode cX0_letsGo 34 = .ok (.goto 4, 3) := by decide +kernel
theorem dX0_letsGo_37 : decode cX0_letsGo 37 = .ok (.iconst 0, 1) := by decide +kernel
theorem dX0_letsGo_38 : decode cX0_letsGo 38 = .ok (.istore 5, 2) := by decide +kernel
theorem dX0_letsGo_40 : decode cX0_letsGo 40 = .ok (.aload_n 3, 1) := by decide +kernel
theorem dX0_letsGo_41 : decode cX0_letsGo 41 = .ok (.getfield 125, 3) := by decide +kernel
theorem dX0_letsGo_44 : decode cX0_letsGo 44 = .ok (.tableswitch 181 1 5 #[36, 93, 56, 115, 161], 36) := by decide +kernel
theorem dX0_letsGo_80 : decode cX0_letsGo 80 = .ok (.iload 4, 2) := by decide +kernel
theorem dX0_letsGo_82 : decode cX0_letsGo 82 = .ok (.ifCond .eq 7, 3) := by decide +kernel
theorem dX0_letsGo_85 : decode cX0_letsGo 85 = .ok (.iload_n 2, 1) := by decide +kernel
theorem dX0_letsGo_86 : decode cX0_letsGo 86 = .ok (.ifCond .eq 8, 3) := by decide +kernel
theorem dX0_letsGo_89 : decode cX0_letsGo 89 = .ok (.iload 5, 2) := by decide +kernel
theorem dX0_letsGo_91 : decode cX0_letsGo 91 = .ok (.ifCond .eq 7, 3) := by decide +kernel
theorem dX0_letsGo_94 : decode cX0_letsGo 94 = .ok (.iconst 1, 1) := by decide +kernel
theorem dX0_letsGo_95 : decode cX0_letsGo 95 = .ok (.goto 4, 3) := by decide +kernel
theorem dX0_letsGo_98 : decode cX0_letsGo 98 = .ok (.iconst 0, 1) := by decide +kernel
theorem dX0_letsGo_99 : decode cX0_letsGo 99 = .ok (.ireturn, 1) := by decide +kernel
theorem dX0_letsGo_100 : decode cX0_letsGo 100 = .ok (.iload 4, 2) := by decide +kernel
theorem dX0_letsGo_102 : decode cX0_letsGo 102 = .ok (.ifCond .eq 7, 3) := by decide +kernel
theorem dX0_letsGo_105 : decode cX0_letsGo 105 = .ok (.iload_n 2, 1) := by decide +kernel
theorem dX0_letsGo_106 : decode cX0_letsGo 106 = .ok (.ifCond .eq 25, 3) := by decide +kernel
theorem dX0_letsGo_109 : decode cX0_letsGo 109 = .ok (.iload 5, 2) := by decide +kernel
theorem dX0_letsGo_111 : decode cX0_letsGo 111 = .ok (.ifCond .ne 20, 3) := by decide +kernel
theorem dX0_letsGo_114 : decode cX0_letsGo 114 = .ok (.aload_n 3, 1) := by decide +kernel
theorem dX0_letsGo_115 : decode cX0_letsGo 115 = .ok (.getfield 100, 3) := by decide +kernel
theorem dX0_letsGo_118 : decode cX0_letsGo 118 = .ok (.bipush 50, 2) := by decide +kernel
theorem dX0_letsGo_120 : decode cX0_letsGo 120 = .ok (.if_icmp .lt 15, 3) := by decide +kernel
theorem dX0_letsGo_123 : decode cX0_letsGo 123 = .ok (.aload_n 0, 1) := by decide +kernel
theorem dX0_letsGo_124 : decode cX0_letsGo 124 = .ok (.iload_n 1, 1) := by decide +kernel
theorem dX0_letsGo_125 : decode cX0_letsGo 125 = .ok (.invokevirtual 128, 3) := by decide +kernel
theorem dX0_letsGo_128 : decode cX0_letsGo 128 = .ok (.ifCond .eq 7, 3) := by decide +kernel
theorem dX0_letsGo_131 : decode cX0_letsGo 131 = .ok (.iconst 1, 1) := by decide +kernel
theorem dX0_letsGo_132 : decode cX0_letsGo 132 = .ok (.goto 4, 3) := by decide +kernel
theorem dX0_letsGo_135 : decode cX0_letsGo 135 = .ok (.iconst 0, 1) := by decide +kernel
theorem dX0_letsGo_136 : decode cX0_letsGo 136 = .ok (.ireturn, 1) := by decide +kernel
theorem dX0_letsGo_137 : decode cX0_letsGo 137 = .ok (.iload 4, 2) := by decide +kernel
theorem dX0_letsGo_139 : decode cX0_letsGo 139 = .ok (.ifCond .eq 9, 3) := by decide +kernel
theorem dX0_letsGo_142 : decode cX0_letsGo 142 = .ok (.iload_n 2, 1) := by decide +kernel
theorem dX0_letsGo_143 : decode cX0_letsGo 143 = .ok (.bipush 50, 2) := by decide +kernel
theorem dX0_letsGo_145 : decode cX0_letsGo 145 = .ok (.if_icmp .ge 8, 3) := by decide +kernel
theorem dX0_letsGo_148 : decode cX0_letsGo 148 = .ok (.iload 5, 2) := by decide +kernel
theorem dX0_letsGo_150 : decode cX0_letsGo 150 = .ok (.ifCond .eq 7, 3) := by decide +kernel
theorem dX0_letsGo_153 : decode cX0_letsGo 153 = .ok (.iconst 1, 1) := by decide +kernel
theorem dX0_letsGo_154 : decode cX0_letsGo 154 = .ok (.goto 4, 3) := by decide +kernel
theorem dX0_letsGo_157 : decode cX0_letsGo 157 = .ok (.iconst 0, 1) := by decide +kernel
theorem dX0_letsGo_158 : decode cX0_letsGo 158 = .ok (.ireturn, 1) := by decide +kernel
theorem dX0_letsGo_159 : decode cX0_letsGo 159 = .ok (.iload 4, 2) := by decide +kernel
theorem dX0_letsGo_161 : decode cX0_letsGo 161 = .ok (.ifCond .eq 9, 3) := by decide +kernel
theorem dX0_letsGo_164 : decode cX0_letsGo 164 = .ok (.iload_n 2, 1) := by decide +kernel
theorem dX0_letsGo_165 : decode cX0_letsGo 165 = .ok (.bipush 50, 2) := by decide +kernel
theorem dX0_letsGo_167 : decode cX0_letsGo 167 = .ok (.if_icmp .ge 32, 3) := by decide +kernel
theorem dX0_letsGo_170 : decode cX0_letsGo 170 = .ok (.iload 5, 2) := by decide +kernel
theorem dX0_letsGo_172 : decode cX0_letsGo 172 = .ok (.ifCond .ne 27, 3) := by decide +kernel
theorem dX0_letsGo_175 : decode cX0_letsGo 175 = .ok (.aload_n 0, 1) := by decide +kernel
theorem dX0_letsGo_176 : decode cX0_letsGo 176 = .ok (.getfield 54, 3) := by decide +kernel
theorem dX0_letsGo_179 : decode cX0_letsGo 179 = .ok (.bipush 60, 2) := by decide +kernel
theorem dX0_letsGo_181 : decode cX0_letsGo 181 = .ok (.irem, 1) := by decide +kernel
theorem dX0_letsGo_182 : decode cX0_letsGo 182 = .ok (.aload_n 3, 1) := by decide +kernel
theorem dX0_letsGo_183 : decode cX0_letsGo 183 = .ok (.getfield 116, 3) := by decide +kernel
theorem dX0_letsGo_186 : decode cX0_letsGo 186 = .ok (.bipush 60, 2) := by decide +kernel
theorem dX0_letsGo_188 : decode cX0_letsGo 188 = .ok (.irem, 1) := by decide +kernel
theorem dX0_letsGo_189 : decode cX0_letsGo 189 = .ok (.if_icmp .ne 14, 3) := by decide +kernel
theorem dX0_letsGo_192 : decode cX0_letsGo 192 = .ok (.aload_n 3, 1) := by decide +kernel
theorem dX0_letsGo_193 : decode cX0_letsGo 193 = .ok (.getfield 100, 3) := by decide +kernel
theorem dX0_letsGo_196 : decode cX0_letsGo 196 = .ok (.ifCond .le 7, 3) := by decide +kernel
theorem dX0_letsGo_199 : decode cX0_letsGo 199 = .ok (.iconst 1, 1) := by decide +kernel
theorem dX0_letsGo_200 : decode cX0_letsGo 200 = .ok (.goto 4, 3) := by decide +kernel
theorem dX0_letsGo_203 : decode cX0_letsGo 203 = .ok (.iconst 0, 1) := by decide +kernel
theorem dX0_letsGo_204 : decode cX0_letsGo 204 = .ok (.ireturn, 1) := by decide +kernel
theorem dX0_letsGo_205 : decode cX0_letsGo 205 = .ok (.aload_n 0, 1) := by decide +kernel
theorem dX0_letsGo_206 : decode cX0_letsGo 206 = .ok (.getfield 54, 3) := by decide +kernel
theorem dX0_letsGo_209 : decode cX0_letsGo 209 = .ok (.bipush 30, 2) := by decide +kernel
theorem dX0_letsGo_211 : decode cX0_letsGo 211 = .ok (.irem, 1) := by decide +kernel
theorem dX0_letsGo_212 : decode cX0_letsGo 212 = .ok (.aload_n 3, 1) := by decide +kernel
theorem dX0_letsGo_213 : decode cX0_letsGo 213 = .ok (.getfield 67, 3) := by decide +kernel
theorem dX0_letsGo_216 : decode cX0_letsGo 216 = .ok (.if_icmp .ne 7, 3) := by decide +kernel
theorem dX0_letsGo_219 : decode cX0_letsGo 219 = .ok (.iconst 1, 1) := by decide +kernel
theorem dX0_letsGo_220 : decode cX0_letsGo 220 = .ok (.goto 4, 3) := by decide +kernel
theorem dX0_letsGo_223 : decode cX0_letsGo 223 = .ok (.iconst 0, 1) := by decide +kernel
theorem dX0_letsGo_224 : decode cX0_letsGo 224 = .ok (.ireturn, 1) := by decide +kernel
theorem dX0_letsGo_225 : decode cX0_letsGo 225 = .ok (.iload 4, 2) := by decide +kernel
theorem dX0_letsGo_227 : decode cX0_letsGo 227 = .ok (.ireturn, 1) := by decide +kernel
theorem dX0_oneNearDid_0 : decode cX0_oneNearDid 0 = .ok (.iconst 0, 1) := by decide +kernel
theorem dX0_oneNearDid_1 : decode cX0_oneNearDid 1 = .ok (.istore_n 2, 1) := by decide +kernel
theorem dX0_oneNearDid_2 : decode cX0_oneNearDid 2 = .ok (.iload_n 2, 1) := by decide +kernel
theorem dX0_oneNearDid_3 : decode cX0_oneNearDid 3 = .ok (.aload_n 0, 1) := by decide +kernel
theorem dX0_oneNearDid_4 : decode cX0_oneNearDid 4 = .ok (.getfield 44, 3) := by decide +kernel
theorem dX0_oneNearDid_7 : decode cX0_oneNearDid 7 = .ok (.if_icmp .ge 53, 3) := by decide +kernel
theorem dX0_oneNearDid_10 : decode cX0_oneNearDid 10 = .ok (.iload_n 2, 1) := by decide +kernel
theorem dX0_oneNearDid_11 : decode cX0_oneNearDid 11 = .ok (.iload_n 1, 1) := by decide +kernel
theorem dX0_oneNearDid_12 : decode cX0_oneNearDid 12 = .ok (.if_icmp .eq 42, 3) := by decide +kernel
theorem dX0_oneNearDid_15 : decode cX0_oneNearDid 15 = .ok (.aload_n 0, 1) := by decide +kernel
theorem dX0_oneNearDid_16 : decode cX0_oneNearDid 16 = .ok (.iload_n 2, 1) := by decide +kernel
theorem dX0_oneNearDid_17 : decode cX0_oneNearDid 17 = .ok (.invokevirtual 132, 3) := by decide +kernel
theorem dX0_oneNearDid_20 : decode cX0_oneNearDid 20 = .ok (.ifCond .eq 34, 3) := by decide +kernel
theorem dX0_oneNearDid_23 : decode cX0_oneNearDid 23 = .ok (.aload_n 0, 1) := by decide +kernel
theorem dX0_oneNearDid_24 : decode cX0_oneNearDid 24 = .ok (.getfield 11, 3) := by decide +kernel
theorem dX0_oneNearDid_27 : decode cX0_oneNearDid 27 = .ok (.iload_n 2, 1) := by decide +kernel
theorem dX0_oneNearDid_28 : decode cX0_oneNearDid 28 = .ok (.aaload, 1) := by decide +kernel
theorem dX0_oneNearDid_29 : decode cX0_oneNearDid 29 = .ok (.getfield 67, 3) := by decide +kernel
theorem dX0_oneNearDid_32 : decode cX0_oneNearDid 32 = .ok (.aload_n 0, 1) := by decide +kernel
theorem dX0_oneNearDid_33 : decode cX0_oneNearDid 33 = .ok (.getfield 11, 3) := by decide +kernel
theorem dX0_oneNearDid_36 : decode cX0_oneNearDid 36 = .ok (.iload_n 1, 1) := by decide +kernel
theorem dX0_oneNearDid_37 : decode cX0_oneNearDid 37 = .ok (.aaload, 1) := by decide +kernel
theorem dX0_oneNearDid_38 : decode cX0_oneNearDid 38 = .ok (.getfield 67, 3) := by decide +kernel
theorem dX0_oneNearDid_41 : decode cX0_oneNearDid 41 = .ok (.isub, 1) := by decide +kernel
theorem dX0_oneNearDid_42 : decode cX0_oneNearDid 42 = .ok (.invokestatic 135, 3) := by decide +kernel
theorem dX0_oneNearDid_45 : decode cX0_oneNearDid 45 = .ok (.aload_n 0, 1) := by decide +kernel
theorem dX0_oneNearDid_46 : decode cX0_oneNearDid 46 = .ok (.getfield 37, 3) := by decide +kernel
theorem dX0_oneNearDid_49 : decode cX0_oneNearDid 49 = .ok (.if_icmp .gt 5, 3) := by decide +kernel
theorem dX0_oneNearDid_52 : decode cX0_oneNearDid 52 = .ok (.iconst 1, 1) := by decide +kernel
theorem dX0_oneNearDid_53 : decode cX0_oneNearDid 53 = .ok (.ireturn, 1) := by decide +kernel
theorem dX0_oneNearDid_54 : decode cX0_oneNearDid 54 = .ok (.iinc 2 1, 3) := by decide +kernel
theorem dX0_oneNearDid_57 : decode cX0_oneNearDid 57 = .ok (.goto (-55), 3) := by decide +kernel
theorem dX0_oneNearDid_60 : decode cX0_oneNearDid 60 = .ok (.iconst 0, 1) := by decide +kernel
theorem dX0_oneNearDid_61 : decode cX0_oneNearDid 61 = .ok (.ireturn, 1) := by decide +kernel
theorem dX0_passSeconds_0 : decode cX0_passSeconds 0 = .ok (.iconst 0, 1) := by decide +kernel
theorem dX0_passSeconds_1 : decode cX0_passSeconds 1 = .ok (.istore_n 2, 1) := by decide +kernel
theorem dX0_passSeconds_2 : decode cX0_passSeconds 2 = .ok (.iconst 0, 1) := by decide +kernel
theorem dX0_passSeconds_3 : decode cX0_passSeconds 3 = .ok (.istore_n 3, 1) := by decide +kernel
theorem dX0_passSeconds_4 : decode cX0_passSeconds 4 = .ok (.iload_n 3, 1) := by decide +kernel
theorem dX0_passSeconds_5 : decode cX0_passSeconds 5 = .ok (.iload_n 1, 1) := by decide +kernel
theorem dX0_passSeconds_6 : decode cX0_passSeconds 6 = .ok (.if_icmp .ge 16, 3) := by decide +kernel
theorem dX0_passSeconds_9 : decode cX0_passSeconds 9 = .ok (.iload_n 2, 1) := by decide +kernel
theorem dX0_passSeconds_10 : decode cX0_passSeconds 10 = .ok (.aload_n 0, 1) := by decide +kernel
theorem dX0_passSeconds_11 : decode cX0_passSeconds 11 = .ok (.invokevirtual 138, 3) := by decide +kernel
theorem dX0_passSeconds_14 : decode cX0_passSeconds 14 = .ok (.iadd, 1) := by decide +kernel
theorem dX0_passSeconds_15 : decode cX0_passSeconds 15 = .ok (.istore_n 2, 1) := by decide +kernel
theorem dX0_passSeconds_16 : decode cX0_passSeconds 16 = .ok (.iinc 3 1, 3) := by decide +kernel
theorem dX0_passSeconds_19 : decode cX0_passSeconds 19 = .ok (.goto (-15), 3) := by decide +kernel
theorem dX0_passSeconds_22 : decode cX0_passSeconds 22 = .ok (.iload_n 2, 1) := by decide +kernel
theorem dX0_passSeconds_23 : decode cX0_passSeconds 23 = .ok (.ireturn, 1) := by decide +kernel
theorem dX0_passSecond_0 : decode cX0_passSecond 0 = .ok (.aload_n 0, 1) := by decide +kernel
theorem dX0_passSecond_1 : decode cX0_passSecond 1 = .ok (.iconst 0, 1) := by decide +kernel
theorem dX0_passSecond_2 : decode cX0_passSecond 2 = .ok (.invokevirtual 141, 3) := by decide +kernel
theorem dX0_passSecond_5 : decode cX0_passSecond 5 = .ok (.istore_n 1, 1) := by decide +kernel
theorem dX0_passSecond_6 : decode cX0_passSecond 6 = .ok (.aload_n 0, 1) := by decide +kernel
theorem dX0_passSecond_7 : decode cX0_passSecond 7 = .ok (.invokevirtual 144, 3) := by decide +kernel
theorem dX0_passSecond_10 : decode cX0_passSecond 10 = .ok (.aload_n 0, 1) := by decide +kernel
theorem dX0_passSecond_11 : decode cX0_passSecond 11 = .ok (.iload_n 1, 1) := by decide +kernel
theorem dX0_passSecond_12 : decode cX0_passSecond 12 = .ok (.invokevirtual 147, 3) := by decide +kernel
theorem dX0_passSecond_15 : decode cX0_passSecond 15 = .ok (.istore_n 2, 1) := by decide +kernel
theorem dX0_passSecond_16 : decode cX0_passSecond 16 = .ok (.iload_n 2, 1) := by decide +kernel
theorem dX0_passSecond_17 : decode cX0_passSecond 17 = .ok (.invokestatic 150, 3) := by decide +kernel
theorem dX0_passSecond_20 : decode cX0_passSecond 20 = .ok (.istore_n 3, 1) := by decide +kernel
theorem dX0_passSecond_21 : decode cX0_passSecond 21 = .ok (.iload_n 3, 1) := by decide +kernel
theorem dX0_passSecond_22 : decode cX0_passSecond 22 = .ok (.ifCond .le 23, 3) := by decide +kernel
theorem dX0_passSecond_25 : decode cX0_passSecond 25 = .ok (.aload_n 0, 1) := by decide +kernel
theorem dX0_passSecond_26 : decode cX0_passSecond 26 = .ok (.iload_n 2, 1) := by decide +kernel
theorem dX0_passSecond_27 : decode cX0_passSecond 27 = .ok (.invokevirtual 155, 3) := by decide +kernel
theorem dX0_passSecond_30 : decode cX0_passSecond 30 = .ok (.aload_n 0, 1) := by decide +kernel
theorem dX0_passSecond_31 : decode cX0_passSecond 31 = .ok (.dup, 1) := by decide +kernel
theorem dX0_passSecond_32 : decode cX0_passSecond 32 = .ok (.getfield 57, 3) := by decide +kernel
theorem dX0_passSecond_35 : decode cX0_passSecond 35 = .ok (.aload_n 0, 1) := by decide +kernel
theorem dX0_passSecond_36 : decode cX0_passSecond 36 = .ok (.iload_n 3, 1) := by decide +kernel
theorem dX0_passSecond_37 : decode cX0_passSecond 37 = .ok (.iload_n 1, 1) := by decide +kernel
theorem dX0_passSecond_38 : decode cX0_passSecond 38 = .ok (.invokevirtual 159, 3) := by decide +kernel
theorem dX0_passSecond_41 : decode cX0_passSecond 41 = .ok (.iadd, 1) := by decide +kernel
theorem dX0_passSecond_42 : decode cX0_passSecond 42 = .ok (.putfield 57, 3) := by decide +kernel
theorem dX0_passSecond_45 : decode cX0_passSecond 45 = .ok (.aload_n 0, 1) := by decide +kernel
theorem dX0_passSecond_46 : decode cX0_passSecond 46 = .ok (.dup, 1) := by decide +kernel
theorem dX0_passSecond_47 : decode cX0_passSecond 47 = .ok (.getfield 54, 3) := by decide +kernel
theorem dX0_passSecond_50 : decode cX0_passSecond 50 = .ok (.iconst 1, 1) := by decide +kernel
theorem dX0_passSecond_51 : decode cX0_passSecond 51 = .ok (.iadd, 1) := by decide +kernel
theorem dX0_passSecond_52 : decode cX0_passSecond 52 = .ok (.putfield 54, 3) := by decide +kernel
theorem dX0_passSecond_55 : decode cX0_passSecond 55 = .ok (.aload_n 0, 1) := by decide +kernel
theorem dX0_passSecond_56 : decode cX0_passSecond 56 = .ok (.iload_n 2, 1) := by decide +kernel
theorem dX0_passSecond_57 : decode cX0_passSecond 57 = .ok (.putfield 60, 3) := by decide +kernel
theorem dX0_passSecond_60 : decode cX0_passSecond 60 = .ok (.iload_n 3, 1) := by decide +kernel
theorem dX0_passSecond_61 : decode cX0_passSecond 61 = .ok (.ireturn, 1) := by decide +kernel
theorem dX0_throatsGrow_0 : decode cX0_throatsGrow 0 = .ok (.iconst 0, 1) := by decide +kernel
theorem dX0_throatsGrow_1 : decode cX0_throatsGrow 1 = .ok (.istore_n 1, 1) := by decide +kernel
theorem dX0_throatsGrow_2 : decode cX0_throatsGrow 2 = .ok (.iload_n 1, 1) := by decide +kernel
theorem dX0_throatsGrow_3 : decode cX0_throatsGrow 3 = .ok (.aload_n 0, 1) := by decide +kernel
theorem dX0_throatsGrow_4 : decode cX0_throatsGrow 4 = .ok (.getfield 44, 3) := by decide +kernel
theorem dX0_throatsGrow_7 : decode cX0_throatsGrow 7 = .ok (.if_icmp .ge 53, 3) := by decide +kernel
theorem dX0_throatsGrow_10 : decode cX0_throatsGrow 10 = .ok (.aload_n 0, 1) := by decide +kernel
theorem dX0_throatsGrow_11 : decode cX0_throatsGrow 11 = .ok (.getfield 11, 3) := by decide +kernel
theorem dX0_throatsGrow_14 : decode cX0_throatsGrow 14 = .ok (.iload_n 1, 1) := by decide +kernel
theorem dX0_throatsGrow_15 : decode cX0_throatsGrow 15 = .ok (.aaload, 1) := by decide +kernel
theorem dX0_throatsGrow_16 : decode cX0_throatsGrow 16 = .ok (.astore_n 2, 1) := by decide +kernel
theorem dX0_throatsGrow_17 : decode cX0_throatsGrow 17 = .ok (.aload_n 2, 1) := by decide +kernel
theorem dX0_throatsGrow_18 : decode cX0_throatsGrow 18 = .ok (.sipush 999, 3) := by decide +kernel
theorem dX0_throatsGrow_21 : decode cX0_throatsGrow 21 = .ok (.aload_n 2, 1) := by decide +kernel
theorem dX0_throatsGrow_22 : decode cX0_throatsGrow 22 = .ok (.getfield 100, 3) := by decide +kernel
theorem dX0_throatsGrow_25 : decode cX0_throatsGrow 25 = .ok (.aload_n 0, 1) := by decide +kernel
theorem dX0_throatsGrow_26 : decode cX0_throatsGrow 26 = .ok (.aload_n 2, 1) := by decide +kernel
theorem dX0_throatsGrow_27 : decode cX0_throatsGrow 27 = .ok (.invokevirtual 162, 3) := by decide +kernel
theorem dX0_throatsGrow_30 : decode cX0_throatsGrow 30 = .ok (.iadd, 1) := by decide +kernel
theorem dX0_throatsGrow_31 : decode cX0_throatsGrow 31 = .ok (.invokestatic 91, 3) := by decide +kernel
theorem dX0_throatsGrow_34 : decode cX0_throatsGrow 34 = .ok (.putfield 100, 3) := by decide +kernel
theorem dX0_throatsGrow_37 : decode cX0_throatsGrow 37 = .ok (.aload_n 2, 1) := by decide +kernel
theorem dX0_throatsGrow_38 : decode cX0_throatsGrow 38 = .ok (.getfield 109, 3) := by decide +kernel
theorem dX0_throatsGrow_41 : decode cX0_throatsGrow 41 = .ok (.ifCond .le 13, 3) := by decide +kernel
theorem dX0_throatsGrow_44 : decode cX0_throatsGrow 44 = .ok (.aload_n 2, 1) := by decide +kernel
theorem dX0_throatsGrow_45 : decode cX0_throatsGrow 45 = .ok (.dup, 1) := by decide +kernel
theorem dX0_throatsGrow_46 : decode cX0_throatsGrow 46 = .ok (.getfield 109, 3) := by decide +kernel
theorem dX0_throatsGrow_49 : decode cX0_throatsGrow 49 = .ok (.iconst 1, 1) := by decide +kernel
theorem dX0_throatsGrow_50 : decode cX0_throatsGrow 50 = .ok (.isub, 1) := by decide +kernel
theorem dX0_throatsGrow_51 : decode cX0_throatsGrow 51 = .ok (.putfield 109, 3) := by decide +kernel
theorem dX0_throatsGrow_54 : decode cX0_throatsGrow 54 = .ok (.iinc 1 1, 3) := by decide +kernel
theorem dX0_throatsGrow_57 : decode cX0_throatsGrow 57 = .ok (.goto (-55), 3) := by decide +kernel
theorem dX0_throatsGrow_60 : decode cX0_throatsGrow 60 = .ok (.return_, 1) := by decide +kernel
theorem dX0_whoLetsGo_0 : decode cX0_whoLetsGo 0 = .ok (.iconst 0, 1) := by decide +kernel
theorem dX0_whoLetsGo_1 : decode cX0_whoLetsGo 1 = .ok (.istore_n 2, 1) := by decide +kernel
theorem dX0_whoLetsGo_2 : decode cX0_whoLetsGo 2 = .ok (.iconst 0, 1) := by decide +kernel
theorem dX0_whoLetsGo_3 : decode cX0_whoLetsGo 3 = .ok (.istore_n 3, 1) := by decide +kernel
theorem dX0_whoLetsGo_4 : decode cX0_whoLetsGo 4 = .ok (.iload_n 3, 1) := by decide +kernel
theorem dX0_whoLetsGo_5 : decode cX0_whoLetsGo 5 = .ok (.aload_n 0, 1) := by decide +kernel
theorem dX0_whoLetsGo_6 : decode cX0_whoLetsGo 6 = .ok (.getfield 44, 3) := by decide +kernel
theorem dX0_whoLetsGo_9 : decode cX0_whoLetsGo 9 = .ok (.if_icmp .ge 24, 3) := by decide +kernel
theorem dX0_whoLetsGo_12 : decode cX0_whoLetsGo 12 = .ok (.aload_n 0, 1) := by decide +kernel
theorem dX0_whoLetsGo_13 : decode cX0_whoLetsGo 13 = .ok (.iload_n 3, 1) := by decide +kernel
theorem dX0_whoLetsGo_14 : decode cX0_whoLetsGo 14 = .ok (.iload_n 1, 1) := by decide +kernel
theorem dX0_whoLetsGo_15 : decode cX0_whoLetsGo 15 = .ok (.invokevirtual 166, 3) := by decide +kernel
theorem dX0_whoLetsGo_18 : decode cX0_whoLetsGo 18 = .ok (.ifCond .eq 9, 3) := by decide +kernel
theorem dX0_whoLetsGo_21 : decode cX0_whoLetsGo 21 = .ok (.iload_n 2, 1) := by decide +kernel
theorem dX0_whoLetsGo_22 : decode cX0_whoLetsGo 22 = .ok (.iconst 1, 1) := by decide +kernel
theorem dX0_whoLetsGo_23 : decode cX0_whoLetsGo 23 = .ok (.iload_n 3, 1) := by decide +kernel
theorem dX0_whoLetsGo_24 : decode cX0_whoLetsGo 24 = .ok (.ishl, 1) := by decide +kernel
theorem dX0_whoLetsGo_25 : decode cX0_whoLetsGo 25 = .ok (.ior, 1) := by decide +kernel
theorem dX0_whoLetsGo_26 : decode cX0_whoLetsGo 26 = .ok (.istore_n 2, 1) := by decide +kernel
theorem dX0_whoLetsGo_27 : decode cX0_whoLetsGo 27 = .ok (.iinc 3 1, 3) := by decide +kernel
theorem dX0_whoLetsGo_30 : decode cX0_whoLetsGo 30 = .ok (.goto (-26), 3) := by decide +kernel
theorem dX0_whoLetsGo_33 : decode cX0_whoLetsGo 33 = .ok (.iload_n 2, 1) := by decide +kernel
theorem dX0_whoLetsGo_34 : decode cX0_whoLetsGo 34 = .ok (.ireturn, 1) := by decide +kernel
theorem dX0_theyCough_0 : decode cX0_theyCough 0 = .ok (.iconst 0, 1) := by decide +kernel
theorem dX0_theyCough_1 : decode cX0_theyCough 1 = .ok (.istore_n 2, 1) := by decide +kernel
theorem dX0_theyCough_2 : decode cX0_theyCough 2 = .ok (.iload_n 2, 1) := by decide +kernel
theorem dX0_theyCough_3 : decode cX0_theyCough 3 = .ok (.aload_n 0, 1) := by decide +kernel
theorem dX0_theyCough_4 : decode cX0_theyCough 4 = .ok (.getfield 44, 3) := by decide +kernel
theorem dX0_theyCough_7 : decode cX0_theyCough 7 = .ok (.if_icmp .ge 43, 3) := by decide +kernel
theorem dX0_theyCough_10 : decode cX0_theyCough 10 = .ok (.iload_n 1, 1) := by decide +kernel
theorem dX0_theyCough_11 : decode cX0_theyCough 11 = .ok (.iload_n 2, 1) := by decide +kernel
theorem dX0_theyCough_12 : decode cX0_theyCough 12 = .ok (.iushr, 1) := by decide +kernel
theorem dX0_theyCough_13 : decode cX0_theyCough 13 = .ok (.iconst 1, 1) := by decide +kernel
theorem dX0_theyCough_14 : decode cX0_theyCough 14 = .ok (.iand, 1) := by decide +kernel
theorem dX0_theyCough_15 : decode cX0_theyCough 15 = .ok (.iconst 1, 1) := by decide +kernel
theorem dX0_theyCough_16 : decode cX0_theyCough 16 = .ok (.if_icmp .ne 28, 3) := by decide +kernel
theorem dX0_theyCough_19 : decode cX0_theyCough 19 = .ok (.aload_n 0, 1) := by decide +kernel
theorem dX0_theyCough_20 : decode cX0_theyCough 20 = .ok (.getfield 11, 3) := by decide +kernel
theorem dX0_theyCough_23 : decode cX0_theyCough 23 = .ok (.iload_n 2, 1) := by decide +kernel
theorem dX0_theyCough_24 : decode cX0_theyCough 24 = .ok (.aaload, 1) := by decide +kernel
theorem dX0_theyCough_25 : decode cX0_theyCough 25 = .ok (.iconst 0, 1) := by decide +kernel
theorem dX0_theyCough_26 : decode cX0_theyCough 26 = .ok (.putfield 100, 3) := by decide +kernel
theorem dX0_theyCough_29 : decode cX0_theyCough 29 = .ok (.aload_n 0, 1) := by decide +kernel
theorem dX0_theyCough_30 : decode cX0_theyCough 30 = .ok (.getfield 11, 3) := by decide +kernel
theorem dX0_theyCough_33 : decode cX0_theyCough 33 = .ok (.iload_n 2, 1) := by decide +kernel
theorem dX0_theyCough_34 : decode cX0_theyCough 34 = .ok (.aaload, 1) := by decide +kernel
theorem dX0_theyCough_35 : decode cX0_theyCough 35 = .ok (.dup, 1) := by decide +kernel
theorem dX0_theyCough_36 : decode cX0_theyCough 36 = .ok (.getfield 97, 3) := by decide +kernel
theorem dX0_theyCough_39 : decode cX0_theyCough 39 = .ok (.iconst 1, 1) := by decide +kernel
theorem dX0_theyCough_40 : decode cX0_theyCough 40 = .ok (.iadd, 1) := by decide +kernel
theorem dX0_theyCough_41 : decode cX0_theyCough 41 = .ok (.putfield 97, 3) := by decide +kernel
theorem dX0_theyCough_44 : decode cX0_theyCough 44 = .ok (.iinc 2 1, 3) := by decide +kernel
theorem dX0_theyCough_47 : decode cX0_theyCough 47 = .ok (.goto (-45), 3) := by decide +kernel
theorem dX0_theyCough_50 : decode cX0_theyCough 50 = .ok (.return_, 1) := by decide +kernel
theorem dX1_init_0 : decode cX1_init 0 = .ok (.aload_n 0, 1) := by decide +kernel
theorem dX1_init_1 : decode cX1_init 1 = .ok (.invokespecial 3, 3) := by decide +kernel
theorem dX1_init_4 : decode cX1_init 4 = .ok (.return_, 1) := by decide +kernel
theorem dX1_becomes_0 : decode cX1_becomes 0 = .ok (.aload_n 0, 1) := by decide +kernel
theorem dX1_becomes_1 : decode cX1_becomes 1 = .ok (.aload_n 1, 1) := by decide +kernel
theorem dX1_becomes_2 : decode cX1_becomes 2 = .ok (.getfield 9, 3) := by decide +kernel
theorem dX1_becomes_5 : decode cX1_becomes 5 = .ok (.putfield 9, 3) := by decide +kernel
theorem dX1_becomes_8 : decode cX1_becomes 8 = .ok (.aload_n 0, 1) := by decide +kernel
theorem dX1_becomes_9 : decode cX1_becomes 9 = .ok (.aload_n 1, 1) := by decide +kernel
theorem dX1_becomes_10 : decode cX1_becomes 10 = .ok (.getfield 15, 3) := by decide +kernel
theorem dX1_becomes_13 : decode cX1_becomes 13 = .ok (.putfield 15, 3) := by decide +kernel
theorem dX1_becomes_16 : decode cX1_becomes 16 = .ok (.aload_n 0, 1) := by decide +kernel
theorem dX1_becomes_17 : decode cX1_becomes 17 = .ok (.aload_n 1, 1) := by decide +kernel
theorem dX1_becomes_18 : decode cX1_becomes 18 = .ok (.getfield 18, 3) := by decide +kernel
theorem dX1_becomes_21 : decode cX1_becomes 21 = .ok (.putfield 18, 3) := by decide +kernel
theorem dX1_becomes_24 : decode cX1_becomes 24 = .ok (.aload_n 0, 1) := by decide +kernel
theorem dX1_becomes_25 : decode cX1_becomes 25 = .ok (.aload_n 1, 1) := by decide +kernel
theorem dX1_becomes_26 : decode cX1_becomes 26 = .ok (.getfield 21, 3) := by decide +kernel
theorem dX1_becomes_29 : decode cX1_becomes 29 = .ok (.putfield 21, 3) := by decide +kernel
theorem dX1_becomes_32 : decode cX1_becomes 32 = .ok (.aload_n 0, 1) := by decide +kernel
theorem dX1_becomes_33 : decode cX1_becomes 33 = .ok (.aload_n 1, 1) := by decide +kernel
theorem dX1_becomes_34 : decode cX1_becomes 34 = .ok (.getfield 24, 3) := by decide +kernel
theorem dX1_becomes_37 : decode cX1_becomes 37 = .ok (.putfield 24, 3) := by decide +kernel
theorem dX1_becomes_40 : decode cX1_becomes 40 = .ok (.aload_n 0, 1) := by decide +kernel
theorem dX1_becomes_41 : decode cX1_becomes 41 = .ok (.aload_n 1, 1) := by decide +kernel
theorem dX1_becomes_42 : decode cX1_becomes 42 = .ok (.getfield 27, 3) := by decide +kernel
theorem dX1_becomes_45 : decode cX1_becomes 45 = .ok (.putfield 27, 3) := by decide +kernel
theorem dX1_becomes_48 : decode cX1_becomes 48 = .ok (.return_, 1) := by decide +kernel
theorem dX1_comesNew_0 : decode cX1_comesNew 0 = .ok (.aload_n 0, 1) := by decide +kernel
theorem dX1_comesNew_1 : decode cX1_comesNew 1 = .ok (.iload_n 1, 1) := by decide +kernel
theorem dX1_comesNew_2 : decode cX1_comesNew 2 = .ok (.putfield 9, 3) := by decide +kernel
theorem dX1_comesNew_5 : decode cX1_comesNew 5 = .ok (.aload_n 0, 1) := by decide +kernel
theorem dX1_comesNew_6 : decode cX1_comesNew 6 = .ok (.iload_n 2, 1) := by decide +kernel
theorem dX1_comesNew_7 : decode cX1_comesNew 7 = .ok (.putfield 15, 3) := by decide +kernel
theorem dX1_comesNew_10 : decode cX1_comesNew 10 = .ok (.aload_n 0, 1) := by decide +kernel
theorem dX1_comesNew_11 : decode cX1_comesNew 11 = .ok (.iload_n 3, 1) := by decide +kernel
theorem dX1_comesNew_12 : decode cX1_comesNew 12 = .ok (.putfield 18, 3) := by decide +kernel
theorem dX1_comesNew_15 : decode cX1_comesNew 15 = .ok (.aload_n 0, 1) := by decide +kernel
theorem dX1_comesNew_16 : decode cX1_comesNew 16 = .ok (.iconst 0, 1) := by decide +kernel
theorem dX1_comesNew_17 : decode cX1_comesNew 17 = .ok (.putfield 21, 3) := by decide +kernel
theorem dX1_comesNew_20 : decode cX1_comesNew 20 = .ok (.aload_n 0, 1) := by decide +kernel
theorem dX1_comesNew_21 : decode cX1_comesNew 21 = .ok (.iconst 0, 1) := by decide +kernel
theorem dX1_comesNew_22 : decode cX1_comesNew 22 = .ok (.putfield 24, 3) := by decide +kernel
theorem dX1_comesNew_25 : decode cX1_comesNew 25 = .ok (.aload_n 0, 1) := by decide +kernel
theorem dX1_comesNew_26 : decode cX1_comesNew 26 = .ok (.iconst 0, 1) := by decide +kernel
theorem dX1_comesNew_27 : decode cX1_comesNew 27 = .ok (.putfield 27, 3) := by decide +kernel
theorem dX1_comesNew_30 : decode cX1_comesNew 30 = .ok (.return_, 1) := by decide +kernel
theorem dX1_changeAge_0 : decode cX1_changeAge 0 = .ok (.aload_n 0, 1) := by decide +kernel
theorem dX1_changeAge_1 : decode cX1_changeAge 1 = .ok (.getfield 18, 3) := by decide +kernel
theorem dX1_changeAge_4 : decode cX1_changeAge 4 = .ok (.istore_n 2, 1) := by decide +kernel
theorem dX1_changeAge_5 : decode cX1_changeAge 5 = .ok (.aload_n 0, 1) := by decide +kernel
theorem dX1_changeAge_6 : decode cX1_changeAge 6 = .ok (.iload_n 1, 1) := by decide +kernel
theorem dX1_changeAge_7 : decode cX1_changeAge 7 = .ok (.putfield 18, 3) := by decide +kernel
theorem dX1_changeAge_10 : decode cX1_changeAge 10 = .ok (.iload_n 2, 1) := by decide +kernel
theorem dX1_changeAge_11 : decode cX1_changeAge 11 = .ok (.ireturn, 1) := by decide +kernel
theorem dX1_changeItch_0 : decode cX1_changeItch 0 = .ok (.aload_n 0, 1) := by decide +kernel
theorem dX1_changeItch_1 : decode cX1_changeItch 1 = .ok (.getfield 21, 3) := by decide +kernel
theorem dX1_changeItch_4 : decode cX1_changeItch 4 = .ok (.istore_n 2, 1) := by decide +kernel
theorem dX1_changeItch_5 : decode cX1_changeItch 5 = .ok (.aload_n 0, 1) := by decide +kernel
theorem dX1_changeItch_6 : decode cX1_changeItch 6 = .ok (.iload_n 1, 1) := by decide +kernel
theorem dX1_changeItch_7 : decode cX1_changeItch 7 = .ok (.putfield 21, 3) := by decide +kernel
theorem dX1_changeItch_10 : decode cX1_changeItch 10 = .ok (.iload_n 2, 1) := by decide +kernel
theorem dX1_changeItch_11 : decode cX1_changeItch 11 = .ok (.ireturn, 1) := by decide +kernel
theorem dX1_changeSweet_0 : decode cX1_changeSweet 0 = .ok (.aload_n 0, 1) := by decide +kernel
theorem dX1_changeSweet_1 : decode cX1_changeSweet 1 = .ok (.getfield 24, 3) := by decide +kernel
theorem dX1_changeSweet_4 : decode cX1_changeSweet 4 = .ok (.istore_n 2, 1) := by decide +kernel
theorem dX1_changeSweet_5 : decode cX1_changeSweet 5 = .ok (.aload_n 0, 1) := by decide +kernel
theorem dX1_changeSweet_6 : decode cX1_changeSweet 6 = .ok (.iload_n 1, 1) := by decide +kernel
theorem dX1_changeSweet_7 : decode cX1_changeSweet 7 = .ok (.putfield 24, 3) := by decide +kernel
theorem dX1_changeSweet_10 : decode cX1_changeSweet 10 = .ok (.iload_n 2, 1) := by decide +kernel
theorem dX1_changeSweet_11 : decode cX1_changeSweet 11 = .ok (.ireturn, 1) := by decide +kernel
theorem dX1_isOf_0 : decode cX1_isOf 0 = .ok (.aload_n 0, 1) := by decide +kernel
theorem dX1_isOf_1 : decode cX1_isOf 1 = .ok (.getfield 9, 3) := by decide +kernel
theorem dX1_isOf_4 : decode cX1_isOf 4 = .ok (.istore_n 2, 1) := by decide +kernel
theorem dX1_isOf_5 : decode cX1_isOf 5 = .ok (.iconst 0, 1) := by decide +kernel
theorem dX1_isOf_6 : decode cX1_isOf 6 = .ok (.istore_n 3, 1) := by decide +kernel
theorem dX1_isOf_7 : decode cX1_isOf 7 = .ok (.iload_n 3, 1) := by decide +kernel
theorem dX1_isOf_8 : decode cX1_isOf 8 = .ok (.bipush 6, 2) := by decide +kernel
theorem dX1_isOf_10 : decode cX1_isOf 10 = .ok (.if_icmp .ge 32, 3) := by decide +kernel
theorem dX1_isOf_13 : decode cX1_isOf 13 = .ok (.iload_n 2, 1) := by decide +kernel
theorem dX1_isOf_14 : decode cX1_isOf 14 = .ok (.ifCond .lt 28, 3) := by decide +kernel
theorem dX1_isOf_17 : decode cX1_isOf 17 = .ok (.iload_n 2, 1) := by decide +kernel
theorem dX1_isOf_18 : decode cX1_isOf 18 = .ok (.bipush 6, 2) := by decide +kernel
theorem dX1_isOf_20 : decode cX1_isOf 20 = .ok (.if_icmp .ge 22, 3) := by decide +kernel
theorem dX1_isOf_23 : decode cX1_isOf 23 = .ok (.iload_n 2, 1) := by decide +kernel
theorem dX1_isOf_24 : decode cX1_isOf 24 = .ok (.iload_n 1, 1) := by decide +kernel
theorem dX1_isOf_25 : decode cX1_isOf 25 = .ok (.if_icmp .ne 5, 3) := by decide +kernel
theorem dX1_isOf_28 : decode cX1_isOf 28 = .ok (.iconst 1, 1) := by decide +kernel
theorem dX1_isOf_29 : decode cX1_isOf 29 = .ok (.ireturn, 1) := by decide +kernel
theorem dX1_isOf_30 : decode cX1_isOf 30 = .ok (.getstatic 30, 3) := by decide +kernel
theorem dX1_isOf_33 : decode cX1_isOf 33 = .ok (.iload_n 2, 1) := by decide +kernel
theorem dX1_isOf_34 : decode cX1_isOf 34 = .ok (.iaload, 1) := by decide +kernel
theorem dX1_isOf_35 : decode cX1_isOf 35 = .ok (.istore_n 2, 1) := by decide +kernel
theorem dX1_isOf_36 : decode cX1_isOf 36 = .ok (.iinc 3 1, 3) := by decide +kernel
theorem dX1_isOf_39 : decode cX1_isOf 39 = .ok (.goto (-32), 3) := by decide +kernel
theorem dX1_isOf_42 : decode cX1_isOf 42 = .ok (.iconst 0, 1) := by decide +kernel
theorem dX1_isOf_43 : decode cX1_isOf 43 = .ok (.ireturn, 1) := by decide +kernel
theorem dX1_worth_0 : decode cX1_worth 0 = .ok (.aload_n 0, 1) := by decide +kernel
theorem dX1_worth_1 : decode cX1_worth 1 = .ok (.getfield 9, 3) := by decide +kernel
theorem dX1_worth_4 : decode cX1_worth 4 = .ok (.tableswitch 76 1 5 #[36, 52, 43, 60, 71], 36) := by decide +kernel
theorem dX1_worth_40 : decode cX1_worth 40 = .ok (.aload_n 0, 1) := by decide +kernel
theorem dX1_worth_41 : decode cX1_worth 41 = .ok (.getfield 18, 3) := by decide +kernel
theorem dX1_worth_44 : decode cX1_worth 44 = .ok (.iconst 4, 1) := by decide +kernel
theorem dX1_worth_45 : decode cX1_worth 45 = .ok (.iadd, 1) := by decide +kernel
theorem dX1_worth_46 : decode cX1_worth 46 = .ok (.ireturn, 1) := by decide +kernel
theorem dX1_worth_47 : decode cX1_worth 47 = .ok (.iconst 2, 1) := by decide +kernel
theorem dX1_worth_48 : decode cX1_worth 48 = .ok (.aload_n 0, 1) := by decide +kernel
theorem dX1_worth_49 : decode cX1_worth 49 = .ok (.getfield 18, 3) := by decide +kernel
theorem dX1_worth_52 : decode cX1_worth 52 = .ok (.iconst 4, 1) := by decide +kernel
theorem dX1_worth_53 : decode cX1_worth 53 = .ok (.iadd, 1) := by decide +kernel
theorem dX1_worth_54 : decode cX1_worth 54 = .ok (.imul, 1) := by decide +kernel
theorem dX1_worth_55 : decode cX1_worth 55 = .ok (.ireturn, 1) := by decide +kernel
theorem dX1_worth_56 : decode cX1_worth 56 = .ok (.bipush 100, 2) := by decide +kernel
theorem dX1_worth_58 : decode cX1_worth 58 = .ok (.aload_n 0, 1) := by decide +kernel
theorem dX1_worth_59 : decode cX1_worth 59 = .ok (.getfield 18, 3) := by decide +kernel
theorem dX1_worth_62 : decode cX1_worth 62 = .ok (.isub, 1) := by decide +kernel
theorem dX1_worth_63 : decode cX1_worth 63 = .ok (.ireturn, 1) := by decide +kernel
theorem dX1_worth_64 : decode cX1_worth 64 = .ok (.bipush 100, 2) := by decide +kernel
theorem dX1_worth_66 : decode cX1_worth 66 = .ok (.aload_n 0, 1) := by decide +kernel
theorem dX1_worth_67 : decode cX1_worth 67 = .ok (.getfield 18, 3) := by decide +kernel
theorem dX1_worth_70 : decode cX1_worth 70 = .ok (.isub, 1) := by decide +kernel
theorem dX1_worth_71 : decode cX1_worth 71 = .ok (.bipush 6, 2) := by decide +kernel
theorem dX1_worth_73 : decode cX1_worth 73 = .ok (.isub, 1) := by decide +kernel
theorem dX1_worth_74 : decode cX1_worth 74 = .ok (.ireturn, 1) := by decide +kernel
theorem dX1_worth_75 : decode cX1_worth 75 = .ok (.aload_n 0, 1) := by decide +kernel
theorem dX1_worth_76 : decode cX1_worth 76 = .ok (.getfield 15, 3) := by decide +kernel
theorem dX1_worth_79 : decode cX1_worth 79 = .ok (.ireturn, 1) := by decide +kernel
theorem dX1_worth_80 : decode cX1_worth 80 = .ok (.aload_n 0, 1) := by decide +kernel
theorem dX1_worth_81 : decode cX1_worth 81 = .ok (.getfield 18, 3) := by decide +kernel
theorem dX1_worth_84 : decode cX1_worth 84 = .ok (.ireturn, 1) := by decide +kernel
theorem dX2_init_0 : decode cX2_init 0 = .ok (.aload_n 0, 1) := by decide +kernel
theorem dX2_init_1 : decode cX2_init 1 = .ok (.invokespecial 3, 3) := by decide +kernel
theorem dX2_init_4 : decode cX2_init 4 = .ok (.aload_n 0, 1) := by decide +kernel
theorem dX2_init_5 : decode cX2_init 5 = .ok (.bipush 96, 2) := by decide +kernel
theorem dX2_init_7 : decode cX2_init 7 = .ok (.newarray .int, 2) := by decide +kernel
theorem dX2_init_9 : decode cX2_init 9 = .ok (.putfield 9, 3) := by decide +kernel
theorem dX2_init_12 : decode cX2_init 12 = .ok (.aload_n 0, 1) := by decide +kernel
theorem dX2_init_13 : decode cX2_init 13 = .ok (.iconst 0, 1) := by decide +kernel
theorem dX2_init_14 : decode cX2_init 14 = .ok (.newarray .byte, 2) := by decide +kernel
theorem dX2_init_16 : decode cX2_init 16 = .ok (.putfield 15, 3) := by decide +kernel
theorem dX2_init_19 : decode cX2_init 19 = .ok (.return_, 1) := by decide +kernel
theorem dX2_readTape_0 : decode cX2_readTape 0 = .ok (.aload_n 0, 1) := by decide +kernel
theorem dX2_readTape_1 : decode cX2_readTape 1 = .ok (.aload_n 1, 1) := by decide +kernel
theorem dX2_readTape_2 : decode cX2_readTape 2 = .ok (.putfield 15, 3) := by decide +kernel
theorem dX2_readTape_5 : decode cX2_readTape 5 = .ok (.aload_n 0, 1) := by decide +kernel
theorem dX2_readTape_6 : decode cX2_readTape 6 = .ok (.iload_n 2, 1) := by decide +kernel
theorem dX2_readTape_7 : decode cX2_readTape 7 = .ok (.aload_n 1, 1) := by decide +kernel
theorem dX2_readTape_8 : decode cX2_readTape 8 = .ok (.arraylength, 1) := by decide +kernel
theorem dX2_readTape_9 : decode cX2_readTape 9 = .ok (.invokestatic 19, 3) := by decide +kernel
theorem dX2_readTape_12 : decode cX2_readTape 12 = .ok (.putfield 25, 3) := by decide +kernel
theorem dX2_readTape_15 : decode cX2_readTape 15 = .ok (.aload_n 0, 1) := by decide +kernel
theorem dX2_readTape_16 : decode cX2_readTape 16 = .ok (.iconst 0, 1) := by decide +kernel
theorem dX2_readTape_17 : decode cX2_readTape 17 = .ok (.putfield 29, 3) := by decide +kernel
theorem dX2_readTape_20 : decode cX2_readTape 20 = .ok (.aload_n 0, 1) := by decide +kernel
theorem dX2_readTape_21 : decode cX2_readTape 21 = .ok (.iconst 2, 1) := by decide +kernel
theorem dX2_readTape_22 : decode cX2_readTape 22 = .ok (.putfield 32, 3) := by decide +kernel
theorem dX2_readTape_25 : decode cX2_readTape 25 = .ok (.aload_n 0, 1) := by decide +kernel
theorem dX2_readTape_26 : decode cX2_readTape 26 = .ok (.iconst (-1), 1) := by decide +kernel
theorem dX2_readTape_27 : decode cX2_readTape 27 = .ok (.putfield 35, 3) := by decide +kernel
theorem dX2_readTape_30 : decode cX2_readTape 30 = .ok (.aload_n 0, 1) := by decide +kernel
theorem dX2_readTape_31 : decode cX2_readTape 31 = .ok (.iconst 0, 1) := by decide +kernel
theorem dX2_readTape_32 : decode cX2_readTape 32 = .ok (.putfield 38, 3) := by decide +kernel
theorem dX2_readTape_35 : decode cX2_readTape 35 = .ok (.aload_n 0, 1) := by decide +kernel
theorem dX2_readTape_36 : decode cX2_readTape 36 = .ok (.iconst 0, 1) := by decide +kernel
theorem dX2_readTape_37 : decode cX2_readTape 37 = .ok (.putfield 41, 3) := by decide +kernel
theorem dX2_readTape_40 : decode cX2_readTape 40 = .ok (.aload_n 0, 1) := by decide +kernel
theorem dX2_readTape_41 : decode cX2_readTape 41 = .ok (.invokevirtual 44, 3) := by decide +kernel
theorem dX2_readTape_44 : decode cX2_readTape 44 = .ok (.aload_n 0, 1) := by decide +kernel
theorem dX2_readTape_45 : decode cX2_readTape 45 = .ok (.invokevirtual 47, 3) := by decide +kernel
theorem dX2_readTape_48 : decode cX2_readTape 48 = .ok (.aload_n 0, 1) := by decide +kernel
theorem dX2_readTape_49 : decode cX2_readTape 49 = .ok (.iconst 0, 1) := by decide +kernel
theorem dX2_readTape_50 : decode cX2_readTape 50 = .ok (.iconst 0, 1) := by decide +kernel
theorem dX2_readTape_51 : decode cX2_readTape 51 = .ok (.iconst 0, 1) := by decide +kernel
theorem dX2_readTape_52 : decode cX2_readTape 52 = .ok (.invokevirtual 50, 3) := by decide +kernel
theorem dX2_readTape_55 : decode cX2_readTape 55 = .ok (.aload_n 0, 1) := by decide +kernel
theorem dX2_readTape_56 : decode cX2_readTape 56 = .ok (.getfield 32, 3) := by decide +kernel
theorem dX2_readTape_59 : decode cX2_readTape 59 = .ok (.iconst 3, 1) := by decide +kernel
theorem dX2_readTape_60 : decode cX2_readTape 60 = .ok (.if_icmp .eq 7, 3) := by decide +kernel
theorem dX2_readTape_63 : decode cX2_readTape 63 = .ok (.aload_n 0, 1) := by decide +kernel
theorem dX2_readTape_64 : decode cX2_readTape 64 = .ok (.invokevirtual 54, 3) := by decide +kernel
theorem dX2_readTape_67 : decode cX2_readTape 67 = .ok (.aload_n 0, 1) := by decide +kernel
theorem dX2_readTape_68 : decode cX2_readTape 68 = .ok (.getfield 35, 3) := by decide +kernel
theorem dX2_readTape_71 : decode cX2_readTape 71 = .ok (.ifCond .ge 32, 3) := by decide +kernel
theorem dX2_readTape_74 : decode cX2_readTape 74 = .ok (.new 57, 3) := by decide +kernel
theorem dX2_readTape_77 : decode cX2_readTape 77 = .ok (.dup, 1) := by decide +kernel
theorem dX2_readTape_78 : decode cX2_readTape 78 = .ok (.aload_n 0, 1) := by decide +kernel
theorem dX2_readTape_79 : decode cX2_readTape 79 = .ok (.getfield 59, 3) := by decide +kernel
theorem dX2_readTape_82 : decode cX2_readTape 82 = .ok (.aload_n 0, 1) := by decide +kernel
theorem dX2_readTape_83 : decode cX2_readTape 83 = .ok (.getfield 41, 3) := by decide +kernel
theorem dX2_readTape_86 : decode cX2_readTape 86 = .ok (.aload_n 0, 1) := by decide +kernel
theorem dX2_readTape_87 : decode cX2_readTape 87 = .ok (.getfield 9, 3) := by decide +kernel
theorem dX2_readTape_90 : decode cX2_readTape 90 = .ok (.aload_n 0, 1) := by decide +kernel
theorem dX2_readTape_91 : decode cX2_readTape 91 = .ok (.getfield 38, 3) := by decide +kernel
theorem dX2_readTape_94 : decode cX2_readTape 94 = .ok (.invokestatic 62, 3) := by decide +kernel
theorem dX2_readTape_97 : decode cX2_readTape 97 = .ok (.invokespecial 68, 3) := by decide +kernel
theorem dX2_readTape_100 : decode cX2_readTape 100 = .ok (.goto 4, 3) := by decide +kernel
theorem dX2_readTape_103 : decode cX2_readTape 103 = .ok (.aconst_null, 1) := by decide +kernel
theorem dX2_readTape_104 : decode cX2_readTape 104 = .ok (.areturn, 1) := by decide +kernel
theorem dX2_isFault_0 : decode cX2_isFault 0 = .ok (.aload_n 0, 1) := by decide +kernel
theorem dX2_isFault_1 : decode cX2_isFault 1 = .ok (.getfield 35, 3) := by decide +kernel
theorem dX2_isFault_4 : decode cX2_isFault 4 = .ok (.ifCond .ge 11, 3) := by decide +kernel
theorem dX2_isFault_7 : decode cX2_isFault 7 = .ok (.aload_n 0, 1) := by decide +kernel
theorem dX2_isFault_8 : decode cX2_isFault 8 = .ok (.aload_n 0, 1) := by decide +kernel
theorem dX2_isFault_9 : decode cX2_isFault 9 = .ok (.getfield 71, 3) := by decide +kernel
theorem dX2_isFault_12 : decode cX2_isFault 12 = .ok (.putfield 35, 3) := by decide +kernel
theorem dX2_isFault_15 : decode cX2_isFault 15 = .ok (.return_, 1) := by decide +kernel
theorem dX2_goOn_0 : decode cX2_goOn 0 = .ok (.aload_n 0, 1) := by decide +kernel
theorem dX2_goOn_1 : decode cX2_goOn 1 = .ok (.getfield 32, 3) := by decide +kernel
theorem dX2_goOn_4 : decode cX2_goOn 4 = .ok (.ifCond .eq 11, 3) := by decide +kernel
theorem dX2_goOn_7 : decode cX2_goOn 7 = .ok (.aload_n 0, 1) := by decide +kernel
theorem dX2_goOn_8 : decode cX2_goOn 8 = .ok (.getfield 32, 3) := by decide +kernel
theorem dX2_goOn_11 : decode cX2_goOn 11 = .ok (.iconst 1, 1) := by decide +kernel
theorem dX2_goOn_12 : decode cX2_goOn 12 = .ok (.if_icmp .ne 7, 3) := by decide +kernel
theorem dX2_goOn_15 : decode cX2_goOn 15 = .ok (.iconst 1, 1) := by decide +kernel
theorem dX2_goOn_16 : decode cX2_goOn 16 = .ok (.goto 4, 3) := by decide +kernel
theorem dX2_goOn_19 : decode cX2_goOn 19 = .ok (.iconst 0, 1) := by decide +kernel
theorem dX2_goOn_20 : decode cX2_goOn 20 = .ok (.istore_n 1, 1) := by decide +kernel
theorem dX2_goOn_21 : decode cX2_goOn 21 = .ok (.aload_n 0, 1) := by decide +kernel
theorem dX2_goOn_22 : decode cX2_goOn 22 = .ok (.getfield 29, 3) := by decide +kernel
theorem dX2_goOn_25 : decode cX2_goOn 25 = .ok (.istore_n 2, 1) := by decide +kernel
theorem dX2_goOn_26 : decode cX2_goOn 26 = .ok (.aload_n 0, 1) := by decide +kernel
theorem dX2_goOn_27 : decode cX2_goOn 27 = .ok (.aload_n 0, 1) := by decide +kernel
theorem dX2_goOn_28 : decode cX2_goOn 28 = .ok (.getfield 29, 3) := by decide +kernel
theorem dX2_goOn_31 : decode cX2_goOn 31 = .ok (.putfield 71, 3) := by decide +kernel
theorem dX2_goOn_34 : decode cX2_goOn 34 = .ok (.aload_n 0, 1) := by decide +kernel
theorem dX2_goOn_35 : decode cX2_goOn 35 = .ok (.getfield 71, 3) := by decide +kernel
theorem dX2_goOn_38 : decode cX2_goOn 38 = .ok (.aload_n 0, 1) := by decide +kernel
theorem dX2_goOn_39 : decode cX2_goOn 39 = .ok (.getfield 25, 3) := by decide +kernel
theorem dX2_goOn_42 : decode cX2_goOn 42 = .ok (.if_icmp .ge 30, 3) := by decide +kernel
theorem dX2_goOn_45 : decode cX2_goOn 45 = .ok (.aload_n 0, 1) := by decide +kernel
theorem dX2_goOn_46 : decode cX2_goOn 46 = .ok (.getfield 15, 3) := by decide +kernel
theorem dX2_goOn_49 : decode cX2_goOn 49 = .ok (.aload_n 0, 1) := by decide +kernel
theorem dX2_goOn_50 : decode cX2_goOn 50 = .ok (.getfield 71, 3) := by decide +kernel
theorem dX2_goOn_53 : decode cX2_goOn 53 = .ok (.baload, 1) := by decide +kernel
theorem dX2_goOn_54 : decode cX2_goOn 54 = .ok (.bipush 32, 2) := by decide +kernel
theorem dX2_goOn_56 : decode cX2_goOn 56 = .ok (.if_icmp .ne 16, 3) := by decide +kernel
theorem dX2_goOn_59 : decode cX2_goOn 59 = .ok (.aload_n 0, 1) := by decide +kernel
theorem dX2_goOn_60 : decode cX2_goOn 60 = .ok (.dup, 1) := by decide +kernel
theorem dX2_goOn_61 : decode cX2_goOn 61 = .ok (.getfield 71, 3) := by decide +kernel
theorem dX2_goOn_64 : decode cX2_goOn 64 = .ok (.iconst 1, 1) := by decide +kernel
theorem dX2_goOn_65 : decode cX2_goOn 65 = .ok (.iadd, 1) := by decide +kernel
theorem dX2_goOn_66 : decode cX2_goOn 66 = .ok (.putfield 71, 3) := by decide +kernel
theorem dX2_goOn_69 : decode cX2_goOn 69 = .ok (.goto (-35), 3) := by decide +kernel
theorem dX2_goOn_72 : decode cX2_goOn 72 = .ok (.aload_n 0, 1) := by decide +kernel
theorem dX2_goOn_73 : decode cX2_goOn 73 = .ok (.aload_n 0, 1) := by decide +kernel
theorem dX2_goOn_74 : decode cX2_goOn 74 = .ok (.getfield 71, 3) := by decide +kernel
theorem dX2_goOn_77 : decode cX2_goOn 77 = .ok (.putfield 29, 3) := by decide +kernel
theorem dX2_goOn_80 : decode cX2_goOn 80 = .ok (.aload_n 0, 1) := by decide +kernel
theorem dX2_goOn_81 : decode cX2_goOn 81 = .ok (.aload_n 0, 1) := by decide +kernel
theorem dX2_goOn_82 : decode cX2_goOn 82 = .ok (.aload_n 0, 1) := by decide +kernel
theorem dX2_goOn_83 : decode cX2_goOn 83 = .ok (.getfield 71, 3) := by decide +kernel
theorem dX2_goOn_86 : decode cX2_goOn 86 = .ok (.invokevirtual 74, 3) := by decide +kernel
theorem dX2_goOn_89 : decode cX2_goOn 89 = .ok (.putfield 32, 3) := by decide +kernel
theorem dX2_goOn_92 : decode cX2_goOn 92 = .ok (.aload_n 0, 1) := by decide +kernel
theorem dX2_goOn_93 : decode cX2_goOn 93 = .ok (.getfield 32, 3) := by decide +kernel
theorem dX2_goOn_96 : decode cX2_goOn 96 = .ok (.iconst 2, 1) := by decide +kernel
theorem dX2_goOn_97 : decode cX2_goOn 97 = .ok (.if_icmp .ne 16, 3) := by decide +kernel
theorem dX2_goOn_100 : decode cX2_goOn 100 = .ok (.aload_n 0, 1) := by decide +kernel
theorem dX2_goOn_101 : decode cX2_goOn 101 = .ok (.dup, 1) := by decide +kernel
theorem dX2_goOn_102 : decode cX2_goOn 102 = .ok (.getfield 29, 3) := by decide +kernel
theorem dX2_goOn_105 : decode cX2_goOn 105 = .ok (.iconst 1, 1) := by decide +kernel
theorem dX2_goOn_106 : decode cX2_goOn 106 = .ok (.iadd, 1) := by decide +kernel
theorem dX2_goOn_107 : decode cX2_goOn 107 = .ok (.putfield 29, 3) := by decide +kernel
theorem dX2_goOn_110 : decode cX2_goOn 110 = .ok (.goto 98, 3) := by decide +kernel
theorem dX2_goOn_113 : decode cX2_goOn 113 = .ok (.aload_n 0, 1) := by decide +kernel
theorem dX2_goOn_114 : decode cX2_goOn 114 = .ok (.getfield 32, 3) := by decide +kernel
theorem dX2_goOn_117 : decode cX2_goOn 117 = .ok (.iconst 3, 1) := by decide +kernel
theorem dX2_goOn_118 : decode cX2_goOn 118 = .ok (.if_icmp .eq 90, 3) := by decide +kernel
theorem dX2_goOn_121 : decode cX2_goOn 121 = .ok (.aload_n 0, 1) := by decide +kernel
theorem dX2_goOn_122 : decode cX2_goOn 122 = .ok (.getfield 29, 3) := by decide +kernel
theorem dX2_goOn_125 : decode cX2_goOn 125 = .ok (.aload_n 0, 1) := by decide +kernel
theorem dX2_goOn_126 : decode cX2_goOn 126 = .ok (.getfield 25, 3) := by decide +kernel
theorem dX2_goOn_129 : decode cX2_goOn 129 = .ok (.if_icmp .ge 31, 3) := by decide +kernel
theorem dX2_goOn_132 : decode cX2_goOn 132 = .ok (.aload_n 0, 1) := by decide +kernel
theorem dX2_goOn_133 : decode cX2_goOn 133 = .ok (.aload_n 0, 1) := by decide +kernel
theorem dX2_goOn_134 : decode cX2_goOn 134 = .ok (.getfield 29, 3) := by decide +kernel
theorem dX2_goOn_137 : decode cX2_goOn 137 = .ok (.invokevirtual 74, 3) := by decide +kernel
theorem dX2_goOn_140 : decode cX2_goOn 140 = .ok (.aload_n 0, 1) := by decide +kernel
theorem dX2_goOn_141 : decode cX2_goOn 141 = .ok (.getfield 32, 3) := by decide +kernel
theorem dX2_goOn_144 : decode cX2_goOn 144 = .ok (.if_icmp .ne 16, 3) := by decide +kernel
theorem dX2_goOn_147 : decode cX2_goOn 147 = .ok (.aload_n 0, 1) := by decide +kernel
theorem dX2_goOn_148 : decode cX2_goOn 148 = .ok (.dup, 1) := by decide +kernel
theorem dX2_goOn_149 : decode cX2_goOn 149 = .ok (.getfield 29, 3) := by decide +kernel
theorem dX2_goOn_152 : decode cX2_goOn 152 = .ok (.iconst 1, 1) := by decide +kernel
theorem dX2_goOn_153 : decode cX2_goOn 153 = .ok (.iadd, 1) := by decide +kernel
theorem dX2_goOn_154 : decode cX2_goOn 154 = .ok (.putfield 29, 3) := by decide +kernel
theorem dX2_goOn_157 : decode cX2_goOn 157 = .ok (.goto (-36), 3) := by decide +kernel
theorem dX2_goOn_160 : decode cX2_goOn 160 = .ok (.iload_n 1, 1) := by decide +kernel
theorem dX2_goOn_161 : decode cX2_goOn 161 = .ok (.ifCond .eq 15, 3) := by decide +kernel
theorem dX2_goOn_164 : decode cX2_goOn 164 = .ok (.aload_n 0, 1) := by decide +kernel
theorem dX2_goOn_165 : decode cX2_goOn 165 = .ok (.getfield 71, 3) := by decide +kernel
theorem dX2_goOn_168 : decode cX2_goOn 168 = .ok (.iload_n 2, 1) := by decide +kernel
theorem dX2_goOn_169 : decode cX2_goOn 169 = .ok (.if_icmp .ne 7, 3) := by decide +kernel
theorem dX2_goOn_172 : decode cX2_goOn 172 = .ok (.iconst 1, 1) := by decide +kernel
theorem dX2_goOn_173 : decode cX2_goOn 173 = .ok (.goto 4, 3) := by decide +kernel
theorem dX2_goOn_176 : decode cX2_goOn 176 = .ok (.iconst 0, 1) := by decide +kernel
theorem dX2_goOn_177 : decode cX2_goOn 177 = .ok (.istore_n 3, 1) := by decide +kernel
theorem dX2_goOn_178 : decode cX2_goOn 178 = .ok (.iload_n 3, 1) := by decide +kernel
theorem dX2_goOn_179 : decode cX2_goOn 179 = .ok (.ifCond .ne 24, 3) := by decide +kernel
theorem dX2_goOn_182 : decode cX2_goOn 182 = .ok (.aload_n 0, 1) := by decide +kernel
theorem dX2_goOn_183 : decode cX2_goOn 183 = .ok (.getfield 32, 3) := by decide +kernel
theorem dX2_goOn_186 : decode cX2_goOn 186 = .ok (.iconst 1, 1) := by decide +kernel
theorem dX2_goOn_187 : decode cX2_goOn 187 = .ok (.if_icmp .ne 21, 3) := by decide +kernel
theorem dX2_goOn_190 : decode cX2_goOn 190 = .ok (.aload_n 0, 1) := by decide +kernel
theorem dX2_goOn_191 : decode cX2_goOn 191 = .ok (.getfield 29, 3) := by decide +kernel
theorem dX2_goOn_194 : decode cX2_goOn 194 = .ok (.aload_n 0, 1) := by decide +kernel
theorem dX2_goOn_195 : decode cX2_goOn 195 = .ok (.getfield 71, 3) := by decide +kernel
theorem dX2_goOn_198 : decode cX2_goOn 198 = .ok (.isub, 1) := by decide +kernel
theorem dX2_goOn_199 : decode cX2_goOn 199 = .ok (.iconst 4, 1) := by decide +kernel
theorem dX2_goOn_200 : decode cX2_goOn 200 = .ok (.if_icmp .le 8, 3) := by decide +kernel
theorem dX2_goOn_203 : decode cX2_goOn 203 = .ok (.aload_n 0, 1) := by decide +kernel
theorem dX2_goOn_204 : decode cX2_goOn 204 = .ok (.iconst 4, 1) := by decide +kernel
theorem dX2_goOn_205 : decode cX2_goOn 205 = .ok (.putfield 32, 3) := by decide +kernel
theorem dX2_goOn_208 : decode cX2_goOn 208 = .ok (.return_, 1) := by decide +kernel
theorem dX2_sortAt_0 : decode cX2_sortAt 0 = .ok (.iload_n 1, 1) := by decide +kernel
theorem dX2_sortAt_1 : decode cX2_sortAt 1 = .ok (.aload_n 0, 1) := by decide +kernel
theorem dX2_sortAt_2 : decode cX2_sortAt 2 = .ok (.getfield 25, 3) := by decide +kernel
theorem dX2_sortAt_5 : decode cX2_sortAt 5 = .ok (.if_icmp .lt 5, 3) := by decide +kernel
theorem dX2_sortAt_8 : decode cX2_sortAt 8 = .ok (.iconst 3, 1) := by decide +kernel
theorem dX2_sortAt_9 : decode cX2_sortAt 9 = .ok (.ireturn, 1) := by decide +kernel
theorem dX2_sortAt_10 : decode cX2_sortAt 10 = .ok (.aload_n 0, 1) := by decide +kernel
theorem dX2_sortAt_11 : decode cX2_sortAt 11 = .ok (.getfield 15, 3) := by decide +kernel
theorem dX2_sortAt_14 : decode cX2_sortAt 14 = .ok (.iload_n 1, 1) := by decide +kernel
theorem dX2_sortAt_15 : decode cX2_sortAt 15 = .ok (.baload, 1) := by decide +kernel
theorem dX2_sortAt_16 : decode cX2_sortAt 16 = .ok (.istore_n 2, 1) := by decide +kernel
theorem dX2_sortAt_17 : decode cX2_sortAt 17 = .ok (.iload_n 2, 1) := by decide +kernel
theorem dX2_sortAt_18 : decode cX2_sortAt 18 = .ok (.bipush 97, 2) := by decide +kernel
theorem dX2_sortAt_20 : decode cX2_sortAt 20 = .ok (.if_icmp .lt 11, 3) := by decide +kernel
theorem dX2_sortAt_23 : decode cX2_sortAt 23 = .ok (.iload_n 2, 1) := by decide +kernel
theorem dX2_sortAt_24 : decode cX2_sortAt 24 = .ok (.bipush 122, 2) := by decide +kernel
theorem dX2_sortAt_26 : decode cX2_sortAt 26 = .ok (.if_icmp .gt 5, 3) := by decide +kernel
theorem dX2_sortAt_29 : decode cX2_sortAt 29 = .ok (.iconst 0, 1) := by decide +kernel
theorem dX2_sortAt_30 : decode cX2_sortAt 30 = .ok (.ireturn, 1) := by decide +kernel
theorem dX2_sortAt_31 : decode cX2_sortAt 31 = .ok (.iload_n 2, 1) := by decide +kernel
theorem dX2_sortAt_32 : decode cX2_sortAt 32 = .ok (.bipush 48, 2) := by decide +kernel
theorem dX2_sortAt_34 : decode cX2_sortAt 34 = .ok (.if_icmp .lt 13, 3) := by decide +kernel
theorem dX2_sortAt_37 : decode cX2_sortAt 37 = .ok (.iload_n 2, 1) := by decide +kernel
theorem dX2_sortAt_38 : decode cX2_sortAt 38 = .ok (.bipush 57, 2) := by decide +kernel
theorem dX2_sortAt_40 : decode cX2_sortAt 40 = .ok (.if_icmp .gt 7, 3) := by decide +kernel
theorem dX2_sortAt_43 : decode cX2_sortAt 43 = .ok (.iconst 1, 1) := by decide +kernel
theorem dX2_sortAt_44 : decode cX2_sortAt 44 = .ok (.goto 4, 3) := by decide +kernel
theorem dX2_sortAt_47 : decode cX2_sortAt 47 = .ok (.iconst 2, 1) := by decide +kernel
theorem dX2_sortAt_48 : decode cX2_sortAt 48 = .ok (.ireturn, 1) := by decide +kernel
theorem dX2_takeKey_0 : decode cX2_takeKey 0 = .ok (.aload_n 0, 1) := by decide +kernel
theorem dX2_takeKey_1 : decode cX2_takeKey 1 = .ok (.ldc 78, 2) := by decide +kernel
theorem dX2_takeKey_3 : decode cX2_takeKey 3 = .ok (.invokevirtual 80, 3) := by decide +kernel
theorem dX2_takeKey_6 : decode cX2_takeKey 6 = .ok (.ifCond .eq 11, 3) := by decide +kernel
theorem dX2_takeKey_9 : decode cX2_takeKey 9 = .ok (.aload_n 0, 1) := by decide +kernel
theorem dX2_takeKey_10 : decode cX2_takeKey 10 = .ok (.iconst 0, 1) := by decide +kernel
theorem dX2_takeKey_11 : decode cX2_takeKey 11 = .ok (.putfield 59, 3) := by decide +kernel
theorem dX2_takeKey_14 : decode cX2_takeKey 14 = .ok (.goto 42, 3) := by decide +kernel
theorem dX2_takeKey_17 : decode cX2_takeKey 17 = .ok (.aload_n 0, 1) := by decide +kernel
theorem dX2_takeKey_18 : decode cX2_takeKey 18 = .ok (.ldc 84, 2) := by decide +kernel
theorem dX2_takeKey_20 : decode cX2_takeKey 20 = .ok (.invokevirtual 80, 3) := by decide +kernel
theorem dX2_takeKey_23 : decode cX2_takeKey 23 = .ok (.ifCond .eq 11, 3) := by decide +kernel
theorem dX2_takeKey_26 : decode cX2_takeKey 26 = .ok (.aload_n 0, 1) := by decide +kernel
theorem dX2_takeKey_27 : decode cX2_takeKey 27 = .ok (.iconst 1, 1) := by decide +kernel
theorem dX2_takeKey_28 : decode cX2_takeKey 28 = .ok (.putfield 59, 3) := by decide +kernel
theorem dX2_takeKey_31 : decode cX2_takeKey 31 = .ok (.goto 25, 3) := by decide +kernel
theorem dX2_takeKey_34 : decode cX2_takeKey 34 = .ok (.aload_n 0, 1) := by decide +kernel
theorem dX2_takeKey_35 : decode cX2_takeKey 35 = .ok (.ldc 86, 2) := by decide +kernel
theorem dX2_takeKey_37 : decode cX2_takeKey 37 = .ok (.invokevirtual 80, 3) := by decide +kernel
theorem dX2_takeKey_40 : decode cX2_takeKey 40 = .ok (.ifCond .eq 11, 3) := by decide +kernel
theorem dX2_takeKey_43 : decode cX2_takeKey 43 = .ok (.aload_n 0, 1) := by decide +kernel
theorem dX2_takeKey_44 : decode cX2_takeKey 44 = .ok (.iconst 2, 1) := by decide +kernel
theorem dX2_takeKey_45 : decode cX2_takeKey 45 = .ok (.putfield 59, 3) := by decide +kernel
theorem dX2_takeKey_48 : decode cX2_takeKey 48 = .ok (.goto 8, 3) := by decide +kernel
theorem dX2_takeKey_51 : decode cX2_takeKey 51 = .ok (.aload_n 0, 1) := by decide +kernel
theorem dX2_takeKey_52 : decode cX2_takeKey 52 = .ok (.invokevirtual 54, 3) := by decide +kernel
theorem dX2_takeKey_55 : decode cX2_takeKey 55 = .ok (.return_, 1) := by decide +kernel
theorem dX2_takeKey_56 : decode cX2_takeKey 56 = .ok (.aload_n 0, 1) := by decide +kernel
theorem dX2_takeKey_57 : decode cX2_takeKey 57 = .ok (.invokevirtual 44, 3) := by decide +kernel
theorem dX2_takeKey_60 : decode cX2_takeKey 60 = .ok (.return_, 1) := by decide +kernel
theorem dX2_isWord_0 : decode cX2_isWord 0 = .ok (.aload_n 0, 1) := by decide +kernel
theorem dX2_isWord_1 : decode cX2_isWord 1 = .ok (.getfield 32, 3) := by decide +kernel
theorem dX2_isWord_4 : decode cX2_isWord 4 = .ok (.ifCond .ne 19, 3) := by decide +kernel
theorem dX2_isWord_7 : decode cX2_isWord 7 = .ok (.aload_n 0, 1) := by decide +kernel
theorem dX2_isWord_8 : decode cX2_isWord 8 = .ok (.getfield 29, 3) := by decide +kernel
theorem dX2_isWord_11 : decode cX2_isWord 11 = .ok (.aload_n 0, 1) := by decide +kernel
theorem dX2_isWord_12 : decode cX2_isWord 12 = .ok (.getfield 71, 3) := by decide +kernel
theorem dX2_isWord_15 : decode cX2_isWord 15 = .ok (.isub, 1) := by decide +kernel
theorem dX2_isWord_16 : decode cX2_isWord 16 = .ok (.aload_n 1, 1) := by decide +kernel
theorem dX2_isWord_17 : decode cX2_isWord 17 = .ok (.invokevirtual 88, 3) := by decide +kernel
theorem dX2_isWord_20 : decode cX2_isWord 20 = .ok (.if_icmp .eq 5, 3) := by decide +kernel
theorem dX2_isWord_23 : decode cX2_isWord 23 = .ok (.iconst 0, 1) := by decide +kernel
theorem dX2_isWord_24 : decode cX2_isWord 24 = .ok (.ireturn, 1) := by decide +kernel
theorem dX2_isWord_25 : decode cX2_isWord 25 = .ok (.iconst 0, 1) := by decide +kernel
theorem dX2_isWord_26 : decode cX2_isWord 26 = .ok (.istore_n 2, 1) := by decide +kernel
theorem dX2_isWord_27 : decode cX2_isWord 27 = .ok (.iload_n 2, 1) := by decide +kernel
theorem dX2_isWord_28 : decode cX2_isWord 28 = .ok (.aload_n 1, 1) := by decide +kernel
theorem dX2_isWord_29 : decode cX2_isWord 29 = .ok (.invokevirtual 88, 3) := by decide +kernel
theorem dX2_isWord_32 : decode cX2_isWord 32 = .ok (.if_icmp .ge 30, 3) := by decide +kernel
theorem dX2_isWord_35 : decode cX2_isWord 35 = .ok (.aload_n 0, 1) := by decide +kernel
theorem dX2_isWord_36 : decode cX2_isWord 36 = .ok (.getfield 15, 3) := by decide +kernel
theorem dX2_isWord_39 : decode cX2_isWord 39 = .ok (.aload_n 0, 1) := by decide +kernel
theorem dX2_isWord_40 : decode cX2_isWord 40 = .ok (.getfield 71, 3) := by decide +kernel
theorem dX2_isWord_43 : decode cX2_isWord 43 = .ok (.iload_n 2, 1) := by decide +kernel
theorem dX2_isWord_44 : decode cX2_isWord 44 = .ok (.iadd, 1) := by decide +kernel
theorem dX2_isWord_45 : decode cX2_isWord 45 = .ok (.baload, 1) := by decide +kernel
theorem dX2_isWord_46 : decode cX2_isWord 46 = .ok (.aload_n 1, 1) := by decide +kernel
theorem dX2_isWord_47 : decode cX2_isWord 47 = .ok (.iload_n 2, 1) := by decide +kernel
theorem dX2_isWord_48 : decode cX2_isWord 48 = .ok (.invokevirtual 93, 3) := by decide +kernel
theorem dX2_isWord_51 : decode cX2_isWord 51 = .ok (.if_icmp .eq 5, 3) := by decide +kernel
theorem dX2_isWord_54 : decode cX2_isWord 54 = .ok (.iconst 0, 1) := by decide +kernel
theorem dX2_isWord_55 : decode cX2_isWord 55 = .ok (.ireturn, 1) := by decide +kernel
theorem dX2_isWord_56 : decode cX2_isWord 56 = .ok (.iinc 2 1, 3) := by decide +kernel
theorem dX2_isWord_59 : decode cX2_isWord 59 = .ok (.goto (-32), 3) := by decide +kernel
theorem dX2_isWord_62 : decode cX2_isWord 62 = .ok (.iconst 1, 1) := by decide +kernel
theorem dX2_isWord_63 : decode cX2_isWord 63 = .ok (.ireturn, 1) := by decide +kernel
theorem dX2_takeLevel_0 : decode cX2_takeLevel 0 = .ok (.aload_n 0, 1) := by decide +kernel
theorem dX2_takeLevel_1 : decode cX2_takeLevel 1 = .ok (.iload_n 1, 1) := by decide +kernel
theorem dX2_takeLevel_2 : decode cX2_takeLevel 2 = .ok (.iload_n 2, 1) := by decide +kernel
theorem dX2_takeLevel_3 : decode cX2_takeLevel 3 = .ok (.iload_n 3, 1) := by decide +kernel
theorem dX2_takeLevel_4 : decode cX2_takeLevel 4 = .ok (.invokevirtual 97, 3) := by decide +kernel
theorem dX2_takeLevel_7 : decode cX2_takeLevel 7 = .ok (.iconst 0, 1) := by decide +kernel
theorem dX2_takeLevel_8 : decode cX2_takeLevel 8 = .ok (.istore 4, 2) := by decide +kernel
theorem dX2_takeLevel_10 : decode cX2_takeLevel 10 = .ok (.iload 4, 2) := by decide +kernel
theorem dX2_takeLevel_12 : decode cX2_takeLevel 12 = .ok (.bipush 96, 2) := by decide +kernel
theorem dX2_takeLevel_14 : decode cX2_takeLevel 14 = .ok (.if_icmp .ge 62, 3) := by decide +kernel
theorem dX2_takeLevel_17 : decode cX2_takeLevel 17 = .ok (.aload_n 0, 1) := by decide +kernel
theorem dX2_takeLevel_18 : decode cX2_takeLevel 18 = .ok (.getfield 35, 3) := by decide +kernel
theorem dX2_takeLevel_21 : decode cX2_takeLevel 21 = .ok (.ifCond .ge 55, 3) := by decide +kernel
theorem dX2_takeLevel_24 : decode cX2_takeLevel 24 = .ok (.aload_n 0, 1) := by decide +kernel
theorem dX2_takeLevel_25 : decode cX2_takeLevel 25 = .ok (.invokevirtual 100, 3) := by decide +kernel
theorem dX2_takeLevel_28 : decode cX2_takeLevel 28 = .ok (.iload_n 1, 1) := by decide +kernel
theorem dX2_takeLevel_29 : decode cX2_takeLevel 29 = .ok (.if_icmp .ne 47, 3) := by decide +kernel
theorem dX2_takeLevel_32 : decode cX2_takeLevel 32 = .ok (.aload_n 0, 1) := by decide +kernel
theorem dX2_takeLevel_33 : decode cX2_takeLevel 33 = .ok (.getfield 15, 3) := by decide +kernel
theorem dX2_takeLevel_36 : decode cX2_takeLevel 36 = .ok (.aload_n 0, 1) := by decide +kernel
theorem dX2_takeLevel_37 : decode cX2_takeLevel 37 = .ok (.getfield 71, 3) := by decide +kernel
theorem dX2_takeLevel_40 : decode cX2_takeLevel 40 = .ok (.baload, 1) := by decide +kernel
theorem dX2_takeLevel_41 : decode cX2_takeLevel 41 = .ok (.istore 5, 2) := by decide +kernel
theorem dX2_takeLevel_43 : decode cX2_takeLevel 43 = .ok (.aload_n 0, 1) := by decide +kernel
theorem dX2_takeLevel_44 : decode cX2_takeLevel 44 = .ok (.invokevirtual 44, 3) := by decide +kernel
theorem dX2_takeLevel_47 : decode cX2_takeLevel 47 = .ok (.aload_n 0, 1) := by decide +kernel
theorem dX2_takeLevel_48 : decode cX2_takeLevel 48 = .ok (.iload_n 1, 1) := by decide +kernel
theorem dX2_takeLevel_49 : decode cX2_takeLevel 49 = .ok (.iload_n 2, 1) := by decide +kernel
theorem dX2_takeLevel_50 : decode cX2_takeLevel 50 = .ok (.iload_n 3, 1) := by decide +kernel
theorem dX2_takeLevel_51 : decode cX2_takeLevel 51 = .ok (.invokevirtual 97, 3) := by decide +kernel
theorem dX2_takeLevel_54 : decode cX2_takeLevel 54 = .ok (.aload_n 0, 1) := by decide +kernel
theorem dX2_takeLevel_55 : decode cX2_takeLevel 55 = .ok (.sipush 20000, 3) := by decide +kernel
theorem dX2_takeLevel_58 : decode cX2_takeLevel 58 = .ok (.iload 5, 2) := by decide +kernel
theorem dX2_takeLevel_60 : decode cX2_takeLevel 60 = .ok (.iadd, 1) := by decide +kernel
theorem dX2_takeLevel_61 : decode cX2_takeLevel 61 = .ok (.invokevirtual 103, 3) := by decide +kernel
theorem dX2_takeLevel_64 : decode cX2_takeLevel 64 = .ok (.iload_n 1, 1) := by decide +kernel
theorem dX2_takeLevel_65 : decode cX2_takeLevel 65 = .ok (.iconst 2, 1) := by decide +kernel
theorem dX2_takeLevel_66 : decode cX2_takeLevel 66 = .ok (.if_icmp .ne 4, 3) := by decide +kernel
theorem dX2_takeLevel_69 : decode cX2_takeLevel 69 = .ok (.return_, 1) := by decide +kernel
theorem dX2_takeLevel_70 : decode cX2_takeLevel 70 = .ok (.iinc 4 1, 3) := by decide +kernel
theorem dX2_takeLevel_73 : decode cX2_takeLevel 73 = .ok (.goto (-63), 3) := by decide +kernel
theorem dX2_takeLevel_76 : decode cX2_takeLevel 76 = .ok (.return_, 1) := by decide +kernel
theorem dX2_takeBelow_0 : decode cX2_takeBelow 0 = .ok (.aload_n 0, 1) := by decide +kernel
theorem dX2_takeBelow_1 : decode cX2_takeBelow 1 = .ok (.getfield 35, 3) := by decide +kernel
theorem dX2_takeBelow_4 : decode cX2_takeBelow 4 = .ok (.ifCond .lt 4, 3) := by decide +kernel
theorem dX2_takeBelow_7 : decode cX2_takeBelow 7 = .ok (.return_, 1) := by decide +kernel
theorem dX2_takeBelow_8 : decode cX2_takeBelow 8 = .ok (.iload_n 1, 1) := by decide +kernel
theorem dX2_takeBelow_9 : decode cX2_takeBelow 9 = .ok (.iconst 4, 1) := by decide +kernel
theorem dX2_takeBelow_10 : decode cX2_takeBelow 10 = .ok (.if_icmp .lt 12, 3) := by decide +kernel
theorem dX2_takeBelow_13 : decode cX2_takeBelow 13 = .ok (.aload_n 0, 1) := by decide +kernel
theorem dX2_takeBelow_14 : decode cX2_takeBelow 14 = .ok (.iload_n 2, 1) := by decide +kernel
theorem dX2_takeBelow_15 : decode cX2_takeBelow 15 = .ok (.iload_n 3, 1) := by decide +kernel
theorem dX2_takeBelow_16 : decode cX2_takeBelow 16 = .ok (.invokevirtual 107, 3) := by decide +kernel
theorem dX2_takeBelow_19 : decode cX2_takeBelow 19 = .ok (.goto 12, 3) := by decide +kernel
theorem dX2_takeBelow_22 : decode cX2_takeBelow 22 = .ok (.aload_n 0, 1) := by decide +kernel
theorem dX2_takeBelow_23 : decode cX2_takeBelow 23 = .ok (.iload_n 1, 1) := by decide +kernel
theorem dX2_takeBelow_24 : decode cX2_takeBelow 24 = .ok (.iconst 1, 1) := by decide +kernel
theorem dX2_takeBelow_25 : decode cX2_takeBelow 25 = .ok (.iadd, 1) := by decide +kernel
theorem dX2_takeBelow_26 : decode cX2_takeBelow 26 = .ok (.iload_n 2, 1) := by decide +kernel
theorem dX2_takeBelow_27 : decode cX2_takeBelow 27 = .ok (.iload_n 3, 1) := by decide +kernel
theorem dX2_takeBelow_28 : decode cX2_takeBelow 28 = .ok (.invokevirtual 50, 3) := by decide +kernel
theorem dX2_takeBelow_31 : decode cX2_takeBelow 31 = .ok (.return_, 1) := by decide +kernel
theorem dX2_levelAtHand_0 : decode cX2_levelAtHand 0 = .ok (.aload_n 0, 1) := by decide +kernel
theorem dX2_levelAtHand_1 : decode cX2_levelAtHand 1 = .ok (.getfield 32, 3) := by decide +kernel
theorem dX2_levelAtHand_4 : decode cX2_levelAtHand 4 = .ok (.iconst 2, 1) := by decide +kernel
theorem dX2_levelAtHand_5 : decode cX2_levelAtHand 5 = .ok (.if_icmp .eq 5, 3) := by decide +kernel
theorem dX2_levelAtHand_8 : decode cX2_levelAtHand 8 = .ok (.iconst (-1), 1) := by decide +kernel
theorem dX2_levelAtHand_9 : decode cX2_levelAtHand 9 = .ok (.ireturn, 1) := by decide +kernel
theorem dX2_levelAtHand_10 : decode cX2_levelAtHand 10 = .ok (.aload_n 0, 1) := by decide +kernel
theorem dX2_levelAtHand_11 : decode cX2_levelAtHand 11 = .ok (.getfield 15, 3) := by decide +kernel
theorem dX2_levelAtHand_14 : decode cX2_levelAtHand 14 = .ok (.aload_n 0, 1) := by decide +kernel
theorem dX2_levelAtHand_15 : decode cX2_levelAtHand 15 = .ok (.getfield 71, 3) := by decide +kernel
theorem dX2_levelAtHand_18 : decode cX2_levelAtHand 18 = .ok (.baload, 1) := by decide +kernel
theorem dX2_levelAtHand_19 : decode cX2_levelAtHand 19 = .ok (.lookupswitch 91 #[(38, 83), (42, 89), (43, 87), (45, 87), (47, 89), (60, 85), (61, 85), (62, 85), (124, 81)], 81) := by decide +kernel
theorem dX2_levelAtHand_100 : decode cX2_levelAtHand 100 = .ok (.iconst 0, 1) := by decide +kernel
theorem dX2_levelAtHand_101 : decode cX2_levelAtHand 101 = .ok (.ireturn, 1) := by decide +kernel
theorem dX2_levelAtHand_102 : decode cX2_levelAtHand 102 = .ok (.iconst 1, 1) := by decide +kernel
theorem dX2_levelAtHand_103 : decode cX2_levelAtHand 103 = .ok (.ireturn, 1) := by decide +kernel
theorem dX2_levelAtHand_104 : decode cX2_levelAtHand 104 = .ok (.iconst 2, 1) := by decide +kernel
theorem dX2_levelAtHand_105 : decode cX2_levelAtHand 105 = .ok (.ireturn, 1) := by decide +kernel
theorem dX2_levelAtHand_106 : decode cX2_levelAtHand 106 = .ok (.iconst 3, 1) := by decide +kernel
theorem dX2_levelAtHand_107 : decode cX2_levelAtHand 107 = .ok (.ireturn, 1) := by decide +kernel
theorem dX2_levelAtHand_108 : decode cX2_levelAtHand 108 = .ok (.iconst 4, 1) := by decide +kernel
theorem dX2_levelAtHand_109 : decode cX2_levelAtHand 109 = .ok (.ireturn, 1) := by decide +kernel
theorem dX2_levelAtHand_110 : decode cX2_levelAtHand 110 = .ok (.iconst (-1), 1) := by decide +kernel
theorem dX2_levelAtHand_111 : decode cX2_levelAtHand 111 = .ok (.ireturn, 1) := by decide +kernel
theorem dX2_takePiece_0 : decode cX2_takePiece 0 = .ok (.aload_n 0, 1) := by decide +kernel
theorem dX2_takePiece_1 : decode cX2_takePiece 1 = .ok (.getfield 32, 3) := by decide +kernel
theorem dX2_takePiece_4 : decode cX2_takePiece 4 = .ok (.iconst 1, 1) := by decide +kernel
theorem dX2_takePiece_5 : decode cX2_takePiece 5 = .ok (.if_icmp .ne 14, 3) := by decide +kernel
theorem dX2_takePiece_8 : decode cX2_takePiece 8 = .ok (.aload_n 0, 1) := by decide +kernel
theorem dX2_takePiece_9 : decode cX2_takePiece 9 = .ok (.aload_n 0, 1) := by decide +kernel
theorem dX2_takePiece_10 : decode cX2_takePiece 10 = .ok (.invokevirtual 111, 3) := by decide +kernel
theorem dX2_takePiece_13 : decode cX2_takePiece 13 = .ok (.invokevirtual 114, 3) := by decide +kernel
theorem dX2_takePiece_16 : decode cX2_takePiece 16 = .ok (.goto 93, 3) := by decide +kernel
theorem dX2_takePiece_19 : decode cX2_takePiece 19 = .ok (.aload_n 0, 1) := by decide +kernel
theorem dX2_takePiece_20 : decode cX2_takePiece 20 = .ok (.getfield 32, 3) := by decide +kernel
theorem dX2_takePiece_23 : decode cX2_takePiece 23 = .ok (.ifCond .ne 10, 3) := by decide +kernel
theorem dX2_takePiece_26 : decode cX2_takePiece 26 = .ok (.aload_n 0, 1) := by decide +kernel
theorem dX2_takePiece_27 : decode cX2_takePiece 27 = .ok (.invokevirtual 117, 3) := by decide +kernel
theorem dX2_takePiece_30 : decode cX2_takePiece 30 = .ok (.goto 79, 3) := by decide +kernel
theorem dX2_takePiece_33 : decode cX2_takePiece 33 = .ok (.aload_n 0, 1) := by decide +kernel
theorem dX2_takePiece_34 : decode cX2_takePiece 34 = .ok (.bipush 33, 2) := by decide +kernel
theorem dX2_takePiece_36 : decode cX2_takePiece 36 = .ok (.invokevirtual 120, 3) := by decide +kernel
theorem dX2_takePiece_39 : decode cX2_takePiece 39 = .ok (.ifCond .eq 31, 3) := by decide +kernel
theorem dX2_takePiece_42 : decode cX2_takePiece 42 = .ok (.iload_n 2, 1) := by decide +kernel
theorem dX2_takePiece_43 : decode cX2_takePiece 43 = .ok (.bipush 8, 2) := by decide +kernel
theorem dX2_takePiece_45 : decode cX2_takePiece 45 = .ok (.if_icmp .ge 25, 3) := by decide +kernel
theorem dX2_takePiece_48 : decode cX2_takePiece 48 = .ok (.aload_n 0, 1) := by decide +kernel
theorem dX2_takePiece_49 : decode cX2_takePiece 49 = .ok (.invokevirtual 44, 3) := by decide +kernel
theorem dX2_takePiece_52 : decode cX2_takePiece 52 = .ok (.aload_n 0, 1) := by decide +kernel
theorem dX2_takePiece_53 : decode cX2_takePiece 53 = .ok (.iload_n 1, 1) := by decide +kernel
theorem dX2_takePiece_54 : decode cX2_takePiece 54 = .ok (.iload_n 2, 1) := by decide +kernel
theorem dX2_takePiece_55 : decode cX2_takePiece 55 = .ok (.iconst 1, 1) := by decide +kernel
theorem dX2_takePiece_56 : decode cX2_takePiece 56 = .ok (.iadd, 1) := by decide +kernel
theorem dX2_takePiece_57 : decode cX2_takePiece 57 = .ok (.invokevirtual 107, 3) := by decide +kernel
theorem dX2_takePiece_60 : decode cX2_takePiece 60 = .ok (.aload_n 0, 1) := by decide +kernel
theorem dX2_takePiece_61 : decode cX2_takePiece 61 = .ok (.sipush 20033, 3) := by decide +kernel
theorem dX2_takePiece_64 : decode cX2_takePiece 64 = .ok (.invokevirtual 103, 3) := by decide +kernel
theorem dX2_takePiece_67 : decode cX2_takePiece 67 = .ok (.goto 42, 3) := by decide +kernel
theorem dX2_takePiece_70 : decode cX2_takePiece 70 = .ok (.aload_n 0, 1) := by decide +kernel
theorem dX2_takePiece_71 : decode cX2_takePiece 71 = .ok (.bipush 40, 2) := by decide +kernel
theorem dX2_takePiece_73 : decode cX2_takePiece 73 = .ok (.invokevirtual 120, 3) := by decide +kernel
theorem dX2_takePiece_76 : decode cX2_takePiece 76 = .ok (.ifCond .eq 29, 3) := by decide +kernel
theorem dX2_takePiece_79 : decode cX2_takePiece 79 = .ok (.iload_n 1, 1) := by decide +kernel
theorem dX2_takePiece_80 : decode cX2_takePiece 80 = .ok (.bipush 8, 2) := by decide +kernel
theorem dX2_takePiece_82 : decode cX2_takePiece 82 = .ok (.if_icmp .ge 23, 3) := by decide +kernel
theorem dX2_takePiece_85 : decode cX2_takePiece 85 = .ok (.aload_n 0, 1) := by decide +kernel
theorem dX2_takePiece_86 : decode cX2_takePiece 86 = .ok (.invokevirtual 44, 3) := by decide +kernel
theorem dX2_takePiece_89 : decode cX2_takePiece 89 = .ok (.aload_n 0, 1) := by decide +kernel
theorem dX2_takePiece_90 : decode cX2_takePiece 90 = .ok (.iconst 0, 1) := by decide +kernel
theorem dX2_takePiece_91 : decode cX2_takePiece 91 = .ok (.iload_n 1, 1) := by decide +kernel
theorem dX2_takePiece_92 : decode cX2_takePiece 92 = .ok (.iconst 1, 1) := by decide +kernel
theorem dX2_takePiece_93 : decode cX2_takePiece 93 = .ok (.iadd, 1) := by decide +kernel
theorem dX2_takePiece_94 : decode cX2_takePiece 94 = .ok (.iload_n 2, 1) := by decide +kernel
theorem dX2_takePiece_95 : decode cX2_takePiece 95 = .ok (.invokevirtual 50, 3) := by decide +kernel
theorem dX2_takePiece_98 : decode cX2_takePiece 98 = .ok (.aload_n 0, 1) := by decide +kernel
theorem dX2_takePiece_99 : decode cX2_takePiece 99 = .ok (.invokevirtual 124, 3) := by decide +kernel
theorem dX2_takePiece_102 : decode cX2_takePiece 102 = .ok (.goto 7, 3) := by decide +kernel
theorem dX2_takePiece_105 : decode cX2_takePiece 105 = .ok (.aload_n 0, 1) := by decide +kernel
theorem dX2_takePiece_106 : decode cX2_takePiece 106 = .ok (.invokevirtual 54, 3) := by decide +kernel
theorem dX2_takePiece_109 : decode cX2_takePiece 109 = .ok (.return_, 1) := by decide +kernel
theorem dX2_isSign_0 : decode cX2_isSign 0 = .ok (.aload_n 0, 1) := by decide +kernel
theorem dX2_isSign_1 : decode cX2_isSign 1 = .ok (.getfield 32, 3) := by decide +kernel
theorem dX2_isSign_4 : decode cX2_isSign 4 = .ok (.iconst 2, 1) := by decide +kernel
theorem dX2_isSign_5 : decode cX2_isSign 5 = .ok (.if_icmp .ne 20, 3) := by decide +kernel
theorem dX2_isSign_8 : decode cX2_isSign 8 = .ok (.aload_n 0, 1) := by decide +kernel
theorem dX2_isSign_9 : decode cX2_isSign 9 = .ok (.getfield 15, 3) := by decide +kernel
theorem dX2_isSign_12 : decode cX2_isSign 12 = .ok (.aload_n 0, 1) := by decide +kernel
theorem dX2_isSign_13 : decode cX2_isSign 13 = .ok (.getfield 71, 3) := by decide +kernel
theorem dX2_isSign_16 : decode cX2_isSign 16 = .ok (.baload, 1) := by decide +kernel
theorem dX2_isSign_17 : decode cX2_isSign 17 = .ok (.iload_n 1, 1) := by decide +kernel
theorem dX2_isSign_18 : decode cX2_isSign 18 = .ok (.if_icmp .ne 7, 3) := by decide +kernel
theorem dX2_isSign_21 : decode cX2_isSign 21 = .ok (.iconst 1, 1) := by decide +kernel
theorem dX2_isSign_22 : decode cX2_isSign 22 = .ok (.goto 4, 3) := by decide +kernel
theorem dX2_isSign_25 : decode cX2_isSign 25 = .ok (.iconst 0, 1) := by decide +kernel
theorem dX2_isSign_26 : decode cX2_isSign 26 = .ok (.ireturn, 1) := by decide +kernel
theorem dX2_takeClosing_0 : decode cX2_takeClosing 0 = .ok (.aload_n 0, 1) := by decide +kernel
theorem dX2_takeClosing_1 : decode cX2_takeClosing 1 = .ok (.bipush 41, 2) := by decide +kernel
theorem dX2_takeClosing_3 : decode cX2_takeClosing 3 = .ok (.invokevirtual 120, 3) := by decide +kernel
theorem dX2_takeClosing_6 : decode cX2_takeClosing 6 = .ok (.ifCond .eq 10, 3) := by decide +kernel
theorem dX2_takeClosing_9 : decode cX2_takeClosing 9 = .ok (.aload_n 0, 1) := by decide +kernel
theorem dX2_takeClosing_10 : decode cX2_takeClosing 10 = .ok (.invokevirtual 44, 3) := by decide +kernel
theorem dX2_takeClosing_13 : decode cX2_takeClosing 13 = .ok (.goto 7, 3) := by decide +kernel
theorem dX2_takeClosing_16 : decode cX2_takeClosing 16 = .ok (.aload_n 0, 1) := by decide +kernel
theorem dX2_takeClosing_17 : decode cX2_takeClosing 17 = .ok (.invokevirtual 54, 3) := by decide +kernel
theorem dX2_takeClosing_20 : decode cX2_takeClosing 20 = .ok (.return_, 1) := by decide +kernel
theorem dX2_takeName_0 : decode cX2_takeName 0 = .ok (.aload_n 0, 1) := by decide +kernel
theorem dX2_takeName_1 : decode cX2_takeName 1 = .ok (.getfield 29, 3) := by decide +kernel
theorem dX2_takeName_4 : decode cX2_takeName 4 = .ok (.aload_n 0, 1) := by decide +kernel
theorem dX2_takeName_5 : decode cX2_takeName 5 = .ok (.getfield 71, 3) := by decide +kernel
theorem dX2_takeName_8 : decode cX2_takeName 8 = .ok (.isub, 1) := by decide +kernel
theorem dX2_takeName_9 : decode cX2_takeName 9 = .ok (.iconst 1, 1) := by decide +kernel
theorem dX2_takeName_10 : decode cX2_takeName 10 = .ok (.if_icmp .ne 23, 3) := by decide +kernel
theorem dX2_takeName_13 : decode cX2_takeName 13 = .ok (.aload_n 0, 1) := by decide +kernel
theorem dX2_takeName_14 : decode cX2_takeName 14 = .ok (.invokevirtual 127, 3) := by decide +kernel
theorem dX2_takeName_17 : decode cX2_takeName 17 = .ok (.aload_n 0, 1) := by decide +kernel
theorem dX2_takeName_18 : decode cX2_takeName 18 = .ok (.getfield 15, 3) := by decide +kernel
theorem dX2_takeName_21 : decode cX2_takeName 21 = .ok (.aload_n 0, 1) := by decide +kernel
theorem dX2_takeName_22 : decode cX2_takeName 22 = .ok (.getfield 71, 3) := by decide +kernel
theorem dX2_takeName_25 : decode cX2_takeName 25 = .ok (.baload, 1) := by decide +kernel
theorem dX2_takeName_26 : decode cX2_takeName 26 = .ok (.i2c, 1) := by decide +kernel
theorem dX2_takeName_27 : decode cX2_takeName 27 = .ok (.invokevirtual 131, 3) := by decide +kernel
theorem dX2_takeName_30 : decode cX2_takeName 30 = .ok (.goto 4, 3) := by decide +kernel
theorem dX2_takeName_33 : decode cX2_takeName 33 = .ok (.iconst (-1), 1) := by decide +kernel
theorem dX2_takeName_34 : decode cX2_takeName 34 = .ok (.istore_n 1, 1) := by decide +kernel
theorem dX2_takeName_35 : decode cX2_takeName 35 = .ok (.iload_n 1, 1) := by decide +kernel
theorem dX2_takeName_36 : decode cX2_takeName 36 = .ok (.ifCond .ge 10, 3) := by decide +kernel
theorem dX2_takeName_39 : decode cX2_takeName 39 = .ok (.aload_n 0, 1) := by decide +kernel
theorem dX2_takeName_40 : decode cX2_takeName 40 = .ok (.invokevirtual 54, 3) := by decide +kernel
theorem dX2_takeName_43 : decode cX2_takeName 43 = .ok (.goto 12, 3) := by decide +kernel
theorem dX2_takeName_46 : decode cX2_takeName 46 = .ok (.aload_n 0, 1) := by decide +kernel
theorem dX2_takeName_47 : decode cX2_takeName 47 = .ok (.sipush 10000, 3) := by decide +kernel
theorem dX2_takeName_50 : decode cX2_takeName 50 = .ok (.iload_n 1, 1) := by decide +kernel
theorem dX2_takeName_51 : decode cX2_takeName 51 = .ok (.iadd, 1) := by decide +kernel
theorem dX2_takeName_52 : decode cX2_takeName 52 = .ok (.invokevirtual 114, 3) := by decide +kernel
theorem dX2_takeName_55 : decode cX2_takeName 55 = .ok (.return_, 1) := by decide +kernel
theorem dX2_namesOfKey_0 : decode cX2_namesOfKey 0 = .ok (.aload_n 0, 1) := by decide +kernel
theorem dX2_namesOfKey_1 : decode cX2_namesOfKey 1 = .ok (.getfield 59, 3) := by decide +kernel
theorem dX2_namesOfKey_4 : decode cX2_namesOfKey 4 = .ok (.lookupswitch 34 #[(0, 28), (1, 31)], 28) := by decide +kernel
theorem dX2_namesOfKey_32 : decode cX2_namesOfKey 32 = .ok (.ldc 134, 2) := by decide +kernel
theorem dX2_namesOfKey_34 : decode cX2_namesOfKey 34 = .ok (.areturn, 1) := by decide +kernel
theorem dX2_namesOfKey_35 : decode cX2_namesOfKey 35 = .ok (.ldc 136, 2) := by decide +kernel
theorem dX2_namesOfKey_37 : decode cX2_namesOfKey 37 = .ok (.areturn, 1) := by decide +kernel
theorem dX2_namesOfKey_38 : decode cX2_namesOfKey 38 = .ok (.ldc 138, 2) := by decide +kernel
theorem dX2_namesOfKey_40 : decode cX2_namesOfKey 40 = .ok (.areturn, 1) := by decide +kernel
theorem dX2_numberAtHand_0 : decode cX2_numberAtHand 0 = .ok (.iconst 0, 1) := by decide +kernel
theorem dX2_numberAtHand_1 : decode cX2_numberAtHand 1 = .ok (.istore_n 1, 1) := by decide +kernel
theorem dX2_numberAtHand_2 : decode cX2_numberAtHand 2 = .ok (.aload_n 0, 1) := by decide +kernel
theorem dX2_numberAtHand_3 : decode cX2_numberAtHand 3 = .ok (.getfield 71, 3) := by decide +kernel
theorem dX2_numberAtHand_6 : decode cX2_numberAtHand 6 = .ok (.istore_n 2, 1) := by decide +kernel
theorem dX2_numberAtHand_7 : decode cX2_numberAtHand 7 = .ok (.iload_n 2, 1) := by decide +kernel
theorem dX2_numberAtHand_8 : decode cX2_numberAtHand 8 = .ok (.aload_n 0, 1) := by decide +kernel
theorem dX2_numberAtHand_9 : decode cX2_numberAtHand 9 = .ok (.getfield 29, 3) := by decide +kernel
theorem dX2_numberAtHand_12 : decode cX2_numberAtHand 12 = .ok (.if_icmp .ge 24, 3) := by decide +kernel
theorem dX2_numberAtHand_15 : decode cX2_numberAtHand 15 = .ok (.bipush 10, 2) := by decide +kernel
theorem dX2_numberAtHand_17 : decode cX2_numberAtHand 17 = .ok (.iload_n 1, 1) := by decide +kernel
theorem dX2_numberAtHand_18 : decode cX2_numberAtHand 18 = .ok (.imul, 1) := by decide +kernel
theorem dX2_numberAtHand_19 : decode cX2_numberAtHand 19 = .ok (.aload_n 0, 1) := by decide +kernel
theorem dX2_numberAtHand_20 : decode cX2_numberAtHand 20 = .ok (.getfield 15, 3) := by decide +kernel
theorem dX2_numberAtHand_23 : decode cX2_numberAtHand 23 = .ok (.iload_n 2, 1) := by decide +kernel
theorem dX2_numberAtHand_24 : decode cX2_numberAtHand 24 = .ok (.baload, 1) := by decide +kernel
theorem dX2_numberAtHand_25 : decode cX2_numberAtHand 25 = .ok (.iadd, 1) := by decide +kernel
theorem dX2_numberAtHand_26 : decode cX2_numberAtHand 26 = .ok (.bipush 48, 2) := by decide +kernel
theorem dX2_numberAtHand_28 : decode cX2_numberAtHand 28 = .ok (.isub, 1) := by decide +kernel
theorem dX2_numberAtHand_29 : decode cX2_numberAtHand 29 = .ok (.istore_n 1, 1) := by decide +kernel
theorem dX2_numberAtHand_30 : decode cX2_numberAtHand 30 = .ok (.iinc 2 1, 3) := by decide +kernel
theorem dX2_numberAtHand_33 : decode cX2_numberAtHand 33 = .ok (.goto (-26), 3) := by decide +kernel
theorem dX2_numberAtHand_36 : decode cX2_numberAtHand 36 = .ok (.iload_n 1, 1) := by decide +kernel
theorem dX2_numberAtHand_37 : decode cX2_numberAtHand 37 = .ok (.ireturn, 1) := by decide +kernel
theorem dX2_takeLeaf_0 : decode cX2_takeLeaf 0 = .ok (.aload_n 0, 1) := by decide +kernel
theorem dX2_takeLeaf_1 : decode cX2_takeLeaf 1 = .ok (.dup, 1) := by decide +kernel
theorem dX2_takeLeaf_2 : decode cX2_takeLeaf 2 = .ok (.getfield 41, 3) := by decide +kernel
theorem dX2_takeLeaf_5 : decode cX2_takeLeaf 5 = .ok (.iconst 1, 1) := by decide +kernel
theorem dX2_takeLeaf_6 : decode cX2_takeLeaf 6 = .ok (.iadd, 1) := by decide +kernel
theorem dX2_takeLeaf_7 : decode cX2_takeLeaf 7 = .ok (.putfield 41, 3) := by decide +kernel
theorem dX2_takeLeaf_10 : decode cX2_takeLeaf 10 = .ok (.aload_n 0, 1) := by decide +kernel
theorem dX2_takeLeaf_11 : decode cX2_takeLeaf 11 = .ok (.iload_n 1, 1) := by decide +kernel
theorem dX2_takeLeaf_12 : decode cX2_takeLeaf 12 = .ok (.invokevirtual 103, 3) := by decide +kernel
theorem dX2_takeLeaf_15 : decode cX2_takeLeaf 15 = .ok (.aload_n 0, 1) := by decide +kernel
theorem dX2_takeLeaf_16 : decode cX2_takeLeaf 16 = .ok (.invokevirtual 44, 3) := by decide +kernel
theorem dX2_takeLeaf_19 : decode cX2_takeLeaf 19 = .ok (.return_, 1) := by decide +kernel
theorem dX2_write_0 : decode cX2_write 0 = .ok (.aload_n 0, 1) := by decide +kernel
theorem dX2_write_1 : decode cX2_write 1 = .ok (.getfield 38, 3) := by decide +kernel
theorem dX2_write_4 : decode cX2_write 4 = .ok (.bipush 96, 2) := by decide +kernel
theorem dX2_write_6 : decode cX2_write 6 = .ok (.if_icmp .ge 23, 3) := by decide +kernel
theorem dX2_write_9 : decode cX2_write 9 = .ok (.aload_n 0, 1) := by decide +kernel
theorem dX2_write_10 : decode cX2_write 10 = .ok (.getfield 9, 3) := by decide +kernel
theorem dX2_write_13 : decode cX2_write 13 = .ok (.aload_n 0, 1) := by decide +kernel
theorem dX2_write_14 : decode cX2_write 14 = .ok (.getfield 38, 3) := by decide +kernel
theorem dX2_write_17 : decode cX2_write 17 = .ok (.iload_n 1, 1) := by decide +kernel
theorem dX2_write_18 : decode cX2_write 18 = .ok (.iastore, 1) := by decide +kernel
theorem dX2_write_19 : decode cX2_write 19 = .ok (.aload_n 0, 1) := by decide +kernel
theorem dX2_write_20 : decode cX2_write 20 = .ok (.dup, 1) := by decide +kernel
theorem dX2_write_21 : decode cX2_write 21 = .ok (.getfield 38, 3) := by decide +kernel
theorem dX2_write_24 : decode cX2_write 24 = .ok (.iconst 1, 1) := by decide +kernel
theorem dX2_write_25 : decode cX2_write 25 = .ok (.iadd, 1) := by decide +kernel
theorem dX2_write_26 : decode cX2_write 26 = .ok (.putfield 38, 3) := by decide +kernel
theorem dX2_write_29 : decode cX2_write 29 = .ok (.return_, 1) := by decide +kernel
theorem dX3_init_0 : decode cX3_init 0 = .ok (.aload_n 0, 1) := by decide +kernel
theorem dX3_init_1 : decode cX3_init 1 = .ok (.invokespecial 3, 3) := by decide +kernel
theorem dX3_init_4 : decode cX3_init 4 = .ok (.aload_n 0, 1) := by decide +kernel
theorem dX3_init_5 : decode cX3_init 5 = .ok (.bipush 24, 2) := by decide +kernel
theorem dX3_init_7 : decode cX3_init 7 = .ok (.newarray .int, 2) := by decide +kernel
theorem dX3_init_9 : decode cX3_init 9 = .ok (.putfield 9, 3) := by decide +kernel
theorem dX3_init_12 : decode cX3_init 12 = .ok (.aload_n 0, 1) := by decide +kernel
theorem dX3_init_13 : decode cX3_init 13 = .ok (.iconst (-1), 1) := by decide +kernel
theorem dX3_init_14 : decode cX3_init 14 = .ok (.putfield 15, 3) := by decide +kernel
theorem dX3_init_17 : decode cX3_init 17 = .ok (.return_, 1) := by decide +kernel
theorem dX3_becomes_0 : decode cX3_becomes 0 = .ok (.iconst 0, 1) := by decide +kernel
theorem dX3_becomes_1 : decode cX3_becomes 1 = .ok (.istore_n 2, 1) := by decide +kernel
theorem dX3_becomes_2 : decode cX3_becomes 2 = .ok (.iload_n 2, 1) := by decide +kernel
theorem dX3_becomes_3 : decode cX3_becomes 3 = .ok (.aload_n 1, 1) := by decide +kernel
theorem dX3_becomes_4 : decode cX3_becomes 4 = .ok (.getfield 19, 3) := by decide +kernel
theorem dX3_becomes_7 : decode cX3_becomes 7 = .ok (.if_icmp .ge 21, 3) := by decide +kernel
theorem dX3_becomes_10 : decode cX3_becomes 10 = .ok (.aload_n 0, 1) := by decide +kernel
theorem dX3_becomes_11 : decode cX3_becomes 11 = .ok (.getfield 9, 3) := by decide +kernel
theorem dX3_becomes_14 : decode cX3_becomes 14 = .ok (.iload_n 2, 1) := by decide +kernel
theorem dX3_becomes_15 : decode cX3_becomes 15 = .ok (.aload_n 1, 1) := by decide +kernel
theorem dX3_becomes_16 : decode cX3_becomes 16 = .ok (.getfield 9, 3) := by decide +kernel
theorem dX3_becomes_19 : decode cX3_becomes 19 = .ok (.iload_n 2, 1) := by decide +kernel
theorem dX3_becomes_20 : decode cX3_becomes 20 = .ok (.iaload, 1) := by decide +kernel
theorem dX3_becomes_21 : decode cX3_becomes 21 = .ok (.iastore, 1) := by decide +kernel
theorem dX3_becomes_22 : decode cX3_becomes 22 = .ok (.iinc 2 1, 3) := by decide +kernel
theorem dX3_becomes_25 : decode cX3_becomes 25 = .ok (.goto (-23), 3) := by decide +kernel
theorem dX3_becomes_28 : decode cX3_becomes 28 = .ok (.aload_n 0, 1) := by decide +kernel
theorem dX3_becomes_29 : decode cX3_becomes 29 = .ok (.aload_n 1, 1) := by decide +kernel
theorem dX3_becomes_30 : decode cX3_becomes 30 = .ok (.getfield 15, 3) := by decide +kernel
theorem dX3_becomes_33 : decode cX3_becomes 33 = .ok (.putfield 15, 3) := by decide +kernel
theorem dX3_becomes_36 : decode cX3_becomes 36 = .ok (.aload_n 0, 1) := by decide +kernel
theorem dX3_becomes_37 : decode cX3_becomes 37 = .ok (.aload_n 1, 1) := by decide +kernel
theorem dX3_becomes_38 : decode cX3_becomes 38 = .ok (.getfield 19, 3) := by decide +kernel
theorem dX3_becomes_41 : decode cX3_becomes 41 = .ok (.putfield 19, 3) := by decide +kernel
theorem dX3_becomes_44 : decode cX3_becomes 44 = .ok (.return_, 1) := by decide +kernel
theorem dX3_clears_0 : decode cX3_clears 0 = .ok (.iconst 0, 1) := by decide +kernel
theorem dX3_clears_1 : decode cX3_clears 1 = .ok (.istore_n 3, 1) := by decide +kernel
theorem dX3_clears_2 : decode cX3_clears 2 = .ok (.iload_n 3, 1) := by decide +kernel
theorem dX3_clears_3 : decode cX3_clears 3 = .ok (.bipush 24, 2) := by decide +kernel
theorem dX3_clears_5 : decode cX3_clears 5 = .ok (.if_icmp .ge 16, 3) := by decide +kernel
theorem dX3_clears_8 : decode cX3_clears 8 = .ok (.aload_n 0, 1) := by decide +kernel
theorem dX3_clears_9 : decode cX3_clears 9 = .ok (.getfield 9, 3) := by decide +kernel
theorem dX3_clears_12 : decode cX3_clears 12 = .ok (.iload_n 3, 1) := by decide +kernel
theorem dX3_clears_13 : decode cX3_clears 13 = .ok (.iconst 0, 1) := by decide +kernel
theorem dX3_clears_14 : decode cX3_clears 14 = .ok (.iastore, 1) := by decide +kernel
theorem dX3_clears_15 : decode cX3_clears 15 = .ok (.iinc 3 1, 3) := by decide +kernel
theorem dX3_clears_18 : decode cX3_clears 18 = .ok (.goto (-16), 3) := by decide +kernel
theorem dX3_clears_21 : decode cX3_clears 21 = .ok (.aload_n 0, 1) := by decide +kernel
theorem dX3_clears_22 : decode cX3_clears 22 = .ok (.iload_n 1, 1) := by decide +kernel
theorem dX3_clears_23 : decode cX3_clears 23 = .ok (.putfield 15, 3) := by decide +kernel
theorem dX3_clears_26 : decode cX3_clears 26 = .ok (.aload_n 0, 1) := by decide +kernel
theorem dX3_clears_27 : decode cX3_clears 27 = .ok (.iload_n 2, 1) := by decide +kernel
theorem dX3_clears_28 : decode cX3_clears 28 = .ok (.putfield 19, 3) := by decide +kernel
theorem dX3_clears_31 : decode cX3_clears 31 = .ok (.return_, 1) := by decide +kernel
theorem dX3_isNumber_0 : decode cX3_isNumber 0 = .ok (.aload_n 0, 1) := by decide +kernel
theorem dX3_isNumber_1 : decode cX3_isNumber 1 = .ok (.getfield 9, 3) := by decide +kernel
theorem dX3_isNumber_4 : decode cX3_isNumber 4 = .ok (.iload_n 1, 1) := by decide +kernel
theorem dX3_isNumber_5 : decode cX3_isNumber 5 = .ok (.iaload, 1) := by decide +kernel
theorem dX3_isNumber_6 : decode cX3_isNumber 6 = .ok (.ldc 22, 2) := by decide +kernel
theorem dX3_isNumber_8 : decode cX3_isNumber 8 = .ok (.if_icmp .eq 7, 3) := by decide +kernel
theorem dX3_isNumber_11 : decode cX3_isNumber 11 = .ok (.iconst 1, 1) := by decide +kernel
theorem dX3_isNumber_12 : decode cX3_isNumber 12 = .ok (.goto 4, 3) := by decide +kernel
theorem dX3_isNumber_15 : decode cX3_isNumber 15 = .ok (.iconst 0, 1) := by decide +kernel
theorem dX3_isNumber_16 : decode cX3_isNumber 16 = .ok (.ireturn, 1) := by decide +kernel
theorem dX3_hasStretch_0 : decode cX3_hasStretch 0 = .ok (.iload_n 2, 1) := by decide +kernel
theorem dX3_hasStretch_1 : decode cX3_hasStretch 1 = .ok (.ifCond .lt 29, 3) := by decide +kernel
theorem dX3_hasStretch_4 : decode cX3_hasStretch 4 = .ok (.iload_n 2, 1) := by decide +kernel
theorem dX3_hasStretch_5 : decode cX3_hasStretch 5 = .ok (.aload_n 0, 1) := by decide +kernel
theorem dX3_hasStretch_6 : decode cX3_hasStretch 6 = .ok (.getfield 19, 3) := by decide +kernel
theorem dX3_hasStretch_9 : decode cX3_hasStretch 9 = .ok (.if_icmp .gt 21, 3) := by decide +kernel
theorem dX3_hasStretch_12 : decode cX3_hasStretch 12 = .ok (.iload_n 1, 1) := by decide +kernel
theorem dX3_hasStretch_13 : decode cX3_hasStretch 13 = .ok (.ifCond .lt 17, 3) := by decide +kernel
theorem dX3_hasStretch_16 : decode cX3_hasStretch 16 = .ok (.iload_n 1, 1) := by decide +kernel
theorem dX3_hasStretch_17 : decode cX3_hasStretch 17 = .ok (.aload_n 0, 1) := by decide +kernel
theorem dX3_hasStretch_18 : decode cX3_hasStretch 18 = .ok (.getfield 19, 3) := by decide +kernel
theorem dX3_hasStretch_21 : decode cX3_hasStretch 21 = .ok (.iload_n 2, 1) := by decide +kernel
theorem dX3_hasStretch_22 : decode cX3_hasStretch 22 = .ok (.isub, 1) := by decide +kernel
theorem dX3_hasStretch_23 : decode cX3_hasStretch 23 = .ok (.if_icmp .gt 7, 3) := by decide +kernel
theorem dX3_hasStretch_26 : decode cX3_hasStretch 26 = .ok (.iconst 1, 1) := by decide +kernel
theorem dX3_hasStretch_27 : decode cX3_hasStretch 27 = .ok (.goto 4, 3) := by decide +kernel
theorem dX3_hasStretch_30 : decode cX3_hasStretch 30 = .ok (.iconst 0, 1) := by decide +kernel
theorem dX3_hasStretch_31 : decode cX3_hasStretch 31 = .ok (.ireturn, 1) := by decide +kernel
theorem dX4_init_0 : decode cX4_init 0 = .ok (.aload_n 0, 1) := by decide +kernel
theorem dX4_init_1 : decode cX4_init 1 = .ok (.invokespecial 3, 3) := by decide +kernel
theorem dX4_init_4 : decode cX4_init 4 = .ok (.aload_n 0, 1) := by decide +kernel
theorem dX4_init_5 : decode cX4_init 5 = .ok (.iconst 0, 1) := by decide +kernel
theorem dX4_init_6 : decode cX4_init 6 = .ok (.putfield 9, 3) := by decide +kernel
theorem dX4_init_9 : decode cX4_init 9 = .ok (.aload_n 0, 1) := by decide +kernel
theorem dX4_init_10 : decode cX4_init 10 = .ok (.new 15, 3) := by decide +kernel
theorem dX4_init_13 : decode cX4_init 13 = .ok (.dup, 1) := by decide +kernel
theorem dX4_init_14 : decode cX4_init 14 = .ok (.invokespecial 17, 3) := by decide +kernel
theorem dX4_init_17 : decode cX4_init 17 = .ok (.putfield 18, 3) := by decide +kernel
theorem dX4_init_20 : decode cX4_init 20 = .ok (.aload_n 0, 1) := by decide +kernel
theorem dX4_init_21 : decode cX4_init 21 = .ok (.new 22, 3) := by decide +kernel
theorem dX4_init_24 : decode cX4_init 24 = .ok (.dup, 1) := by decide +kernel
theorem dX4_init_25 : decode cX4_init 25 = .ok (.invokespecial 24, 3) := by decide +kernel
theorem dX4_init_28 : decode cX4_init 28 = .ok (.putfield 25, 3) := by decide +kernel
theorem dX4_init_31 : decode cX4_init 31 = .ok (.return_, 1) := by decide +kernel
theorem dX5_init_0 : decode cX5_init 0 = .ok (.aload_n 0, 1) := by decide +kernel
theorem dX5_init_1 : decode cX5_init 1 = .ok (.invokespecial 1, 3) := by decide +kernel
theorem dX5_init_4 : decode cX5_init 4 = .ok (.aload_n 0, 1) := by decide +kernel
theorem dX5_init_5 : decode cX5_init 5 = .ok (.iload_n 1, 1) := by decide +kernel
theorem dX5_init_6 : decode cX5_init 6 = .ok (.putfield 7, 3) := by decide +kernel
theorem dX5_init_9 : decode cX5_init 9 = .ok (.aload_n 0, 1) := by decide +kernel
theorem dX5_init_10 : decode cX5_init 10 = .ok (.iload_n 2, 1) := by decide +kernel
theorem dX5_init_11 : decode cX5_init 11 = .ok (.putfield 13, 3) := by decide +kernel
theorem dX5_init_14 : decode cX5_init 14 = .ok (.aload_n 0, 1) := by decide +kernel
theorem dX5_init_15 : decode cX5_init 15 = .ok (.aload_n 3, 1) := by decide +kernel
theorem dX5_init_16 : decode cX5_init 16 = .ok (.putfield 16, 3) := by decide +kernel
theorem dX5_init_19 : decode cX5_init 19 = .ok (.aload_n 0, 1) := by decide +kernel
theorem dX5_init_20 : decode cX5_init 20 = .ok (.iconst 0, 1) := by decide +kernel
theorem dX5_init_21 : decode cX5_init 21 = .ok (.iload_n 2, 1) := by decide +kernel
theorem dX5_init_22 : decode cX5_init 22 = .ok (.invokestatic 20, 3) := by decide +kernel
theorem dX5_init_25 : decode cX5_init 25 = .ok (.newarray .int, 2) := by decide +kernel
theorem dX5_init_27 : decode cX5_init 27 = .ok (.putfield 26, 3) := by decide +kernel
theorem dX5_init_30 : decode cX5_init 30 = .ok (.return_, 1) := by decide +kernel
theorem dX5_gives_0 : decode cX5_gives 0 = .ok (.iconst 0, 1) := by decide +kernel
theorem dX5_gives_1 : decode cX5_gives 1 = .ok (.istore 4, 2) := by decide +kernel
theorem dX5_gives_3 : decode cX5_gives 3 = .ok (.iconst 0, 1) := by decide +kernel
theorem dX5_gives_4 : decode cX5_gives 4 = .ok (.istore 5, 2) := by decide +kernel
theorem dX5_gives_6 : decode cX5_gives 6 = .ok (.iload 5, 2) := by decide +kernel
theorem dX5_gives_8 : decode cX5_gives 8 = .ok (.aload_n 0, 1) := by decide +kernel
theorem dX5_gives_9 : decode cX5_gives 9 = .ok (.getfield 16, 3) := by decide +kernel
theorem dX5_gives_12 : decode cX5_gives 12 = .ok (.arraylength, 1) := by decide +kernel
theorem dX5_gives_13 : decode cX5_gives 13 = .ok (.if_icmp .ge 143, 3) := by decide +kernel
theorem dX5_gives_16 : decode cX5_gives 16 = .ok (.aload_n 0, 1) := by decide +kernel
theorem dX5_gives_17 : decode cX5_gives 17 = .ok (.getfield 16, 3) := by decide +kernel
theorem dX5_gives_20 : decode cX5_gives 20 = .ok (.iload 5, 2) := by decide +kernel
theorem dX5_gives_22 : decode cX5_gives 22 = .ok (.iaload, 1) := by decide +kernel
theorem dX5_gives_23 : decode cX5_gives 23 = .ok (.istore 6, 2) := by decide +kernel
theorem dX5_gives_25 : decode cX5_gives 25 = .ok (.iload 6, 2) := by decide +kernel
theorem dX5_gives_27 : decode cX5_gives 27 = .ok (.sipush 20000, 3) := by decide +kernel
theorem dX5_gives_30 : decode cX5_gives 30 = .ok (.if_icmp .ge 34, 3) := by decide +kernel
theorem dX5_gives_33 : decode cX5_gives 33 = .ok (.iload 4, 2) := by decide +kernel
theorem dX5_gives_35 : decode cX5_gives 35 = .ok (.aload_n 0, 1) := by decide +kernel
theorem dX5_gives_36 : decode cX5_gives 36 = .ok (.getfield 26, 3) := by decide +kernel
theorem dX5_gives_39 : decode cX5_gives 39 = .ok (.arraylength, 1) := by decide +kernel
theorem dX5_gives_40 : decode cX5_gives 40 = .ok (.if_icmp .ge 110, 3) := by decide +kernel
theorem dX5_gives_43 : decode cX5_gives 43 = .ok (.aload_n 0, 1) := by decide +kernel
theorem dX5_gives_44 : decode cX5_gives 44 = .ok (.getfield 26, 3) := by decide +kernel
theorem dX5_gives_47 : decode cX5_gives 47 = .ok (.iload 4, 2) := by decide +kernel
theorem dX5_gives_49 : decode cX5_gives 49 = .ok (.iload 6, 2) := by decide +kernel
theorem dX5_gives_51 : decode cX5_gives 51 = .ok (.iload_n 1, 1) := by decide +kernel
theorem dX5_gives_52 : decode cX5_gives 52 = .ok (.iload_n 2, 1) := by decide +kernel
theorem dX5_gives_53 : decode cX5_gives 53 = .ok (.iload_n 3, 1) := by decide +kernel
theorem dX5_gives_54 : decode cX5_gives 54 = .ok (.invokestatic 29, 3) := by decide +kernel
theorem dX5_gives_57 : decode cX5_gives 57 = .ok (.iastore, 1) := by decide +kernel
theorem dX5_gives_58 : decode cX5_gives 58 = .ok (.iinc 4 1, 3) := by decide +kernel
theorem dX5_gives_61 : decode cX5_gives 61 = .ok (.goto 89, 3) := by decide +kernel
theorem dX5_gives_64 : decode cX5_gives 64 = .ok (.iload 6, 2) := by decide +kernel
theorem dX5_gives_66 : decode cX5_gives 66 = .ok (.sipush 20033, 3) := by decide +kernel
theorem dX5_gives_69 : decode cX5_gives 69 = .ok (.if_icmp .ne 38, 3) := by decide +kernel
theorem dX5_gives_72 : decode cX5_gives 72 = .ok (.iload 4, 2) := by decide +kernel
theorem dX5_gives_74 : decode cX5_gives 74 = .ok (.iconst 1, 1) := by decide +kernel
theorem dX5_gives_75 : decode cX5_gives 75 = .ok (.if_icmp .lt 75, 3) := by decide +kernel
theorem dX5_gives_78 : decode cX5_gives 78 = .ok (.aload_n 0, 1) := by decide +kernel
theorem dX5_gives_79 : decode cX5_gives 79 = .ok (.getfield 26, 3) := by decide +kernel
theorem dX5_gives_82 : decode cX5_gives 82 = .ok (.iload 4, 2) := by decide +kernel
theorem dX5_gives_84 : decode cX5_gives 84 = .ok (.iconst 1, 1) := by decide +kernel
theorem dX5_gives_85 : decode cX5_gives 85 = .ok (.isub, 1) := by decide +kernel
theorem dX5_gives_86 : decode cX5_gives 86 = .ok (.aload_n 0, 1) := by decide +kernel
theorem dX5_gives_87 : decode cX5_gives 87 = .ok (.getfield 26, 3) := by decide +kernel
theorem dX5_gives_90 : decode cX5_gives 90 = .ok (.iload 4, 2) := by decide +kernel
theorem dX5_gives_92 : decode cX5_gives 92 = .ok (.iconst 1, 1) := by decide +kernel
theorem dX5_gives_93 : decode cX5_gives 93 = .ok (.isub, 1) := by decide +kernel
theorem dX5_gives_94 : decode cX5_gives 94 = .ok (.iaload, 1) := by decide +kernel
theorem dX5_gives_95 : decode cX5_gives 95 = .ok (.ifCond .ne 7, 3) := by decide +kernel
theorem dX5_gives_98 : decode cX5_gives 98 = .ok (.iconst 1, 1) := by decide +kernel
theorem dX5_gives_99 : decode cX5_gives 99 = .ok (.goto 4, 3) := by decide +kernel
theorem dX5_gives_102 : decode cX5_gives 102 = .ok (.iconst 0, 1) := by decide +kernel
theorem dX5_gives_103 : decode cX5_gives 103 = .ok (.iastore, 1) := by decide +kernel
theorem dX5_gives_104 : decode cX5_gives 104 = .ok (.goto 46, 3) := by decide +kernel
theorem dX5_gives_107 : decode cX5_gives 107 = .ok (.iload 4, 2) := by decide +kernel
theorem dX5_gives_109 : decode cX5_gives 109 = .ok (.iconst 2, 1) := by decide +kernel
theorem dX5_gives_110 : decode cX5_gives 110 = .ok (.if_icmp .lt 40, 3) := by decide +kernel
theorem dX5_gives_113 : decode cX5_gives 113 = .ok (.iinc 4 (-1), 3) := by decide +kernel
theorem dX5_gives_116 : decode cX5_gives 116 = .ok (.aload_n 0, 1) := by decide +kernel
theorem dX5_gives_117 : decode cX5_gives 117 = .ok (.getfield 26, 3) := by decide +kernel
theorem dX5_gives_120 : decode cX5_gives 120 = .ok (.iload 4, 2) := by decide +kernel
theorem dX5_gives_122 : decode cX5_gives 122 = .ok (.iconst 1, 1) := by decide +kernel
theorem dX5_gives_123 : decode cX5_gives 123 = .ok (.isub, 1) := by decide +kernel
theorem dX5_gives_124 : decode cX5_gives 124 = .ok (.iload 6, 2) := by decide +kernel
theorem dX5_gives_126 : decode cX5_gives 126 = .ok (.sipush 20000, 3) := by decide +kernel
theorem dX5_gives_129 : decode cX5_gives 129 = .ok (.isub, 1) := by decide +kernel
theorem dX5_gives_130 : decode cX5_gives 130 = .ok (.aload_n 0, 1) := by decide +kernel
theorem dX5_gives_131 : decode cX5_gives 131 = .ok (.getfield 26, 3) := by decide +kernel
theorem dX5_gives_134 : decode cX5_gives 134 = .ok (.iload 4, 2) := by decide +kernel
theorem dX5_gives_136 : decode cX5_gives 136 = .ok (.iconst 1, 1) := by decide +kernel
theorem dX5_gives_137 : decode cX5_gives 137 = .ok (.isub, 1) := by decide +kernel
theorem dX5_gives_138 : decode cX5_gives 138 = .ok (.iaload, 1) := by decide +kernel
theorem dX5_gives_139 : decode cX5_gives 139 = .ok (.aload_n 0, 1) := by decide +kernel
theorem dX5_gives_140 : decode cX5_gives 140 = .ok (.getfield 26, 3) := by decide +kernel
theorem dX5_gives_143 : decode cX5_gives 143 = .ok (.iload 4, 2) := by decide +kernel
theorem dX5_gives_145 : decode cX5_gives 145 = .ok (.iaload, 1) := by decide +kernel
theorem dX5_gives_146 : decode cX5_gives 146 = .ok (.invokestatic 33, 3) := by decide +kernel
theorem dX5_gives_149 : decode cX5_gives 149 = .ok (.iastore, 1) := by decide +kernel
theorem dX5_gives_150 : decode cX5_gives 150 = .ok (.iinc 5 1, 3) := by decide +kernel
theorem dX5_gives_153 : decode cX5_gives 153 = .ok (.goto (-147), 3) := by decide +kernel
theorem dX5_gives_156 : decode cX5_gives 156 = .ok (.iload 4, 2) := by decide +kernel
theorem dX5_gives_158 : decode cX5_gives 158 = .ok (.ifCond .le 12, 3) := by decide +kernel
theorem dX5_gives_161 : decode cX5_gives 161 = .ok (.aload_n 0, 1) := by decide +kernel
theorem dX5_gives_162 : decode cX5_gives 162 = .ok (.getfield 26, 3) := by decide +kernel
theorem dX5_gives_165 : decode cX5_gives 165 = .ok (.iconst 0, 1) := by decide +kernel
theorem dX5_gives_166 : decode cX5_gives 166 = .ok (.iaload, 1) := by decide +kernel
theorem dX5_gives_167 : decode cX5_gives 167 = .ok (.goto 4, 3) := by decide +kernel
theorem dX5_gives_170 : decode cX5_gives 170 = .ok (.iconst 0, 1) := by decide +kernel
theorem dX5_gives_171 : decode cX5_gives 171 = .ok (.ireturn, 1) := by decide +kernel
theorem dX5_leaf_0 : decode cX5_leaf 0 = .ok (.iload_n 0, 1) := by decide +kernel
theorem dX5_leaf_1 : decode cX5_leaf 1 = .ok (.tableswitch 33 10000 10002 #[27, 29, 31], 27) := by decide +kernel
theorem dX5_leaf_28 : decode cX5_leaf 28 = .ok (.iload_n 1, 1) := by decide +kernel
theorem dX5_leaf_29 : decode cX5_leaf 29 = .ok (.ireturn, 1) := by decide +kernel
theorem dX5_leaf_30 : decode cX5_leaf 30 = .ok (.iload_n 2, 1) := by decide +kernel
theorem dX5_leaf_31 : decode cX5_leaf 31 = .ok (.ireturn, 1) := by decide +kernel
theorem dX5_leaf_32 : decode cX5_leaf 32 = .ok (.iload_n 3, 1) := by decide +kernel
theorem dX5_leaf_33 : decode cX5_leaf 33 = .ok (.ireturn, 1) := by decide +kernel
theorem dX5_leaf_34 : decode cX5_leaf 34 = .ok (.iload_n 0, 1) := by decide +kernel
theorem dX5_leaf_35 : decode cX5_leaf 35 = .ok (.ireturn, 1) := by decide +kernel
theorem dX5_joined_0 : decode cX5_joined 0 = .ok (.iload_n 0, 1) := by decide +kernel
theorem dX5_joined_1 : decode cX5_joined 1 = .ok (.tableswitch 186 38 62 #[172, 186, 186, 186, 123, 115, 186, 119, 186, 127, 186, 186, 186, 186, 186, 186, 186, 186, 186, 186, 186, 186, 139, 150, 161], 115) := by decide +kernel
theorem dX5_joined_116 : decode cX5_joined 116 = .ok (.iload_n 1, 1) := by decide +kernel
theorem dX5_joined_117 : decode cX5_joined 117 = .ok (.iload_n 2, 1) := by decide +kernel
theorem dX5_joined_118 : decode cX5_joined 118 = .ok (.iadd, 1) := by decide +kernel
theorem dX5_joined_119 : decode cX5_joined 119 = .ok (.ireturn, 1) := by decide +kernel
theorem dX5_joined_120 : decode cX5_joined 120 = .ok (.iload_n 1, 1) := by decide +kernel
theorem dX5_joined_121 : decode cX5_joined 121 = .ok (.iload_n 2, 1) := by decide +kernel
theorem dX5_joined_122 : decode cX5_joined 122 = .ok (.isub, 1) := by decide +kernel
theorem dX5_joined_123 : decode cX5_joined 123 = .ok (.ireturn, 1) := by decide +kernel
theorem dX5_joined_124 : decode cX5_joined 124 = .ok (.iload_n 1, 1) := by decide +kernel
theorem dX5_joined_125 : decode cX5_joined 125 = .ok (.iload_n 2, 1) := by decide +kernel
theorem dX5_joined_126 : decode cX5_joined 126 = .ok (.imul, 1) := by decide +kernel
theorem dX5_joined_127 : decode cX5_joined 127 = .ok (.ireturn, 1) := by decide +kernel
theorem dX5_joined_128 : decode cX5_joined 128 = .ok (.iload_n 2, 1) := by decide +kernel
theorem dX5_joined_129 : decode cX5_joined 129 = .ok (.ifCond .ne 7, 3) := by decide +kernel
theorem dX5_joined_132 : decode cX5_joined 132 = .ok (.iconst 0, 1) := by decide +kernel
theorem dX5_joined_133 : decode cX5_joined 133 = .ok (.goto 6, 3) := by decide +kernel
theorem dX5_joined_136 : decode cX5_joined 136 = .ok (.iload_n 1, 1) := by decide +kernel
theorem dX5_joined_137 : decode cX5_joined 137 = .ok (.iload_n 2, 1) := by decide +kernel
theorem dX5_joined_138 : decode cX5_joined 138 = .ok (.idiv, 1) := by decide +kernel
theorem dX5_joined_139 : decode cX5_joined 139 = .ok (.ireturn, 1) := by decide +kernel
theorem dX5_joined_140 : decode cX5_joined 140 = .ok (.iload_n 1, 1) := by decide +kernel
theorem dX5_joined_141 : decode cX5_joined 141 = .ok (.iload_n 2, 1) := by decide +kernel
theorem dX5_joined_142 : decode cX5_joined 142 = .ok (.if_icmp .ge 7, 3) := by decide +kernel
theorem dX5_joined_145 : decode cX5_joined 145 = .ok (.iconst 1, 1) := by decide +kernel
theorem dX5_joined_146 : decode cX5_joined 146 = .ok (.goto 4, 3) := by decide +kernel
theorem dX5_joined_149 : decode cX5_joined 149 = .ok (.iconst 0, 1) := by decide +kernel
theorem dX5_joined_150 : decode cX5_joined 150 = .ok (.ireturn, 1) := by decide +kernel
theorem dX5_joined_151 : decode cX5_joined 151 = .ok (.iload_n 1, 1) := by decide +kernel
theorem dX5_joined_152 : decode cX5_joined 152 = .ok (.iload_n 2, 1) := by decide +kernel
theorem dX5_joined_153 : decode cX5_joined 153 = .ok (.if_icmp .ne 7, 3) := by decide +kernel
theorem dX5_joined_156 : decode cX5_joined 156 = .ok (.iconst 1, 1) := by decide +kernel
theorem dX5_joined_157 : decode cX5_joined 157 = .ok (.goto 4, 3) := by decide +kernel
theorem dX5_joined_160 : decode cX5_joined 160 = .ok (.iconst 0, 1) := by decide +kernel
theorem dX5_joined_161 : decode cX5_joined 161 = .ok (.ireturn, 1) := by decide +kernel
theorem dX5_joined_162 : decode cX5_joined 162 = .ok (.iload_n 1, 1) := by decide +kernel
theorem dX5_joined_163 : decode cX5_joined 163 = .ok (.iload_n 2, 1) := by decide +kernel
theorem dX5_joined_164 : decode cX5_joined 164 = .ok (.if_icmp .le 7, 3) := by decide +kernel
theorem dX5_joined_167 : decode cX5_joined 167 = .ok (.iconst 1, 1) := by decide +kernel
theorem dX5_joined_168 : decode cX5_joined 168 = .ok (.goto 4, 3) := by decide +kernel
theorem dX5_joined_171 : decode cX5_joined 171 = .ok (.iconst 0, 1) := by decide +kernel
theorem dX5_joined_172 : decode cX5_joined 172 = .ok (.ireturn, 1) := by decide +kernel
theorem dX5_joined_173 : decode cX5_joined 173 = .ok (.iload_n 1, 1) := by decide +kernel
theorem dX5_joined_174 : decode cX5_joined 174 = .ok (.ifCond .eq 11, 3) := by decide +kernel
theorem dX5_joined_177 : decode cX5_joined 177 = .ok (.iload_n 2, 1) := by decide +kernel
theorem dX5_joined_178 : decode cX5_joined 178 = .ok (.ifCond .eq 7, 3) := by decide +kernel
theorem dX5_joined_181 : decode cX5_joined 181 = .ok (.iconst 1, 1) := by decide +kernel
theorem dX5_joined_182 : decode cX5_joined 182 = .ok (.goto 4, 3) := by decide +kernel
theorem dX5_joined_185 : decode cX5_joined 185 = .ok (.iconst 0, 1) := by decide +kernel
theorem dX5_joined_186 : decode cX5_joined 186 = .ok (.ireturn, 1) := by decide +kernel
theorem dX5_joined_187 : decode cX5_joined 187 = .ok (.iload_n 1, 1) := by decide +kernel
theorem dX5_joined_188 : decode cX5_joined 188 = .ok (.ifCond .ne 7, 3) := by decide +kernel
theorem dX5_joined_191 : decode cX5_joined 191 = .ok (.iload_n 2, 1) := by decide +kernel
theorem dX5_joined_192 : decode cX5_joined 192 = .ok (.ifCond .eq 7, 3) := by decide +kernel
theorem dX5_joined_195 : decode cX5_joined 195 = .ok (.iconst 1, 1) := by decide +kernel
theorem dX5_joined_196 : decode cX5_joined 196 = .ok (.goto 4, 3) := by decide +kernel
theorem dX5_joined_199 : decode cX5_joined 199 = .ok (.iconst 0, 1) := by decide +kernel
theorem dX5_joined_200 : decode cX5_joined 200 = .ok (.ireturn, 1) := by decide +kernel
theorem dX6_init_0 : decode cX6_init 0 = .ok (.aload_n 0, 1) := by decide +kernel
theorem dX6_init_1 : decode cX6_init 1 = .ok (.invokespecial 3, 3) := by decide +kernel
theorem dX6_init_4 : decode cX6_init 4 = .ok (.aload_n 0, 1) := by decide +kernel
theorem dX6_init_5 : decode cX6_init 5 = .ok (.new 9, 3) := by decide +kernel
theorem dX6_init_8 : decode cX6_init 8 = .ok (.dup, 1) := by decide +kernel
theorem dX6_init_9 : decode cX6_init 9 = .ok (.invokespecial 11, 3) := by decide +kernel
theorem dX6_init_12 : decode cX6_init 12 = .ok (.putfield 12, 3) := by decide +kernel
theorem dX6_init_15 : decode cX6_init 15 = .ok (.aload_n 0, 1) := by decide +kernel
theorem dX6_init_16 : decode cX6_init 16 = .ok (.new 9, 3) := by decide +kernel
theorem dX6_init_19 : decode cX6_init 19 = .ok (.dup, 1) := by decide +kernel
theorem dX6_init_20 : decode cX6_init 20 = .ok (.invokespecial 11, 3) := by decide +kernel
theorem dX6_init_23 : decode cX6_init 23 = .ok (.putfield 16, 3) := by decide +kernel
theorem dX6_init_26 : decode cX6_init 26 = .ok (.aload_n 0, 1) := by decide +kernel
theorem dX6_init_27 : decode cX6_init 27 = .ok (.new 9, 3) := by decide +kernel
theorem dX6_init_30 : decode cX6_init 30 = .ok (.dup, 1) := by decide +kernel
theorem dX6_init_31 : decode cX6_init 31 = .ok (.invokespecial 11, 3) := by decide +kernel
theorem dX6_init_34 : decode cX6_init 34 = .ok (.putfield 19, 3) := by decide +kernel
theorem dX6_init_37 : decode cX6_init 37 = .ok (.aload_n 0, 1) := by decide +kernel
theorem dX6_init_38 : decode cX6_init 38 = .ok (.new 22, 3) := by decide +kernel
theorem dX6_init_41 : decode cX6_init 41 = .ok (.dup, 1) := by decide +kernel
theorem dX6_init_42 : decode cX6_init 42 = .ok (.invokespecial 24, 3) := by decide +kernel
theorem dX6_init_45 : decode cX6_init 45 = .ok (.putfield 25, 3) := by decide +kernel
theorem dX6_init_48 : decode cX6_init 48 = .ok (.aload_n 0, 1) := by decide +kernel
theorem dX6_init_49 : decode cX6_init 49 = .ok (.iconst 4, 1) := by decide +kernel
theorem dX6_init_50 : decode cX6_init 50 = .ok (.anewarray 29, 3) := by decide +kernel
theorem dX6_init_53 : decode cX6_init 53 = .ok (.putfield 31, 3) := by decide +kernel
theorem dX6_init_56 : decode cX6_init 56 = .ok (.aload_n 0, 1) := by decide +kernel
theorem dX6_init_57 : decode cX6_init 57 = .ok (.iconst 5, 1) := by decide +kernel
theorem dX6_init_58 : decode cX6_init 58 = .ok (.anewarray 35, 3) := by decide +kernel
theorem dX6_init_61 : decode cX6_init 61 = .ok (.putfield 37, 3) := by decide +kernel
theorem dX6_init_64 : decode cX6_init 64 = .ok (.aload_n 0, 1) := by decide +kernel
theorem dX6_init_65 : decode cX6_init 65 = .ok (.bipush 96, 2) := by decide +kernel
theorem dX6_init_67 : decode cX6_init 67 = .ok (.newarray .byte, 2) := by decide +kernel
theorem dX6_init_69 : decode cX6_init 69 = .ok (.putfield 41, 3) := by decide +kernel
theorem dX6_init_72 : decode cX6_init 72 = .ok (.aload_n 0, 1) := by decide +kernel
theorem dX6_init_73 : decode cX6_init 73 = .ok (.bipush 60, 2) := by decide +kernel
theorem dX6_init_75 : decode cX6_init 75 = .ok (.newarray .int, 2) := by decide +kernel
theorem dX6_init_77 : decode cX6_init 77 = .ok (.putfield 45, 3) := by decide +kernel
theorem dX6_init_80 : decode cX6_init 80 = .ok (.iconst 0, 1) := by decide +kernel
theorem dX6_init_81 : decode cX6_init 81 = .ok (.istore_n 1, 1) := by decide +kernel
theorem dX6_init_82 : decode cX6_init 82 = .ok (.iload_n 1, 1) := by decide +kernel
theorem dX6_init_83 : decode cX6_init 83 = .ok (.iconst 4, 1) := by decide +kernel
theorem dX6_init_84 : decode cX6_init 84 = .ok (.if_icmp .ge 22, 3) := by decide +kernel
theorem dX6_init_87 : decode cX6_init 87 = .ok (.aload_n 0, 1) := by decide +kernel
theorem dX6_init_88 : decode cX6_init 88 = .ok (.getfield 31, 3) := by decide +kernel
theorem dX6_init_91 : decode cX6_init 91 = .ok (.iload_n 1, 1) := by decide +kernel
theorem dX6_init_92 : decode cX6_init 92 = .ok (.new 29, 3) := by decide +kernel
theorem dX6_init_95 : decode cX6_init 95 = .ok (.dup, 1) := by decide +kernel
theorem dX6_init_96 : decode cX6_init 96 = .ok (.invokespecial 49, 3) := by decide +kernel
theorem dX6_init_99 : decode cX6_init 99 = .ok (.aastore, 1) := by decide +kernel
theorem dX6_init_100 : decode cX6_init 100 = .ok (.iinc 1 1, 3) := by decide +kernel
theorem dX6_init_103 : decode cX6_init 103 = .ok (.goto (-21), 3) := by decide +kernel
theorem dX6_init_106 : decode cX6_init 106 = .ok (.iconst 0, 1) := by decide +kernel
theorem dX6_init_107 : decode cX6_init 107 = .ok (.istore_n 1, 1) := by decide +kernel
theorem dX6_init_108 : decode cX6_init 108 = .ok (.iload_n 1, 1) := by decide +kernel
theorem dX6_init_109 : decode cX6_init 109 = .ok (.iconst 5, 1) := by decide +kernel
theorem dX6_init_110 : decode cX6_init 110 = .ok (.if_icmp .ge 22, 3) := by decide +kernel
theorem dX6_init_113 : decode cX6_init 113 = .ok (.aload_n 0, 1) := by decide +kernel
theorem dX6_init_114 : decode cX6_init 114 = .ok (.getfield 37, 3) := by decide +kernel
theorem dX6_init_117 : decode cX6_init 117 = .ok (.iload_n 1, 1) := by decide +kernel
theorem dX6_init_118 : decode cX6_init 118 = .ok (.new 35, 3) := by decide +kernel
theorem dX6_init_121 : decode cX6_init 121 = .ok (.dup, 1) := by decide +kernel
theorem dX6_init_122 : decode cX6_init 122 = .ok (.invokespecial 50, 3) := by decide +kernel
theorem dX6_init_125 : decode cX6_init 125 = .ok (.aastore, 1) := by decide +kernel
theorem dX6_init_126 : decode cX6_init 126 = .ok (.iinc 1 1, 3) := by decide +kernel
theorem dX6_init_129 : decode cX6_init 129 = .ok (.goto (-21), 3) := by decide +kernel
theorem dX6_init_132 : decode cX6_init 132 = .ok (.return_, 1) := by decide +kernel
theorem dX6_person_0 : decode cX6_person 0 = .ok (.iload_n 1, 1) := by decide +kernel
theorem dX6_person_1 : decode cX6_person 1 = .ok (.bipush 6, 2) := by decide +kernel
theorem dX6_person_3 : decode cX6_person 3 = .ok (.invokestatic 51, 3) := by decide +kernel
theorem dX6_person_6 : decode cX6_person 6 = .ok (.ifCond .eq 21, 3) := by decide +kernel
theorem dX6_person_9 : decode cX6_person 9 = .ok (.iload_n 2, 1) := by decide +kernel
theorem dX6_person_10 : decode cX6_person 10 = .ok (.bipush 30, 2) := by decide +kernel
theorem dX6_person_12 : decode cX6_person 12 = .ok (.invokestatic 51, 3) := by decide +kernel
theorem dX6_person_15 : decode cX6_person 15 = .ok (.ifCond .eq 12, 3) := by decide +kernel
theorem dX6_person_18 : decode cX6_person 18 = .ok (.iload_n 3, 1) := by decide +kernel
theorem dX6_person_19 : decode cX6_person 19 = .ok (.bipush 100, 2) := by decide +kernel
theorem dX6_person_21 : decode cX6_person 21 = .ok (.invokestatic 51, 3) := by decide +kernel
theorem dX6_person_24 : decode cX6_person 24 = .ok (.ifCond .ne 6, 3) := by decide +kernel
theorem dX6_person_27 : decode cX6_person 27 = .ok (.ldc 55, 2) := by decide +kernel
theorem dX6_person_29 : decode cX6_person 29 = .ok (.ireturn, 1) := by decide +kernel
theorem dX6_person_30 : decode cX6_person 30 = .ok (.aload_n 0, 1) := by decide +kernel
theorem dX6_person_31 : decode cX6_person 31 = .ok (.getfield 12, 3) := by decide +kernel
theorem dX6_person_34 : decode cX6_person 34 = .ok (.iload_n 2, 1) := by decide +kernel
theorem dX6_person_35 : decode cX6_person 35 = .ok (.invokevirtual 56, 3) := by decide +kernel
theorem dX6_person_38 : decode cX6_person 38 = .ok (.ifCond .lt 6, 3) := by decide +kernel
theorem dX6_person_41 : decode cX6_person 41 = .ok (.ldc 60, 2) := by decide +kernel
theorem dX6_person_43 : decode cX6_person 43 = .ok (.ireturn, 1) := by decide +kernel
theorem dX6_person_44 : decode cX6_person 44 = .ok (.aload_n 0, 1) := by decide +kernel
theorem dX6_person_45 : decode cX6_person 45 = .ok (.getfield 12, 3) := by decide +kernel
theorem dX6_person_48 : decode cX6_person 48 = .ok (.getfield 61, 3) := by decide +kernel
theorem dX6_person_51 : decode cX6_person 51 = .ok (.bipush 10, 2) := by decide +kernel
theorem dX6_person_53 : decode cX6_person 53 = .ok (.if_icmp .lt 8, 3) := by decide +kernel
theorem dX6_person_56 : decode cX6_person 56 = .ok (.ldc 65, 2) := by decide +kernel
theorem dX6_person_58 : decode cX6_person 58 = .ok (.goto 13, 3) := by decide +kernel
theorem dX6_person_61 : decode cX6_person 61 = .ok (.aload_n 0, 1) := by decide +kernel
theorem dX6_person_62 : decode cX6_person 62 = .ok (.getfield 12, 3) := by decide +kernel
theorem dX6_person_65 : decode cX6_person 65 = .ok (.iload_n 1, 1) := by decide +kernel
theorem dX6_person_66 : decode cX6_person 66 = .ok (.iload_n 2, 1) := by decide +kernel
theorem dX6_person_67 : decode cX6_person 67 = .ok (.iload_n 3, 1) := by decide +kernel
theorem dX6_person_68 : decode cX6_person 68 = .ok (.invokevirtual 66, 3) := by decide +kernel
theorem dX6_person_71 : decode cX6_person 71 = .ok (.ireturn, 1) := by decide +kernel
theorem dX6_told_0 : decode cX6_told 0 = .ok (.aload_n 0, 1) := by decide +kernel
theorem dX6_told_1 : decode cX6_told 1 = .ok (.getfield 12, 3) := by decide +kernel
theorem dX6_told_4 : decode cX6_told 4 = .ok (.iload_n 1, 1) := by decide +kernel
end
section
theorem dX6_told_5 : decode cX6_told 5 = .ok (.invokevirtual 70, 3) := by decide +kernel
theorem dX6_told_8 : decode cX6_told 8 = .ok (.ifCond .ne 6, 3) := by decide +kernel
theorem dX6_told_11 : decode cX6_told 11 = .ok (.ldc 55, 2) := by decide +kernel
theorem dX6_told_13 : decode cX6_told 13 = .ok (.ireturn, 1) := by decide +kernel
theorem dX6_told_14 : decode cX6_told 14 = .ok (.aload_n 0, 1) := by decide +kernel
theorem dX6_told_15 : decode cX6_told 15 = .ok (.getfield 12, 3) := by decide +kernel
theorem dX6_told_18 : decode cX6_told 18 = .ok (.getfield 74, 3) := by decide +kernel
theorem dX6_told_21 : decode cX6_told 21 = .ok (.iload_n 1, 1) := by decide +kernel
theorem dX6_told_22 : decode cX6_told 22 = .ok (.aaload, 1) := by decide +kernel
theorem dX6_told_23 : decode cX6_told 23 = .ok (.astore_n 3, 1) := by decide +kernel
theorem dX6_told_24 : decode cX6_told 24 = .ok (.iload_n 2, 1) := by decide +kernel
theorem dX6_told_25 : decode cX6_told 25 = .ok (.tableswitch 120 0 8 #[51, 56, 61, 66, 71, 76, 81, 90, 115], 51) := by decide +kernel
theorem dX6_told_76 : decode cX6_told 76 = .ok (.aload_n 3, 1) := by decide +kernel
theorem dX6_told_77 : decode cX6_told 77 = .ok (.getfield 78, 3) := by decide +kernel
theorem dX6_told_80 : decode cX6_told 80 = .ok (.ireturn, 1) := by decide +kernel
theorem dX6_told_81 : decode cX6_told 81 = .ok (.aload_n 3, 1) := by decide +kernel
theorem dX6_told_82 : decode cX6_told 82 = .ok (.getfield 83, 3) := by decide +kernel
theorem dX6_told_85 : decode cX6_told 85 = .ok (.ireturn, 1) := by decide +kernel
theorem dX6_told_86 : decode cX6_told 86 = .ok (.aload_n 3, 1) := by decide +kernel
theorem dX6_told_87 : decode cX6_told 87 = .ok (.getfield 86, 3) := by decide +kernel
theorem dX6_told_90 : decode cX6_told 90 = .ok (.ireturn, 1) := by decide +kernel
theorem dX6_told_91 : decode cX6_told 91 = .ok (.aload_n 3, 1) := by decide +kernel
theorem dX6_told_92 : decode cX6_told 92 = .ok (.getfield 89, 3) := by decide +kernel
theorem dX6_told_95 : decode cX6_told 95 = .ok (.ireturn, 1) := by decide +kernel
theorem dX6_told_96 : decode cX6_told 96 = .ok (.aload_n 3, 1) := by decide +kernel
theorem dX6_told_97 : decode cX6_told 97 = .ok (.getfield 92, 3) := by decide +kernel
theorem dX6_told_100 : decode cX6_told 100 = .ok (.ireturn, 1) := by decide +kernel
theorem dX6_told_101 : decode cX6_told 101 = .ok (.aload_n 3, 1) := by decide +kernel
theorem dX6_told_102 : decode cX6_told 102 = .ok (.getfield 95, 3) := by decide +kernel
theorem dX6_told_105 : decode cX6_told 105 = .ok (.ireturn, 1) := by decide +kernel
theorem dX6_told_106 : decode cX6_told 106 = .ok (.aload_n 0, 1) := by decide +kernel
theorem dX6_told_107 : decode cX6_told 107 = .ok (.getfield 12, 3) := by decide +kernel
theorem dX6_told_110 : decode cX6_told 110 = .ok (.aload_n 3, 1) := by decide +kernel
theorem dX6_told_111 : decode cX6_told 111 = .ok (.invokevirtual 98, 3) := by decide +kernel
theorem dX6_told_114 : decode cX6_told 114 = .ok (.ireturn, 1) := by decide +kernel
theorem dX6_told_115 : decode cX6_told 115 = .ok (.aload_n 0, 1) := by decide +kernel
theorem dX6_told_116 : decode cX6_told 116 = .ok (.getfield 12, 3) := by decide +kernel
theorem dX6_told_119 : decode cX6_told 119 = .ok (.iload_n 1, 1) := by decide +kernel
theorem dX6_told_120 : decode cX6_told 120 = .ok (.aload_n 0, 1) := by decide +kernel
theorem dX6_told_121 : decode cX6_told 121 = .ok (.getfield 12, 3) := by decide +kernel
theorem dX6_told_124 : decode cX6_told 124 = .ok (.iconst 0, 1) := by decide +kernel
theorem dX6_told_125 : decode cX6_told 125 = .ok (.invokevirtual 102, 3) := by decide +kernel
theorem dX6_told_128 : decode cX6_told 128 = .ok (.invokevirtual 105, 3) := by decide +kernel
theorem dX6_told_131 : decode cX6_told 131 = .ok (.ifCond .eq 7, 3) := by decide +kernel
theorem dX6_told_134 : decode cX6_told 134 = .ok (.iconst 1, 1) := by decide +kernel
theorem dX6_told_135 : decode cX6_told 135 = .ok (.goto 4, 3) := by decide +kernel
theorem dX6_told_138 : decode cX6_told 138 = .ok (.iconst 0, 1) := by decide +kernel
theorem dX6_told_139 : decode cX6_told 139 = .ok (.ireturn, 1) := by decide +kernel
theorem dX6_told_140 : decode cX6_told 140 = .ok (.aload_n 3, 1) := by decide +kernel
theorem dX6_told_141 : decode cX6_told 141 = .ok (.invokevirtual 108, 3) := by decide +kernel
theorem dX6_told_144 : decode cX6_told 144 = .ok (.ireturn, 1) := by decide +kernel
theorem dX6_told_145 : decode cX6_told 145 = .ok (.ldc 55, 2) := by decide +kernel
theorem dX6_told_147 : decode cX6_told 147 = .ok (.ireturn, 1) := by decide +kernel
theorem dX6_as_0 : decode cX6_as 0 = .ok (.aload_n 0, 1) := by decide +kernel
theorem dX6_as_1 : decode cX6_as 1 = .ok (.getfield 12, 3) := by decide +kernel
theorem dX6_as_4 : decode cX6_as 4 = .ok (.iload_n 1, 1) := by decide +kernel
theorem dX6_as_5 : decode cX6_as 5 = .ok (.invokevirtual 70, 3) := by decide +kernel
theorem dX6_as_8 : decode cX6_as 8 = .ok (.ifCond .eq 12, 3) := by decide +kernel
theorem dX6_as_11 : decode cX6_as 11 = .ok (.iload_n 2, 1) := by decide +kernel
theorem dX6_as_12 : decode cX6_as 12 = .ok (.bipush 6, 2) := by decide +kernel
theorem dX6_as_14 : decode cX6_as 14 = .ok (.invokestatic 51, 3) := by decide +kernel
theorem dX6_as_17 : decode cX6_as 17 = .ok (.ifCond .ne 6, 3) := by decide +kernel
theorem dX6_as_20 : decode cX6_as 20 = .ok (.ldc 55, 2) := by decide +kernel
theorem dX6_as_22 : decode cX6_as 22 = .ok (.ireturn, 1) := by decide +kernel
theorem dX6_as_23 : decode cX6_as 23 = .ok (.aload_n 0, 1) := by decide +kernel
theorem dX6_as_24 : decode cX6_as 24 = .ok (.getfield 12, 3) := by decide +kernel
theorem dX6_as_27 : decode cX6_as 27 = .ok (.getfield 74, 3) := by decide +kernel
theorem dX6_as_30 : decode cX6_as 30 = .ok (.iload_n 1, 1) := by decide +kernel
theorem dX6_as_31 : decode cX6_as 31 = .ok (.aaload, 1) := by decide +kernel
theorem dX6_as_32 : decode cX6_as 32 = .ok (.astore_n 3, 1) := by decide +kernel
theorem dX6_as_33 : decode cX6_as 33 = .ok (.aload_n 3, 1) := by decide +kernel
theorem dX6_as_34 : decode cX6_as 34 = .ok (.iload_n 2, 1) := by decide +kernel
theorem dX6_as_35 : decode cX6_as 35 = .ok (.invokevirtual 112, 3) := by decide +kernel
theorem dX6_as_38 : decode cX6_as 38 = .ok (.ifCond .eq 10, 3) := by decide +kernel
theorem dX6_as_41 : decode cX6_as 41 = .ok (.aload_n 3, 1) := by decide +kernel
theorem dX6_as_42 : decode cX6_as 42 = .ok (.getfield 86, 3) := by decide +kernel
theorem dX6_as_45 : decode cX6_as 45 = .ok (.goto 5, 3) := by decide +kernel
theorem dX6_as_48 : decode cX6_as 48 = .ok (.ldc 115, 2) := by decide +kernel
theorem dX6_as_50 : decode cX6_as 50 = .ok (.ireturn, 1) := by decide +kernel
theorem dX6_turns_0 : decode cX6_turns 0 = .ok (.aload_n 0, 1) := by decide +kernel
theorem dX6_turns_1 : decode cX6_turns 1 = .ok (.getfield 12, 3) := by decide +kernel
theorem dX6_turns_4 : decode cX6_turns 4 = .ok (.iload_n 1, 1) := by decide +kernel
theorem dX6_turns_5 : decode cX6_turns 5 = .ok (.invokevirtual 70, 3) := by decide +kernel
theorem dX6_turns_8 : decode cX6_turns 8 = .ok (.ifCond .eq 12, 3) := by decide +kernel
theorem dX6_turns_11 : decode cX6_turns 11 = .ok (.iload_n 2, 1) := by decide +kernel
theorem dX6_turns_12 : decode cX6_turns 12 = .ok (.bipush 6, 2) := by decide +kernel
theorem dX6_turns_14 : decode cX6_turns 14 = .ok (.invokestatic 51, 3) := by decide +kernel
theorem dX6_turns_17 : decode cX6_turns 17 = .ok (.ifCond .ne 6, 3) := by decide +kernel
theorem dX6_turns_20 : decode cX6_turns 20 = .ok (.ldc 55, 2) := by decide +kernel
theorem dX6_turns_22 : decode cX6_turns 22 = .ok (.ireturn, 1) := by decide +kernel
theorem dX6_turns_23 : decode cX6_turns 23 = .ok (.aload_n 0, 1) := by decide +kernel
theorem dX6_turns_24 : decode cX6_turns 24 = .ok (.getfield 12, 3) := by decide +kernel
theorem dX6_turns_27 : decode cX6_turns 27 = .ok (.getfield 74, 3) := by decide +kernel
theorem dX6_turns_30 : decode cX6_turns 30 = .ok (.iload_n 1, 1) := by decide +kernel
theorem dX6_turns_31 : decode cX6_turns 31 = .ok (.aaload, 1) := by decide +kernel
theorem dX6_turns_32 : decode cX6_turns 32 = .ok (.astore_n 3, 1) := by decide +kernel
theorem dX6_turns_33 : decode cX6_turns 33 = .ok (.aload_n 3, 1) := by decide +kernel
theorem dX6_turns_34 : decode cX6_turns 34 = .ok (.getfield 78, 3) := by decide +kernel
theorem dX6_turns_37 : decode cX6_turns 37 = .ok (.istore 4, 2) := by decide +kernel
theorem dX6_turns_39 : decode cX6_turns 39 = .ok (.aload_n 3, 1) := by decide +kernel
theorem dX6_turns_40 : decode cX6_turns 40 = .ok (.iload_n 2, 1) := by decide +kernel
theorem dX6_turns_41 : decode cX6_turns 41 = .ok (.putfield 78, 3) := by decide +kernel
theorem dX6_turns_44 : decode cX6_turns 44 = .ok (.iload 4, 2) := by decide +kernel
theorem dX6_turns_46 : decode cX6_turns 46 = .ok (.ireturn, 1) := by decide +kernel
theorem dX6_set_0 : decode cX6_set 0 = .ok (.aload_n 0, 1) := by decide +kernel
theorem dX6_set_1 : decode cX6_set 1 = .ok (.getfield 12, 3) := by decide +kernel
theorem dX6_set_4 : decode cX6_set 4 = .ok (.iload_n 1, 1) := by decide +kernel
theorem dX6_set_5 : decode cX6_set 5 = .ok (.invokevirtual 70, 3) := by decide +kernel
theorem dX6_set_8 : decode cX6_set 8 = .ok (.ifCond .ne 6, 3) := by decide +kernel
theorem dX6_set_11 : decode cX6_set 11 = .ok (.ldc 55, 2) := by decide +kernel
theorem dX6_set_13 : decode cX6_set 13 = .ok (.ireturn, 1) := by decide +kernel
theorem dX6_set_14 : decode cX6_set 14 = .ok (.iload_n 2, 1) := by decide +kernel
theorem dX6_set_15 : decode cX6_set 15 = .ok (.tableswitch 110 2 4 #[25, 53, 82], 25) := by decide +kernel
theorem dX6_set_40 : decode cX6_set 40 = .ok (.iload_n 3, 1) := by decide +kernel
theorem dX6_set_41 : decode cX6_set 41 = .ok (.bipush 100, 2) := by decide +kernel
theorem dX6_set_43 : decode cX6_set 43 = .ok (.invokestatic 51, 3) := by decide +kernel
theorem dX6_set_46 : decode cX6_set 46 = .ok (.ifCond .eq 19, 3) := by decide +kernel
theorem dX6_set_49 : decode cX6_set 49 = .ok (.aload_n 0, 1) := by decide +kernel
theorem dX6_set_50 : decode cX6_set 50 = .ok (.getfield 12, 3) := by decide +kernel
theorem dX6_set_53 : decode cX6_set 53 = .ok (.getfield 74, 3) := by decide +kernel
theorem dX6_set_56 : decode cX6_set 56 = .ok (.iload_n 1, 1) := by decide +kernel
theorem dX6_set_57 : decode cX6_set 57 = .ok (.aaload, 1) := by decide +kernel
theorem dX6_set_58 : decode cX6_set 58 = .ok (.iload_n 3, 1) := by decide +kernel
theorem dX6_set_59 : decode cX6_set 59 = .ok (.invokevirtual 116, 3) := by decide +kernel
theorem dX6_set_62 : decode cX6_set 62 = .ok (.goto 5, 3) := by decide +kernel
theorem dX6_set_65 : decode cX6_set 65 = .ok (.ldc 55, 2) := by decide +kernel
theorem dX6_set_67 : decode cX6_set 67 = .ok (.ireturn, 1) := by decide +kernel
theorem dX6_set_68 : decode cX6_set 68 = .ok (.iload_n 3, 1) := by decide +kernel
theorem dX6_set_69 : decode cX6_set 69 = .ok (.sipush 1000, 3) := by decide +kernel
theorem dX6_set_72 : decode cX6_set 72 = .ok (.invokestatic 51, 3) := by decide +kernel
theorem dX6_set_75 : decode cX6_set 75 = .ok (.ifCond .eq 19, 3) := by decide +kernel
theorem dX6_set_78 : decode cX6_set 78 = .ok (.aload_n 0, 1) := by decide +kernel
theorem dX6_set_79 : decode cX6_set 79 = .ok (.getfield 12, 3) := by decide +kernel
theorem dX6_set_82 : decode cX6_set 82 = .ok (.getfield 74, 3) := by decide +kernel
theorem dX6_set_85 : decode cX6_set 85 = .ok (.iload_n 1, 1) := by decide +kernel
theorem dX6_set_86 : decode cX6_set 86 = .ok (.aaload, 1) := by decide +kernel
theorem dX6_set_87 : decode cX6_set 87 = .ok (.iload_n 3, 1) := by decide +kernel
theorem dX6_set_88 : decode cX6_set 88 = .ok (.invokevirtual 119, 3) := by decide +kernel
theorem dX6_set_91 : decode cX6_set 91 = .ok (.goto 5, 3) := by decide +kernel
theorem dX6_set_94 : decode cX6_set 94 = .ok (.ldc 55, 2) := by decide +kernel
theorem dX6_set_96 : decode cX6_set 96 = .ok (.ireturn, 1) := by decide +kernel
theorem dX6_set_97 : decode cX6_set 97 = .ok (.iload_n 3, 1) := by decide +kernel
theorem dX6_set_98 : decode cX6_set 98 = .ok (.bipush 100, 2) := by decide +kernel
theorem dX6_set_100 : decode cX6_set 100 = .ok (.invokestatic 51, 3) := by decide +kernel
theorem dX6_set_103 : decode cX6_set 103 = .ok (.ifCond .eq 19, 3) := by decide +kernel
theorem dX6_set_106 : decode cX6_set 106 = .ok (.aload_n 0, 1) := by decide +kernel
theorem dX6_set_107 : decode cX6_set 107 = .ok (.getfield 12, 3) := by decide +kernel
theorem dX6_set_110 : decode cX6_set 110 = .ok (.getfield 74, 3) := by decide +kernel
theorem dX6_set_113 : decode cX6_set 113 = .ok (.iload_n 1, 1) := by decide +kernel
theorem dX6_set_114 : decode cX6_set 114 = .ok (.aaload, 1) := by decide +kernel
theorem dX6_set_115 : decode cX6_set 115 = .ok (.iload_n 3, 1) := by decide +kernel
theorem dX6_set_116 : decode cX6_set 116 = .ok (.invokevirtual 122, 3) := by decide +kernel
theorem dX6_set_119 : decode cX6_set 119 = .ok (.goto 5, 3) := by decide +kernel
theorem dX6_set_122 : decode cX6_set 122 = .ok (.ldc 55, 2) := by decide +kernel
theorem dX6_set_124 : decode cX6_set 124 = .ok (.ireturn, 1) := by decide +kernel
theorem dX6_set_125 : decode cX6_set 125 = .ok (.ldc 55, 2) := by decide +kernel
theorem dX6_set_127 : decode cX6_set 127 = .ok (.ireturn, 1) := by decide +kernel
theorem dX6_move_0 : decode cX6_move 0 = .ok (.aload_n 0, 1) := by decide +kernel
theorem dX6_move_1 : decode cX6_move 1 = .ok (.getfield 12, 3) := by decide +kernel
theorem dX6_move_4 : decode cX6_move 4 = .ok (.iload_n 1, 1) := by decide +kernel
theorem dX6_move_5 : decode cX6_move 5 = .ok (.invokevirtual 70, 3) := by decide +kernel
theorem dX6_move_8 : decode cX6_move 8 = .ok (.ifCond .eq 12, 3) := by decide +kernel
theorem dX6_move_11 : decode cX6_move 11 = .ok (.iload_n 2, 1) := by decide +kernel
theorem dX6_move_12 : decode cX6_move 12 = .ok (.bipush 30, 2) := by decide +kernel
theorem dX6_move_14 : decode cX6_move 14 = .ok (.invokestatic 51, 3) := by decide +kernel
theorem dX6_move_17 : decode cX6_move 17 = .ok (.ifCond .ne 6, 3) := by decide +kernel
theorem dX6_move_20 : decode cX6_move 20 = .ok (.ldc 55, 2) := by decide +kernel
theorem dX6_move_22 : decode cX6_move 22 = .ok (.ireturn, 1) := by decide +kernel
theorem dX6_move_23 : decode cX6_move 23 = .ok (.aload_n 0, 1) := by decide +kernel
theorem dX6_move_24 : decode cX6_move 24 = .ok (.getfield 12, 3) := by decide +kernel
theorem dX6_move_27 : decode cX6_move 27 = .ok (.iload_n 2, 1) := by decide +kernel
theorem dX6_move_28 : decode cX6_move 28 = .ok (.invokevirtual 56, 3) := by decide +kernel
theorem dX6_move_31 : decode cX6_move 31 = .ok (.istore_n 3, 1) := by decide +kernel
theorem dX6_move_32 : decode cX6_move 32 = .ok (.iload_n 3, 1) := by decide +kernel
theorem dX6_move_33 : decode cX6_move 33 = .ok (.ifCond .lt 11, 3) := by decide +kernel
theorem dX6_move_36 : decode cX6_move 36 = .ok (.iload_n 3, 1) := by decide +kernel
theorem dX6_move_37 : decode cX6_move 37 = .ok (.iload_n 1, 1) := by decide +kernel
theorem dX6_move_38 : decode cX6_move 38 = .ok (.if_icmp .eq 6, 3) := by decide +kernel
theorem dX6_move_41 : decode cX6_move 41 = .ok (.ldc 60, 2) := by decide +kernel
theorem dX6_move_43 : decode cX6_move 43 = .ok (.ireturn, 1) := by decide +kernel
theorem dX6_move_44 : decode cX6_move 44 = .ok (.aload_n 0, 1) := by decide +kernel
theorem dX6_move_45 : decode cX6_move 45 = .ok (.getfield 12, 3) := by decide +kernel
theorem dX6_move_48 : decode cX6_move 48 = .ok (.getfield 74, 3) := by decide +kernel
theorem dX6_move_51 : decode cX6_move 51 = .ok (.iload_n 1, 1) := by decide +kernel
theorem dX6_move_52 : decode cX6_move 52 = .ok (.aaload, 1) := by decide +kernel
theorem dX6_move_53 : decode cX6_move 53 = .ok (.astore 4, 2) := by decide +kernel
theorem dX6_move_55 : decode cX6_move 55 = .ok (.aload 4, 2) := by decide +kernel
theorem dX6_move_57 : decode cX6_move 57 = .ok (.getfield 83, 3) := by decide +kernel
theorem dX6_move_60 : decode cX6_move 60 = .ok (.istore 5, 2) := by decide +kernel
theorem dX6_move_62 : decode cX6_move 62 = .ok (.aload 4, 2) := by decide +kernel
theorem dX6_move_64 : decode cX6_move 64 = .ok (.iload_n 2, 1) := by decide +kernel
theorem dX6_move_65 : decode cX6_move 65 = .ok (.putfield 83, 3) := by decide +kernel
theorem dX6_move_68 : decode cX6_move 68 = .ok (.iload 5, 2) := by decide +kernel
theorem dX6_move_70 : decode cX6_move 70 = .ok (.ireturn, 1) := by decide +kernel
theorem dX6_onSeat_0 : decode cX6_onSeat 0 = .ok (.iload_n 1, 1) := by decide +kernel
theorem dX6_onSeat_1 : decode cX6_onSeat 1 = .ok (.bipush 30, 2) := by decide +kernel
theorem dX6_onSeat_3 : decode cX6_onSeat 3 = .ok (.invokestatic 51, 3) := by decide +kernel
theorem dX6_onSeat_6 : decode cX6_onSeat 6 = .ok (.ifCond .ne 6, 3) := by decide +kernel
theorem dX6_onSeat_9 : decode cX6_onSeat 9 = .ok (.ldc 55, 2) := by decide +kernel
theorem dX6_onSeat_11 : decode cX6_onSeat 11 = .ok (.ireturn, 1) := by decide +kernel
theorem dX6_onSeat_12 : decode cX6_onSeat 12 = .ok (.aload_n 0, 1) := by decide +kernel
theorem dX6_onSeat_13 : decode cX6_onSeat 13 = .ok (.getfield 12, 3) := by decide +kernel
theorem dX6_onSeat_16 : decode cX6_onSeat 16 = .ok (.iload_n 1, 1) := by decide +kernel
theorem dX6_onSeat_17 : decode cX6_onSeat 17 = .ok (.invokevirtual 56, 3) := by decide +kernel
theorem dX6_onSeat_20 : decode cX6_onSeat 20 = .ok (.istore_n 2, 1) := by decide +kernel
theorem dX6_onSeat_21 : decode cX6_onSeat 21 = .ok (.iload_n 2, 1) := by decide +kernel
theorem dX6_onSeat_22 : decode cX6_onSeat 22 = .ok (.ifCond .ge 8, 3) := by decide +kernel
theorem dX6_onSeat_25 : decode cX6_onSeat 25 = .ok (.ldc 125, 2) := by decide +kernel
theorem dX6_onSeat_27 : decode cX6_onSeat 27 = .ok (.goto 4, 3) := by decide +kernel
theorem dX6_onSeat_30 : decode cX6_onSeat 30 = .ok (.iload_n 2, 1) := by decide +kernel
theorem dX6_onSeat_31 : decode cX6_onSeat 31 = .ok (.ireturn, 1) := by decide +kernel
theorem dX6_deal_0 : decode cX6_deal 0 = .ok (.iload_n 1, 1) := by decide +kernel
theorem dX6_deal_1 : decode cX6_deal 1 = .ok (.iconst 1, 1) := by decide +kernel
theorem dX6_deal_2 : decode cX6_deal 2 = .ok (.if_icmp .lt 9, 3) := by decide +kernel
theorem dX6_deal_5 : decode cX6_deal 5 = .ok (.iload_n 1, 1) := by decide +kernel
theorem dX6_deal_6 : decode cX6_deal 6 = .ok (.bipush 10, 2) := by decide +kernel
theorem dX6_deal_8 : decode cX6_deal 8 = .ok (.if_icmp .le 6, 3) := by decide +kernel
theorem dX6_deal_11 : decode cX6_deal 11 = .ok (.ldc 55, 2) := by decide +kernel
theorem dX6_deal_13 : decode cX6_deal 13 = .ok (.ireturn, 1) := by decide +kernel
theorem dX6_deal_14 : decode cX6_deal 14 = .ok (.iload_n 1, 1) := by decide +kernel
theorem dX6_deal_15 : decode cX6_deal 15 = .ok (.bipush 10, 2) := by decide +kernel
theorem dX6_deal_17 : decode cX6_deal 17 = .ok (.aload_n 0, 1) := by decide +kernel
theorem dX6_deal_18 : decode cX6_deal 18 = .ok (.getfield 12, 3) := by decide +kernel
theorem dX6_deal_21 : decode cX6_deal 21 = .ok (.getfield 61, 3) := by decide +kernel
theorem dX6_deal_24 : decode cX6_deal 24 = .ok (.isub, 1) := by decide +kernel
theorem dX6_deal_25 : decode cX6_deal 25 = .ok (.invokestatic 126, 3) := by decide +kernel
theorem dX6_deal_28 : decode cX6_deal 28 = .ok (.istore_n 2, 1) := by decide +kernel
theorem dX6_deal_29 : decode cX6_deal 29 = .ok (.iconst 0, 1) := by decide +kernel
theorem dX6_deal_30 : decode cX6_deal 30 = .ok (.istore_n 3, 1) := by decide +kernel
theorem dX6_deal_31 : decode cX6_deal 31 = .ok (.iload_n 3, 1) := by decide +kernel
theorem dX6_deal_32 : decode cX6_deal 32 = .ok (.iload_n 2, 1) := by decide +kernel
theorem dX6_deal_33 : decode cX6_deal 33 = .ok (.if_icmp .ge 16, 3) := by decide +kernel
theorem dX6_deal_36 : decode cX6_deal 36 = .ok (.aload_n 0, 1) := by decide +kernel
theorem dX6_deal_37 : decode cX6_deal 37 = .ok (.getfield 12, 3) := by decide +kernel
theorem dX6_deal_40 : decode cX6_deal 40 = .ok (.invokevirtual 132, 3) := by decide +kernel
theorem dX6_deal_43 : decode cX6_deal 43 = .ok (.iinc 3 1, 3) := by decide +kernel
theorem dX6_deal_46 : decode cX6_deal 46 = .ok (.goto (-15), 3) := by decide +kernel
theorem dX6_deal_49 : decode cX6_deal 49 = .ok (.iload_n 2, 1) := by decide +kernel
theorem dX6_deal_50 : decode cX6_deal 50 = .ok (.ireturn, 1) := by decide +kernel
theorem dX6_seed_0 : decode cX6_seed 0 = .ok (.aload_n 0, 1) := by decide +kernel
theorem dX6_seed_1 : decode cX6_seed 1 = .ok (.getfield 12, 3) := by decide +kernel
theorem dX6_seed_4 : decode cX6_seed 4 = .ok (.getfield 135, 3) := by decide +kernel
theorem dX6_seed_7 : decode cX6_seed 7 = .ok (.istore_n 2, 1) := by decide +kernel
theorem dX6_seed_8 : decode cX6_seed 8 = .ok (.aload_n 0, 1) := by decide +kernel
theorem dX6_seed_9 : decode cX6_seed 9 = .ok (.getfield 12, 3) := by decide +kernel
theorem dX6_seed_12 : decode cX6_seed 12 = .ok (.iload_n 1, 1) := by decide +kernel
theorem dX6_seed_13 : decode cX6_seed 13 = .ok (.putfield 135, 3) := by decide +kernel
theorem dX6_seed_16 : decode cX6_seed 16 = .ok (.iload_n 2, 1) := by decide +kernel
theorem dX6_seed_17 : decode cX6_seed 17 = .ok (.ireturn, 1) := by decide +kernel
theorem dX6_hall_0 : decode cX6_hall 0 = .ok (.iload_n 1, 1) := by decide +kernel
theorem dX6_hall_1 : decode cX6_hall 1 = .ok (.ifCond .ne 31, 3) := by decide +kernel
theorem dX6_hall_4 : decode cX6_hall 4 = .ok (.iload_n 2, 1) := by decide +kernel
theorem dX6_hall_5 : decode cX6_hall 5 = .ok (.bipush 100, 2) := by decide +kernel
theorem dX6_hall_7 : decode cX6_hall 7 = .ok (.invokestatic 51, 3) := by decide +kernel
theorem dX6_hall_10 : decode cX6_hall 10 = .ok (.ifCond .eq 22, 3) := by decide +kernel
theorem dX6_hall_13 : decode cX6_hall 13 = .ok (.aload_n 0, 1) := by decide +kernel
theorem dX6_hall_14 : decode cX6_hall 14 = .ok (.getfield 12, 3) := by decide +kernel
theorem dX6_hall_17 : decode cX6_hall 17 = .ok (.getfield 138, 3) := by decide +kernel
theorem dX6_hall_20 : decode cX6_hall 20 = .ok (.istore_n 3, 1) := by decide +kernel
theorem dX6_hall_21 : decode cX6_hall 21 = .ok (.aload_n 0, 1) := by decide +kernel
theorem dX6_hall_22 : decode cX6_hall 22 = .ok (.getfield 12, 3) := by decide +kernel
theorem dX6_hall_25 : decode cX6_hall 25 = .ok (.iload_n 2, 1) := by decide +kernel
theorem dX6_hall_26 : decode cX6_hall 26 = .ok (.putfield 138, 3) := by decide +kernel
theorem dX6_hall_29 : decode cX6_hall 29 = .ok (.goto 39, 3) := by decide +kernel
theorem dX6_hall_32 : decode cX6_hall 32 = .ok (.iload_n 1, 1) := by decide +kernel
theorem dX6_hall_33 : decode cX6_hall 33 = .ok (.iconst 1, 1) := by decide +kernel
theorem dX6_hall_34 : decode cX6_hall 34 = .ok (.if_icmp .ne 31, 3) := by decide +kernel
theorem dX6_hall_37 : decode cX6_hall 37 = .ok (.iload_n 2, 1) := by decide +kernel
theorem dX6_hall_38 : decode cX6_hall 38 = .ok (.bipush 10, 2) := by decide +kernel
theorem dX6_hall_40 : decode cX6_hall 40 = .ok (.invokestatic 51, 3) := by decide +kernel
theorem dX6_hall_43 : decode cX6_hall 43 = .ok (.ifCond .eq 22, 3) := by decide +kernel
theorem dX6_hall_46 : decode cX6_hall 46 = .ok (.aload_n 0, 1) := by decide +kernel
theorem dX6_hall_47 : decode cX6_hall 47 = .ok (.getfield 12, 3) := by decide +kernel
theorem dX6_hall_50 : decode cX6_hall 50 = .ok (.getfield 141, 3) := by decide +kernel
theorem dX6_hall_53 : decode cX6_hall 53 = .ok (.istore_n 3, 1) := by decide +kernel
theorem dX6_hall_54 : decode cX6_hall 54 = .ok (.aload_n 0, 1) := by decide +kernel
theorem dX6_hall_55 : decode cX6_hall 55 = .ok (.getfield 12, 3) := by decide +kernel
theorem dX6_hall_58 : decode cX6_hall 58 = .ok (.iload_n 2, 1) := by decide +kernel
theorem dX6_hall_59 : decode cX6_hall 59 = .ok (.putfield 141, 3) := by decide +kernel
theorem dX6_hall_62 : decode cX6_hall 62 = .ok (.goto 6, 3) := by decide +kernel
theorem dX6_hall_65 : decode cX6_hall 65 = .ok (.ldc 55, 2) := by decide +kernel
theorem dX6_hall_67 : decode cX6_hall 67 = .ok (.istore_n 3, 1) := by decide +kernel
theorem dX6_hall_68 : decode cX6_hall 68 = .ok (.iload_n 3, 1) := by decide +kernel
theorem dX6_hall_69 : decode cX6_hall 69 = .ok (.ireturn, 1) := by decide +kernel
theorem dX6_bars_0 : decode cX6_bars 0 = .ok (.iload_n 1, 1) := by decide +kernel
theorem dX6_bars_1 : decode cX6_bars 1 = .ok (.iconst 1, 1) := by decide +kernel
theorem dX6_bars_2 : decode cX6_bars 2 = .ok (.if_icmp .lt 9, 3) := by decide +kernel
theorem dX6_bars_5 : decode cX6_bars 5 = .ok (.iload_n 1, 1) := by decide +kernel
theorem dX6_bars_6 : decode cX6_bars 6 = .ok (.bipush 24, 2) := by decide +kernel
theorem dX6_bars_8 : decode cX6_bars 8 = .ok (.if_icmp .le 6, 3) := by decide +kernel
theorem dX6_bars_11 : decode cX6_bars 11 = .ok (.ldc 55, 2) := by decide +kernel
theorem dX6_bars_13 : decode cX6_bars 13 = .ok (.ireturn, 1) := by decide +kernel
theorem dX6_bars_14 : decode cX6_bars 14 = .ok (.aload_n 0, 1) := by decide +kernel
theorem dX6_bars_15 : decode cX6_bars 15 = .ok (.getfield 12, 3) := by decide +kernel
theorem dX6_bars_18 : decode cX6_bars 18 = .ok (.getfield 144, 3) := by decide +kernel
theorem dX6_bars_21 : decode cX6_bars 21 = .ok (.istore_n 2, 1) := by decide +kernel
theorem dX6_bars_22 : decode cX6_bars 22 = .ok (.iload_n 2, 1) := by decide +kernel
theorem dX6_bars_23 : decode cX6_bars 23 = .ok (.istore_n 3, 1) := by decide +kernel
theorem dX6_bars_24 : decode cX6_bars 24 = .ok (.iload_n 3, 1) := by decide +kernel
theorem dX6_bars_25 : decode cX6_bars 25 = .ok (.iload_n 1, 1) := by decide +kernel
theorem dX6_bars_26 : decode cX6_bars 26 = .ok (.if_icmp .ge 19, 3) := by decide +kernel
theorem dX6_bars_29 : decode cX6_bars 29 = .ok (.aload_n 0, 1) := by decide +kernel
theorem dX6_bars_30 : decode cX6_bars 30 = .ok (.getfield 12, 3) := by decide +kernel
theorem dX6_bars_33 : decode cX6_bars 33 = .ok (.getfield 147, 3) := by decide +kernel
theorem dX6_bars_36 : decode cX6_bars 36 = .ok (.iload_n 3, 1) := by decide +kernel
theorem dX6_bars_37 : decode cX6_bars 37 = .ok (.iconst 0, 1) := by decide +kernel
theorem dX6_bars_38 : decode cX6_bars 38 = .ok (.iastore, 1) := by decide +kernel
theorem dX6_bars_39 : decode cX6_bars 39 = .ok (.iinc 3 1, 3) := by decide +kernel
theorem dX6_bars_42 : decode cX6_bars 42 = .ok (.goto (-18), 3) := by decide +kernel
theorem dX6_bars_45 : decode cX6_bars 45 = .ok (.aload_n 0, 1) := by decide +kernel
theorem dX6_bars_46 : decode cX6_bars 46 = .ok (.getfield 12, 3) := by decide +kernel
theorem dX6_bars_49 : decode cX6_bars 49 = .ok (.iload_n 1, 1) := by decide +kernel
theorem dX6_bars_50 : decode cX6_bars 50 = .ok (.putfield 144, 3) := by decide +kernel
theorem dX6_bars_53 : decode cX6_bars 53 = .ok (.iload_n 2, 1) := by decide +kernel
theorem dX6_bars_54 : decode cX6_bars 54 = .ok (.ireturn, 1) := by decide +kernel
theorem dX6_loud_0 : decode cX6_loud 0 = .ok (.iload_n 1, 1) := by decide +kernel
theorem dX6_loud_1 : decode cX6_loud 1 = .ok (.aload_n 0, 1) := by decide +kernel
theorem dX6_loud_2 : decode cX6_loud 2 = .ok (.getfield 12, 3) := by decide +kernel
theorem dX6_loud_5 : decode cX6_loud 5 = .ok (.getfield 144, 3) := by decide +kernel
theorem dX6_loud_8 : decode cX6_loud 8 = .ok (.invokestatic 51, 3) := by decide +kernel
theorem dX6_loud_11 : decode cX6_loud 11 = .ok (.ifCond .eq 12, 3) := by decide +kernel
theorem dX6_loud_14 : decode cX6_loud 14 = .ok (.iload_n 2, 1) := by decide +kernel
theorem dX6_loud_15 : decode cX6_loud 15 = .ok (.bipush 100, 2) := by decide +kernel
theorem dX6_loud_17 : decode cX6_loud 17 = .ok (.invokestatic 51, 3) := by decide +kernel
theorem dX6_loud_20 : decode cX6_loud 20 = .ok (.ifCond .ne 6, 3) := by decide +kernel
theorem dX6_loud_23 : decode cX6_loud 23 = .ok (.ldc 55, 2) := by decide +kernel
theorem dX6_loud_25 : decode cX6_loud 25 = .ok (.ireturn, 1) := by decide +kernel
theorem dX6_loud_26 : decode cX6_loud 26 = .ok (.aload_n 0, 1) := by decide +kernel
theorem dX6_loud_27 : decode cX6_loud 27 = .ok (.getfield 12, 3) := by decide +kernel
theorem dX6_loud_30 : decode cX6_loud 30 = .ok (.getfield 147, 3) := by decide +kernel
theorem dX6_loud_33 : decode cX6_loud 33 = .ok (.iload_n 1, 1) := by decide +kernel
theorem dX6_loud_34 : decode cX6_loud 34 = .ok (.iaload, 1) := by decide +kernel
theorem dX6_loud_35 : decode cX6_loud 35 = .ok (.istore_n 3, 1) := by decide +kernel
theorem dX6_loud_36 : decode cX6_loud 36 = .ok (.aload_n 0, 1) := by decide +kernel
theorem dX6_loud_37 : decode cX6_loud 37 = .ok (.getfield 12, 3) := by decide +kernel
theorem dX6_loud_40 : decode cX6_loud 40 = .ok (.getfield 147, 3) := by decide +kernel
theorem dX6_loud_43 : decode cX6_loud 43 = .ok (.iload_n 1, 1) := by decide +kernel
theorem dX6_loud_44 : decode cX6_loud 44 = .ok (.iload_n 2, 1) := by decide +kernel
theorem dX6_loud_45 : decode cX6_loud 45 = .ok (.iastore, 1) := by decide +kernel
theorem dX6_loud_46 : decode cX6_loud 46 = .ok (.iload_n 3, 1) := by decide +kernel
theorem dX6_loud_47 : decode cX6_loud 47 = .ok (.ireturn, 1) := by decide +kernel
theorem dX6_music_0 : decode cX6_music 0 = .ok (.iload_n 1, 1) := by decide +kernel
theorem dX6_music_1 : decode cX6_music 1 = .ok (.ifCond .lt 9, 3) := by decide +kernel
theorem dX6_music_4 : decode cX6_music 4 = .ok (.iload_n 1, 1) := by decide +kernel
theorem dX6_music_5 : decode cX6_music 5 = .ok (.bipush 99, 2) := by decide +kernel
theorem dX6_music_7 : decode cX6_music 7 = .ok (.if_icmp .le 8, 3) := by decide +kernel
theorem dX6_music_10 : decode cX6_music 10 = .ok (.ldc 55, 2) := by decide +kernel
theorem dX6_music_12 : decode cX6_music 12 = .ok (.goto 11, 3) := by decide +kernel
theorem dX6_music_15 : decode cX6_music 15 = .ok (.aload_n 0, 1) := by decide +kernel
theorem dX6_music_16 : decode cX6_music 16 = .ok (.getfield 12, 3) := by decide +kernel
theorem dX6_music_19 : decode cX6_music 19 = .ok (.iload_n 1, 1) := by decide +kernel
theorem dX6_music_20 : decode cX6_music 20 = .ok (.invokevirtual 102, 3) := by decide +kernel
theorem dX6_music_23 : decode cX6_music 23 = .ok (.ireturn, 1) := by decide +kernel
theorem dX6_run_0 : decode cX6_run 0 = .ok (.iload_n 1, 1) := by decide +kernel
theorem dX6_run_1 : decode cX6_run 1 = .ok (.iconst 1, 1) := by decide +kernel
theorem dX6_run_2 : decode cX6_run 2 = .ok (.if_icmp .lt 10, 3) := by decide +kernel
theorem dX6_run_5 : decode cX6_run 5 = .ok (.iload_n 1, 1) := by decide +kernel
theorem dX6_run_6 : decode cX6_run 6 = .ok (.sipush 200, 3) := by decide +kernel
theorem dX6_run_9 : decode cX6_run 9 = .ok (.if_icmp .le 8, 3) := by decide +kernel
theorem dX6_run_12 : decode cX6_run 12 = .ok (.ldc 55, 2) := by decide +kernel
theorem dX6_run_14 : decode cX6_run 14 = .ok (.goto 18, 3) := by decide +kernel
theorem dX6_run_17 : decode cX6_run 17 = .ok (.aload_n 0, 1) := by decide +kernel
theorem dX6_run_18 : decode cX6_run 18 = .ok (.getfield 12, 3) := by decide +kernel
theorem dX6_run_21 : decode cX6_run 21 = .ok (.aload_n 0, 1) := by decide +kernel
theorem dX6_run_22 : decode cX6_run 22 = .ok (.getfield 12, 3) := by decide +kernel
theorem dX6_run_25 : decode cX6_run 25 = .ok (.iload_n 1, 1) := by decide +kernel
theorem dX6_run_26 : decode cX6_run 26 = .ok (.invokevirtual 150, 3) := by decide +kernel
theorem dX6_run_29 : decode cX6_run 29 = .ok (.invokevirtual 153, 3) := by decide +kernel
theorem dX6_run_32 : decode cX6_run 32 = .ok (.ireturn, 1) := by decide +kernel
theorem dX6_did_0 : decode cX6_did 0 = .ok (.aload_n 0, 1) := by decide +kernel
theorem dX6_did_1 : decode cX6_did 1 = .ok (.getfield 12, 3) := by decide +kernel
theorem dX6_did_4 : decode cX6_did 4 = .ok (.getfield 156, 3) := by decide +kernel
theorem dX6_did_7 : decode cX6_did 7 = .ok (.ireturn, 1) := by decide +kernel
theorem dX6_behind_0 : decode cX6_behind 0 = .ok (.iload_n 1, 1) := by decide +kernel
theorem dX6_behind_1 : decode cX6_behind 1 = .ok (.ifCond .lt 19, 3) := by decide +kernel
theorem dX6_behind_4 : decode cX6_behind 4 = .ok (.iload_n 1, 1) := by decide +kernel
theorem dX6_behind_5 : decode cX6_behind 5 = .ok (.sipush 200, 3) := by decide +kernel
theorem dX6_behind_8 : decode cX6_behind 8 = .ok (.if_icmp .gt 12, 3) := by decide +kernel
theorem dX6_behind_11 : decode cX6_behind 11 = .ok (.iload_n 2, 1) := by decide +kernel
theorem dX6_behind_12 : decode cX6_behind 12 = .ok (.ifCond .lt 8, 3) := by decide +kernel
theorem dX6_behind_15 : decode cX6_behind 15 = .ok (.iload_n 2, 1) := by decide +kernel
theorem dX6_behind_16 : decode cX6_behind 16 = .ok (.iconst 2, 1) := by decide +kernel
theorem dX6_behind_17 : decode cX6_behind 17 = .ok (.if_icmp .le 6, 3) := by decide +kernel
theorem dX6_behind_20 : decode cX6_behind 20 = .ok (.ldc 55, 2) := by decide +kernel
theorem dX6_behind_22 : decode cX6_behind 22 = .ok (.ireturn, 1) := by decide +kernel
theorem dX6_behind_23 : decode cX6_behind 23 = .ok (.aload_n 0, 1) := by decide +kernel
theorem dX6_behind_24 : decode cX6_behind 24 = .ok (.getfield 19, 3) := by decide +kernel
theorem dX6_behind_27 : decode cX6_behind 27 = .ok (.aload_n 0, 1) := by decide +kernel
theorem dX6_behind_28 : decode cX6_behind 28 = .ok (.getfield 12, 3) := by decide +kernel
theorem dX6_behind_31 : decode cX6_behind 31 = .ok (.invokevirtual 159, 3) := by decide +kernel
theorem dX6_behind_34 : decode cX6_behind 34 = .ok (.aload_n 0, 1) := by decide +kernel
theorem dX6_behind_35 : decode cX6_behind 35 = .ok (.getfield 19, 3) := by decide +kernel
theorem dX6_behind_38 : decode cX6_behind 38 = .ok (.iload_n 1, 1) := by decide +kernel
theorem dX6_behind_39 : decode cX6_behind 39 = .ok (.invokevirtual 153, 3) := by decide +kernel
theorem dX6_behind_42 : decode cX6_behind 42 = .ok (.pop, 1) := by decide +kernel
theorem dX6_behind_43 : decode cX6_behind 43 = .ok (.iload_n 2, 1) := by decide +kernel
theorem dX6_behind_44 : decode cX6_behind 44 = .ok (.lookupswitch 44 #[(0, 28), (1, 36)], 28) := by decide +kernel
theorem dX6_behind_72 : decode cX6_behind 72 = .ok (.aload_n 0, 1) := by decide +kernel
theorem dX6_behind_73 : decode cX6_behind 73 = .ok (.getfield 19, 3) := by decide +kernel
theorem dX6_behind_76 : decode cX6_behind 76 = .ok (.invokevirtual 163, 3) := by decide +kernel
theorem dX6_behind_79 : decode cX6_behind 79 = .ok (.ireturn, 1) := by decide +kernel
theorem dX6_behind_80 : decode cX6_behind 80 = .ok (.aload_n 0, 1) := by decide +kernel
theorem dX6_behind_81 : decode cX6_behind 81 = .ok (.getfield 19, 3) := by decide +kernel
theorem dX6_behind_84 : decode cX6_behind 84 = .ok (.getfield 166, 3) := by decide +kernel
theorem dX6_behind_87 : decode cX6_behind 87 = .ok (.ireturn, 1) := by decide +kernel
theorem dX6_behind_88 : decode cX6_behind 88 = .ok (.aload_n 0, 1) := by decide +kernel
theorem dX6_behind_89 : decode cX6_behind 89 = .ok (.getfield 19, 3) := by decide +kernel
theorem dX6_behind_92 : decode cX6_behind 92 = .ok (.invokevirtual 169, 3) := by decide +kernel
theorem dX6_behind_95 : decode cX6_behind 95 = .ok (.ireturn, 1) := by decide +kernel
theorem dX6_first_0 : decode cX6_first 0 = .ok (.aload_n 0, 1) := by decide +kernel
theorem dX6_first_1 : decode cX6_first 1 = .ok (.getfield 19, 3) := by decide +kernel
theorem dX6_first_4 : decode cX6_first 4 = .ok (.aload_n 0, 1) := by decide +kernel
theorem dX6_first_5 : decode cX6_first 5 = .ok (.getfield 12, 3) := by decide +kernel
theorem dX6_first_8 : decode cX6_first 8 = .ok (.invokevirtual 159, 3) := by decide +kernel
theorem dX6_first_11 : decode cX6_first 11 = .ok (.iconst 1, 1) := by decide +kernel
theorem dX6_first_12 : decode cX6_first 12 = .ok (.istore_n 1, 1) := by decide +kernel
theorem dX6_first_13 : decode cX6_first 13 = .ok (.iload_n 1, 1) := by decide +kernel
theorem dX6_first_14 : decode cX6_first 14 = .ok (.sipush 200, 3) := by decide +kernel
theorem dX6_first_17 : decode cX6_first 17 = .ok (.if_icmp .gt 21, 3) := by decide +kernel
theorem dX6_first_20 : decode cX6_first 20 = .ok (.aload_n 0, 1) := by decide +kernel
theorem dX6_first_21 : decode cX6_first 21 = .ok (.getfield 19, 3) := by decide +kernel
theorem dX6_first_24 : decode cX6_first 24 = .ok (.invokevirtual 172, 3) := by decide +kernel
theorem dX6_first_27 : decode cX6_first 27 = .ok (.ifCond .le 5, 3) := by decide +kernel
theorem dX6_first_30 : decode cX6_first 30 = .ok (.iload_n 1, 1) := by decide +kernel
theorem dX6_first_31 : decode cX6_first 31 = .ok (.ireturn, 1) := by decide +kernel
theorem dX6_first_32 : decode cX6_first 32 = .ok (.iinc 1 1, 3) := by decide +kernel
theorem dX6_first_35 : decode cX6_first 35 = .ok (.goto (-22), 3) := by decide +kernel
theorem dX6_first_38 : decode cX6_first 38 = .ok (.ldc 125, 2) := by decide +kernel
theorem dX6_first_40 : decode cX6_first 40 = .ok (.ireturn, 1) := by decide +kernel
theorem dX6_rest_0 : decode cX6_rest 0 = .ok (.iload_n 1, 1) := by decide +kernel
theorem dX6_rest_1 : decode cX6_rest 1 = .ok (.iconst 1, 1) := by decide +kernel
theorem dX6_rest_2 : decode cX6_rest 2 = .ok (.if_icmp .lt 9, 3) := by decide +kernel
theorem dX6_rest_5 : decode cX6_rest 5 = .ok (.iload_n 1, 1) := by decide +kernel
theorem dX6_rest_6 : decode cX6_rest 6 = .ok (.bipush 60, 2) := by decide +kernel
theorem dX6_rest_8 : decode cX6_rest 8 = .ok (.if_icmp .le 6, 3) := by decide +kernel
theorem dX6_rest_11 : decode cX6_rest 11 = .ok (.ldc 55, 2) := by decide +kernel
theorem dX6_rest_13 : decode cX6_rest 13 = .ok (.ireturn, 1) := by decide +kernel
theorem dX6_rest_14 : decode cX6_rest 14 = .ok (.iconst 0, 1) := by decide +kernel
theorem dX6_rest_15 : decode cX6_rest 15 = .ok (.istore_n 2, 1) := by decide +kernel
theorem dX6_rest_16 : decode cX6_rest 16 = .ok (.ldc 175, 2) := by decide +kernel
theorem dX6_rest_18 : decode cX6_rest 18 = .ok (.istore_n 3, 1) := by decide +kernel
theorem dX6_rest_19 : decode cX6_rest 19 = .ok (.iconst 0, 1) := by decide +kernel
theorem dX6_rest_20 : decode cX6_rest 20 = .ok (.istore 4, 2) := by decide +kernel
theorem dX6_rest_22 : decode cX6_rest 22 = .ok (.iload 4, 2) := by decide +kernel
theorem dX6_rest_24 : decode cX6_rest 24 = .ok (.aload_n 0, 1) := by decide +kernel
theorem dX6_rest_25 : decode cX6_rest 25 = .ok (.getfield 12, 3) := by decide +kernel
theorem dX6_rest_28 : decode cX6_rest 28 = .ok (.getfield 144, 3) := by decide +kernel
theorem dX6_rest_31 : decode cX6_rest 31 = .ok (.if_icmp .ge 62, 3) := by decide +kernel
theorem dX6_rest_34 : decode cX6_rest 34 = .ok (.aload_n 0, 1) := by decide +kernel
theorem dX6_rest_35 : decode cX6_rest 35 = .ok (.getfield 19, 3) := by decide +kernel
theorem dX6_rest_38 : decode cX6_rest 38 = .ok (.aload_n 0, 1) := by decide +kernel
theorem dX6_rest_39 : decode cX6_rest 39 = .ok (.getfield 12, 3) := by decide +kernel
theorem dX6_rest_42 : decode cX6_rest 42 = .ok (.invokevirtual 159, 3) := by decide +kernel
theorem dX6_rest_45 : decode cX6_rest 45 = .ok (.aload_n 0, 1) := by decide +kernel
theorem dX6_rest_46 : decode cX6_rest 46 = .ok (.getfield 19, 3) := by decide +kernel
theorem dX6_rest_49 : decode cX6_rest 49 = .ok (.getfield 147, 3) := by decide +kernel
theorem dX6_rest_52 : decode cX6_rest 52 = .ok (.iload 4, 2) := by decide +kernel
theorem dX6_rest_54 : decode cX6_rest 54 = .ok (.iconst 0, 1) := by decide +kernel
theorem dX6_rest_55 : decode cX6_rest 55 = .ok (.iastore, 1) := by decide +kernel
theorem dX6_rest_56 : decode cX6_rest 56 = .ok (.aload_n 0, 1) := by decide +kernel
theorem dX6_rest_57 : decode cX6_rest 57 = .ok (.getfield 19, 3) := by decide +kernel
theorem dX6_rest_60 : decode cX6_rest 60 = .ok (.iload_n 1, 1) := by decide +kernel
theorem dX6_rest_61 : decode cX6_rest 61 = .ok (.invokevirtual 153, 3) := by decide +kernel
theorem dX6_rest_64 : decode cX6_rest 64 = .ok (.pop, 1) := by decide +kernel
theorem dX6_rest_65 : decode cX6_rest 65 = .ok (.aload_n 0, 1) := by decide +kernel
theorem dX6_rest_66 : decode cX6_rest 66 = .ok (.getfield 19, 3) := by decide +kernel
theorem dX6_rest_69 : decode cX6_rest 69 = .ok (.getfield 166, 3) := by decide +kernel
theorem dX6_rest_72 : decode cX6_rest 72 = .ok (.iload_n 3, 1) := by decide +kernel
theorem dX6_rest_73 : decode cX6_rest 73 = .ok (.if_icmp .ge 14, 3) := by decide +kernel
theorem dX6_rest_76 : decode cX6_rest 76 = .ok (.aload_n 0, 1) := by decide +kernel
theorem dX6_rest_77 : decode cX6_rest 77 = .ok (.getfield 19, 3) := by decide +kernel
theorem dX6_rest_80 : decode cX6_rest 80 = .ok (.getfield 166, 3) := by decide +kernel
theorem dX6_rest_83 : decode cX6_rest 83 = .ok (.istore_n 3, 1) := by decide +kernel
theorem dX6_rest_84 : decode cX6_rest 84 = .ok (.iload 4, 2) := by decide +kernel
theorem dX6_rest_86 : decode cX6_rest 86 = .ok (.istore_n 2, 1) := by decide +kernel
theorem dX6_rest_87 : decode cX6_rest 87 = .ok (.iinc 4 1, 3) := by decide +kernel
theorem dX6_rest_90 : decode cX6_rest 90 = .ok (.goto (-68), 3) := by decide +kernel
theorem dX6_rest_93 : decode cX6_rest 93 = .ok (.iload_n 2, 1) := by decide +kernel
theorem dX6_rest_94 : decode cX6_rest 94 = .ok (.ireturn, 1) := by decide +kernel
theorem dX6_change_0 : decode cX6_change 0 = .ok (.iload_n 1, 1) := by decide +kernel
theorem dX6_change_1 : decode cX6_change 1 = .ok (.iconst 1, 1) := by decide +kernel
theorem dX6_change_2 : decode cX6_change 2 = .ok (.if_icmp .lt 9, 3) := by decide +kernel
theorem dX6_change_5 : decode cX6_change 5 = .ok (.iload_n 1, 1) := by decide +kernel
theorem dX6_change_6 : decode cX6_change 6 = .ok (.bipush 40, 2) := by decide +kernel
theorem dX6_change_8 : decode cX6_change 8 = .ok (.if_icmp .le 6, 3) := by decide +kernel
theorem dX6_change_11 : decode cX6_change 11 = .ok (.ldc 55, 2) := by decide +kernel
theorem dX6_change_13 : decode cX6_change 13 = .ok (.ireturn, 1) := by decide +kernel
theorem dX6_change_14 : decode cX6_change 14 = .ok (.ldc 125, 2) := by decide +kernel
theorem dX6_change_16 : decode cX6_change 16 = .ok (.istore_n 2, 1) := by decide +kernel
theorem dX6_change_17 : decode cX6_change 17 = .ok (.ldc 175, 2) := by decide +kernel
theorem dX6_change_19 : decode cX6_change 19 = .ok (.istore_n 3, 1) := by decide +kernel
theorem dX6_change_20 : decode cX6_change 20 = .ok (.iconst 0, 1) := by decide +kernel
theorem dX6_change_21 : decode cX6_change 21 = .ok (.istore 4, 2) := by decide +kernel
theorem dX6_change_23 : decode cX6_change 23 = .ok (.iload 4, 2) := by decide +kernel
theorem dX6_change_25 : decode cX6_change 25 = .ok (.aload_n 0, 1) := by decide +kernel
theorem dX6_change_26 : decode cX6_change 26 = .ok (.getfield 12, 3) := by decide +kernel
theorem dX6_change_29 : decode cX6_change 29 = .ok (.getfield 61, 3) := by decide +kernel
theorem dX6_change_32 : decode cX6_change 32 = .ok (.if_icmp .ge 91, 3) := by decide +kernel
theorem dX6_change_35 : decode cX6_change 35 = .ok (.iload 4, 2) := by decide +kernel
theorem dX6_change_37 : decode cX6_change 37 = .ok (.iconst 1, 1) := by decide +kernel
theorem dX6_change_38 : decode cX6_change 38 = .ok (.iadd, 1) := by decide +kernel
theorem dX6_change_39 : decode cX6_change 39 = .ok (.istore 5, 2) := by decide +kernel
theorem dX6_change_41 : decode cX6_change 41 = .ok (.iload 5, 2) := by decide +kernel
theorem dX6_change_43 : decode cX6_change 43 = .ok (.aload_n 0, 1) := by decide +kernel
theorem dX6_change_44 : decode cX6_change 44 = .ok (.getfield 12, 3) := by decide +kernel
theorem dX6_change_47 : decode cX6_change 47 = .ok (.getfield 61, 3) := by decide +kernel
theorem dX6_change_50 : decode cX6_change 50 = .ok (.if_icmp .ge 67, 3) := by decide +kernel
theorem dX6_change_53 : decode cX6_change 53 = .ok (.aload_n 0, 1) := by decide +kernel
theorem dX6_change_54 : decode cX6_change 54 = .ok (.getfield 19, 3) := by decide +kernel
theorem dX6_change_57 : decode cX6_change 57 = .ok (.aload_n 0, 1) := by decide +kernel
theorem dX6_change_58 : decode cX6_change 58 = .ok (.getfield 12, 3) := by decide +kernel
theorem dX6_change_61 : decode cX6_change 61 = .ok (.invokevirtual 159, 3) := by decide +kernel
theorem dX6_change_64 : decode cX6_change 64 = .ok (.aload_n 0, 1) := by decide +kernel
theorem dX6_change_65 : decode cX6_change 65 = .ok (.getfield 19, 3) := by decide +kernel
theorem dX6_change_68 : decode cX6_change 68 = .ok (.iload 4, 2) := by decide +kernel
theorem dX6_change_70 : decode cX6_change 70 = .ok (.iload 5, 2) := by decide +kernel
theorem dX6_change_72 : decode cX6_change 72 = .ok (.invokevirtual 176, 3) := by decide +kernel
theorem dX6_change_75 : decode cX6_change 75 = .ok (.aload_n 0, 1) := by decide +kernel
theorem dX6_change_76 : decode cX6_change 76 = .ok (.getfield 19, 3) := by decide +kernel
theorem dX6_change_79 : decode cX6_change 79 = .ok (.iload_n 1, 1) := by decide +kernel
theorem dX6_change_80 : decode cX6_change 80 = .ok (.invokevirtual 153, 3) := by decide +kernel
theorem dX6_change_83 : decode cX6_change 83 = .ok (.pop, 1) := by decide +kernel
theorem dX6_change_84 : decode cX6_change 84 = .ok (.aload_n 0, 1) := by decide +kernel
theorem dX6_change_85 : decode cX6_change 85 = .ok (.getfield 19, 3) := by decide +kernel
theorem dX6_change_88 : decode cX6_change 88 = .ok (.invokevirtual 163, 3) := by decide +kernel
theorem dX6_change_91 : decode cX6_change 91 = .ok (.istore 6, 2) := by decide +kernel
theorem dX6_change_93 : decode cX6_change 93 = .ok (.iload 6, 2) := by decide +kernel
theorem dX6_change_95 : decode cX6_change 95 = .ok (.iload_n 3, 1) := by decide +kernel
theorem dX6_change_96 : decode cX6_change 96 = .ok (.if_icmp .ge 15, 3) := by decide +kernel
theorem dX6_change_99 : decode cX6_change 99 = .ok (.iload 6, 2) := by decide +kernel
theorem dX6_change_101 : decode cX6_change 101 = .ok (.istore_n 3, 1) := by decide +kernel
theorem dX6_change_102 : decode cX6_change 102 = .ok (.bipush 100, 2) := by decide +kernel
theorem dX6_change_104 : decode cX6_change 104 = .ok (.iload 4, 2) := by decide +kernel
theorem dX6_change_106 : decode cX6_change 106 = .ok (.imul, 1) := by decide +kernel
theorem dX6_change_107 : decode cX6_change 107 = .ok (.iload 5, 2) := by decide +kernel
theorem dX6_change_109 : decode cX6_change 109 = .ok (.iadd, 1) := by decide +kernel
theorem dX6_change_110 : decode cX6_change 110 = .ok (.istore_n 2, 1) := by decide +kernel
theorem dX6_change_111 : decode cX6_change 111 = .ok (.iinc 5 1, 3) := by decide +kernel
theorem dX6_change_114 : decode cX6_change 114 = .ok (.goto (-73), 3) := by decide +kernel
theorem dX6_change_117 : decode cX6_change 117 = .ok (.iinc 4 1, 3) := by decide +kernel
theorem dX6_change_120 : decode cX6_change 120 = .ok (.goto (-97), 3) := by decide +kernel
theorem dX6_change_123 : decode cX6_change 123 = .ok (.iload_n 2, 1) := by decide +kernel
theorem dX6_change_124 : decode cX6_change 124 = .ok (.ireturn, 1) := by decide +kernel
theorem dX6_sweet_0 : decode cX6_sweet 0 = .ok (.iload_n 1, 1) := by decide +kernel
theorem dX6_sweet_1 : decode cX6_sweet 1 = .ok (.iconst 1, 1) := by decide +kernel
theorem dX6_sweet_2 : decode cX6_sweet 2 = .ok (.if_icmp .lt 9, 3) := by decide +kernel
theorem dX6_sweet_5 : decode cX6_sweet 5 = .ok (.iload_n 1, 1) := by decide +kernel
theorem dX6_sweet_6 : decode cX6_sweet 6 = .ok (.bipush 60, 2) := by decide +kernel
theorem dX6_sweet_8 : decode cX6_sweet 8 = .ok (.if_icmp .le 6, 3) := by decide +kernel
theorem dX6_sweet_11 : decode cX6_sweet 11 = .ok (.ldc 55, 2) := by decide +kernel
theorem dX6_sweet_13 : decode cX6_sweet 13 = .ok (.ireturn, 1) := by decide +kernel
theorem dX6_sweet_14 : decode cX6_sweet 14 = .ok (.ldc 125, 2) := by decide +kernel
theorem dX6_sweet_16 : decode cX6_sweet 16 = .ok (.istore_n 2, 1) := by decide +kernel
theorem dX6_sweet_17 : decode cX6_sweet 17 = .ok (.ldc 175, 2) := by decide +kernel
theorem dX6_sweet_19 : decode cX6_sweet 19 = .ok (.istore_n 3, 1) := by decide +kernel
theorem dX6_sweet_20 : decode cX6_sweet 20 = .ok (.iconst 0, 1) := by decide +kernel
theorem dX6_sweet_21 : decode cX6_sweet 21 = .ok (.istore 4, 2) := by decide +kernel
theorem dX6_sweet_23 : decode cX6_sweet 23 = .ok (.iload 4, 2) := by decide +kernel
theorem dX6_sweet_25 : decode cX6_sweet 25 = .ok (.aload_n 0, 1) := by decide +kernel
theorem dX6_sweet_26 : decode cX6_sweet 26 = .ok (.getfield 12, 3) := by decide +kernel
theorem dX6_sweet_29 : decode cX6_sweet 29 = .ok (.getfield 61, 3) := by decide +kernel
theorem dX6_sweet_32 : decode cX6_sweet 32 = .ok (.if_icmp .ge 66, 3) := by decide +kernel
theorem dX6_sweet_35 : decode cX6_sweet 35 = .ok (.aload_n 0, 1) := by decide +kernel
theorem dX6_sweet_36 : decode cX6_sweet 36 = .ok (.getfield 19, 3) := by decide +kernel
theorem dX6_sweet_39 : decode cX6_sweet 39 = .ok (.aload_n 0, 1) := by decide +kernel
theorem dX6_sweet_40 : decode cX6_sweet 40 = .ok (.getfield 12, 3) := by decide +kernel
theorem dX6_sweet_43 : decode cX6_sweet 43 = .ok (.invokevirtual 159, 3) := by decide +kernel
theorem dX6_sweet_46 : decode cX6_sweet 46 = .ok (.aload_n 0, 1) := by decide +kernel
theorem dX6_sweet_47 : decode cX6_sweet 47 = .ok (.getfield 19, 3) := by decide +kernel
theorem dX6_sweet_50 : decode cX6_sweet 50 = .ok (.getfield 74, 3) := by decide +kernel
theorem dX6_sweet_53 : decode cX6_sweet 53 = .ok (.iload 4, 2) := by decide +kernel
theorem dX6_sweet_55 : decode cX6_sweet 55 = .ok (.aaload, 1) := by decide +kernel
theorem dX6_sweet_56 : decode cX6_sweet 56 = .ok (.bipush 40, 2) := by decide +kernel
theorem dX6_sweet_58 : decode cX6_sweet 58 = .ok (.putfield 92, 3) := by decide +kernel
theorem dX6_sweet_61 : decode cX6_sweet 61 = .ok (.aload_n 0, 1) := by decide +kernel
theorem dX6_sweet_62 : decode cX6_sweet 62 = .ok (.getfield 19, 3) := by decide +kernel
theorem dX6_sweet_65 : decode cX6_sweet 65 = .ok (.iload_n 1, 1) := by decide +kernel
theorem dX6_sweet_66 : decode cX6_sweet 66 = .ok (.invokevirtual 153, 3) := by decide +kernel
theorem dX6_sweet_69 : decode cX6_sweet 69 = .ok (.pop, 1) := by decide +kernel
theorem dX6_sweet_70 : decode cX6_sweet 70 = .ok (.aload_n 0, 1) := by decide +kernel
theorem dX6_sweet_71 : decode cX6_sweet 71 = .ok (.getfield 19, 3) := by decide +kernel
theorem dX6_sweet_74 : decode cX6_sweet 74 = .ok (.getfield 166, 3) := by decide +kernel
theorem dX6_sweet_77 : decode cX6_sweet 77 = .ok (.iload_n 3, 1) := by decide +kernel
theorem dX6_sweet_78 : decode cX6_sweet 78 = .ok (.if_icmp .ge 14, 3) := by decide +kernel
theorem dX6_sweet_81 : decode cX6_sweet 81 = .ok (.aload_n 0, 1) := by decide +kernel
theorem dX6_sweet_82 : decode cX6_sweet 82 = .ok (.getfield 19, 3) := by decide +kernel
theorem dX6_sweet_85 : decode cX6_sweet 85 = .ok (.getfield 166, 3) := by decide +kernel
theorem dX6_sweet_88 : decode cX6_sweet 88 = .ok (.istore_n 3, 1) := by decide +kernel
theorem dX6_sweet_89 : decode cX6_sweet 89 = .ok (.iload 4, 2) := by decide +kernel
theorem dX6_sweet_91 : decode cX6_sweet 91 = .ok (.istore_n 2, 1) := by decide +kernel
theorem dX6_sweet_92 : decode cX6_sweet 92 = .ok (.iinc 4 1, 3) := by decide +kernel
theorem dX6_sweet_95 : decode cX6_sweet 95 = .ok (.goto (-72), 3) := by decide +kernel
theorem dX6_sweet_98 : decode cX6_sweet 98 = .ok (.iload_n 2, 1) := by decide +kernel
theorem dX6_sweet_99 : decode cX6_sweet 99 = .ok (.ireturn, 1) := by decide +kernel
theorem dX6_setOff_0 : decode cX6_setOff 0 = .ok (.aload_n 0, 1) := by decide +kernel
theorem dX6_setOff_1 : decode cX6_setOff 1 = .ok (.getfield 12, 3) := by decide +kernel
theorem dX6_setOff_4 : decode cX6_setOff 4 = .ok (.iload_n 1, 1) := by decide +kernel
theorem dX6_setOff_5 : decode cX6_setOff 5 = .ok (.invokevirtual 70, 3) := by decide +kernel
theorem dX6_setOff_8 : decode cX6_setOff 8 = .ok (.ifCond .eq 31, 3) := by decide +kernel
theorem dX6_setOff_11 : decode cX6_setOff 11 = .ok (.aload_n 0, 1) := by decide +kernel
theorem dX6_setOff_12 : decode cX6_setOff 12 = .ok (.getfield 12, 3) := by decide +kernel
theorem dX6_setOff_15 : decode cX6_setOff 15 = .ok (.iload_n 2, 1) := by decide +kernel
theorem dX6_setOff_16 : decode cX6_setOff 16 = .ok (.invokevirtual 70, 3) := by decide +kernel
theorem dX6_setOff_19 : decode cX6_setOff 19 = .ok (.ifCond .eq 20, 3) := by decide +kernel
theorem dX6_setOff_22 : decode cX6_setOff 22 = .ok (.iload_n 1, 1) := by decide +kernel
theorem dX6_setOff_23 : decode cX6_setOff 23 = .ok (.iload_n 2, 1) := by decide +kernel
theorem dX6_setOff_24 : decode cX6_setOff 24 = .ok (.if_icmp .eq 15, 3) := by decide +kernel
theorem dX6_setOff_27 : decode cX6_setOff 27 = .ok (.iload_n 3, 1) := by decide +kernel
theorem dX6_setOff_28 : decode cX6_setOff 28 = .ok (.iconst 1, 1) := by decide +kernel
theorem dX6_setOff_29 : decode cX6_setOff 29 = .ok (.if_icmp .lt 10, 3) := by decide +kernel
theorem dX6_setOff_32 : decode cX6_setOff 32 = .ok (.iload_n 3, 1) := by decide +kernel
theorem dX6_setOff_33 : decode cX6_setOff 33 = .ok (.sipush 200, 3) := by decide +kernel
theorem dX6_setOff_36 : decode cX6_setOff 36 = .ok (.if_icmp .le 6, 3) := by decide +kernel
theorem dX6_setOff_39 : decode cX6_setOff 39 = .ok (.ldc 55, 2) := by decide +kernel
theorem dX6_setOff_41 : decode cX6_setOff 41 = .ok (.ireturn, 1) := by decide +kernel
theorem dX6_setOff_42 : decode cX6_setOff 42 = .ok (.aload_n 0, 1) := by decide +kernel
theorem dX6_setOff_43 : decode cX6_setOff 43 = .ok (.getfield 19, 3) := by decide +kernel
theorem dX6_setOff_46 : decode cX6_setOff 46 = .ok (.aload_n 0, 1) := by decide +kernel
theorem dX6_setOff_47 : decode cX6_setOff 47 = .ok (.getfield 12, 3) := by decide +kernel
theorem dX6_setOff_50 : decode cX6_setOff 50 = .ok (.invokevirtual 159, 3) := by decide +kernel
theorem dX6_setOff_53 : decode cX6_setOff 53 = .ok (.iconst 0, 1) := by decide +kernel
theorem dX6_setOff_54 : decode cX6_setOff 54 = .ok (.istore 4, 2) := by decide +kernel
theorem dX6_setOff_56 : decode cX6_setOff 56 = .ok (.iconst 0, 1) := by decide +kernel
theorem dX6_setOff_57 : decode cX6_setOff 57 = .ok (.istore 5, 2) := by decide +kernel
theorem dX6_setOff_59 : decode cX6_setOff 59 = .ok (.iload 5, 2) := by decide +kernel
theorem dX6_setOff_61 : decode cX6_setOff 61 = .ok (.iload_n 3, 1) := by decide +kernel
theorem dX6_setOff_62 : decode cX6_setOff 62 = .ok (.if_icmp .ge 46, 3) := by decide +kernel
theorem dX6_setOff_65 : decode cX6_setOff 65 = .ok (.aload_n 0, 1) := by decide +kernel
theorem dX6_setOff_66 : decode cX6_setOff 66 = .ok (.getfield 19, 3) := by decide +kernel
theorem dX6_setOff_69 : decode cX6_setOff 69 = .ok (.iload_n 2, 1) := by decide +kernel
theorem dX6_setOff_70 : decode cX6_setOff 70 = .ok (.invokevirtual 180, 3) := by decide +kernel
theorem dX6_setOff_73 : decode cX6_setOff 73 = .ok (.istore 6, 2) := by decide +kernel
theorem dX6_setOff_75 : decode cX6_setOff 75 = .ok (.aload_n 0, 1) := by decide +kernel
theorem dX6_setOff_76 : decode cX6_setOff 76 = .ok (.getfield 19, 3) := by decide +kernel
theorem dX6_setOff_79 : decode cX6_setOff 79 = .ok (.invokevirtual 172, 3) := by decide +kernel
theorem dX6_setOff_82 : decode cX6_setOff 82 = .ok (.pop, 1) := by decide +kernel
theorem dX6_setOff_83 : decode cX6_setOff 83 = .ok (.iload 6, 2) := by decide +kernel
theorem dX6_setOff_85 : decode cX6_setOff 85 = .ok (.ifCond .eq 17, 3) := by decide +kernel
theorem dX6_setOff_88 : decode cX6_setOff 88 = .ok (.aload_n 0, 1) := by decide +kernel
theorem dX6_setOff_89 : decode cX6_setOff 89 = .ok (.getfield 19, 3) := by decide +kernel
theorem dX6_setOff_92 : decode cX6_setOff 92 = .ok (.iload_n 1, 1) := by decide +kernel
theorem dX6_setOff_93 : decode cX6_setOff 93 = .ok (.invokevirtual 180, 3) := by decide +kernel
theorem dX6_setOff_96 : decode cX6_setOff 96 = .ok (.ifCond .eq 6, 3) := by decide +kernel
theorem dX6_setOff_99 : decode cX6_setOff 99 = .ok (.iinc 4 1, 3) := by decide +kernel
theorem dX6_setOff_102 : decode cX6_setOff 102 = .ok (.iinc 5 1, 3) := by decide +kernel
theorem dX6_setOff_105 : decode cX6_setOff 105 = .ok (.goto (-46), 3) := by decide +kernel
theorem dX6_setOff_108 : decode cX6_setOff 108 = .ok (.iload 4, 2) := by decide +kernel
theorem dX6_setOff_110 : decode cX6_setOff 110 = .ok (.ireturn, 1) := by decide +kernel
theorem dX6_loudest_0 : decode cX6_loudest 0 = .ok (.ldc 125, 2) := by decide +kernel
theorem dX6_loudest_2 : decode cX6_loudest 2 = .ok (.istore_n 1, 1) := by decide +kernel
theorem dX6_loudest_3 : decode cX6_loudest 3 = .ok (.iconst (-1), 1) := by decide +kernel
theorem dX6_loudest_4 : decode cX6_loudest 4 = .ok (.istore_n 2, 1) := by decide +kernel
theorem dX6_loudest_5 : decode cX6_loudest 5 = .ok (.iconst 0, 1) := by decide +kernel
theorem dX6_loudest_6 : decode cX6_loudest 6 = .ok (.istore_n 3, 1) := by decide +kernel
theorem dX6_loudest_7 : decode cX6_loudest 7 = .ok (.iload_n 3, 1) := by decide +kernel
theorem dX6_loudest_8 : decode cX6_loudest 8 = .ok (.aload_n 0, 1) := by decide +kernel
theorem dX6_loudest_9 : decode cX6_loudest 9 = .ok (.getfield 12, 3) := by decide +kernel
theorem dX6_loudest_12 : decode cX6_loudest 12 = .ok (.getfield 61, 3) := by decide +kernel
theorem dX6_loudest_15 : decode cX6_loudest 15 = .ok (.if_icmp .ge 40, 3) := by decide +kernel
theorem dX6_loudest_18 : decode cX6_loudest 18 = .ok (.aload_n 0, 1) := by decide +kernel
theorem dX6_loudest_19 : decode cX6_loudest 19 = .ok (.getfield 12, 3) := by decide +kernel
theorem dX6_loudest_22 : decode cX6_loudest 22 = .ok (.getfield 74, 3) := by decide +kernel
theorem dX6_loudest_25 : decode cX6_loudest 25 = .ok (.iload_n 3, 1) := by decide +kernel
theorem dX6_loudest_26 : decode cX6_loudest 26 = .ok (.aaload, 1) := by decide +kernel
theorem dX6_loudest_27 : decode cX6_loudest 27 = .ok (.getfield 95, 3) := by decide +kernel
theorem dX6_loudest_30 : decode cX6_loudest 30 = .ok (.iload_n 2, 1) := by decide +kernel
theorem dX6_loudest_31 : decode cX6_loudest 31 = .ok (.if_icmp .le 18, 3) := by decide +kernel
theorem dX6_loudest_34 : decode cX6_loudest 34 = .ok (.aload_n 0, 1) := by decide +kernel
theorem dX6_loudest_35 : decode cX6_loudest 35 = .ok (.getfield 12, 3) := by decide +kernel
theorem dX6_loudest_38 : decode cX6_loudest 38 = .ok (.getfield 74, 3) := by decide +kernel
theorem dX6_loudest_41 : decode cX6_loudest 41 = .ok (.iload_n 3, 1) := by decide +kernel
theorem dX6_loudest_42 : decode cX6_loudest 42 = .ok (.aaload, 1) := by decide +kernel
theorem dX6_loudest_43 : decode cX6_loudest 43 = .ok (.getfield 95, 3) := by decide +kernel
theorem dX6_loudest_46 : decode cX6_loudest 46 = .ok (.istore_n 2, 1) := by decide +kernel
theorem dX6_loudest_47 : decode cX6_loudest 47 = .ok (.iload_n 3, 1) := by decide +kernel
theorem dX6_loudest_48 : decode cX6_loudest 48 = .ok (.istore_n 1, 1) := by decide +kernel
theorem dX6_loudest_49 : decode cX6_loudest 49 = .ok (.iinc 3 1, 3) := by decide +kernel
theorem dX6_loudest_52 : decode cX6_loudest 52 = .ok (.goto (-45), 3) := by decide +kernel
theorem dX6_loudest_55 : decode cX6_loudest 55 = .ok (.iload_n 1, 1) := by decide +kernel
theorem dX6_loudest_56 : decode cX6_loudest 56 = .ok (.ireturn, 1) := by decide +kernel
theorem dX6_toldBy_0 : decode cX6_toldBy 0 = .ok (.iload_n 1, 1) := by decide +kernel
theorem dX6_toldBy_1 : decode cX6_toldBy 1 = .ok (.iconst 4, 1) := by decide +kernel
theorem dX6_toldBy_2 : decode cX6_toldBy 2 = .ok (.invokestatic 51, 3) := by decide +kernel
theorem dX6_toldBy_5 : decode cX6_toldBy 5 = .ok (.ifCond .eq 23, 3) := by decide +kernel
theorem dX6_toldBy_8 : decode cX6_toldBy 8 = .ok (.aload_n 0, 1) := by decide +kernel
theorem dX6_toldBy_9 : decode cX6_toldBy 9 = .ok (.getfield 12, 3) := by decide +kernel
theorem dX6_toldBy_12 : decode cX6_toldBy 12 = .ok (.iload_n 2, 1) := by decide +kernel
theorem dX6_toldBy_13 : decode cX6_toldBy 13 = .ok (.invokevirtual 70, 3) := by decide +kernel
theorem dX6_toldBy_16 : decode cX6_toldBy 16 = .ok (.ifCond .eq 12, 3) := by decide +kernel
theorem dX6_toldBy_19 : decode cX6_toldBy 19 = .ok (.iload_n 3, 1) := by decide +kernel
theorem dX6_toldBy_20 : decode cX6_toldBy 20 = .ok (.ifCond .lt 8, 3) := by decide +kernel
theorem dX6_toldBy_23 : decode cX6_toldBy 23 = .ok (.iload_n 3, 1) := by decide +kernel
theorem dX6_toldBy_24 : decode cX6_toldBy 24 = .ok (.iconst 1, 1) := by decide +kernel
theorem dX6_toldBy_25 : decode cX6_toldBy 25 = .ok (.if_icmp .le 6, 3) := by decide +kernel
theorem dX6_toldBy_28 : decode cX6_toldBy 28 = .ok (.ldc 55, 2) := by decide +kernel
theorem dX6_toldBy_30 : decode cX6_toldBy 30 = .ok (.ireturn, 1) := by decide +kernel
theorem dX6_toldBy_31 : decode cX6_toldBy 31 = .ok (.aload_n 0, 1) := by decide +kernel
theorem dX6_toldBy_32 : decode cX6_toldBy 32 = .ok (.getfield 31, 3) := by decide +kernel
theorem dX6_toldBy_35 : decode cX6_toldBy 35 = .ok (.iload_n 1, 1) := by decide +kernel
theorem dX6_toldBy_36 : decode cX6_toldBy 36 = .ok (.aaload, 1) := by decide +kernel
theorem dX6_toldBy_37 : decode cX6_toldBy 37 = .ok (.astore 4, 2) := by decide +kernel
theorem dX6_toldBy_39 : decode cX6_toldBy 39 = .ok (.aload 4, 2) := by decide +kernel
theorem dX6_toldBy_41 : decode cX6_toldBy 41 = .ok (.getfield 183, 3) := by decide +kernel
theorem dX6_toldBy_44 : decode cX6_toldBy 44 = .ok (.iconst (-1), 1) := by decide +kernel
theorem dX6_toldBy_45 : decode cX6_toldBy 45 = .ok (.if_icmp .ne 6, 3) := by decide +kernel
theorem dX6_toldBy_48 : decode cX6_toldBy 48 = .ok (.ldc 186, 2) := by decide +kernel
theorem dX6_toldBy_50 : decode cX6_toldBy 50 = .ok (.ireturn, 1) := by decide +kernel
theorem dX6_toldBy_51 : decode cX6_toldBy 51 = .ok (.iconst 0, 1) := by decide +kernel
theorem dX6_toldBy_52 : decode cX6_toldBy 52 = .ok (.istore 5, 2) := by decide +kernel
theorem dX6_toldBy_54 : decode cX6_toldBy 54 = .ok (.ldc 175, 2) := by decide +kernel
theorem dX6_toldBy_56 : decode cX6_toldBy 56 = .ok (.istore 6, 2) := by decide +kernel
theorem dX6_toldBy_58 : decode cX6_toldBy 58 = .ok (.iconst 0, 1) := by decide +kernel
theorem dX6_toldBy_59 : decode cX6_toldBy 59 = .ok (.istore 7, 2) := by decide +kernel
theorem dX6_toldBy_61 : decode cX6_toldBy 61 = .ok (.iload 7, 2) := by decide +kernel
theorem dX6_toldBy_63 : decode cX6_toldBy 63 = .ok (.bipush 6, 2) := by decide +kernel
theorem dX6_toldBy_65 : decode cX6_toldBy 65 = .ok (.if_icmp .ge 35, 3) := by decide +kernel
theorem dX6_toldBy_68 : decode cX6_toldBy 68 = .ok (.aload_n 0, 1) := by decide +kernel
theorem dX6_toldBy_69 : decode cX6_toldBy 69 = .ok (.aload 4, 2) := by decide +kernel
theorem dX6_toldBy_71 : decode cX6_toldBy 71 = .ok (.iload_n 2, 1) := by decide +kernel
theorem dX6_toldBy_72 : decode cX6_toldBy 72 = .ok (.iload 7, 2) := by decide +kernel
theorem dX6_toldBy_74 : decode cX6_toldBy 74 = .ok (.invokevirtual 187, 3) := by decide +kernel
theorem dX6_toldBy_77 : decode cX6_toldBy 77 = .ok (.istore 8, 2) := by decide +kernel
theorem dX6_toldBy_79 : decode cX6_toldBy 79 = .ok (.iload 8, 2) := by decide +kernel
theorem dX6_toldBy_81 : decode cX6_toldBy 81 = .ok (.iload 6, 2) := by decide +kernel
theorem dX6_toldBy_83 : decode cX6_toldBy 83 = .ok (.if_icmp .ge 11, 3) := by decide +kernel
theorem dX6_toldBy_86 : decode cX6_toldBy 86 = .ok (.iload 8, 2) := by decide +kernel
theorem dX6_toldBy_88 : decode cX6_toldBy 88 = .ok (.istore 6, 2) := by decide +kernel
theorem dX6_toldBy_90 : decode cX6_toldBy 90 = .ok (.iload 7, 2) := by decide +kernel
theorem dX6_toldBy_92 : decode cX6_toldBy 92 = .ok (.istore 5, 2) := by decide +kernel
theorem dX6_toldBy_94 : decode cX6_toldBy 94 = .ok (.iinc 7 1, 3) := by decide +kernel
theorem dX6_toldBy_97 : decode cX6_toldBy 97 = .ok (.goto (-36), 3) := by decide +kernel
theorem dX6_toldBy_100 : decode cX6_toldBy 100 = .ok (.iload_n 3, 1) := by decide +kernel
theorem dX6_toldBy_101 : decode cX6_toldBy 101 = .ok (.ifCond .ne 8, 3) := by decide +kernel
theorem dX6_toldBy_104 : decode cX6_toldBy 104 = .ok (.iload 5, 2) := by decide +kernel
theorem dX6_toldBy_106 : decode cX6_toldBy 106 = .ok (.goto 5, 3) := by decide +kernel
theorem dX6_toldBy_109 : decode cX6_toldBy 109 = .ok (.iload 6, 2) := by decide +kernel
theorem dX6_toldBy_111 : decode cX6_toldBy 111 = .ok (.ireturn, 1) := by decide +kernel
theorem dX6_fine_0 : decode cX6_fine 0 = .ok (.aload_n 0, 1) := by decide +kernel
theorem dX6_fine_1 : decode cX6_fine 1 = .ok (.getfield 12, 3) := by decide +kernel
theorem dX6_fine_4 : decode cX6_fine 4 = .ok (.iload_n 1, 1) := by decide +kernel
theorem dX6_fine_5 : decode cX6_fine 5 = .ok (.invokevirtual 70, 3) := by decide +kernel
theorem dX6_fine_8 : decode cX6_fine 8 = .ok (.ifCond .eq 22, 3) := by decide +kernel
theorem dX6_fine_11 : decode cX6_fine 11 = .ok (.aload_n 0, 1) := by decide +kernel
theorem dX6_fine_12 : decode cX6_fine 12 = .ok (.getfield 12, 3) := by decide +kernel
theorem dX6_fine_15 : decode cX6_fine 15 = .ok (.aload_n 0, 1) := by decide +kernel
theorem dX6_fine_16 : decode cX6_fine 16 = .ok (.getfield 12, 3) := by decide +kernel
theorem dX6_fine_19 : decode cX6_fine 19 = .ok (.getfield 74, 3) := by decide +kernel
theorem dX6_fine_22 : decode cX6_fine 22 = .ok (.iload_n 1, 1) := by decide +kernel
theorem dX6_fine_23 : decode cX6_fine 23 = .ok (.aaload, 1) := by decide +kernel
theorem dX6_fine_24 : decode cX6_fine 24 = .ok (.invokevirtual 191, 3) := by decide +kernel
theorem dX6_fine_27 : decode cX6_fine 27 = .ok (.goto 5, 3) := by decide +kernel
theorem dX6_fine_30 : decode cX6_fine 30 = .ok (.ldc 55, 2) := by decide +kernel
theorem dX6_fine_32 : decode cX6_fine 32 = .ok (.ireturn, 1) := by decide +kernel
theorem dX6_feed_0 : decode cX6_feed 0 = .ok (.aload_n 0, 1) := by decide +kernel
theorem dX6_feed_1 : decode cX6_feed 1 = .ok (.getfield 194, 3) := by decide +kernel
theorem dX6_feed_4 : decode cX6_feed 4 = .ok (.bipush 12, 2) := by decide +kernel
theorem dX6_feed_6 : decode cX6_feed 6 = .ok (.iadd, 1) := by decide +kernel
theorem dX6_feed_7 : decode cX6_feed 7 = .ok (.bipush 96, 2) := by decide +kernel
theorem dX6_feed_9 : decode cX6_feed 9 = .ok (.if_icmp .le 6, 3) := by decide +kernel
theorem dX6_feed_12 : decode cX6_feed 12 = .ok (.ldc 65, 2) := by decide +kernel
theorem dX6_feed_14 : decode cX6_feed 14 = .ok (.ireturn, 1) := by decide +kernel
theorem dX6_feed_15 : decode cX6_feed 15 = .ok (.aload_n 0, 1) := by decide +kernel
theorem dX6_feed_16 : decode cX6_feed 16 = .ok (.iload_n 1, 1) := by decide +kernel
theorem dX6_feed_17 : decode cX6_feed 17 = .ok (.invokevirtual 197, 3) := by decide +kernel
theorem dX6_feed_20 : decode cX6_feed 20 = .ok (.aload_n 0, 1) := by decide +kernel
theorem dX6_feed_21 : decode cX6_feed 21 = .ok (.iload_n 2, 1) := by decide +kernel
theorem dX6_feed_22 : decode cX6_feed 22 = .ok (.invokevirtual 197, 3) := by decide +kernel
theorem dX6_feed_25 : decode cX6_feed 25 = .ok (.aload_n 0, 1) := by decide +kernel
theorem dX6_feed_26 : decode cX6_feed 26 = .ok (.iload_n 3, 1) := by decide +kernel
theorem dX6_feed_27 : decode cX6_feed 27 = .ok (.invokevirtual 197, 3) := by decide +kernel
theorem dX6_feed_30 : decode cX6_feed 30 = .ok (.aload_n 0, 1) := by decide +kernel
theorem dX6_feed_31 : decode cX6_feed 31 = .ok (.getfield 194, 3) := by decide +kernel
theorem dX6_feed_34 : decode cX6_feed 34 = .ok (.ireturn, 1) := by decide +kernel
theorem dX6_trim_0 : decode cX6_trim 0 = .ok (.iload_n 1, 1) := by decide +kernel
theorem dX6_trim_1 : decode cX6_trim 1 = .ok (.ifCond .lt 11, 3) := by decide +kernel
theorem dX6_trim_4 : decode cX6_trim 4 = .ok (.iload_n 1, 1) := by decide +kernel
theorem dX6_trim_5 : decode cX6_trim 5 = .ok (.aload_n 0, 1) := by decide +kernel
theorem dX6_trim_6 : decode cX6_trim 6 = .ok (.getfield 194, 3) := by decide +kernel
theorem dX6_trim_9 : decode cX6_trim 9 = .ok (.if_icmp .le 6, 3) := by decide +kernel
theorem dX6_trim_12 : decode cX6_trim 12 = .ok (.ldc 55, 2) := by decide +kernel
theorem dX6_trim_14 : decode cX6_trim 14 = .ok (.ireturn, 1) := by decide +kernel
theorem dX6_trim_15 : decode cX6_trim 15 = .ok (.aload_n 0, 1) := by decide +kernel
theorem dX6_trim_16 : decode cX6_trim 16 = .ok (.iload_n 1, 1) := by decide +kernel
theorem dX6_trim_17 : decode cX6_trim 17 = .ok (.putfield 194, 3) := by decide +kernel
theorem dX6_trim_20 : decode cX6_trim 20 = .ok (.iload_n 1, 1) := by decide +kernel
theorem dX6_trim_21 : decode cX6_trim 21 = .ok (.ireturn, 1) := by decide +kernel
theorem dX6_text_0 : decode cX6_text 0 = .ok (.aload_n 0, 1) := by decide +kernel
theorem dX6_text_1 : decode cX6_text 1 = .ok (.getfield 25, 3) := by decide +kernel
theorem dX6_text_4 : decode cX6_text 4 = .ok (.aload_n 0, 1) := by decide +kernel
theorem dX6_text_5 : decode cX6_text 5 = .ok (.getfield 41, 3) := by decide +kernel
theorem dX6_text_8 : decode cX6_text 8 = .ok (.aload_n 0, 1) := by decide +kernel
theorem dX6_text_9 : decode cX6_text 9 = .ok (.getfield 194, 3) := by decide +kernel
theorem dX6_text_12 : decode cX6_text 12 = .ok (.invokevirtual 201, 3) := by decide +kernel
theorem dX6_text_15 : decode cX6_text 15 = .ok (.astore_n 1, 1) := by decide +kernel
theorem dX6_text_16 : decode cX6_text 16 = .ok (.aload_n 0, 1) := by decide +kernel
theorem dX6_text_17 : decode cX6_text 17 = .ok (.iconst 0, 1) := by decide +kernel
theorem dX6_text_18 : decode cX6_text 18 = .ok (.putfield 194, 3) := by decide +kernel
theorem dX6_text_21 : decode cX6_text 21 = .ok (.aload_n 1, 1) := by decide +kernel
theorem dX6_text_22 : decode cX6_text 22 = .ok (.ifnonnull 14, 3) := by decide +kernel
theorem dX6_text_25 : decode cX6_text 25 = .ok (.bipush (-100), 2) := by decide +kernel
theorem dX6_text_27 : decode cX6_text 27 = .ok (.aload_n 0, 1) := by decide +kernel
theorem dX6_text_28 : decode cX6_text 28 = .ok (.getfield 25, 3) := by decide +kernel
theorem dX6_text_31 : decode cX6_text 31 = .ok (.getfield 205, 3) := by decide +kernel
theorem dX6_text_34 : decode cX6_text 34 = .ok (.isub, 1) := by decide +kernel
theorem dX6_text_35 : decode cX6_text 35 = .ok (.ireturn, 1) := by decide +kernel
theorem dX6_text_36 : decode cX6_text 36 = .ok (.aload_n 0, 1) := by decide +kernel
theorem dX6_text_37 : decode cX6_text 37 = .ok (.getfield 12, 3) := by decide +kernel
theorem dX6_text_40 : decode cX6_text 40 = .ok (.getfield 208, 3) := by decide +kernel
theorem dX6_text_43 : decode cX6_text 43 = .ok (.bipush 14, 2) := by decide +kernel
theorem dX6_text_45 : decode cX6_text 45 = .ok (.if_icmp .lt 8, 3) := by decide +kernel
theorem dX6_text_48 : decode cX6_text 48 = .ok (.ldc 65, 2) := by decide +kernel
theorem dX6_text_50 : decode cX6_text 50 = .ok (.goto 11, 3) := by decide +kernel
theorem dX6_text_53 : decode cX6_text 53 = .ok (.aload_n 0, 1) := by decide +kernel
theorem dX6_text_54 : decode cX6_text 54 = .ok (.getfield 12, 3) := by decide +kernel
theorem dX6_text_57 : decode cX6_text 57 = .ok (.aload_n 1, 1) := by decide +kernel
theorem dX6_text_58 : decode cX6_text 58 = .ok (.invokevirtual 211, 3) := by decide +kernel
theorem dX6_text_61 : decode cX6_text 61 = .ok (.ireturn, 1) := by decide +kernel
theorem dX6_textTold_0 : decode cX6_textTold 0 = .ok (.aload_n 0, 1) := by decide +kernel
theorem dX6_textTold_1 : decode cX6_textTold 1 = .ok (.getfield 12, 3) := by decide +kernel
theorem dX6_textTold_4 : decode cX6_textTold 4 = .ok (.iload_n 1, 1) := by decide +kernel
theorem dX6_textTold_5 : decode cX6_textTold 5 = .ok (.invokevirtual 215, 3) := by decide +kernel
theorem dX6_textTold_8 : decode cX6_textTold 8 = .ok (.astore_n 3, 1) := by decide +kernel
theorem dX6_textTold_9 : decode cX6_textTold 9 = .ok (.aload_n 3, 1) := by decide +kernel
theorem dX6_textTold_10 : decode cX6_textTold 10 = .ok (.ifnull 12, 3) := by decide +kernel
theorem dX6_textTold_13 : decode cX6_textTold 13 = .ok (.iload_n 2, 1) := by decide +kernel
theorem dX6_textTold_14 : decode cX6_textTold 14 = .ok (.ifCond .lt 8, 3) := by decide +kernel
theorem dX6_textTold_17 : decode cX6_textTold 17 = .ok (.iload_n 2, 1) := by decide +kernel
theorem dX6_textTold_18 : decode cX6_textTold 18 = .ok (.iconst 1, 1) := by decide +kernel
theorem dX6_textTold_19 : decode cX6_textTold 19 = .ok (.if_icmp .le 6, 3) := by decide +kernel
theorem dX6_textTold_22 : decode cX6_textTold 22 = .ok (.ldc 55, 2) := by decide +kernel
theorem dX6_textTold_24 : decode cX6_textTold 24 = .ok (.ireturn, 1) := by decide +kernel
theorem dX6_textTold_25 : decode cX6_textTold 25 = .ok (.iload_n 2, 1) := by decide +kernel
theorem dX6_textTold_26 : decode cX6_textTold 26 = .ok (.ifCond .ne 10, 3) := by decide +kernel
theorem dX6_textTold_29 : decode cX6_textTold 29 = .ok (.aload_n 3, 1) := by decide +kernel
theorem dX6_textTold_30 : decode cX6_textTold 30 = .ok (.getfield 219, 3) := by decide +kernel
theorem dX6_textTold_33 : decode cX6_textTold 33 = .ok (.goto 7, 3) := by decide +kernel
theorem dX6_textTold_36 : decode cX6_textTold 36 = .ok (.aload_n 3, 1) := by decide +kernel
theorem dX6_textTold_37 : decode cX6_textTold 37 = .ok (.getfield 224, 3) := by decide +kernel
theorem dX6_textTold_40 : decode cX6_textTold 40 = .ok (.ireturn, 1) := by decide +kernel
theorem dX6_why_0 : decode cX6_why 0 = .ok (.iload_n 1, 1) := by decide +kernel
theorem dX6_why_1 : decode cX6_why 1 = .ok (.iconst 3, 1) := by decide +kernel
theorem dX6_why_2 : decode cX6_why 2 = .ok (.invokestatic 51, 3) := by decide +kernel
theorem dX6_why_5 : decode cX6_why 5 = .ok (.ifCond .ne 6, 3) := by decide +kernel
theorem dX6_why_8 : decode cX6_why 8 = .ok (.ldc 55, 2) := by decide +kernel
theorem dX6_why_10 : decode cX6_why 10 = .ok (.ireturn, 1) := by decide +kernel
theorem dX6_why_11 : decode cX6_why 11 = .ok (.aload_n 0, 1) := by decide +kernel
theorem dX6_why_12 : decode cX6_why 12 = .ok (.getfield 12, 3) := by decide +kernel
theorem dX6_why_15 : decode cX6_why 15 = .ok (.getfield 227, 3) := by decide +kernel
theorem dX6_why_18 : decode cX6_why 18 = .ok (.iload_n 1, 1) := by decide +kernel
theorem dX6_why_19 : decode cX6_why 19 = .ok (.iaload, 1) := by decide +kernel
theorem dX6_why_20 : decode cX6_why 20 = .ok (.ifCond .ge 8, 3) := by decide +kernel
theorem dX6_why_23 : decode cX6_why 23 = .ok (.ldc 125, 2) := by decide +kernel
theorem dX6_why_25 : decode cX6_why 25 = .ok (.goto 12, 3) := by decide +kernel
theorem dX6_why_28 : decode cX6_why 28 = .ok (.aload_n 0, 1) := by decide +kernel
theorem dX6_why_29 : decode cX6_why 29 = .ok (.getfield 12, 3) := by decide +kernel
theorem dX6_why_32 : decode cX6_why 32 = .ok (.getfield 227, 3) := by decide +kernel
theorem dX6_why_35 : decode cX6_why 35 = .ok (.iload_n 1, 1) := by decide +kernel
theorem dX6_why_36 : decode cX6_why 36 = .ok (.iaload, 1) := by decide +kernel
theorem dX6_why_37 : decode cX6_why 37 = .ok (.ireturn, 1) := by decide +kernel
theorem dX6_sheet_0 : decode cX6_sheet 0 = .ok (.iload_n 1, 1) := by decide +kernel
theorem dX6_sheet_1 : decode cX6_sheet 1 = .ok (.iconst 4, 1) := by decide +kernel
theorem dX6_sheet_2 : decode cX6_sheet 2 = .ok (.invokestatic 51, 3) := by decide +kernel
theorem dX6_sheet_5 : decode cX6_sheet 5 = .ok (.ifCond .eq 13, 3) := by decide +kernel
theorem dX6_sheet_8 : decode cX6_sheet 8 = .ok (.iload_n 2, 1) := by decide +kernel
theorem dX6_sheet_9 : decode cX6_sheet 9 = .ok (.iconst (-1), 1) := by decide +kernel
theorem dX6_sheet_10 : decode cX6_sheet 10 = .ok (.if_icmp .lt 8, 3) := by decide +kernel
theorem dX6_sheet_13 : decode cX6_sheet 13 = .ok (.iload_n 2, 1) := by decide +kernel
theorem dX6_sheet_14 : decode cX6_sheet 14 = .ok (.iconst 1, 1) := by decide +kernel
theorem dX6_sheet_15 : decode cX6_sheet 15 = .ok (.if_icmp .le 6, 3) := by decide +kernel
theorem dX6_sheet_18 : decode cX6_sheet 18 = .ok (.ldc 55, 2) := by decide +kernel
theorem dX6_sheet_20 : decode cX6_sheet 20 = .ok (.ireturn, 1) := by decide +kernel
theorem dX6_sheet_21 : decode cX6_sheet 21 = .ok (.iload_n 2, 1) := by decide +kernel
theorem dX6_sheet_22 : decode cX6_sheet 22 = .ok (.iconst (-1), 1) := by decide +kernel
theorem dX6_sheet_23 : decode cX6_sheet 23 = .ok (.if_icmp .ne 16, 3) := by decide +kernel
theorem dX6_sheet_26 : decode cX6_sheet 26 = .ok (.aload_n 0, 1) := by decide +kernel
theorem dX6_sheet_27 : decode cX6_sheet 27 = .ok (.getfield 31, 3) := by decide +kernel
theorem dX6_sheet_30 : decode cX6_sheet 30 = .ok (.iload_n 1, 1) := by decide +kernel
theorem dX6_sheet_31 : decode cX6_sheet 31 = .ok (.aaload, 1) := by decide +kernel
theorem dX6_sheet_32 : decode cX6_sheet 32 = .ok (.iconst (-1), 1) := by decide +kernel
theorem dX6_sheet_33 : decode cX6_sheet 33 = .ok (.iconst 0, 1) := by decide +kernel
theorem dX6_sheet_34 : decode cX6_sheet 34 = .ok (.invokevirtual 230, 3) := by decide +kernel
theorem dX6_sheet_37 : decode cX6_sheet 37 = .ok (.iconst 0, 1) := by decide +kernel
theorem dX6_sheet_38 : decode cX6_sheet 38 = .ok (.ireturn, 1) := by decide +kernel
theorem dX6_sheet_39 : decode cX6_sheet 39 = .ok (.iload_n 3, 1) := by decide +kernel
theorem dX6_sheet_40 : decode cX6_sheet 40 = .ok (.bipush 24, 2) := by decide +kernel
theorem dX6_sheet_42 : decode cX6_sheet 42 = .ok (.if_icmp .le 6, 3) := by decide +kernel
theorem dX6_sheet_45 : decode cX6_sheet 45 = .ok (.ldc 55, 2) := by decide +kernel
theorem dX6_sheet_47 : decode cX6_sheet 47 = .ok (.ireturn, 1) := by decide +kernel
theorem dX6_sheet_48 : decode cX6_sheet 48 = .ok (.iload_n 3, 1) := by decide +kernel
theorem dX6_sheet_49 : decode cX6_sheet 49 = .ok (.ifCond .ge 6, 3) := by decide +kernel
theorem dX6_sheet_52 : decode cX6_sheet 52 = .ok (.ldc 233, 2) := by decide +kernel
theorem dX6_sheet_54 : decode cX6_sheet 54 = .ok (.ireturn, 1) := by decide +kernel
theorem dX6_sheet_55 : decode cX6_sheet 55 = .ok (.aload_n 0, 1) := by decide +kernel
theorem dX6_sheet_56 : decode cX6_sheet 56 = .ok (.getfield 31, 3) := by decide +kernel
theorem dX6_sheet_59 : decode cX6_sheet 59 = .ok (.iload_n 1, 1) := by decide +kernel
theorem dX6_sheet_60 : decode cX6_sheet 60 = .ok (.aaload, 1) := by decide +kernel
theorem dX6_sheet_61 : decode cX6_sheet 61 = .ok (.iload_n 2, 1) := by decide +kernel
theorem dX6_sheet_62 : decode cX6_sheet 62 = .ok (.iload_n 3, 1) := by decide +kernel
theorem dX6_sheet_63 : decode cX6_sheet 63 = .ok (.invokevirtual 230, 3) := by decide +kernel
theorem dX6_sheet_66 : decode cX6_sheet 66 = .ok (.iload_n 3, 1) := by decide +kernel
theorem dX6_sheet_67 : decode cX6_sheet 67 = .ok (.ireturn, 1) := by decide +kernel
theorem dX6_mark_0 : decode cX6_mark 0 = .ok (.iload_n 1, 1) := by decide +kernel
theorem dX6_mark_1 : decode cX6_mark 1 = .ok (.iconst 4, 1) := by decide +kernel
theorem dX6_mark_2 : decode cX6_mark 2 = .ok (.invokestatic 51, 3) := by decide +kernel
theorem dX6_mark_5 : decode cX6_mark 5 = .ok (.ifCond .ne 6, 3) := by decide +kernel
theorem dX6_mark_8 : decode cX6_mark 8 = .ok (.ldc 55, 2) := by decide +kernel
theorem dX6_mark_10 : decode cX6_mark 10 = .ok (.ireturn, 1) := by decide +kernel
theorem dX6_mark_11 : decode cX6_mark 11 = .ok (.aload_n 0, 1) := by decide +kernel
theorem dX6_mark_12 : decode cX6_mark 12 = .ok (.getfield 31, 3) := by decide +kernel
theorem dX6_mark_15 : decode cX6_mark 15 = .ok (.iload_n 1, 1) := by decide +kernel
theorem dX6_mark_16 : decode cX6_mark 16 = .ok (.aaload, 1) := by decide +kernel
theorem dX6_mark_17 : decode cX6_mark 17 = .ok (.astore 4, 2) := by decide +kernel
theorem dX6_mark_19 : decode cX6_mark 19 = .ok (.aload 4, 2) := by decide +kernel
theorem dX6_mark_21 : decode cX6_mark 21 = .ok (.getfield 183, 3) := by decide +kernel
theorem dX6_mark_24 : decode cX6_mark 24 = .ok (.iconst (-1), 1) := by decide +kernel
theorem dX6_mark_25 : decode cX6_mark 25 = .ok (.if_icmp .ne 6, 3) := by decide +kernel
theorem dX6_mark_28 : decode cX6_mark 28 = .ok (.ldc 186, 2) := by decide +kernel
theorem dX6_mark_30 : decode cX6_mark 30 = .ok (.ireturn, 1) := by decide +kernel
theorem dX6_mark_31 : decode cX6_mark 31 = .ok (.iload_n 2, 1) := by decide +kernel
theorem dX6_mark_32 : decode cX6_mark 32 = .ok (.aload 4, 2) := by decide +kernel
theorem dX6_mark_34 : decode cX6_mark 34 = .ok (.getfield 234, 3) := by decide +kernel
theorem dX6_mark_37 : decode cX6_mark 37 = .ok (.invokestatic 51, 3) := by decide +kernel
theorem dX6_mark_40 : decode cX6_mark 40 = .ok (.ifCond .ne 6, 3) := by decide +kernel
theorem dX6_mark_43 : decode cX6_mark 43 = .ok (.ldc 235, 2) := by decide +kernel
theorem dX6_mark_45 : decode cX6_mark 45 = .ok (.ireturn, 1) := by decide +kernel
theorem dX6_mark_46 : decode cX6_mark 46 = .ok (.aload 4, 2) := by decide +kernel
theorem dX6_mark_48 : decode cX6_mark 48 = .ok (.getfield 183, 3) := by decide +kernel
theorem dX6_mark_51 : decode cX6_mark 51 = .ok (.ifCond .ne 23, 3) := by decide +kernel
theorem dX6_mark_54 : decode cX6_mark 54 = .ok (.iload_n 3, 1) := by decide +kernel
theorem dX6_mark_55 : decode cX6_mark 55 = .ok (.ldc 125, 2) := by decide +kernel
theorem dX6_mark_57 : decode cX6_mark 57 = .ok (.if_icmp .ne 6, 3) := by decide +kernel
theorem dX6_mark_60 : decode cX6_mark 60 = .ok (.ldc 115, 2) := by decide +kernel
theorem dX6_mark_62 : decode cX6_mark 62 = .ok (.ireturn, 1) := by decide +kernel
theorem dX6_mark_63 : decode cX6_mark 63 = .ok (.aload 4, 2) := by decide +kernel
theorem dX6_mark_65 : decode cX6_mark 65 = .ok (.getfield 236, 3) := by decide +kernel
theorem dX6_mark_68 : decode cX6_mark 68 = .ok (.iload_n 2, 1) := by decide +kernel
theorem dX6_mark_69 : decode cX6_mark 69 = .ok (.iload_n 3, 1) := by decide +kernel
theorem dX6_mark_70 : decode cX6_mark 70 = .ok (.i2s, 1) := by decide +kernel
theorem dX6_mark_71 : decode cX6_mark 71 = .ok (.iastore, 1) := by decide +kernel
theorem dX6_mark_72 : decode cX6_mark 72 = .ok (.iconst 1, 1) := by decide +kernel
theorem dX6_mark_73 : decode cX6_mark 73 = .ok (.ireturn, 1) := by decide +kernel
theorem dX6_mark_74 : decode cX6_mark 74 = .ok (.iload_n 3, 1) := by decide +kernel
theorem dX6_mark_75 : decode cX6_mark 75 = .ok (.ldc 125, 2) := by decide +kernel
theorem dX6_mark_77 : decode cX6_mark 77 = .ok (.if_icmp .eq 18, 3) := by decide +kernel
theorem dX6_mark_80 : decode cX6_mark 80 = .ok (.iload_n 3, 1) := by decide +kernel
theorem dX6_mark_81 : decode cX6_mark 81 = .ok (.ldc 239, 2) := by decide +kernel
theorem dX6_mark_83 : decode cX6_mark 83 = .ok (.if_icmp .lt 9, 3) := by decide +kernel
theorem dX6_mark_86 : decode cX6_mark 86 = .ok (.iload_n 3, 1) := by decide +kernel
theorem dX6_mark_87 : decode cX6_mark 87 = .ok (.ldc 240, 2) := by decide +kernel
theorem dX6_mark_89 : decode cX6_mark 89 = .ok (.if_icmp .le 6, 3) := by decide +kernel
theorem dX6_mark_92 : decode cX6_mark 92 = .ok (.ldc 55, 2) := by decide +kernel
theorem dX6_mark_94 : decode cX6_mark 94 = .ok (.ireturn, 1) := by decide +kernel
theorem dX6_mark_95 : decode cX6_mark 95 = .ok (.aload 4, 2) := by decide +kernel
theorem dX6_mark_97 : decode cX6_mark 97 = .ok (.getfield 236, 3) := by decide +kernel
theorem dX6_mark_100 : decode cX6_mark 100 = .ok (.iload_n 2, 1) := by decide +kernel
theorem dX6_mark_101 : decode cX6_mark 101 = .ok (.iload_n 3, 1) := by decide +kernel
theorem dX6_mark_102 : decode cX6_mark 102 = .ok (.ldc 125, 2) := by decide +kernel
theorem dX6_mark_104 : decode cX6_mark 104 = .ok (.if_icmp .ne 8, 3) := by decide +kernel
theorem dX6_mark_107 : decode cX6_mark 107 = .ok (.ldc 125, 2) := by decide +kernel
theorem dX6_mark_109 : decode cX6_mark 109 = .ok (.goto 4, 3) := by decide +kernel
theorem dX6_mark_112 : decode cX6_mark 112 = .ok (.iload_n 3, 1) := by decide +kernel
theorem dX6_mark_113 : decode cX6_mark 113 = .ok (.iastore, 1) := by decide +kernel
theorem dX6_mark_114 : decode cX6_mark 114 = .ok (.iconst 1, 1) := by decide +kernel
theorem dX6_mark_115 : decode cX6_mark 115 = .ok (.ireturn, 1) := by decide +kernel
theorem dX6_pour_0 : decode cX6_pour 0 = .ok (.iload_n 1, 1) := by decide +kernel
theorem dX6_pour_1 : decode cX6_pour 1 = .ok (.iconst 4, 1) := by decide +kernel
theorem dX6_pour_2 : decode cX6_pour 2 = .ok (.invokestatic 51, 3) := by decide +kernel
theorem dX6_pour_5 : decode cX6_pour 5 = .ok (.ifCond .ne 6, 3) := by decide +kernel
theorem dX6_pour_8 : decode cX6_pour 8 = .ok (.ldc 55, 2) := by decide +kernel
theorem dX6_pour_10 : decode cX6_pour 10 = .ok (.ireturn, 1) := by decide +kernel
theorem dX6_pour_11 : decode cX6_pour 11 = .ok (.aload_n 0, 1) := by decide +kernel
theorem dX6_pour_12 : decode cX6_pour 12 = .ok (.getfield 31, 3) := by decide +kernel
theorem dX6_pour_15 : decode cX6_pour 15 = .ok (.iload_n 1, 1) := by decide +kernel
theorem dX6_pour_16 : decode cX6_pour 16 = .ok (.aaload, 1) := by decide +kernel
theorem dX6_pour_17 : decode cX6_pour 17 = .ok (.astore_n 2, 1) := by decide +kernel
theorem dX6_pour_18 : decode cX6_pour 18 = .ok (.aload_n 2, 1) := by decide +kernel
theorem dX6_pour_19 : decode cX6_pour 19 = .ok (.getfield 183, 3) := by decide +kernel
theorem dX6_pour_22 : decode cX6_pour 22 = .ok (.iconst (-1), 1) := by decide +kernel
theorem dX6_pour_23 : decode cX6_pour 23 = .ok (.if_icmp .ne 6, 3) := by decide +kernel
theorem dX6_pour_26 : decode cX6_pour 26 = .ok (.ldc 186, 2) := by decide +kernel
theorem dX6_pour_28 : decode cX6_pour 28 = .ok (.ireturn, 1) := by decide +kernel
theorem dX6_pour_29 : decode cX6_pour 29 = .ok (.iconst 0, 1) := by decide +kernel
theorem dX6_pour_30 : decode cX6_pour 30 = .ok (.istore_n 3, 1) := by decide +kernel
theorem dX6_pour_31 : decode cX6_pour 31 = .ok (.iconst 0, 1) := by decide +kernel
theorem dX6_pour_32 : decode cX6_pour 32 = .ok (.istore 4, 2) := by decide +kernel
theorem dX6_pour_34 : decode cX6_pour 34 = .ok (.iload 4, 2) := by decide +kernel
theorem dX6_pour_36 : decode cX6_pour 36 = .ok (.aload_n 2, 1) := by decide +kernel
theorem dX6_pour_37 : decode cX6_pour 37 = .ok (.getfield 234, 3) := by decide +kernel
theorem dX6_pour_40 : decode cX6_pour 40 = .ok (.if_icmp .ge 87, 3) := by decide +kernel
theorem dX6_pour_43 : decode cX6_pour 43 = .ok (.iload 4, 2) := by decide +kernel
theorem dX6_pour_45 : decode cX6_pour 45 = .ok (.aload_n 0, 1) := by decide +kernel
theorem dX6_pour_46 : decode cX6_pour 46 = .ok (.getfield 12, 3) := by decide +kernel
theorem dX6_pour_49 : decode cX6_pour 49 = .ok (.getfield 144, 3) := by decide +kernel
theorem dX6_pour_52 : decode cX6_pour 52 = .ok (.if_icmp .ge 75, 3) := by decide +kernel
theorem dX6_pour_55 : decode cX6_pour 55 = .ok (.aload_n 2, 1) := by decide +kernel
theorem dX6_pour_56 : decode cX6_pour 56 = .ok (.iload 4, 2) := by decide +kernel
theorem dX6_pour_58 : decode cX6_pour 58 = .ok (.invokevirtual 241, 3) := by decide +kernel
theorem dX6_pour_61 : decode cX6_pour 61 = .ok (.ifCond .eq 18, 3) := by decide +kernel
theorem dX6_pour_64 : decode cX6_pour 64 = .ok (.aload_n 2, 1) := by decide +kernel
theorem dX6_pour_65 : decode cX6_pour 65 = .ok (.getfield 236, 3) := by decide +kernel
theorem dX6_pour_68 : decode cX6_pour 68 = .ok (.iload 4, 2) := by decide +kernel
theorem dX6_pour_70 : decode cX6_pour 70 = .ok (.iaload, 1) := by decide +kernel
theorem dX6_pour_71 : decode cX6_pour 71 = .ok (.bipush 99, 2) := by decide +kernel
theorem dX6_pour_73 : decode cX6_pour 73 = .ok (.invokestatic 244, 3) := by decide +kernel
theorem dX6_pour_76 : decode cX6_pour 76 = .ok (.goto 13, 3) := by decide +kernel
theorem dX6_pour_79 : decode cX6_pour 79 = .ok (.aload_n 0, 1) := by decide +kernel
theorem dX6_pour_80 : decode cX6_pour 80 = .ok (.getfield 12, 3) := by decide +kernel
theorem dX6_pour_83 : decode cX6_pour 83 = .ok (.getfield 147, 3) := by decide +kernel
theorem dX6_pour_86 : decode cX6_pour 86 = .ok (.iload 4, 2) := by decide +kernel
theorem dX6_pour_88 : decode cX6_pour 88 = .ok (.iaload, 1) := by decide +kernel
theorem dX6_pour_89 : decode cX6_pour 89 = .ok (.istore 5, 2) := by decide +kernel
theorem dX6_pour_91 : decode cX6_pour 91 = .ok (.iload 5, 2) := by decide +kernel
theorem dX6_pour_93 : decode cX6_pour 93 = .ok (.aload_n 0, 1) := by decide +kernel
theorem dX6_pour_94 : decode cX6_pour 94 = .ok (.getfield 12, 3) := by decide +kernel
theorem dX6_pour_97 : decode cX6_pour 97 = .ok (.getfield 147, 3) := by decide +kernel
theorem dX6_pour_100 : decode cX6_pour 100 = .ok (.iload 4, 2) := by decide +kernel
theorem dX6_pour_102 : decode cX6_pour 102 = .ok (.iaload, 1) := by decide +kernel
theorem dX6_pour_103 : decode cX6_pour 103 = .ok (.if_icmp .eq 18, 3) := by decide +kernel
theorem dX6_pour_106 : decode cX6_pour 106 = .ok (.aload_n 0, 1) := by decide +kernel
theorem dX6_pour_107 : decode cX6_pour 107 = .ok (.getfield 12, 3) := by decide +kernel
theorem dX6_pour_110 : decode cX6_pour 110 = .ok (.getfield 147, 3) := by decide +kernel
theorem dX6_pour_113 : decode cX6_pour 113 = .ok (.iload 4, 2) := by decide +kernel
theorem dX6_pour_115 : decode cX6_pour 115 = .ok (.iload 5, 2) := by decide +kernel
theorem dX6_pour_117 : decode cX6_pour 117 = .ok (.iastore, 1) := by decide +kernel
theorem dX6_pour_118 : decode cX6_pour 118 = .ok (.iinc 3 1, 3) := by decide +kernel
theorem dX6_pour_121 : decode cX6_pour 121 = .ok (.iinc 4 1, 3) := by decide +kernel
theorem dX6_pour_124 : decode cX6_pour 124 = .ok (.goto (-90), 3) := by decide +kernel
theorem dX6_pour_127 : decode cX6_pour 127 = .ok (.iload_n 3, 1) := by decide +kernel
theorem dX6_pour_128 : decode cX6_pour 128 = .ok (.ireturn, 1) := by decide +kernel
theorem dX6_reads_0 : decode cX6_reads 0 = .ok (.iload_n 1, 1) := by decide +kernel
theorem dX6_reads_1 : decode cX6_reads 1 = .ok (.iconst 4, 1) := by decide +kernel
theorem dX6_reads_2 : decode cX6_reads 2 = .ok (.invokestatic 51, 3) := by decide +kernel
theorem dX6_reads_5 : decode cX6_reads 5 = .ok (.ifCond .ne 6, 3) := by decide +kernel
theorem dX6_reads_8 : decode cX6_reads 8 = .ok (.ldc 55, 2) := by decide +kernel
theorem dX6_reads_10 : decode cX6_reads 10 = .ok (.ireturn, 1) := by decide +kernel
theorem dX6_reads_11 : decode cX6_reads 11 = .ok (.aload_n 0, 1) := by decide +kernel
theorem dX6_reads_12 : decode cX6_reads 12 = .ok (.getfield 31, 3) := by decide +kernel
theorem dX6_reads_15 : decode cX6_reads 15 = .ok (.iload_n 1, 1) := by decide +kernel
theorem dX6_reads_16 : decode cX6_reads 16 = .ok (.aaload, 1) := by decide +kernel
theorem dX6_reads_17 : decode cX6_reads 17 = .ok (.astore_n 2, 1) := by decide +kernel
theorem dX6_reads_18 : decode cX6_reads 18 = .ok (.aload_n 2, 1) := by decide +kernel
theorem dX6_reads_19 : decode cX6_reads 19 = .ok (.getfield 183, 3) := by decide +kernel
theorem dX6_reads_22 : decode cX6_reads 22 = .ok (.iconst (-1), 1) := by decide +kernel
theorem dX6_reads_23 : decode cX6_reads 23 = .ok (.if_icmp .ne 6, 3) := by decide +kernel
theorem dX6_reads_26 : decode cX6_reads 26 = .ok (.ldc 186, 2) := by decide +kernel
theorem dX6_reads_28 : decode cX6_reads 28 = .ok (.ireturn, 1) := by decide +kernel
theorem dX6_reads_29 : decode cX6_reads 29 = .ok (.iconst 0, 1) := by decide +kernel
theorem dX6_reads_30 : decode cX6_reads 30 = .ok (.istore_n 3, 1) := by decide +kernel
theorem dX6_reads_31 : decode cX6_reads 31 = .ok (.iload_n 3, 1) := by decide +kernel
theorem dX6_reads_32 : decode cX6_reads 32 = .ok (.aload_n 2, 1) := by decide +kernel
theorem dX6_reads_33 : decode cX6_reads 33 = .ok (.getfield 234, 3) := by decide +kernel
theorem dX6_reads_36 : decode cX6_reads 36 = .ok (.if_icmp .ge 36, 3) := by decide +kernel
theorem dX6_reads_39 : decode cX6_reads 39 = .ok (.aload_n 2, 1) := by decide +kernel
theorem dX6_reads_40 : decode cX6_reads 40 = .ok (.iload_n 3, 1) := by decide +kernel
theorem dX6_reads_41 : decode cX6_reads 41 = .ok (.invokevirtual 241, 3) := by decide +kernel
theorem dX6_reads_44 : decode cX6_reads 44 = .ok (.ifCond .eq 22, 3) := by decide +kernel
theorem dX6_reads_47 : decode cX6_reads 47 = .ok (.aload_n 2, 1) := by decide +kernel
theorem dX6_reads_48 : decode cX6_reads 48 = .ok (.getfield 236, 3) := by decide +kernel
theorem dX6_reads_51 : decode cX6_reads 51 = .ok (.iload_n 3, 1) := by decide +kernel
theorem dX6_reads_52 : decode cX6_reads 52 = .ok (.iaload, 1) := by decide +kernel
theorem dX6_reads_53 : decode cX6_reads 53 = .ok (.aload_n 0, 1) := by decide +kernel
theorem dX6_reads_54 : decode cX6_reads 54 = .ok (.getfield 12, 3) := by decide +kernel
theorem dX6_reads_57 : decode cX6_reads 57 = .ok (.iload_n 3, 1) := by decide +kernel
theorem dX6_reads_58 : decode cX6_reads 58 = .ok (.invokevirtual 102, 3) := by decide +kernel
theorem dX6_reads_61 : decode cX6_reads 61 = .ok (.if_icmp .eq 5, 3) := by decide +kernel
theorem dX6_reads_64 : decode cX6_reads 64 = .ok (.iload_n 3, 1) := by decide +kernel
theorem dX6_reads_65 : decode cX6_reads 65 = .ok (.ireturn, 1) := by decide +kernel
theorem dX6_reads_66 : decode cX6_reads 66 = .ok (.iinc 3 1, 3) := by decide +kernel
theorem dX6_reads_69 : decode cX6_reads 69 = .ok (.goto (-38), 3) := by decide +kernel
theorem dX6_reads_72 : decode cX6_reads 72 = .ok (.ldc 125, 2) := by decide +kernel
theorem dX6_reads_74 : decode cX6_reads 74 = .ok (.ireturn, 1) := by decide +kernel
theorem dX6_copy_0 : decode cX6_copy 0 = .ok (.iload_n 1, 1) := by decide +kernel
theorem dX6_copy_1 : decode cX6_copy 1 = .ok (.iconst 4, 1) := by decide +kernel
theorem dX6_copy_2 : decode cX6_copy 2 = .ok (.invokestatic 51, 3) := by decide +kernel
theorem dX6_copy_5 : decode cX6_copy 5 = .ok (.ifCond .eq 11, 3) := by decide +kernel
theorem dX6_copy_8 : decode cX6_copy 8 = .ok (.iload_n 3, 1) := by decide +kernel
theorem dX6_copy_9 : decode cX6_copy 9 = .ok (.iconst 4, 1) := by decide +kernel
theorem dX6_copy_10 : decode cX6_copy 10 = .ok (.invokestatic 51, 3) := by decide +kernel
theorem dX6_copy_13 : decode cX6_copy 13 = .ok (.ifCond .ne 6, 3) := by decide +kernel
theorem dX6_copy_16 : decode cX6_copy 16 = .ok (.ldc 55, 2) := by decide +kernel
theorem dX6_copy_18 : decode cX6_copy 18 = .ok (.ireturn, 1) := by decide +kernel
theorem dX6_copy_19 : decode cX6_copy 19 = .ok (.aload_n 0, 1) := by decide +kernel
theorem dX6_copy_20 : decode cX6_copy 20 = .ok (.getfield 31, 3) := by decide +kernel
theorem dX6_copy_23 : decode cX6_copy 23 = .ok (.iload_n 1, 1) := by decide +kernel
theorem dX6_copy_24 : decode cX6_copy 24 = .ok (.aaload, 1) := by decide +kernel
theorem dX6_copy_25 : decode cX6_copy 25 = .ok (.astore 6, 2) := by decide +kernel
theorem dX6_copy_27 : decode cX6_copy 27 = .ok (.aload_n 0, 1) := by decide +kernel
theorem dX6_copy_28 : decode cX6_copy 28 = .ok (.getfield 31, 3) := by decide +kernel
theorem dX6_copy_31 : decode cX6_copy 31 = .ok (.iload_n 3, 1) := by decide +kernel
theorem dX6_copy_32 : decode cX6_copy 32 = .ok (.aaload, 1) := by decide +kernel
theorem dX6_copy_33 : decode cX6_copy 33 = .ok (.astore 7, 2) := by decide +kernel
theorem dX6_copy_35 : decode cX6_copy 35 = .ok (.aload 6, 2) := by decide +kernel
theorem dX6_copy_37 : decode cX6_copy 37 = .ok (.getfield 183, 3) := by decide +kernel
theorem dX6_copy_40 : decode cX6_copy 40 = .ok (.iconst (-1), 1) := by decide +kernel
theorem dX6_copy_41 : decode cX6_copy 41 = .ok (.if_icmp .eq 12, 3) := by decide +kernel
theorem dX6_copy_44 : decode cX6_copy 44 = .ok (.aload 7, 2) := by decide +kernel
theorem dX6_copy_46 : decode cX6_copy 46 = .ok (.getfield 183, 3) := by decide +kernel
theorem dX6_copy_49 : decode cX6_copy 49 = .ok (.iconst (-1), 1) := by decide +kernel
theorem dX6_copy_50 : decode cX6_copy 50 = .ok (.if_icmp .ne 6, 3) := by decide +kernel
theorem dX6_copy_53 : decode cX6_copy 53 = .ok (.ldc 186, 2) := by decide +kernel
theorem dX6_copy_55 : decode cX6_copy 55 = .ok (.ireturn, 1) := by decide +kernel
theorem dX6_copy_56 : decode cX6_copy 56 = .ok (.aload 6, 2) := by decide +kernel
theorem dX6_copy_58 : decode cX6_copy 58 = .ok (.getfield 183, 3) := by decide +kernel
theorem dX6_copy_61 : decode cX6_copy 61 = .ok (.aload 7, 2) := by decide +kernel
theorem dX6_copy_63 : decode cX6_copy 63 = .ok (.getfield 183, 3) := by decide +kernel
theorem dX6_copy_66 : decode cX6_copy 66 = .ok (.if_icmp .eq 6, 3) := by decide +kernel
theorem dX6_copy_69 : decode cX6_copy 69 = .ok (.ldc 115, 2) := by decide +kernel
theorem dX6_copy_71 : decode cX6_copy 71 = .ok (.ireturn, 1) := by decide +kernel
theorem dX6_copy_72 : decode cX6_copy 72 = .ok (.aload 6, 2) := by decide +kernel
theorem dX6_copy_74 : decode cX6_copy 74 = .ok (.iload_n 2, 1) := by decide +kernel
theorem dX6_copy_75 : decode cX6_copy 75 = .ok (.iload 5, 2) := by decide +kernel
theorem dX6_copy_77 : decode cX6_copy 77 = .ok (.invokevirtual 247, 3) := by decide +kernel
theorem dX6_copy_80 : decode cX6_copy 80 = .ok (.ifCond .eq 15, 3) := by decide +kernel
theorem dX6_copy_83 : decode cX6_copy 83 = .ok (.aload 7, 2) := by decide +kernel
theorem dX6_copy_85 : decode cX6_copy 85 = .ok (.iload 4, 2) := by decide +kernel
theorem dX6_copy_87 : decode cX6_copy 87 = .ok (.iload 5, 2) := by decide +kernel
theorem dX6_copy_89 : decode cX6_copy 89 = .ok (.invokevirtual 247, 3) := by decide +kernel
theorem dX6_copy_92 : decode cX6_copy 92 = .ok (.ifCond .ne 6, 3) := by decide +kernel
theorem dX6_copy_95 : decode cX6_copy 95 = .ok (.ldc 235, 2) := by decide +kernel
theorem dX6_copy_97 : decode cX6_copy 97 = .ok (.ireturn, 1) := by decide +kernel
theorem dX6_copy_98 : decode cX6_copy 98 = .ok (.aload 6, 2) := by decide +kernel
theorem dX6_copy_100 : decode cX6_copy 100 = .ok (.getfield 236, 3) := by decide +kernel
theorem dX6_copy_103 : decode cX6_copy 103 = .ok (.iload_n 2, 1) := by decide +kernel
theorem dX6_copy_104 : decode cX6_copy 104 = .ok (.aload 7, 2) := by decide +kernel
theorem dX6_copy_106 : decode cX6_copy 106 = .ok (.getfield 236, 3) := by decide +kernel
theorem dX6_copy_109 : decode cX6_copy 109 = .ok (.iload 4, 2) := by decide +kernel
theorem dX6_copy_111 : decode cX6_copy 111 = .ok (.iload 5, 2) := by decide +kernel
theorem dX6_copy_113 : decode cX6_copy 113 = .ok (.invokestatic 250, 3) := by decide +kernel
theorem dX6_copy_116 : decode cX6_copy 116 = .ok (.iload 5, 2) := by decide +kernel
theorem dX6_copy_118 : decode cX6_copy 118 = .ok (.ireturn, 1) := by decide +kernel
theorem dX6_lay_0 : decode cX6_lay 0 = .ok (.iload_n 1, 1) := by decide +kernel
theorem dX6_lay_1 : decode cX6_lay 1 = .ok (.iconst 5, 1) := by decide +kernel
theorem dX6_lay_2 : decode cX6_lay 2 = .ok (.invokestatic 51, 3) := by decide +kernel
theorem dX6_lay_5 : decode cX6_lay 5 = .ok (.ifCond .eq 11, 3) := by decide +kernel
theorem dX6_lay_8 : decode cX6_lay 8 = .ok (.iload_n 2, 1) := by decide +kernel
theorem dX6_lay_9 : decode cX6_lay 9 = .ok (.iconst 4, 1) := by decide +kernel
theorem dX6_lay_10 : decode cX6_lay 10 = .ok (.invokestatic 51, 3) := by decide +kernel
theorem dX6_lay_13 : decode cX6_lay 13 = .ok (.ifCond .ne 6, 3) := by decide +kernel
theorem dX6_lay_16 : decode cX6_lay 16 = .ok (.ldc 55, 2) := by decide +kernel
theorem dX6_lay_18 : decode cX6_lay 18 = .ok (.ireturn, 1) := by decide +kernel
theorem dX6_lay_19 : decode cX6_lay 19 = .ok (.iload_n 2, 1) := by decide +kernel
theorem dX6_lay_20 : decode cX6_lay 20 = .ok (.iconst 1, 1) := by decide +kernel
theorem dX6_lay_21 : decode cX6_lay 21 = .ok (.if_icmp .ne 14, 3) := by decide +kernel
theorem dX6_lay_24 : decode cX6_lay 24 = .ok (.aload_n 0, 1) := by decide +kernel
theorem dX6_lay_25 : decode cX6_lay 25 = .ok (.getfield 12, 3) := by decide +kernel
theorem dX6_lay_28 : decode cX6_lay 28 = .ok (.iload_n 3, 1) := by decide +kernel
theorem dX6_lay_29 : decode cX6_lay 29 = .ok (.invokevirtual 70, 3) := by decide +kernel
theorem dX6_lay_32 : decode cX6_lay 32 = .ok (.ifCond .eq 16, 3) := by decide +kernel
theorem dX6_lay_35 : decode cX6_lay 35 = .ok (.iload_n 2, 1) := by decide +kernel
theorem dX6_lay_36 : decode cX6_lay 36 = .ok (.iconst 2, 1) := by decide +kernel
theorem dX6_lay_37 : decode cX6_lay 37 = .ok (.if_icmp .ne 14, 3) := by decide +kernel
theorem dX6_lay_40 : decode cX6_lay 40 = .ok (.iload_n 3, 1) := by decide +kernel
theorem dX6_lay_41 : decode cX6_lay 41 = .ok (.iconst 4, 1) := by decide +kernel
theorem dX6_lay_42 : decode cX6_lay 42 = .ok (.invokestatic 51, 3) := by decide +kernel
theorem dX6_lay_45 : decode cX6_lay 45 = .ok (.ifCond .ne 6, 3) := by decide +kernel
theorem dX6_lay_48 : decode cX6_lay 48 = .ok (.ldc 55, 2) := by decide +kernel
theorem dX6_lay_50 : decode cX6_lay 50 = .ok (.ireturn, 1) := by decide +kernel
theorem dX6_lay_51 : decode cX6_lay 51 = .ok (.iload_n 2, 1) := by decide +kernel
theorem dX6_lay_52 : decode cX6_lay 52 = .ok (.iconst 2, 1) := by decide +kernel
theorem dX6_lay_53 : decode cX6_lay 53 = .ok (.if_icmp .ne 19, 3) := by decide +kernel
theorem dX6_lay_56 : decode cX6_lay 56 = .ok (.aload_n 0, 1) := by decide +kernel
theorem dX6_lay_57 : decode cX6_lay 57 = .ok (.getfield 31, 3) := by decide +kernel
theorem dX6_lay_60 : decode cX6_lay 60 = .ok (.iload_n 3, 1) := by decide +kernel
theorem dX6_lay_61 : decode cX6_lay 61 = .ok (.aaload, 1) := by decide +kernel
theorem dX6_lay_62 : decode cX6_lay 62 = .ok (.getfield 183, 3) := by decide +kernel
theorem dX6_lay_65 : decode cX6_lay 65 = .ok (.iconst (-1), 1) := by decide +kernel
theorem dX6_lay_66 : decode cX6_lay 66 = .ok (.if_icmp .ne 6, 3) := by decide +kernel
theorem dX6_lay_69 : decode cX6_lay 69 = .ok (.ldc 186, 2) := by decide +kernel
theorem dX6_lay_71 : decode cX6_lay 71 = .ok (.ireturn, 1) := by decide +kernel
theorem dX6_lay_72 : decode cX6_lay 72 = .ok (.aload_n 0, 1) := by decide +kernel
theorem dX6_lay_73 : decode cX6_lay 73 = .ok (.getfield 37, 3) := by decide +kernel
theorem dX6_lay_76 : decode cX6_lay 76 = .ok (.iload_n 1, 1) := by decide +kernel
theorem dX6_lay_77 : decode cX6_lay 77 = .ok (.aaload, 1) := by decide +kernel
theorem dX6_lay_78 : decode cX6_lay 78 = .ok (.astore 4, 2) := by decide +kernel
theorem dX6_lay_80 : decode cX6_lay 80 = .ok (.aload 4, 2) := by decide +kernel
theorem dX6_lay_82 : decode cX6_lay 82 = .ok (.getfield 256, 3) := by decide +kernel
theorem dX6_lay_85 : decode cX6_lay 85 = .ok (.istore 5, 2) := by decide +kernel
theorem dX6_lay_87 : decode cX6_lay 87 = .ok (.aload 4, 2) := by decide +kernel
theorem dX6_lay_89 : decode cX6_lay 89 = .ok (.iload_n 2, 1) := by decide +kernel
theorem dX6_lay_90 : decode cX6_lay 90 = .ok (.putfield 256, 3) := by decide +kernel
theorem dX6_lay_93 : decode cX6_lay 93 = .ok (.iload_n 2, 1) := by decide +kernel
theorem dX6_lay_94 : decode cX6_lay 94 = .ok (.iconst 1, 1) := by decide +kernel
theorem dX6_lay_95 : decode cX6_lay 95 = .ok (.if_icmp .ne 23, 3) := by decide +kernel
theorem dX6_lay_98 : decode cX6_lay 98 = .ok (.aload 4, 2) := by decide +kernel
theorem dX6_lay_100 : decode cX6_lay 100 = .ok (.getfield 259, 3) := by decide +kernel
theorem dX6_lay_103 : decode cX6_lay 103 = .ok (.aload_n 0, 1) := by decide +kernel
theorem dX6_lay_104 : decode cX6_lay 104 = .ok (.getfield 12, 3) := by decide +kernel
theorem dX6_lay_107 : decode cX6_lay 107 = .ok (.getfield 74, 3) := by decide +kernel
theorem dX6_lay_110 : decode cX6_lay 110 = .ok (.iload_n 3, 1) := by decide +kernel
theorem dX6_lay_111 : decode cX6_lay 111 = .ok (.aaload, 1) := by decide +kernel
theorem dX6_lay_112 : decode cX6_lay 112 = .ok (.invokevirtual 263, 3) := by decide +kernel
theorem dX6_lay_115 : decode cX6_lay 115 = .ok (.goto 36, 3) := by decide +kernel
theorem dX6_lay_118 : decode cX6_lay 118 = .ok (.iload_n 2, 1) := by decide +kernel
theorem dX6_lay_119 : decode cX6_lay 119 = .ok (.iconst 2, 1) := by decide +kernel
theorem dX6_lay_120 : decode cX6_lay 120 = .ok (.if_icmp .ne 20, 3) := by decide +kernel
theorem dX6_lay_123 : decode cX6_lay 123 = .ok (.aload 4, 2) := by decide +kernel
theorem dX6_lay_125 : decode cX6_lay 125 = .ok (.getfield 266, 3) := by decide +kernel
theorem dX6_lay_128 : decode cX6_lay 128 = .ok (.aload_n 0, 1) := by decide +kernel
theorem dX6_lay_129 : decode cX6_lay 129 = .ok (.getfield 31, 3) := by decide +kernel
theorem dX6_lay_132 : decode cX6_lay 132 = .ok (.iload_n 3, 1) := by decide +kernel
theorem dX6_lay_133 : decode cX6_lay 133 = .ok (.aaload, 1) := by decide +kernel
theorem dX6_lay_134 : decode cX6_lay 134 = .ok (.invokevirtual 270, 3) := by decide +kernel
theorem dX6_lay_137 : decode cX6_lay 137 = .ok (.goto 14, 3) := by decide +kernel
theorem dX6_lay_140 : decode cX6_lay 140 = .ok (.iload_n 2, 1) := by decide +kernel
theorem dX6_lay_141 : decode cX6_lay 141 = .ok (.iconst 3, 1) := by decide +kernel
theorem dX6_lay_142 : decode cX6_lay 142 = .ok (.if_icmp .ne 9, 3) := by decide +kernel
theorem dX6_lay_145 : decode cX6_lay 145 = .ok (.aload 4, 2) := by decide +kernel
theorem dX6_lay_147 : decode cX6_lay 147 = .ok (.iload_n 3, 1) := by decide +kernel
theorem dX6_lay_148 : decode cX6_lay 148 = .ok (.putfield 273, 3) := by decide +kernel
theorem dX6_lay_151 : decode cX6_lay 151 = .ok (.iload 5, 2) := by decide +kernel
theorem dX6_lay_153 : decode cX6_lay 153 = .ok (.ireturn, 1) := by decide +kernel
theorem dX6_ask_0 : decode cX6_ask 0 = .ok (.iload_n 1, 1) := by decide +kernel
theorem dX6_ask_1 : decode cX6_ask 1 = .ok (.iconst 5, 1) := by decide +kernel
theorem dX6_ask_2 : decode cX6_ask 2 = .ok (.invokestatic 51, 3) := by decide +kernel
theorem dX6_ask_5 : decode cX6_ask 5 = .ok (.ifCond .eq 12, 3) := by decide +kernel
theorem dX6_ask_8 : decode cX6_ask 8 = .ok (.iload_n 2, 1) := by decide +kernel
theorem dX6_ask_9 : decode cX6_ask 9 = .ok (.bipush 6, 2) := by decide +kernel
theorem dX6_ask_11 : decode cX6_ask 11 = .ok (.invokestatic 51, 3) := by decide +kernel
theorem dX6_ask_14 : decode cX6_ask 14 = .ok (.ifCond .ne 6, 3) := by decide +kernel
theorem dX6_ask_17 : decode cX6_ask 17 = .ok (.ldc 55, 2) := by decide +kernel
theorem dX6_ask_19 : decode cX6_ask 19 = .ok (.ireturn, 1) := by decide +kernel
theorem dX6_ask_20 : decode cX6_ask 20 = .ok (.aload_n 0, 1) := by decide +kernel
theorem dX6_ask_21 : decode cX6_ask 21 = .ok (.getfield 37, 3) := by decide +kernel
theorem dX6_ask_24 : decode cX6_ask 24 = .ok (.iload_n 1, 1) := by decide +kernel
theorem dX6_ask_25 : decode cX6_ask 25 = .ok (.aaload, 1) := by decide +kernel
theorem dX6_ask_26 : decode cX6_ask 26 = .ok (.astore_n 3, 1) := by decide +kernel
theorem dX6_ask_27 : decode cX6_ask 27 = .ok (.aload_n 3, 1) := by decide +kernel
theorem dX6_ask_28 : decode cX6_ask 28 = .ok (.getfield 256, 3) := by decide +kernel
theorem dX6_ask_31 : decode cX6_ask 31 = .ok (.ifCond .ne 6, 3) := by decide +kernel
theorem dX6_ask_34 : decode cX6_ask 34 = .ok (.ldc 186, 2) := by decide +kernel
theorem dX6_ask_36 : decode cX6_ask 36 = .ok (.ireturn, 1) := by decide +kernel
theorem dX6_ask_37 : decode cX6_ask 37 = .ok (.aload_n 3, 1) := by decide +kernel
theorem dX6_ask_38 : decode cX6_ask 38 = .ok (.getfield 256, 3) := by decide +kernel
theorem dX6_ask_41 : decode cX6_ask 41 = .ok (.iconst 1, 1) := by decide +kernel
theorem dX6_ask_42 : decode cX6_ask 42 = .ok (.if_icmp .ne 14, 3) := by decide +kernel
theorem dX6_ask_45 : decode cX6_ask 45 = .ok (.aload_n 3, 1) := by decide +kernel
theorem dX6_ask_46 : decode cX6_ask 46 = .ok (.getfield 259, 3) := by decide +kernel
theorem dX6_ask_49 : decode cX6_ask 49 = .ok (.iload_n 2, 1) := by decide +kernel
theorem dX6_ask_50 : decode cX6_ask 50 = .ok (.invokevirtual 112, 3) := by decide +kernel
theorem dX6_ask_53 : decode cX6_ask 53 = .ok (.ifCond .ne 6, 3) := by decide +kernel
theorem dX6_ask_56 : decode cX6_ask 56 = .ok (.ldc 115, 2) := by decide +kernel
theorem dX6_ask_58 : decode cX6_ask 58 = .ok (.ireturn, 1) := by decide +kernel
theorem dX6_ask_59 : decode cX6_ask 59 = .ok (.aload_n 3, 1) := by decide +kernel
theorem dX6_ask_60 : decode cX6_ask 60 = .ok (.getfield 259, 3) := by decide +kernel
theorem dX6_ask_63 : decode cX6_ask 63 = .ok (.invokevirtual 108, 3) := by decide +kernel
theorem dX6_ask_66 : decode cX6_ask 66 = .ok (.ireturn, 1) := by decide +kernel
theorem dX6_item_0 : decode cX6_item 0 = .ok (.iload_n 1, 1) := by decide +kernel
theorem dX6_item_1 : decode cX6_item 1 = .ok (.iconst 5, 1) := by decide +kernel
theorem dX6_item_2 : decode cX6_item 2 = .ok (.invokestatic 51, 3) := by decide +kernel
theorem dX6_item_5 : decode cX6_item 5 = .ok (.ifCond .ne 6, 3) := by decide +kernel
theorem dX6_item_8 : decode cX6_item 8 = .ok (.ldc 55, 2) := by decide +kernel
theorem dX6_item_10 : decode cX6_item 10 = .ok (.ireturn, 1) := by decide +kernel
theorem dX6_item_11 : decode cX6_item 11 = .ok (.aload_n 0, 1) := by decide +kernel
theorem dX6_item_12 : decode cX6_item 12 = .ok (.getfield 37, 3) := by decide +kernel
theorem dX6_item_15 : decode cX6_item 15 = .ok (.iload_n 1, 1) := by decide +kernel
theorem dX6_item_16 : decode cX6_item 16 = .ok (.aaload, 1) := by decide +kernel
theorem dX6_item_17 : decode cX6_item 17 = .ok (.astore_n 3, 1) := by decide +kernel
theorem dX6_item_18 : decode cX6_item 18 = .ok (.aload_n 3, 1) := by decide +kernel
theorem dX6_item_19 : decode cX6_item 19 = .ok (.getfield 256, 3) := by decide +kernel
theorem dX6_item_22 : decode cX6_item 22 = .ok (.ifCond .ne 6, 3) := by decide +kernel
theorem dX6_item_25 : decode cX6_item 25 = .ok (.ldc 186, 2) := by decide +kernel
theorem dX6_item_27 : decode cX6_item 27 = .ok (.ireturn, 1) := by decide +kernel
theorem dX6_item_28 : decode cX6_item 28 = .ok (.aload_n 3, 1) := by decide +kernel
theorem dX6_item_29 : decode cX6_item 29 = .ok (.getfield 256, 3) := by decide +kernel
theorem dX6_item_32 : decode cX6_item 32 = .ok (.iconst 2, 1) := by decide +kernel
theorem dX6_item_33 : decode cX6_item 33 = .ok (.if_icmp .eq 6, 3) := by decide +kernel
theorem dX6_item_36 : decode cX6_item 36 = .ok (.ldc 115, 2) := by decide +kernel
theorem dX6_item_38 : decode cX6_item 38 = .ok (.ireturn, 1) := by decide +kernel
theorem dX6_item_39 : decode cX6_item 39 = .ok (.iload_n 2, 1) := by decide +kernel
theorem dX6_item_40 : decode cX6_item 40 = .ok (.aload_n 3, 1) := by decide +kernel
theorem dX6_item_41 : decode cX6_item 41 = .ok (.getfield 266, 3) := by decide +kernel
theorem dX6_item_44 : decode cX6_item 44 = .ok (.getfield 234, 3) := by decide +kernel
theorem dX6_item_47 : decode cX6_item 47 = .ok (.invokestatic 51, 3) := by decide +kernel
theorem dX6_item_50 : decode cX6_item 50 = .ok (.ifCond .ne 6, 3) := by decide +kernel
theorem dX6_item_53 : decode cX6_item 53 = .ok (.ldc 235, 2) := by decide +kernel
theorem dX6_item_55 : decode cX6_item 55 = .ok (.ireturn, 1) := by decide +kernel
theorem dX6_item_56 : decode cX6_item 56 = .ok (.aload_n 3, 1) := by decide +kernel
theorem dX6_item_57 : decode cX6_item 57 = .ok (.getfield 266, 3) := by decide +kernel
theorem dX6_item_60 : decode cX6_item 60 = .ok (.iload_n 2, 1) := by decide +kernel
theorem dX6_item_61 : decode cX6_item 61 = .ok (.invokevirtual 241, 3) := by decide +kernel
theorem dX6_item_64 : decode cX6_item 64 = .ok (.ifCond .eq 15, 3) := by decide +kernel
theorem dX6_item_67 : decode cX6_item 67 = .ok (.aload_n 3, 1) := by decide +kernel
theorem dX6_item_68 : decode cX6_item 68 = .ok (.getfield 266, 3) := by decide +kernel
theorem dX6_item_71 : decode cX6_item 71 = .ok (.getfield 236, 3) := by decide +kernel
theorem dX6_item_74 : decode cX6_item 74 = .ok (.iload_n 2, 1) := by decide +kernel
theorem dX6_item_75 : decode cX6_item 75 = .ok (.iaload, 1) := by decide +kernel
theorem dX6_item_76 : decode cX6_item 76 = .ok (.goto 5, 3) := by decide +kernel
theorem dX6_item_79 : decode cX6_item 79 = .ok (.ldc 115, 2) := by decide +kernel
theorem dX6_item_81 : decode cX6_item 81 = .ok (.ireturn, 1) := by decide +kernel
theorem dX6_remains_0 : decode cX6_remains 0 = .ok (.iload_n 1, 1) := by decide +kernel
theorem dX6_remains_1 : decode cX6_remains 1 = .ok (.iconst 5, 1) := by decide +kernel
theorem dX6_remains_2 : decode cX6_remains 2 = .ok (.invokestatic 51, 3) := by decide +kernel
theorem dX6_remains_5 : decode cX6_remains 5 = .ok (.ifCond .ne 6, 3) := by decide +kernel
theorem dX6_remains_8 : decode cX6_remains 8 = .ok (.ldc 55, 2) := by decide +kernel
theorem dX6_remains_10 : decode cX6_remains 10 = .ok (.ireturn, 1) := by decide +kernel
theorem dX6_remains_11 : decode cX6_remains 11 = .ok (.aload_n 0, 1) := by decide +kernel
theorem dX6_remains_12 : decode cX6_remains 12 = .ok (.getfield 37, 3) := by decide +kernel
theorem dX6_remains_15 : decode cX6_remains 15 = .ok (.iload_n 1, 1) := by decide +kernel
theorem dX6_remains_16 : decode cX6_remains 16 = .ok (.aaload, 1) := by decide +kernel
theorem dX6_remains_17 : decode cX6_remains 17 = .ok (.astore_n 3, 1) := by decide +kernel
theorem dX6_remains_18 : decode cX6_remains 18 = .ok (.aload_n 3, 1) := by decide +kernel
theorem dX6_remains_19 : decode cX6_remains 19 = .ok (.getfield 256, 3) := by decide +kernel
theorem dX6_remains_22 : decode cX6_remains 22 = .ok (.ifCond .ne 6, 3) := by decide +kernel
theorem dX6_remains_25 : decode cX6_remains 25 = .ok (.ldc 186, 2) := by decide +kernel
theorem dX6_remains_27 : decode cX6_remains 27 = .ok (.ireturn, 1) := by decide +kernel
theorem dX6_remains_28 : decode cX6_remains 28 = .ok (.aload_n 3, 1) := by decide +kernel
theorem dX6_remains_29 : decode cX6_remains 29 = .ok (.getfield 256, 3) := by decide +kernel
theorem dX6_remains_32 : decode cX6_remains 32 = .ok (.iconst 3, 1) := by decide +kernel
theorem dX6_remains_33 : decode cX6_remains 33 = .ok (.if_icmp .eq 6, 3) := by decide +kernel
theorem dX6_remains_36 : decode cX6_remains 36 = .ok (.ldc 115, 2) := by decide +kernel
theorem dX6_remains_38 : decode cX6_remains 38 = .ok (.ireturn, 1) := by decide +kernel
theorem dX6_remains_39 : decode cX6_remains 39 = .ok (.iload_n 2, 1) := by decide +kernel
theorem dX6_remains_40 : decode cX6_remains 40 = .ok (.ifCond .ne 8, 3) := by decide +kernel
theorem dX6_remains_43 : decode cX6_remains 43 = .ok (.ldc 60, 2) := by decide +kernel
theorem dX6_remains_45 : decode cX6_remains 45 = .ok (.goto 9, 3) := by decide +kernel
theorem dX6_remains_48 : decode cX6_remains 48 = .ok (.aload_n 3, 1) := by decide +kernel
theorem dX6_remains_49 : decode cX6_remains 49 = .ok (.getfield 273, 3) := by decide +kernel
theorem dX6_remains_52 : decode cX6_remains 52 = .ok (.iload_n 2, 1) := by decide +kernel
theorem dX6_remains_53 : decode cX6_remains 53 = .ok (.irem, 1) := by decide +kernel
theorem dX6_remains_54 : decode cX6_remains 54 = .ok (.ireturn, 1) := by decide +kernel
theorem dX6_tell_0 : decode cX6_tell 0 = .ok (.aload_n 0, 1) := by decide +kernel
theorem dX6_tell_1 : decode cX6_tell 1 = .ok (.getfield 276, 3) := by decide +kernel
theorem dX6_tell_4 : decode cX6_tell 4 = .ok (.bipush 60, 2) := by decide +kernel
theorem dX6_tell_6 : decode cX6_tell 6 = .ok (.if_icmp .lt 6, 3) := by decide +kernel
theorem dX6_tell_9 : decode cX6_tell 9 = .ok (.ldc 65, 2) := by decide +kernel
theorem dX6_tell_11 : decode cX6_tell 11 = .ok (.ireturn, 1) := by decide +kernel
theorem dX6_tell_12 : decode cX6_tell 12 = .ok (.aload_n 0, 1) := by decide +kernel
theorem dX6_tell_13 : decode cX6_tell 13 = .ok (.getfield 45, 3) := by decide +kernel
theorem dX6_tell_16 : decode cX6_tell 16 = .ok (.aload_n 0, 1) := by decide +kernel
theorem dX6_tell_17 : decode cX6_tell 17 = .ok (.getfield 276, 3) := by decide +kernel
theorem dX6_tell_20 : decode cX6_tell 20 = .ok (.iload_n 1, 1) := by decide +kernel
theorem dX6_tell_21 : decode cX6_tell 21 = .ok (.iastore, 1) := by decide +kernel
theorem dX6_tell_22 : decode cX6_tell 22 = .ok (.aload_n 0, 1) := by decide +kernel
theorem dX6_tell_23 : decode cX6_tell 23 = .ok (.dup, 1) := by decide +kernel
theorem dX6_tell_24 : decode cX6_tell 24 = .ok (.getfield 276, 3) := by decide +kernel
theorem dX6_tell_27 : decode cX6_tell 27 = .ok (.iconst 1, 1) := by decide +kernel
theorem dX6_tell_28 : decode cX6_tell 28 = .ok (.iadd, 1) := by decide +kernel
theorem dX6_tell_29 : decode cX6_tell 29 = .ok (.putfield 276, 3) := by decide +kernel
theorem dX6_tell_32 : decode cX6_tell 32 = .ok (.aload_n 0, 1) := by decide +kernel
theorem dX6_tell_33 : decode cX6_tell 33 = .ok (.getfield 276, 3) := by decide +kernel
theorem dX6_tell_36 : decode cX6_tell 36 = .ok (.ireturn, 1) := by decide +kernel
theorem dX6_check_0 : decode cX6_check 0 = .ok (.aload_n 0, 1) := by decide +kernel
theorem dX6_check_1 : decode cX6_check 1 = .ok (.getfield 276, 3) := by decide +kernel
theorem dX6_check_4 : decode cX6_check 4 = .ok (.istore_n 2, 1) := by decide +kernel
theorem dX6_check_5 : decode cX6_check 5 = .ok (.aload_n 0, 1) := by decide +kernel
theorem dX6_check_6 : decode cX6_check 6 = .ok (.iconst 0, 1) := by decide +kernel
theorem dX6_check_7 : decode cX6_check 7 = .ok (.putfield 276, 3) := by decide +kernel
theorem dX6_check_10 : decode cX6_check 10 = .ok (.iload_n 1, 1) := by decide +kernel
theorem dX6_check_11 : decode cX6_check 11 = .ok (.iconst 1, 1) := by decide +kernel
theorem dX6_check_12 : decode cX6_check 12 = .ok (.if_icmp .lt 9, 3) := by decide +kernel
theorem dX6_check_15 : decode cX6_check 15 = .ok (.iload_n 1, 1) := by decide +kernel
theorem dX6_check_16 : decode cX6_check 16 = .ok (.bipush 30, 2) := by decide +kernel
theorem dX6_check_18 : decode cX6_check 18 = .ok (.if_icmp .le 6, 3) := by decide +kernel
theorem dX6_check_21 : decode cX6_check 21 = .ok (.ldc 55, 2) := by decide +kernel
theorem dX6_check_23 : decode cX6_check 23 = .ok (.ireturn, 1) := by decide +kernel
theorem dX6_check_24 : decode cX6_check 24 = .ok (.aload_n 0, 1) := by decide +kernel
theorem dX6_check_25 : decode cX6_check 25 = .ok (.getfield 279, 3) := by decide +kernel
theorem dX6_check_28 : decode cX6_check 28 = .ok (.ifCond .eq 19, 3) := by decide +kernel
theorem dX6_check_31 : decode cX6_check 31 = .ok (.aload_n 0, 1) := by decide +kernel
theorem dX6_check_32 : decode cX6_check 32 = .ok (.iload_n 2, 1) := by decide +kernel
theorem dX6_check_33 : decode cX6_check 33 = .ok (.aload_n 0, 1) := by decide +kernel
theorem dX6_check_34 : decode cX6_check 34 = .ok (.getfield 16, 3) := by decide +kernel
theorem dX6_check_37 : decode cX6_check 37 = .ok (.iload_n 1, 1) := by decide +kernel
theorem dX6_check_38 : decode cX6_check 38 = .ok (.invokevirtual 150, 3) := by decide +kernel
theorem dX6_check_41 : decode cX6_check 41 = .ok (.invokevirtual 283, 3) := by decide +kernel
theorem dX6_check_44 : decode cX6_check 44 = .ok (.goto 5, 3) := by decide +kernel
theorem dX6_check_47 : decode cX6_check 47 = .ok (.ldc 60, 2) := by decide +kernel
theorem dX6_check_49 : decode cX6_check 49 = .ok (.ireturn, 1) := by decide +kernel
theorem dX6_keep_0 : decode cX6_keep 0 = .ok (.aload_n 0, 1) := by decide +kernel
theorem dX6_keep_1 : decode cX6_keep 1 = .ok (.getfield 16, 3) := by decide +kernel
theorem dX6_keep_4 : decode cX6_keep 4 = .ok (.aload_n 0, 1) := by decide +kernel
theorem dX6_keep_5 : decode cX6_keep 5 = .ok (.getfield 12, 3) := by decide +kernel
theorem dX6_keep_8 : decode cX6_keep 8 = .ok (.invokevirtual 159, 3) := by decide +kernel
theorem dX6_keep_11 : decode cX6_keep 11 = .ok (.aload_n 0, 1) := by decide +kernel
theorem dX6_keep_12 : decode cX6_keep 12 = .ok (.iconst 1, 1) := by decide +kernel
theorem dX6_keep_13 : decode cX6_keep 13 = .ok (.putfield 279, 3) := by decide +kernel
theorem dX6_keep_16 : decode cX6_keep 16 = .ok (.aload_n 0, 1) := by decide +kernel
theorem dX6_keep_17 : decode cX6_keep 17 = .ok (.getfield 12, 3) := by decide +kernel
theorem dX6_keep_20 : decode cX6_keep 20 = .ok (.getfield 61, 3) := by decide +kernel
theorem dX6_keep_23 : decode cX6_keep 23 = .ok (.ireturn, 1) := by decide +kernel
theorem dX6_back_0 : decode cX6_back 0 = .ok (.aload_n 0, 1) := by decide +kernel
theorem dX6_back_1 : decode cX6_back 1 = .ok (.getfield 279, 3) := by decide +kernel
theorem dX6_back_4 : decode cX6_back 4 = .ok (.ifCond .ne 6, 3) := by decide +kernel
theorem dX6_back_7 : decode cX6_back 7 = .ok (.ldc 60, 2) := by decide +kernel
theorem dX6_back_9 : decode cX6_back 9 = .ok (.ireturn, 1) := by decide +kernel
theorem dX6_back_10 : decode cX6_back 10 = .ok (.aload_n 0, 1) := by decide +kernel
theorem dX6_back_11 : decode cX6_back 11 = .ok (.getfield 12, 3) := by decide +kernel
theorem dX6_back_14 : decode cX6_back 14 = .ok (.aload_n 0, 1) := by decide +kernel
theorem dX6_back_15 : decode cX6_back 15 = .ok (.getfield 16, 3) := by decide +kernel
theorem dX6_back_18 : decode cX6_back 18 = .ok (.invokevirtual 159, 3) := by decide +kernel
theorem dX6_back_21 : decode cX6_back 21 = .ok (.aload_n 0, 1) := by decide +kernel
theorem dX6_back_22 : decode cX6_back 22 = .ok (.getfield 12, 3) := by decide +kernel
theorem dX6_back_25 : decode cX6_back 25 = .ok (.getfield 61, 3) := by decide +kernel
theorem dX6_back_28 : decode cX6_back 28 = .ok (.ireturn, 1) := by decide +kernel
theorem dX6_count_0 : decode cX6_count 0 = .ok (.iload_n 1, 1) := by decide +kernel
theorem dX6_count_1 : decode cX6_count 1 = .ok (.tableswitch 141 0 10 #[59, 67, 75, 83, 91, 99, 107, 115, 123, 128, 133], 59) := by decide +kernel
theorem dX6_count_60 : decode cX6_count 60 = .ok (.aload_n 0, 1) := by decide +kernel
theorem dX6_count_61 : decode cX6_count 61 = .ok (.getfield 12, 3) := by decide +kernel
theorem dX6_count_64 : decode cX6_count 64 = .ok (.getfield 61, 3) := by decide +kernel
theorem dX6_count_67 : decode cX6_count 67 = .ok (.ireturn, 1) := by decide +kernel
theorem dX6_count_68 : decode cX6_count 68 = .ok (.aload_n 0, 1) := by decide +kernel
theorem dX6_count_69 : decode cX6_count 69 = .ok (.getfield 12, 3) := by decide +kernel
theorem dX6_count_72 : decode cX6_count 72 = .ok (.getfield 144, 3) := by decide +kernel
theorem dX6_count_75 : decode cX6_count 75 = .ok (.ireturn, 1) := by decide +kernel
theorem dX6_count_76 : decode cX6_count 76 = .ok (.aload_n 0, 1) := by decide +kernel
theorem dX6_count_77 : decode cX6_count 77 = .ok (.getfield 12, 3) := by decide +kernel
theorem dX6_count_80 : decode cX6_count 80 = .ok (.getfield 286, 3) := by decide +kernel
theorem dX6_count_83 : decode cX6_count 83 = .ok (.ireturn, 1) := by decide +kernel
theorem dX6_count_84 : decode cX6_count 84 = .ok (.aload_n 0, 1) := by decide +kernel
theorem dX6_count_85 : decode cX6_count 85 = .ok (.getfield 12, 3) := by decide +kernel
theorem dX6_count_88 : decode cX6_count 88 = .ok (.invokevirtual 163, 3) := by decide +kernel
theorem dX6_count_91 : decode cX6_count 91 = .ok (.ireturn, 1) := by decide +kernel
theorem dX6_count_92 : decode cX6_count 92 = .ok (.aload_n 0, 1) := by decide +kernel
theorem dX6_count_93 : decode cX6_count 93 = .ok (.getfield 12, 3) := by decide +kernel
theorem dX6_count_96 : decode cX6_count 96 = .ok (.getfield 166, 3) := by decide +kernel
theorem dX6_count_99 : decode cX6_count 99 = .ok (.ireturn, 1) := by decide +kernel
theorem dX6_count_100 : decode cX6_count 100 = .ok (.aload_n 0, 1) := by decide +kernel
theorem dX6_count_101 : decode cX6_count 101 = .ok (.getfield 12, 3) := by decide +kernel
theorem dX6_count_104 : decode cX6_count 104 = .ok (.getfield 138, 3) := by decide +kernel
theorem dX6_count_107 : decode cX6_count 107 = .ok (.ireturn, 1) := by decide +kernel
theorem dX6_count_108 : decode cX6_count 108 = .ok (.aload_n 0, 1) := by decide +kernel
theorem dX6_count_109 : decode cX6_count 109 = .ok (.getfield 12, 3) := by decide +kernel
theorem dX6_count_112 : decode cX6_count 112 = .ok (.getfield 141, 3) := by decide +kernel
theorem dX6_count_115 : decode cX6_count 115 = .ok (.ireturn, 1) := by decide +kernel
theorem dX6_count_116 : decode cX6_count 116 = .ok (.aload_n 0, 1) := by decide +kernel
theorem dX6_count_117 : decode cX6_count 117 = .ok (.getfield 12, 3) := by decide +kernel
theorem dX6_count_120 : decode cX6_count 120 = .ok (.getfield 208, 3) := by decide +kernel
theorem dX6_count_123 : decode cX6_count 123 = .ok (.ireturn, 1) := by decide +kernel
theorem dX6_count_124 : decode cX6_count 124 = .ok (.aload_n 0, 1) := by decide +kernel
theorem dX6_count_125 : decode cX6_count 125 = .ok (.getfield 276, 3) := by decide +kernel
theorem dX6_count_128 : decode cX6_count 128 = .ok (.ireturn, 1) := by decide +kernel
theorem dX6_count_129 : decode cX6_count 129 = .ok (.aload_n 0, 1) := by decide +kernel
theorem dX6_count_130 : decode cX6_count 130 = .ok (.getfield 194, 3) := by decide +kernel
theorem dX6_count_133 : decode cX6_count 133 = .ok (.ireturn, 1) := by decide +kernel
theorem dX6_count_134 : decode cX6_count 134 = .ok (.aload_n 0, 1) := by decide +kernel
theorem dX6_count_135 : decode cX6_count 135 = .ok (.getfield 12, 3) := by decide +kernel
theorem dX6_count_138 : decode cX6_count 138 = .ok (.getfield 135, 3) := by decide +kernel
theorem dX6_count_141 : decode cX6_count 141 = .ok (.ireturn, 1) := by decide +kernel
theorem dX6_count_142 : decode cX6_count 142 = .ok (.ldc 55, 2) := by decide +kernel
theorem dX6_count_144 : decode cX6_count 144 = .ok (.ireturn, 1) := by decide +kernel
theorem dX6_within_0 : decode cX6_within 0 = .ok (.iload_n 0, 1) := by decide +kernel
theorem dX6_within_1 : decode cX6_within 1 = .ok (.ifCond .lt 12, 3) := by decide +kernel
theorem dX6_within_4 : decode cX6_within 4 = .ok (.iload_n 0, 1) := by decide +kernel
theorem dX6_within_5 : decode cX6_within 5 = .ok (.iload_n 1, 1) := by decide +kernel
theorem dX6_within_6 : decode cX6_within 6 = .ok (.if_icmp .ge 7, 3) := by decide +kernel
theorem dX6_within_9 : decode cX6_within 9 = .ok (.iconst 1, 1) := by decide +kernel
theorem dX6_within_10 : decode cX6_within 10 = .ok (.goto 4, 3) := by decide +kernel
theorem dX6_within_13 : decode cX6_within 13 = .ok (.iconst 0, 1) := by decide +kernel
theorem dX6_within_14 : decode cX6_within 14 = .ok (.ireturn, 1) := by decide +kernel
theorem dX6_held_0 : decode cX6_held 0 = .ok (.iconst 0, 1) := by decide +kernel
theorem dX6_held_1 : decode cX6_held 1 = .ok (.iload_n 0, 1) := by decide +kernel
theorem dX6_held_2 : decode cX6_held 2 = .ok (.iload_n 1, 1) := by decide +kernel
theorem dX6_held_3 : decode cX6_held 3 = .ok (.invokestatic 126, 3) := by decide +kernel
theorem dX6_held_6 : decode cX6_held 6 = .ok (.invokestatic 289, 3) := by decide +kernel
theorem dX6_held_9 : decode cX6_held 9 = .ok (.ireturn, 1) := by decide +kernel
theorem dX6_secondsOtherwise_0 : decode cX6_secondsOtherwise 0 = .ok (.aload_n 0, 1) := by decide +kernel
theorem dX6_secondsOtherwise_1 : decode cX6_secondsOtherwise 1 = .ok (.getfield 19, 3) := by decide +kernel
theorem dX6_secondsOtherwise_4 : decode cX6_secondsOtherwise 4 = .ok (.aload_n 0, 1) := by decide +kernel
theorem dX6_secondsOtherwise_5 : decode cX6_secondsOtherwise 5 = .ok (.getfield 12, 3) := by decide +kernel
theorem dX6_secondsOtherwise_8 : decode cX6_secondsOtherwise 8 = .ok (.invokevirtual 159, 3) := by decide +kernel
theorem dX6_secondsOtherwise_11 : decode cX6_secondsOtherwise 11 = .ok (.aload_n 0, 1) := by decide +kernel
theorem dX6_secondsOtherwise_12 : decode cX6_secondsOtherwise 12 = .ok (.getfield 19, 3) := by decide +kernel
theorem dX6_secondsOtherwise_15 : decode cX6_secondsOtherwise 15 = .ok (.getfield 74, 3) := by decide +kernel
theorem dX6_secondsOtherwise_18 : decode cX6_secondsOtherwise 18 = .ok (.iload_n 2, 1) := by decide +kernel
theorem dX6_secondsOtherwise_19 : decode cX6_secondsOtherwise 19 = .ok (.aaload, 1) := by decide +kernel
theorem dX6_secondsOtherwise_20 : decode cX6_secondsOtherwise 20 = .ok (.iload_n 3, 1) := by decide +kernel
theorem dX6_secondsOtherwise_21 : decode cX6_secondsOtherwise 21 = .ok (.putfield 78, 3) := by decide +kernel
theorem dX6_secondsOtherwise_24 : decode cX6_secondsOtherwise 24 = .ok (.iconst 0, 1) := by decide +kernel
theorem dX6_secondsOtherwise_25 : decode cX6_secondsOtherwise 25 = .ok (.istore 4, 2) := by decide +kernel
theorem dX6_secondsOtherwise_27 : decode cX6_secondsOtherwise 27 = .ok (.iconst 0, 1) := by decide +kernel
theorem dX6_secondsOtherwise_28 : decode cX6_secondsOtherwise 28 = .ok (.istore 5, 2) := by decide +kernel
theorem dX6_secondsOtherwise_30 : decode cX6_secondsOtherwise 30 = .ok (.iload 5, 2) := by decide +kernel
theorem dX6_secondsOtherwise_32 : decode cX6_secondsOtherwise 32 = .ok (.aload_n 1, 1) := by decide +kernel
theorem dX6_secondsOtherwise_33 : decode cX6_secondsOtherwise 33 = .ok (.getfield 234, 3) := by decide +kernel
theorem dX6_secondsOtherwise_36 : decode cX6_secondsOtherwise 36 = .ok (.if_icmp .ge 59, 3) := by decide +kernel
theorem dX6_secondsOtherwise_39 : decode cX6_secondsOtherwise 39 = .ok (.aload_n 0, 1) := by decide +kernel
theorem dX6_secondsOtherwise_40 : decode cX6_secondsOtherwise 40 = .ok (.getfield 19, 3) := by decide +kernel
theorem dX6_secondsOtherwise_43 : decode cX6_secondsOtherwise 43 = .ok (.invokevirtual 172, 3) := by decide +kernel
theorem dX6_secondsOtherwise_46 : decode cX6_secondsOtherwise 46 = .ok (.pop, 1) := by decide +kernel
theorem dX6_secondsOtherwise_47 : decode cX6_secondsOtherwise 47 = .ok (.aload_n 1, 1) := by decide +kernel
theorem dX6_secondsOtherwise_48 : decode cX6_secondsOtherwise 48 = .ok (.getfield 236, 3) := by decide +kernel
theorem dX6_secondsOtherwise_51 : decode cX6_secondsOtherwise 51 = .ok (.iload 5, 2) := by decide +kernel
theorem dX6_secondsOtherwise_53 : decode cX6_secondsOtherwise 53 = .ok (.iaload, 1) := by decide +kernel
theorem dX6_secondsOtherwise_54 : decode cX6_secondsOtherwise 54 = .ok (.ifCond .eq 7, 3) := by decide +kernel
theorem dX6_secondsOtherwise_57 : decode cX6_secondsOtherwise 57 = .ok (.iconst 1, 1) := by decide +kernel
theorem dX6_secondsOtherwise_58 : decode cX6_secondsOtherwise 58 = .ok (.goto 4, 3) := by decide +kernel
theorem dX6_secondsOtherwise_61 : decode cX6_secondsOtherwise 61 = .ok (.iconst 0, 1) := by decide +kernel
theorem dX6_secondsOtherwise_62 : decode cX6_secondsOtherwise 62 = .ok (.istore 6, 2) := by decide +kernel
theorem dX6_secondsOtherwise_64 : decode cX6_secondsOtherwise 64 = .ok (.aload_n 1, 1) := by decide +kernel
theorem dX6_secondsOtherwise_65 : decode cX6_secondsOtherwise 65 = .ok (.iload 5, 2) := by decide +kernel
theorem dX6_secondsOtherwise_67 : decode cX6_secondsOtherwise 67 = .ok (.invokevirtual 241, 3) := by decide +kernel
theorem dX6_secondsOtherwise_70 : decode cX6_secondsOtherwise 70 = .ok (.ifCond .eq 19, 3) := by decide +kernel
theorem dX6_secondsOtherwise_73 : decode cX6_secondsOtherwise 73 = .ok (.iload 6, 2) := by decide +kernel
theorem dX6_secondsOtherwise_75 : decode cX6_secondsOtherwise 75 = .ok (.aload_n 0, 1) := by decide +kernel
theorem dX6_secondsOtherwise_76 : decode cX6_secondsOtherwise 76 = .ok (.getfield 19, 3) := by decide +kernel
theorem dX6_secondsOtherwise_79 : decode cX6_secondsOtherwise 79 = .ok (.iload_n 2, 1) := by decide +kernel
theorem dX6_secondsOtherwise_80 : decode cX6_secondsOtherwise 80 = .ok (.invokevirtual 180, 3) := by decide +kernel
theorem dX6_secondsOtherwise_83 : decode cX6_secondsOtherwise 83 = .ok (.if_icmp .eq 6, 3) := by decide +kernel
theorem dX6_secondsOtherwise_86 : decode cX6_secondsOtherwise 86 = .ok (.iinc 4 1, 3) := by decide +kernel
theorem dX6_secondsOtherwise_89 : decode cX6_secondsOtherwise 89 = .ok (.iinc 5 1, 3) := by decide +kernel
theorem dX6_secondsOtherwise_92 : decode cX6_secondsOtherwise 92 = .ok (.goto (-62), 3) := by decide +kernel
theorem dX6_secondsOtherwise_95 : decode cX6_secondsOtherwise 95 = .ok (.iload 4, 2) := by decide +kernel
theorem dX6_secondsOtherwise_97 : decode cX6_secondsOtherwise 97 = .ok (.ireturn, 1) := by decide +kernel
theorem dX6_putBytes_0 : decode cX6_putBytes 0 = .ok (.bipush 24, 2) := by decide +kernel
theorem dX6_putBytes_2 : decode cX6_putBytes 2 = .ok (.istore_n 2, 1) := by decide +kernel
theorem dX6_putBytes_3 : decode cX6_putBytes 3 = .ok (.iload_n 2, 1) := by decide +kernel
theorem dX6_putBytes_4 : decode cX6_putBytes 4 = .ok (.ifCond .lt 41, 3) := by decide +kernel
theorem dX6_putBytes_7 : decode cX6_putBytes 7 = .ok (.aload_n 0, 1) := by decide +kernel
theorem dX6_putBytes_8 : decode cX6_putBytes 8 = .ok (.getfield 194, 3) := by decide +kernel
theorem dX6_putBytes_11 : decode cX6_putBytes 11 = .ok (.bipush 96, 2) := by decide +kernel
theorem dX6_putBytes_13 : decode cX6_putBytes 13 = .ok (.if_icmp .ge 32, 3) := by decide +kernel
theorem dX6_putBytes_16 : decode cX6_putBytes 16 = .ok (.aload_n 0, 1) := by decide +kernel
theorem dX6_putBytes_17 : decode cX6_putBytes 17 = .ok (.getfield 41, 3) := by decide +kernel
theorem dX6_putBytes_20 : decode cX6_putBytes 20 = .ok (.aload_n 0, 1) := by decide +kernel
theorem dX6_putBytes_21 : decode cX6_putBytes 21 = .ok (.getfield 194, 3) := by decide +kernel
theorem dX6_putBytes_24 : decode cX6_putBytes 24 = .ok (.iload_n 1, 1) := by decide +kernel
theorem dX6_putBytes_25 : decode cX6_putBytes 25 = .ok (.iload_n 2, 1) := by decide +kernel
theorem dX6_putBytes_26 : decode cX6_putBytes 26 = .ok (.iushr, 1) := by decide +kernel
theorem dX6_putBytes_27 : decode cX6_putBytes 27 = .ok (.i2b, 1) := by decide +kernel
theorem dX6_putBytes_28 : decode cX6_putBytes 28 = .ok (.bastore, 1) := by decide +kernel
theorem dX6_putBytes_29 : decode cX6_putBytes 29 = .ok (.aload_n 0, 1) := by decide +kernel
theorem dX6_putBytes_30 : decode cX6_putBytes 30 = .ok (.dup, 1) := by decide +kernel
theorem dX6_putBytes_31 : decode cX6_putBytes 31 = .ok (.getfield 194, 3) := by decide +kernel
theorem dX6_putBytes_34 : decode cX6_putBytes 34 = .ok (.iconst 1, 1) := by decide +kernel
theorem dX6_putBytes_35 : decode cX6_putBytes 35 = .ok (.iadd, 1) := by decide +kernel
theorem dX6_putBytes_36 : decode cX6_putBytes 36 = .ok (.putfield 194, 3) := by decide +kernel
theorem dX6_putBytes_39 : decode cX6_putBytes 39 = .ok (.iinc 2 (-8), 3) := by decide +kernel
theorem dX6_putBytes_42 : decode cX6_putBytes 42 = .ok (.goto (-39), 3) := by decide +kernel
theorem dX6_putBytes_45 : decode cX6_putBytes 45 = .ok (.return_, 1) := by decide +kernel
theorem dX6_firstNotTold_0 : decode cX6_firstNotTold 0 = .ok (.aload_n 0, 1) := by decide +kernel
theorem dX6_firstNotTold_1 : decode cX6_firstNotTold 1 = .ok (.getfield 19, 3) := by decide +kernel
theorem dX6_firstNotTold_4 : decode cX6_firstNotTold 4 = .ok (.aload_n 0, 1) := by decide +kernel
theorem dX6_firstNotTold_5 : decode cX6_firstNotTold 5 = .ok (.getfield 16, 3) := by decide +kernel
theorem dX6_firstNotTold_8 : decode cX6_firstNotTold 8 = .ok (.invokevirtual 159, 3) := by decide +kernel
theorem dX6_firstNotTold_11 : decode cX6_firstNotTold 11 = .ok (.iconst 0, 1) := by decide +kernel
theorem dX6_firstNotTold_12 : decode cX6_firstNotTold 12 = .ok (.istore_n 3, 1) := by decide +kernel
theorem dX6_firstNotTold_13 : decode cX6_firstNotTold 13 = .ok (.iload_n 3, 1) := by decide +kernel
theorem dX6_firstNotTold_14 : decode cX6_firstNotTold 14 = .ok (.iload_n 2, 1) := by decide +kernel
theorem dX6_firstNotTold_15 : decode cX6_firstNotTold 15 = .ok (.if_icmp .ge 63, 3) := by decide +kernel
theorem dX6_firstNotTold_18 : decode cX6_firstNotTold 18 = .ok (.aload_n 0, 1) := by decide +kernel
theorem dX6_firstNotTold_19 : decode cX6_firstNotTold 19 = .ok (.getfield 19, 3) := by decide +kernel
theorem dX6_firstNotTold_22 : decode cX6_firstNotTold 22 = .ok (.invokevirtual 172, 3) := by decide +kernel
theorem dX6_firstNotTold_25 : decode cX6_firstNotTold 25 = .ok (.istore 4, 2) := by decide +kernel
theorem dX6_firstNotTold_27 : decode cX6_firstNotTold 27 = .ok (.aload_n 0, 1) := by decide +kernel
theorem dX6_firstNotTold_28 : decode cX6_firstNotTold 28 = .ok (.iconst 2, 1) := by decide +kernel
theorem dX6_firstNotTold_29 : decode cX6_firstNotTold 29 = .ok (.iload_n 3, 1) := by decide +kernel
theorem dX6_firstNotTold_30 : decode cX6_firstNotTold 30 = .ok (.imul, 1) := by decide +kernel
theorem dX6_firstNotTold_31 : decode cX6_firstNotTold 31 = .ok (.iload_n 1, 1) := by decide +kernel
theorem dX6_firstNotTold_32 : decode cX6_firstNotTold 32 = .ok (.iload 4, 2) := by decide +kernel
theorem dX6_firstNotTold_34 : decode cX6_firstNotTold 34 = .ok (.invokevirtual 292, 3) := by decide +kernel
theorem dX6_firstNotTold_37 : decode cX6_firstNotTold 37 = .ok (.ifCond .ne 9, 3) := by decide +kernel
theorem dX6_firstNotTold_40 : decode cX6_firstNotTold 40 = .ok (.iconst 1, 1) := by decide +kernel
theorem dX6_firstNotTold_41 : decode cX6_firstNotTold 41 = .ok (.iconst 2, 1) := by decide +kernel
theorem dX6_firstNotTold_42 : decode cX6_firstNotTold 42 = .ok (.iload_n 3, 1) := by decide +kernel
theorem dX6_firstNotTold_43 : decode cX6_firstNotTold 43 = .ok (.imul, 1) := by decide +kernel
theorem dX6_firstNotTold_44 : decode cX6_firstNotTold 44 = .ok (.iadd, 1) := by decide +kernel
theorem dX6_firstNotTold_45 : decode cX6_firstNotTold 45 = .ok (.ireturn, 1) := by decide +kernel
theorem dX6_firstNotTold_46 : decode cX6_firstNotTold 46 = .ok (.aload_n 0, 1) := by decide +kernel
theorem dX6_firstNotTold_47 : decode cX6_firstNotTold 47 = .ok (.iconst 2, 1) := by decide +kernel
theorem dX6_firstNotTold_48 : decode cX6_firstNotTold 48 = .ok (.iload_n 3, 1) := by decide +kernel
theorem dX6_firstNotTold_49 : decode cX6_firstNotTold 49 = .ok (.imul, 1) := by decide +kernel
theorem dX6_firstNotTold_50 : decode cX6_firstNotTold 50 = .ok (.iconst 1, 1) := by decide +kernel
theorem dX6_firstNotTold_51 : decode cX6_firstNotTold 51 = .ok (.iadd, 1) := by decide +kernel
theorem dX6_firstNotTold_52 : decode cX6_firstNotTold 52 = .ok (.iload_n 1, 1) := by decide +kernel
theorem dX6_firstNotTold_53 : decode cX6_firstNotTold 53 = .ok (.aload_n 0, 1) := by decide +kernel
theorem dX6_firstNotTold_54 : decode cX6_firstNotTold 54 = .ok (.getfield 19, 3) := by decide +kernel
theorem dX6_firstNotTold_57 : decode cX6_firstNotTold 57 = .ok (.getfield 166, 3) := by decide +kernel
theorem dX6_firstNotTold_60 : decode cX6_firstNotTold 60 = .ok (.invokevirtual 292, 3) := by decide +kernel
theorem dX6_firstNotTold_63 : decode cX6_firstNotTold 63 = .ok (.ifCond .ne 9, 3) := by decide +kernel
theorem dX6_firstNotTold_66 : decode cX6_firstNotTold 66 = .ok (.iconst 2, 1) := by decide +kernel
theorem dX6_firstNotTold_67 : decode cX6_firstNotTold 67 = .ok (.iconst 2, 1) := by decide +kernel
theorem dX6_firstNotTold_68 : decode cX6_firstNotTold 68 = .ok (.iload_n 3, 1) := by decide +kernel
theorem dX6_firstNotTold_69 : decode cX6_firstNotTold 69 = .ok (.imul, 1) := by decide +kernel
theorem dX6_firstNotTold_70 : decode cX6_firstNotTold 70 = .ok (.iadd, 1) := by decide +kernel
theorem dX6_firstNotTold_71 : decode cX6_firstNotTold 71 = .ok (.ireturn, 1) := by decide +kernel
theorem dX6_firstNotTold_72 : decode cX6_firstNotTold 72 = .ok (.iinc 3 1, 3) := by decide +kernel
theorem dX6_firstNotTold_75 : decode cX6_firstNotTold 75 = .ok (.goto (-62), 3) := by decide +kernel
theorem dX6_firstNotTold_78 : decode cX6_firstNotTold 78 = .ok (.iload_n 1, 1) := by decide +kernel
theorem dX6_firstNotTold_79 : decode cX6_firstNotTold 79 = .ok (.iconst 2, 1) := by decide +kernel
theorem dX6_firstNotTold_80 : decode cX6_firstNotTold 80 = .ok (.iload_n 2, 1) := by decide +kernel
theorem dX6_firstNotTold_81 : decode cX6_firstNotTold 81 = .ok (.imul, 1) := by decide +kernel
theorem dX6_firstNotTold_82 : decode cX6_firstNotTold 82 = .ok (.if_icmp .le 11, 3) := by decide +kernel
theorem dX6_firstNotTold_85 : decode cX6_firstNotTold 85 = .ok (.iconst 1, 1) := by decide +kernel
theorem dX6_firstNotTold_86 : decode cX6_firstNotTold 86 = .ok (.iconst 2, 1) := by decide +kernel
theorem dX6_firstNotTold_87 : decode cX6_firstNotTold 87 = .ok (.iload_n 2, 1) := by decide +kernel
theorem dX6_firstNotTold_88 : decode cX6_firstNotTold 88 = .ok (.imul, 1) := by decide +kernel
theorem dX6_firstNotTold_89 : decode cX6_firstNotTold 89 = .ok (.iadd, 1) := by decide +kernel
theorem dX6_firstNotTold_90 : decode cX6_firstNotTold 90 = .ok (.goto 4, 3) := by decide +kernel
theorem dX6_firstNotTold_93 : decode cX6_firstNotTold 93 = .ok (.iconst 0, 1) := by decide +kernel
theorem dX6_firstNotTold_94 : decode cX6_firstNotTold 94 = .ok (.ireturn, 1) := by decide +kernel
theorem dX6_waitedAt_0 : decode cX6_waitedAt 0 = .ok (.iload_n 1, 1) := by decide +kernel
theorem dX6_waitedAt_1 : decode cX6_waitedAt 1 = .ok (.iload_n 2, 1) := by decide +kernel
theorem dX6_waitedAt_2 : decode cX6_waitedAt 2 = .ok (.if_icmp .ge 23, 3) := by decide +kernel
theorem dX6_waitedAt_5 : decode cX6_waitedAt 5 = .ok (.iload_n 1, 1) := by decide +kernel
theorem dX6_waitedAt_6 : decode cX6_waitedAt 6 = .ok (.bipush 60, 2) := by decide +kernel
theorem dX6_waitedAt_8 : decode cX6_waitedAt 8 = .ok (.if_icmp .ge 17, 3) := by decide +kernel
theorem dX6_waitedAt_11 : decode cX6_waitedAt 11 = .ok (.aload_n 0, 1) := by decide +kernel
theorem dX6_waitedAt_12 : decode cX6_waitedAt 12 = .ok (.getfield 45, 3) := by decide +kernel
theorem dX6_waitedAt_15 : decode cX6_waitedAt 15 = .ok (.iload_n 1, 1) := by decide +kernel
theorem dX6_waitedAt_16 : decode cX6_waitedAt 16 = .ok (.iaload, 1) := by decide +kernel
theorem dX6_waitedAt_17 : decode cX6_waitedAt 17 = .ok (.iload_n 3, 1) := by decide +kernel
theorem dX6_waitedAt_18 : decode cX6_waitedAt 18 = .ok (.if_icmp .ne 7, 3) := by decide +kernel
theorem dX6_waitedAt_21 : decode cX6_waitedAt 21 = .ok (.iconst 1, 1) := by decide +kernel
theorem dX6_waitedAt_22 : decode cX6_waitedAt 22 = .ok (.goto 4, 3) := by decide +kernel
theorem dX6_waitedAt_25 : decode cX6_waitedAt 25 = .ok (.iconst 0, 1) := by decide +kernel
theorem dX6_waitedAt_26 : decode cX6_waitedAt 26 = .ok (.ireturn, 1) := by decide +kernel
theorem dX7_init_0 : decode cX7_init 0 = .ok (.aload_n 0, 1) := by decide +kernel
theorem dX7_init_1 : decode cX7_init 1 = .ok (.invokespecial 1, 3) := by decide +kernel
theorem dX7_init_4 : decode cX7_init 4 = .ok (.aload_n 0, 1) := by decide +kernel
theorem dX7_init_5 : decode cX7_init 5 = .ok (.sipush 1465, 3) := by decide +kernel
theorem dX7_init_8 : decode cX7_init 8 = .ok (.newarray .int, 2) := by decide +kernel
theorem dX7_init_10 : decode cX7_init 10 = .ok (.putfield 9, 3) := by decide +kernel
theorem dX7_init_13 : decode cX7_init 13 = .ok (.aload_n 0, 1) := by decide +kernel
theorem dX7_init_14 : decode cX7_init 14 = .ok (.sipush 1465, 3) := by decide +kernel
theorem dX7_init_17 : decode cX7_init 17 = .ok (.newarray .int, 2) := by decide +kernel
theorem dX7_init_19 : decode cX7_init 19 = .ok (.putfield 13, 3) := by decide +kernel
theorem dX7_init_22 : decode cX7_init 22 = .ok (.aload_n 0, 1) := by decide +kernel
theorem dX7_init_23 : decode cX7_init 23 = .ok (.sipush 1465, 3) := by decide +kernel
theorem dX7_init_26 : decode cX7_init 26 = .ok (.newarray .int, 2) := by decide +kernel
theorem dX7_init_28 : decode cX7_init 28 = .ok (.putfield 16, 3) := by decide +kernel
theorem dX7_init_31 : decode cX7_init 31 = .ok (.aload_n 0, 1) := by decide +kernel
theorem dX7_init_32 : decode cX7_init 32 = .ok (.bipush 93, 2) := by decide +kernel
theorem dX7_init_34 : decode cX7_init 34 = .ok (.newarray .int, 2) := by decide +kernel
theorem dX7_init_36 : decode cX7_init 36 = .ok (.putfield 19, 3) := by decide +kernel
theorem dX7_init_39 : decode cX7_init 39 = .ok (.aload_n 0, 1) := by decide +kernel
theorem dX7_init_40 : decode cX7_init 40 = .ok (.bipush 96, 2) := by decide +kernel
theorem dX7_init_42 : decode cX7_init 42 = .ok (.newarray .int, 2) := by decide +kernel
theorem dX7_init_44 : decode cX7_init 44 = .ok (.putfield 22, 3) := by decide +kernel
theorem dX7_init_47 : decode cX7_init 47 = .ok (.aload_n 0, 1) := by decide +kernel
theorem dX7_init_48 : decode cX7_init 48 = .ok (.bipush 12, 2) := by decide +kernel
theorem dX7_init_50 : decode cX7_init 50 = .ok (.newarray .char, 2) := by decide +kernel
theorem dX7_init_52 : decode cX7_init 52 = .ok (.dup, 1) := by decide +kernel
theorem dX7_init_53 : decode cX7_init 53 = .ok (.iconst 0, 1) := by decide +kernel
theorem dX7_init_54 : decode cX7_init 54 = .ok (.bipush 105, 2) := by decide +kernel
theorem dX7_init_56 : decode cX7_init 56 = .ok (.castore, 1) := by decide +kernel
theorem dX7_init_57 : decode cX7_init 57 = .ok (.dup, 1) := by decide +kernel
theorem dX7_init_58 : decode cX7_init 58 = .ok (.iconst 1, 1) := by decide +kernel
theorem dX7_init_59 : decode cX7_init 59 = .ok (.bipush 116, 2) := by decide +kernel
theorem dX7_init_61 : decode cX7_init 61 = .ok (.castore, 1) := by decide +kernel
theorem dX7_init_62 : decode cX7_init 62 = .ok (.dup, 1) := by decide +kernel
theorem dX7_init_63 : decode cX7_init 63 = .ok (.iconst 2, 1) := by decide +kernel
theorem dX7_init_64 : decode cX7_init 64 = .ok (.bipush 99, 2) := by decide +kernel
theorem dX7_init_66 : decode cX7_init 66 = .ok (.castore, 1) := by decide +kernel
theorem dX7_init_67 : decode cX7_init 67 = .ok (.dup, 1) := by decide +kernel
theorem dX7_init_68 : decode cX7_init 68 = .ok (.iconst 3, 1) := by decide +kernel
theorem dX7_init_69 : decode cX7_init 69 = .ok (.bipush 104, 2) := by decide +kernel
theorem dX7_init_71 : decode cX7_init 71 = .ok (.castore, 1) := by decide +kernel
theorem dX7_init_72 : decode cX7_init 72 = .ok (.dup, 1) := by decide +kernel
theorem dX7_init_73 : decode cX7_init 73 = .ok (.iconst 4, 1) := by decide +kernel
theorem dX7_init_74 : decode cX7_init 74 = .ok (.bipush 104, 2) := by decide +kernel
theorem dX7_init_76 : decode cX7_init 76 = .ok (.castore, 1) := by decide +kernel
theorem dX7_init_77 : decode cX7_init 77 = .ok (.dup, 1) := by decide +kernel
theorem dX7_init_78 : decode cX7_init 78 = .ok (.iconst 5, 1) := by decide +kernel
theorem dX7_init_79 : decode cX7_init 79 = .ok (.bipush 97, 2) := by decide +kernel
theorem dX7_init_81 : decode cX7_init 81 = .ok (.castore, 1) := by decide +kernel
theorem dX7_init_82 : decode cX7_init 82 = .ok (.dup, 1) := by decide +kernel
theorem dX7_init_83 : decode cX7_init 83 = .ok (.bipush 6, 2) := by decide +kernel
theorem dX7_init_85 : decode cX7_init 85 = .ok (.bipush 114, 2) := by decide +kernel
theorem dX7_init_87 : decode cX7_init 87 = .ok (.castore, 1) := by decide +kernel
theorem dX7_init_88 : decode cX7_init 88 = .ok (.dup, 1) := by decide +kernel
theorem dX7_init_89 : decode cX7_init 89 = .ok (.bipush 7, 2) := by decide +kernel
theorem dX7_init_91 : decode cX7_init 91 = .ok (.bipush 109, 2) := by decide +kernel
theorem dX7_init_93 : decode cX7_init 93 = .ok (.castore, 1) := by decide +kernel
theorem dX7_init_94 : decode cX7_init 94 = .ok (.dup, 1) := by decide +kernel
theorem dX7_init_95 : decode cX7_init 95 = .ok (.bipush 8, 2) := by decide +kernel
theorem dX7_init_97 : decode cX7_init 97 = .ok (.bipush 102, 2) := by decide +kernel
theorem dX7_init_99 : decode cX7_init 99 = .ok (.castore, 1) := by decide +kernel
theorem dX7_init_100 : decode cX7_init 100 = .ok (.dup, 1) := by decide +kernel
theorem dX7_init_101 : decode cX7_init 101 = .ok (.bipush 9, 2) := by decide +kernel
theorem dX7_init_103 : decode cX7_init 103 = .ok (.bipush 105, 2) := by decide +kernel
theorem dX7_init_105 : decode cX7_init 105 = .ok (.castore, 1) := by decide +kernel
theorem dX7_init_106 : decode cX7_init 106 = .ok (.dup, 1) := by decide +kernel
theorem dX7_init_107 : decode cX7_init 107 = .ok (.bipush 10, 2) := by decide +kernel
theorem dX7_init_109 : decode cX7_init 109 = .ok (.bipush 110, 2) := by decide +kernel
theorem dX7_init_111 : decode cX7_init 111 = .ok (.castore, 1) := by decide +kernel
theorem dX7_init_112 : decode cX7_init 112 = .ok (.dup, 1) := by decide +kernel
theorem dX7_init_113 : decode cX7_init 113 = .ok (.bipush 11, 2) := by decide +kernel
theorem dX7_init_115 : decode cX7_init 115 = .ok (.bipush 101, 2) := by decide +kernel
theorem dX7_init_117 : decode cX7_init 117 = .ok (.castore, 1) := by decide +kernel
theorem dX7_init_118 : decode cX7_init 118 = .ok (.putfield 25, 3) := by decide +kernel
theorem dX7_init_121 : decode cX7_init 121 = .ok (.aload_n 0, 1) := by decide +kernel
theorem dX7_init_122 : decode cX7_init 122 = .ok (.iconst 4, 1) := by decide +kernel
theorem dX7_init_123 : decode cX7_init 123 = .ok (.newarray .int, 2) := by decide +kernel
theorem dX7_init_125 : decode cX7_init 125 = .ok (.dup, 1) := by decide +kernel
theorem dX7_init_126 : decode cX7_init 126 = .ok (.iconst 0, 1) := by decide +kernel
theorem dX7_init_127 : decode cX7_init 127 = .ok (.iconst 0, 1) := by decide +kernel
theorem dX7_init_128 : decode cX7_init 128 = .ok (.iastore, 1) := by decide +kernel
theorem dX7_init_129 : decode cX7_init 129 = .ok (.dup, 1) := by decide +kernel
theorem dX7_init_130 : decode cX7_init 130 = .ok (.iconst 1, 1) := by decide +kernel
theorem dX7_init_131 : decode cX7_init 131 = .ok (.iconst 4, 1) := by decide +kernel
theorem dX7_init_132 : decode cX7_init 132 = .ok (.iastore, 1) := by decide +kernel
theorem dX7_init_133 : decode cX7_init 133 = .ok (.dup, 1) := by decide +kernel
theorem dX7_init_134 : decode cX7_init 134 = .ok (.iconst 2, 1) := by decide +kernel
theorem dX7_init_135 : decode cX7_init 135 = .ok (.bipush 8, 2) := by decide +kernel
theorem dX7_init_137 : decode cX7_init 137 = .ok (.iastore, 1) := by decide +kernel
theorem dX7_init_138 : decode cX7_init 138 = .ok (.dup, 1) := by decide +kernel
theorem dX7_init_139 : decode cX7_init 139 = .ok (.iconst 3, 1) := by decide +kernel
theorem dX7_init_140 : decode cX7_init 140 = .ok (.bipush 12, 2) := by decide +kernel
theorem dX7_init_142 : decode cX7_init 142 = .ok (.iastore, 1) := by decide +kernel
theorem dX7_init_143 : decode cX7_init 143 = .ok (.putfield 29, 3) := by decide +kernel
theorem dX7_init_146 : decode cX7_init 146 = .ok (.aload_n 0, 1) := by decide +kernel
theorem dX7_init_147 : decode cX7_init 147 = .ok (.bipush 96, 2) := by decide +kernel
theorem dX7_init_149 : decode cX7_init 149 = .ok (.newarray .int, 2) := by decide +kernel
theorem dX7_init_151 : decode cX7_init 151 = .ok (.putfield 32, 3) := by decide +kernel
theorem dX7_init_154 : decode cX7_init 154 = .ok (.aload_n 0, 1) := by decide +kernel
theorem dX7_init_155 : decode cX7_init 155 = .ok (.bipush 96, 2) := by decide +kernel
theorem dX7_init_157 : decode cX7_init 157 = .ok (.newarray .int, 2) := by decide +kernel
theorem dX7_init_159 : decode cX7_init 159 = .ok (.putfield 35, 3) := by decide +kernel
theorem dX7_init_162 : decode cX7_init 162 = .ok (.aload_n 0, 1) := by decide +kernel
theorem dX7_init_163 : decode cX7_init 163 = .ok (.bipush 10, 2) := by decide +kernel
theorem dX7_init_165 : decode cX7_init 165 = .ok (.newarray .boolean, 2) := by decide +kernel
theorem dX7_init_167 : decode cX7_init 167 = .ok (.putfield 38, 3) := by decide +kernel
theorem dX7_init_170 : decode cX7_init 170 = .ok (.aload_n 0, 1) := by decide +kernel
theorem dX7_init_171 : decode cX7_init 171 = .ok (.bipush 96, 2) := by decide +kernel
theorem dX7_init_173 : decode cX7_init 173 = .ok (.newarray .int, 2) := by decide +kernel
theorem dX7_init_175 : decode cX7_init 175 = .ok (.putfield 42, 3) := by decide +kernel
theorem dX7_init_178 : decode cX7_init 178 = .ok (.aload_n 0, 1) := by decide +kernel
theorem dX7_init_179 : decode cX7_init 179 = .ok (.iconst 4, 1) := by decide +kernel
theorem dX7_init_180 : decode cX7_init 180 = .ok (.newarray .int, 2) := by decide +kernel
theorem dX7_init_182 : decode cX7_init 182 = .ok (.putfield 45, 3) := by decide +kernel
theorem dX7_init_185 : decode cX7_init 185 = .ok (.aload_n 0, 1) := by decide +kernel
theorem dX7_init_186 : decode cX7_init 186 = .ok (.iconst 4, 1) := by decide +kernel
theorem dX7_init_187 : decode cX7_init 187 = .ok (.newarray .int, 2) := by decide +kernel
theorem dX7_init_189 : decode cX7_init 189 = .ok (.dup, 1) := by decide +kernel
theorem dX7_init_190 : decode cX7_init 190 = .ok (.iconst 0, 1) := by decide +kernel
theorem dX7_init_191 : decode cX7_init 191 = .ok (.iconst (-1), 1) := by decide +kernel
theorem dX7_init_192 : decode cX7_init 192 = .ok (.iastore, 1) := by decide +kernel
theorem dX7_init_193 : decode cX7_init 193 = .ok (.dup, 1) := by decide +kernel
theorem dX7_init_194 : decode cX7_init 194 = .ok (.iconst 1, 1) := by decide +kernel
theorem dX7_init_195 : decode cX7_init 195 = .ok (.iconst (-1), 1) := by decide +kernel
theorem dX7_init_196 : decode cX7_init 196 = .ok (.iastore, 1) := by decide +kernel
theorem dX7_init_197 : decode cX7_init 197 = .ok (.dup, 1) := by decide +kernel
theorem dX7_init_198 : decode cX7_init 198 = .ok (.iconst 2, 1) := by decide +kernel
theorem dX7_init_199 : decode cX7_init 199 = .ok (.iconst (-1), 1) := by decide +kernel
theorem dX7_init_200 : decode cX7_init 200 = .ok (.iastore, 1) := by decide +kernel
theorem dX7_init_201 : decode cX7_init 201 = .ok (.dup, 1) := by decide +kernel
theorem dX7_init_202 : decode cX7_init 202 = .ok (.iconst 3, 1) := by decide +kernel
theorem dX7_init_203 : decode cX7_init 203 = .ok (.iconst (-1), 1) := by decide +kernel
theorem dX7_init_204 : decode cX7_init 204 = .ok (.iastore, 1) := by decide +kernel
theorem dX7_init_205 : decode cX7_init 205 = .ok (.putfield 48, 3) := by decide +kernel
theorem dX7_init_208 : decode cX7_init 208 = .ok (.aload_n 0, 1) := by decide +kernel
theorem dX7_init_209 : decode cX7_init 209 = .ok (.iconst 4, 1) := by decide +kernel
theorem dX7_init_210 : decode cX7_init 210 = .ok (.newarray .int, 2) := by decide +kernel
theorem dX7_init_212 : decode cX7_init 212 = .ok (.putfield 51, 3) := by decide +kernel
theorem dX7_init_215 : decode cX7_init 215 = .ok (.aload_n 0, 1) := by decide +kernel
theorem dX7_init_216 : decode cX7_init 216 = .ok (.bipush 96, 2) := by decide +kernel
theorem dX7_init_218 : decode cX7_init 218 = .ok (.newarray .int, 2) := by decide +kernel
theorem dX7_init_220 : decode cX7_init 220 = .ok (.putfield 54, 3) := by decide +kernel
theorem dX7_init_223 : decode cX7_init 223 = .ok (.aload_n 0, 1) := by decide +kernel
theorem dX7_init_224 : decode cX7_init 224 = .ok (.iconst 5, 1) := by decide +kernel
theorem dX7_init_225 : decode cX7_init 225 = .ok (.newarray .int, 2) := by decide +kernel
theorem dX7_init_227 : decode cX7_init 227 = .ok (.putfield 57, 3) := by decide +kernel
theorem dX7_init_230 : decode cX7_init 230 = .ok (.aload_n 0, 1) := by decide +kernel
theorem dX7_init_231 : decode cX7_init 231 = .ok (.iconst 5, 1) := by decide +kernel
theorem dX7_init_232 : decode cX7_init 232 = .ok (.newarray .int, 2) := by decide +kernel
theorem dX7_init_234 : decode cX7_init 234 = .ok (.putfield 60, 3) := by decide +kernel
theorem dX7_init_237 : decode cX7_init 237 = .ok (.aload_n 0, 1) := by decide +kernel
theorem dX7_init_238 : decode cX7_init 238 = .ok (.iconst 5, 1) := by decide +kernel
theorem dX7_init_239 : decode cX7_init 239 = .ok (.newarray .int, 2) := by decide +kernel
theorem dX7_init_241 : decode cX7_init 241 = .ok (.putfield 63, 3) := by decide +kernel
theorem dX7_init_244 : decode cX7_init 244 = .ok (.aload_n 0, 1) := by decide +kernel
theorem dX7_init_245 : decode cX7_init 245 = .ok (.bipush 120, 2) := by decide +kernel
theorem dX7_init_247 : decode cX7_init 247 = .ok (.newarray .int, 2) := by decide +kernel
theorem dX7_init_249 : decode cX7_init 249 = .ok (.putfield 66, 3) := by decide +kernel
theorem dX7_init_252 : decode cX7_init 252 = .ok (.aload_n 0, 1) := by decide +kernel
theorem dX7_init_253 : decode cX7_init 253 = .ok (.bipush 24, 2) := by decide +kernel
theorem dX7_init_255 : decode cX7_init 255 = .ok (.newarray .int, 2) := by decide +kernel
theorem dX7_init_257 : decode cX7_init 257 = .ok (.putfield 69, 3) := by decide +kernel
theorem dX7_init_260 : decode cX7_init 260 = .ok (.aload_n 0, 1) := by decide +kernel
theorem dX7_init_261 : decode cX7_init 261 = .ok (.bipush 60, 2) := by decide +kernel
theorem dX7_init_263 : decode cX7_init 263 = .ok (.newarray .int, 2) := by decide +kernel
theorem dX7_init_265 : decode cX7_init 265 = .ok (.putfield 72, 3) := by decide +kernel
theorem dX7_init_268 : decode cX7_init 268 = .ok (.aload_n 0, 1) := by decide +kernel
theorem dX7_init_269 : decode cX7_init 269 = .ok (.getfield 9, 3) := by decide +kernel
theorem dX7_init_272 : decode cX7_init 272 = .ok (.iconst 0, 1) := by decide +kernel
theorem dX7_init_273 : decode cX7_init 273 = .ok (.iconst 1, 1) := by decide +kernel
theorem dX7_init_274 : decode cX7_init 274 = .ok (.iastore, 1) := by decide +kernel
theorem dX7_init_275 : decode cX7_init 275 = .ok (.aload_n 0, 1) := by decide +kernel
theorem dX7_init_276 : decode cX7_init 276 = .ok (.getfield 9, 3) := by decide +kernel
theorem dX7_init_279 : decode cX7_init 279 = .ok (.iconst 2, 1) := by decide +kernel
theorem dX7_init_280 : decode cX7_init 280 = .ok (.iconst 4, 1) := by decide +kernel
theorem dX7_init_281 : decode cX7_init 281 = .ok (.iastore, 1) := by decide +kernel
theorem dX7_init_282 : decode cX7_init 282 = .ok (.aload_n 0, 1) := by decide +kernel
theorem dX7_init_283 : decode cX7_init 283 = .ok (.getfield 9, 3) := by decide +kernel
theorem dX7_init_286 : decode cX7_init 286 = .ok (.bipush 6, 2) := by decide +kernel
theorem dX7_init_288 : decode cX7_init 288 = .ok (.bipush 30, 2) := by decide +kernel
theorem dX7_init_290 : decode cX7_init 290 = .ok (.iastore, 1) := by decide +kernel
theorem dX7_init_291 : decode cX7_init 291 = .ok (.aload_n 0, 1) := by decide +kernel
theorem dX7_init_292 : decode cX7_init 292 = .ok (.getfield 9, 3) := by decide +kernel
theorem dX7_init_295 : decode cX7_init 295 = .ok (.bipush 7, 2) := by decide +kernel
theorem dX7_init_297 : decode cX7_init 297 = .ok (.iconst 3, 1) := by decide +kernel
theorem dX7_init_298 : decode cX7_init 298 = .ok (.iastore, 1) := by decide +kernel
theorem dX7_init_299 : decode cX7_init 299 = .ok (.return_, 1) := by decide +kernel
theorem dX7_in_0 : decode cX7_in 0 = .ok (.iload_n 0, 1) := by decide +kernel
theorem dX7_in_1 : decode cX7_in 1 = .ok (.iload_n 1, 1) := by decide +kernel
theorem dX7_in_2 : decode cX7_in 2 = .ok (.if_icmp .lt 12, 3) := by decide +kernel
theorem dX7_in_5 : decode cX7_in 5 = .ok (.iload_n 0, 1) := by decide +kernel
theorem dX7_in_6 : decode cX7_in 6 = .ok (.iload_n 2, 1) := by decide +kernel
theorem dX7_in_7 : decode cX7_in 7 = .ok (.if_icmp .gt 7, 3) := by decide +kernel
theorem dX7_in_10 : decode cX7_in 10 = .ok (.iconst 1, 1) := by decide +kernel
end
section
theorem dX7_in_11 : decode cX7_in 11 = .ok (.goto 4, 3) := by decide +kernel
theorem dX7_in_14 : decode cX7_in 14 = .ok (.iconst 0, 1) := by decide +kernel
theorem dX7_in_15 : decode cX7_in 15 = .ok (.ireturn, 1) := by decide +kernel
theorem dX7_within_0 : decode cX7_within 0 = .ok (.iload_n 0, 1) := by decide +kernel
theorem dX7_within_1 : decode cX7_within 1 = .ok (.iload_n 1, 1) := by decide +kernel
theorem dX7_within_2 : decode cX7_within 2 = .ok (.if_icmp .ge 7, 3) := by decide +kernel
theorem dX7_within_5 : decode cX7_within 5 = .ok (.iload_n 1, 1) := by decide +kernel
theorem dX7_within_6 : decode cX7_within 6 = .ok (.goto 13, 3) := by decide +kernel
theorem dX7_within_9 : decode cX7_within 9 = .ok (.iload_n 0, 1) := by decide +kernel
theorem dX7_within_10 : decode cX7_within 10 = .ok (.iload_n 2, 1) := by decide +kernel
theorem dX7_within_11 : decode cX7_within 11 = .ok (.if_icmp .le 7, 3) := by decide +kernel
theorem dX7_within_14 : decode cX7_within 14 = .ok (.iload_n 2, 1) := by decide +kernel
theorem dX7_within_15 : decode cX7_within 15 = .ok (.goto 4, 3) := by decide +kernel
theorem dX7_within_18 : decode cX7_within 18 = .ok (.iload_n 0, 1) := by decide +kernel
theorem dX7_within_19 : decode cX7_within 19 = .ok (.ireturn, 1) := by decide +kernel
theorem dX7_copyAll_0 : decode cX7_copyAll 0 = .ok (.iconst 0, 1) := by decide +kernel
theorem dX7_copyAll_1 : decode cX7_copyAll 1 = .ok (.istore_n 2, 1) := by decide +kernel
theorem dX7_copyAll_2 : decode cX7_copyAll 2 = .ok (.iload_n 2, 1) := by decide +kernel
theorem dX7_copyAll_3 : decode cX7_copyAll 3 = .ok (.sipush 1465, 3) := by decide +kernel
theorem dX7_copyAll_6 : decode cX7_copyAll 6 = .ok (.if_icmp .ge 15, 3) := by decide +kernel
theorem dX7_copyAll_9 : decode cX7_copyAll 9 = .ok (.aload_n 1, 1) := by decide +kernel
theorem dX7_copyAll_10 : decode cX7_copyAll 10 = .ok (.iload_n 2, 1) := by decide +kernel
theorem dX7_copyAll_11 : decode cX7_copyAll 11 = .ok (.aload_n 0, 1) := by decide +kernel
theorem dX7_copyAll_12 : decode cX7_copyAll 12 = .ok (.iload_n 2, 1) := by decide +kernel
theorem dX7_copyAll_13 : decode cX7_copyAll 13 = .ok (.iaload, 1) := by decide +kernel
theorem dX7_copyAll_14 : decode cX7_copyAll 14 = .ok (.iastore, 1) := by decide +kernel
theorem dX7_copyAll_15 : decode cX7_copyAll 15 = .ok (.iinc 2 1, 3) := by decide +kernel
theorem dX7_copyAll_18 : decode cX7_copyAll 18 = .ok (.goto (-16), 3) := by decide +kernel
theorem dX7_copyAll_21 : decode cX7_copyAll 21 = .ok (.return_, 1) := by decide +kernel
theorem dX7_told0_0 : decode cX7_told0 0 = .ok (.iload_n 0, 1) := by decide +kernel
theorem dX7_told0_1 : decode cX7_told0 1 = .ok (.ifCond .ge 8, 3) := by decide +kernel
theorem dX7_told0_4 : decode cX7_told0 4 = .ok (.ldc 75, 2) := by decide +kernel
theorem dX7_told0_6 : decode cX7_told0 6 = .ok (.goto 4, 3) := by decide +kernel
theorem dX7_told0_9 : decode cX7_told0 9 = .ok (.iload_n 0, 1) := by decide +kernel
theorem dX7_told0_10 : decode cX7_told0 10 = .ok (.ireturn, 1) := by decide +kernel
theorem dX7_isOne_0 : decode cX7_isOne 0 = .ok (.iload_n 1, 1) := by decide +kernel
theorem dX7_isOne_1 : decode cX7_isOne 1 = .ok (.iconst 0, 1) := by decide +kernel
theorem dX7_isOne_2 : decode cX7_isOne 2 = .ok (.aload_n 0, 1) := by decide +kernel
theorem dX7_isOne_3 : decode cX7_isOne 3 = .ok (.getfield 9, 3) := by decide +kernel
theorem dX7_isOne_6 : decode cX7_isOne 6 = .ok (.iconst 1, 1) := by decide +kernel
theorem dX7_isOne_7 : decode cX7_isOne 7 = .ok (.iaload, 1) := by decide +kernel
theorem dX7_isOne_8 : decode cX7_isOne 8 = .ok (.iconst 1, 1) := by decide +kernel
theorem dX7_isOne_9 : decode cX7_isOne 9 = .ok (.isub, 1) := by decide +kernel
theorem dX7_isOne_10 : decode cX7_isOne 10 = .ok (.invokestatic 76, 3) := by decide +kernel
theorem dX7_isOne_13 : decode cX7_isOne 13 = .ok (.ireturn, 1) := by decide +kernel
theorem dX7_isSeat_0 : decode cX7_isSeat 0 = .ok (.iload_n 0, 1) := by decide +kernel
theorem dX7_isSeat_1 : decode cX7_isSeat 1 = .ok (.iconst 0, 1) := by decide +kernel
theorem dX7_isSeat_2 : decode cX7_isSeat 2 = .ok (.bipush 29, 2) := by decide +kernel
theorem dX7_isSeat_4 : decode cX7_isSeat 4 = .ok (.invokestatic 76, 3) := by decide +kernel
theorem dX7_isSeat_7 : decode cX7_isSeat 7 = .ok (.ireturn, 1) := by decide +kernel
theorem dX7_of_0 : decode cX7_of 0 = .ok (.aload_n 0, 1) := by decide +kernel
theorem dX7_of_1 : decode cX7_of 1 = .ok (.getfield 9, 3) := by decide +kernel
theorem dX7_of_4 : decode cX7_of 4 = .ok (.bipush 33, 2) := by decide +kernel
theorem dX7_of_6 : decode cX7_of 6 = .ok (.bipush 6, 2) := by decide +kernel
theorem dX7_of_8 : decode cX7_of 8 = .ok (.iload_n 1, 1) := by decide +kernel
theorem dX7_of_9 : decode cX7_of 9 = .ok (.imul, 1) := by decide +kernel
theorem dX7_of_10 : decode cX7_of 10 = .ok (.iadd, 1) := by decide +kernel
theorem dX7_of_11 : decode cX7_of 11 = .ok (.iload_n 2, 1) := by decide +kernel
theorem dX7_of_12 : decode cX7_of 12 = .ok (.iadd, 1) := by decide +kernel
theorem dX7_of_13 : decode cX7_of 13 = .ok (.iaload, 1) := by decide +kernel
theorem dX7_of_14 : decode cX7_of 14 = .ok (.ireturn, 1) := by decide +kernel
theorem dX7_put_0 : decode cX7_put 0 = .ok (.aload_n 0, 1) := by decide +kernel
theorem dX7_put_1 : decode cX7_put 1 = .ok (.getfield 9, 3) := by decide +kernel
theorem dX7_put_4 : decode cX7_put 4 = .ok (.bipush 33, 2) := by decide +kernel
theorem dX7_put_6 : decode cX7_put 6 = .ok (.bipush 6, 2) := by decide +kernel
theorem dX7_put_8 : decode cX7_put 8 = .ok (.iload_n 1, 1) := by decide +kernel
theorem dX7_put_9 : decode cX7_put 9 = .ok (.imul, 1) := by decide +kernel
theorem dX7_put_10 : decode cX7_put 10 = .ok (.iadd, 1) := by decide +kernel
theorem dX7_put_11 : decode cX7_put 11 = .ok (.iload_n 2, 1) := by decide +kernel
theorem dX7_put_12 : decode cX7_put 12 = .ok (.iadd, 1) := by decide +kernel
theorem dX7_put_13 : decode cX7_put 13 = .ok (.iload_n 3, 1) := by decide +kernel
theorem dX7_put_14 : decode cX7_put 14 = .ok (.iastore, 1) := by decide +kernel
theorem dX7_put_15 : decode cX7_put 15 = .ok (.return_, 1) := by decide +kernel
theorem dX7_becomes_0 : decode cX7_becomes 0 = .ok (.aload_n 0, 1) := by decide +kernel
theorem dX7_becomes_1 : decode cX7_becomes 1 = .ok (.getfield 9, 3) := by decide +kernel
theorem dX7_becomes_4 : decode cX7_becomes 4 = .ok (.iload_n 1, 1) := by decide +kernel
theorem dX7_becomes_5 : decode cX7_becomes 5 = .ok (.iaload, 1) := by decide +kernel
theorem dX7_becomes_6 : decode cX7_becomes 6 = .ok (.istore_n 3, 1) := by decide +kernel
theorem dX7_becomes_7 : decode cX7_becomes 7 = .ok (.aload_n 0, 1) := by decide +kernel
theorem dX7_becomes_8 : decode cX7_becomes 8 = .ok (.getfield 9, 3) := by decide +kernel
theorem dX7_becomes_11 : decode cX7_becomes 11 = .ok (.iload_n 1, 1) := by decide +kernel
theorem dX7_becomes_12 : decode cX7_becomes 12 = .ok (.iload_n 2, 1) := by decide +kernel
theorem dX7_becomes_13 : decode cX7_becomes 13 = .ok (.iastore, 1) := by decide +kernel
theorem dX7_becomes_14 : decode cX7_becomes 14 = .ok (.iload_n 3, 1) := by decide +kernel
theorem dX7_becomes_15 : decode cX7_becomes 15 = .ok (.ireturn, 1) := by decide +kernel
theorem dX7_whoOn_0 : decode cX7_whoOn 0 = .ok (.iconst 0, 1) := by decide +kernel
theorem dX7_whoOn_1 : decode cX7_whoOn 1 = .ok (.istore_n 2, 1) := by decide +kernel
theorem dX7_whoOn_2 : decode cX7_whoOn 2 = .ok (.iload_n 2, 1) := by decide +kernel
theorem dX7_whoOn_3 : decode cX7_whoOn 3 = .ok (.aload_n 0, 1) := by decide +kernel
theorem dX7_whoOn_4 : decode cX7_whoOn 4 = .ok (.getfield 9, 3) := by decide +kernel
theorem dX7_whoOn_7 : decode cX7_whoOn 7 = .ok (.iconst 1, 1) := by decide +kernel
theorem dX7_whoOn_8 : decode cX7_whoOn 8 = .ok (.iaload, 1) := by decide +kernel
theorem dX7_whoOn_9 : decode cX7_whoOn 9 = .ok (.if_icmp .ge 21, 3) := by decide +kernel
theorem dX7_whoOn_12 : decode cX7_whoOn 12 = .ok (.aload_n 0, 1) := by decide +kernel
theorem dX7_whoOn_13 : decode cX7_whoOn 13 = .ok (.iload_n 2, 1) := by decide +kernel
theorem dX7_whoOn_14 : decode cX7_whoOn 14 = .ok (.iconst 1, 1) := by decide +kernel
theorem dX7_whoOn_15 : decode cX7_whoOn 15 = .ok (.invokevirtual 80, 3) := by decide +kernel
theorem dX7_whoOn_18 : decode cX7_whoOn 18 = .ok (.iload_n 1, 1) := by decide +kernel
theorem dX7_whoOn_19 : decode cX7_whoOn 19 = .ok (.if_icmp .ne 5, 3) := by decide +kernel
theorem dX7_whoOn_22 : decode cX7_whoOn 22 = .ok (.iload_n 2, 1) := by decide +kernel
theorem dX7_whoOn_23 : decode cX7_whoOn 23 = .ok (.ireturn, 1) := by decide +kernel
theorem dX7_whoOn_24 : decode cX7_whoOn 24 = .ok (.iinc 2 1, 3) := by decide +kernel
theorem dX7_whoOn_27 : decode cX7_whoOn 27 = .ok (.goto (-25), 3) := by decide +kernel
theorem dX7_whoOn_30 : decode cX7_whoOn 30 = .ok (.iconst (-1), 1) := by decide +kernel
theorem dX7_whoOn_31 : decode cX7_whoOn 31 = .ok (.ireturn, 1) := by decide +kernel
theorem dX7_comes_0 : decode cX7_comes 0 = .ok (.aload_n 0, 1) := by decide +kernel
theorem dX7_comes_1 : decode cX7_comes 1 = .ok (.getfield 9, 3) := by decide +kernel
theorem dX7_comes_4 : decode cX7_comes 4 = .ok (.iconst 1, 1) := by decide +kernel
theorem dX7_comes_5 : decode cX7_comes 5 = .ok (.iaload, 1) := by decide +kernel
theorem dX7_comes_6 : decode cX7_comes 6 = .ok (.istore 4, 2) := by decide +kernel
theorem dX7_comes_8 : decode cX7_comes 8 = .ok (.aload_n 0, 1) := by decide +kernel
theorem dX7_comes_9 : decode cX7_comes 9 = .ok (.iload 4, 2) := by decide +kernel
theorem dX7_comes_11 : decode cX7_comes 11 = .ok (.iconst 0, 1) := by decide +kernel
theorem dX7_comes_12 : decode cX7_comes 12 = .ok (.iload_n 1, 1) := by decide +kernel
theorem dX7_comes_13 : decode cX7_comes 13 = .ok (.invokevirtual 84, 3) := by decide +kernel
theorem dX7_comes_16 : decode cX7_comes 16 = .ok (.aload_n 0, 1) := by decide +kernel
theorem dX7_comes_17 : decode cX7_comes 17 = .ok (.iload 4, 2) := by decide +kernel
theorem dX7_comes_19 : decode cX7_comes 19 = .ok (.iconst 1, 1) := by decide +kernel
theorem dX7_comes_20 : decode cX7_comes 20 = .ok (.iload_n 2, 1) := by decide +kernel
theorem dX7_comes_21 : decode cX7_comes 21 = .ok (.invokevirtual 84, 3) := by decide +kernel
theorem dX7_comes_24 : decode cX7_comes 24 = .ok (.aload_n 0, 1) := by decide +kernel
theorem dX7_comes_25 : decode cX7_comes 25 = .ok (.iload 4, 2) := by decide +kernel
theorem dX7_comes_27 : decode cX7_comes 27 = .ok (.iconst 2, 1) := by decide +kernel
theorem dX7_comes_28 : decode cX7_comes 28 = .ok (.iload_n 3, 1) := by decide +kernel
theorem dX7_comes_29 : decode cX7_comes 29 = .ok (.invokevirtual 84, 3) := by decide +kernel
theorem dX7_comes_32 : decode cX7_comes 32 = .ok (.aload_n 0, 1) := by decide +kernel
theorem dX7_comes_33 : decode cX7_comes 33 = .ok (.iload 4, 2) := by decide +kernel
theorem dX7_comes_35 : decode cX7_comes 35 = .ok (.iconst 3, 1) := by decide +kernel
theorem dX7_comes_36 : decode cX7_comes 36 = .ok (.iconst 0, 1) := by decide +kernel
theorem dX7_comes_37 : decode cX7_comes 37 = .ok (.invokevirtual 84, 3) := by decide +kernel
theorem dX7_comes_40 : decode cX7_comes 40 = .ok (.aload_n 0, 1) := by decide +kernel
theorem dX7_comes_41 : decode cX7_comes 41 = .ok (.iload 4, 2) := by decide +kernel
theorem dX7_comes_43 : decode cX7_comes 43 = .ok (.iconst 4, 1) := by decide +kernel
theorem dX7_comes_44 : decode cX7_comes 44 = .ok (.iconst 0, 1) := by decide +kernel
theorem dX7_comes_45 : decode cX7_comes 45 = .ok (.invokevirtual 84, 3) := by decide +kernel
theorem dX7_comes_48 : decode cX7_comes 48 = .ok (.aload_n 0, 1) := by decide +kernel
theorem dX7_comes_49 : decode cX7_comes 49 = .ok (.iload 4, 2) := by decide +kernel
theorem dX7_comes_51 : decode cX7_comes 51 = .ok (.iconst 5, 1) := by decide +kernel
theorem dX7_comes_52 : decode cX7_comes 52 = .ok (.iconst 0, 1) := by decide +kernel
theorem dX7_comes_53 : decode cX7_comes 53 = .ok (.invokevirtual 84, 3) := by decide +kernel
theorem dX7_comes_56 : decode cX7_comes 56 = .ok (.aload_n 0, 1) := by decide +kernel
theorem dX7_comes_57 : decode cX7_comes 57 = .ok (.getfield 9, 3) := by decide +kernel
theorem dX7_comes_60 : decode cX7_comes 60 = .ok (.iconst 1, 1) := by decide +kernel
theorem dX7_comes_61 : decode cX7_comes 61 = .ok (.dup2, 1) := by decide +kernel
theorem dX7_comes_62 : decode cX7_comes 62 = .ok (.iaload, 1) := by decide +kernel
theorem dX7_comes_63 : decode cX7_comes 63 = .ok (.iconst 1, 1) := by decide +kernel
theorem dX7_comes_64 : decode cX7_comes 64 = .ok (.iadd, 1) := by decide +kernel
theorem dX7_comes_65 : decode cX7_comes 65 = .ok (.iastore, 1) := by decide +kernel
theorem dX7_comes_66 : decode cX7_comes 66 = .ok (.iload 4, 2) := by decide +kernel
theorem dX7_comes_68 : decode cX7_comes 68 = .ok (.ireturn, 1) := by decide +kernel
theorem dX7_person_0 : decode cX7_person 0 = .ok (.iload_n 1, 1) := by decide +kernel
theorem dX7_person_1 : decode cX7_person 1 = .ok (.iconst 0, 1) := by decide +kernel
theorem dX7_person_2 : decode cX7_person 2 = .ok (.iconst 5, 1) := by decide +kernel
theorem dX7_person_3 : decode cX7_person 3 = .ok (.invokestatic 76, 3) := by decide +kernel
theorem dX7_person_6 : decode cX7_person 6 = .ok (.ifCond .eq 20, 3) := by decide +kernel
theorem dX7_person_9 : decode cX7_person 9 = .ok (.iload_n 2, 1) := by decide +kernel
theorem dX7_person_10 : decode cX7_person 10 = .ok (.invokestatic 88, 3) := by decide +kernel
theorem dX7_person_13 : decode cX7_person 13 = .ok (.ifCond .eq 13, 3) := by decide +kernel
theorem dX7_person_16 : decode cX7_person 16 = .ok (.iload_n 3, 1) := by decide +kernel
theorem dX7_person_17 : decode cX7_person 17 = .ok (.iconst 0, 1) := by decide +kernel
theorem dX7_person_18 : decode cX7_person 18 = .ok (.bipush 99, 2) := by decide +kernel
theorem dX7_person_20 : decode cX7_person 20 = .ok (.invokestatic 76, 3) := by decide +kernel
theorem dX7_person_23 : decode cX7_person 23 = .ok (.ifCond .ne 6, 3) := by decide +kernel
theorem dX7_person_26 : decode cX7_person 26 = .ok (.ldc 92, 2) := by decide +kernel
theorem dX7_person_28 : decode cX7_person 28 = .ok (.ireturn, 1) := by decide +kernel
theorem dX7_person_29 : decode cX7_person 29 = .ok (.aload_n 0, 1) := by decide +kernel
theorem dX7_person_30 : decode cX7_person 30 = .ok (.iload_n 2, 1) := by decide +kernel
theorem dX7_person_31 : decode cX7_person 31 = .ok (.invokevirtual 93, 3) := by decide +kernel
theorem dX7_person_34 : decode cX7_person 34 = .ok (.ifCond .lt 6, 3) := by decide +kernel
theorem dX7_person_37 : decode cX7_person 37 = .ok (.ldc 97, 2) := by decide +kernel
theorem dX7_person_39 : decode cX7_person 39 = .ok (.ireturn, 1) := by decide +kernel
theorem dX7_person_40 : decode cX7_person 40 = .ok (.aload_n 0, 1) := by decide +kernel
theorem dX7_person_41 : decode cX7_person 41 = .ok (.getfield 9, 3) := by decide +kernel
theorem dX7_person_44 : decode cX7_person 44 = .ok (.iconst 1, 1) := by decide +kernel
theorem dX7_person_45 : decode cX7_person 45 = .ok (.iaload, 1) := by decide +kernel
theorem dX7_person_46 : decode cX7_person 46 = .ok (.bipush 10, 2) := by decide +kernel
theorem dX7_person_48 : decode cX7_person 48 = .ok (.if_icmp .ne 8, 3) := by decide +kernel
theorem dX7_person_51 : decode cX7_person 51 = .ok (.ldc 98, 2) := by decide +kernel
theorem dX7_person_53 : decode cX7_person 53 = .ok (.goto 10, 3) := by decide +kernel
theorem dX7_person_56 : decode cX7_person 56 = .ok (.aload_n 0, 1) := by decide +kernel
theorem dX7_person_57 : decode cX7_person 57 = .ok (.iload_n 1, 1) := by decide +kernel
theorem dX7_person_58 : decode cX7_person 58 = .ok (.iload_n 2, 1) := by decide +kernel
theorem dX7_person_59 : decode cX7_person 59 = .ok (.iload_n 3, 1) := by decide +kernel
theorem dX7_person_60 : decode cX7_person 60 = .ok (.invokevirtual 99, 3) := by decide +kernel
theorem dX7_person_63 : decode cX7_person 63 = .ok (.ireturn, 1) := by decide +kernel
theorem dX7_loudOn_0 : decode cX7_loudOn 0 = .ok (.aload_n 0, 1) := by decide +kernel
theorem dX7_loudOn_1 : decode cX7_loudOn 1 = .ok (.getfield 9, 3) := by decide +kernel
theorem dX7_loudOn_4 : decode cX7_loudOn 4 = .ok (.bipush 9, 2) := by decide +kernel
theorem dX7_loudOn_6 : decode cX7_loudOn 6 = .ok (.aload_n 0, 1) := by decide +kernel
theorem dX7_loudOn_7 : decode cX7_loudOn 7 = .ok (.getfield 9, 3) := by decide +kernel
theorem dX7_loudOn_10 : decode cX7_loudOn 10 = .ok (.iconst 3, 1) := by decide +kernel
theorem dX7_loudOn_11 : decode cX7_loudOn 11 = .ok (.iaload, 1) := by decide +kernel
theorem dX7_loudOn_12 : decode cX7_loudOn 12 = .ok (.iload_n 1, 1) := by decide +kernel
theorem dX7_loudOn_13 : decode cX7_loudOn 13 = .ok (.iadd, 1) := by decide +kernel
theorem dX7_loudOn_14 : decode cX7_loudOn 14 = .ok (.aload_n 0, 1) := by decide +kernel
theorem dX7_loudOn_15 : decode cX7_loudOn 15 = .ok (.getfield 9, 3) := by decide +kernel
theorem dX7_loudOn_18 : decode cX7_loudOn 18 = .ok (.iconst 2, 1) := by decide +kernel
theorem dX7_loudOn_19 : decode cX7_loudOn 19 = .ok (.iaload, 1) := by decide +kernel
theorem dX7_loudOn_20 : decode cX7_loudOn 20 = .ok (.irem, 1) := by decide +kernel
theorem dX7_loudOn_21 : decode cX7_loudOn 21 = .ok (.iadd, 1) := by decide +kernel
theorem dX7_loudOn_22 : decode cX7_loudOn 22 = .ok (.iaload, 1) := by decide +kernel
theorem dX7_loudOn_23 : decode cX7_loudOn 23 = .ok (.ireturn, 1) := by decide +kernel
theorem dX7_growsBy_0 : decode cX7_growsBy 0 = .ok (.aload_n 0, 1) := by decide +kernel
theorem dX7_growsBy_1 : decode cX7_growsBy 1 = .ok (.iconst 0, 1) := by decide +kernel
theorem dX7_growsBy_2 : decode cX7_growsBy 2 = .ok (.invokevirtual 103, 3) := by decide +kernel
theorem dX7_growsBy_5 : decode cX7_growsBy 5 = .ok (.istore_n 2, 1) := by decide +kernel
theorem dX7_growsBy_6 : decode cX7_growsBy 6 = .ok (.aload_n 0, 1) := by decide +kernel
theorem dX7_growsBy_7 : decode cX7_growsBy 7 = .ok (.getfield 45, 3) := by decide +kernel
theorem dX7_growsBy_10 : decode cX7_growsBy 10 = .ok (.iconst 0, 1) := by decide +kernel
theorem dX7_growsBy_11 : decode cX7_growsBy 11 = .ok (.aload_n 0, 1) := by decide +kernel
theorem dX7_growsBy_12 : decode cX7_growsBy 12 = .ok (.iload_n 1, 1) := by decide +kernel
theorem dX7_growsBy_13 : decode cX7_growsBy 13 = .ok (.iconst 2, 1) := by decide +kernel
theorem dX7_growsBy_14 : decode cX7_growsBy 14 = .ok (.invokevirtual 80, 3) := by decide +kernel
theorem dX7_growsBy_17 : decode cX7_growsBy 17 = .ok (.iastore, 1) := by decide +kernel
theorem dX7_growsBy_18 : decode cX7_growsBy 18 = .ok (.aload_n 0, 1) := by decide +kernel
theorem dX7_growsBy_19 : decode cX7_growsBy 19 = .ok (.getfield 45, 3) := by decide +kernel
theorem dX7_growsBy_22 : decode cX7_growsBy 22 = .ok (.iconst 1, 1) := by decide +kernel
theorem dX7_growsBy_23 : decode cX7_growsBy 23 = .ok (.aload_n 0, 1) := by decide +kernel
theorem dX7_growsBy_24 : decode cX7_growsBy 24 = .ok (.getfield 9, 3) := by decide +kernel
theorem dX7_growsBy_27 : decode cX7_growsBy 27 = .ok (.bipush 6, 2) := by decide +kernel
theorem dX7_growsBy_29 : decode cX7_growsBy 29 = .ok (.iaload, 1) := by decide +kernel
theorem dX7_growsBy_30 : decode cX7_growsBy 30 = .ok (.iastore, 1) := by decide +kernel
theorem dX7_growsBy_31 : decode cX7_growsBy 31 = .ok (.aload_n 0, 1) := by decide +kernel
theorem dX7_growsBy_32 : decode cX7_growsBy 32 = .ok (.getfield 45, 3) := by decide +kernel
theorem dX7_growsBy_35 : decode cX7_growsBy 35 = .ok (.iconst 2, 1) := by decide +kernel
theorem dX7_growsBy_36 : decode cX7_growsBy 36 = .ok (.aload_n 0, 1) := by decide +kernel
theorem dX7_growsBy_37 : decode cX7_growsBy 37 = .ok (.iload_n 1, 1) := by decide +kernel
theorem dX7_growsBy_38 : decode cX7_growsBy 38 = .ok (.iconst 3, 1) := by decide +kernel
theorem dX7_growsBy_39 : decode cX7_growsBy 39 = .ok (.invokevirtual 80, 3) := by decide +kernel
theorem dX7_growsBy_42 : decode cX7_growsBy 42 = .ok (.iastore, 1) := by decide +kernel
theorem dX7_growsBy_43 : decode cX7_growsBy 43 = .ok (.iload_n 2, 1) := by decide +kernel
theorem dX7_growsBy_44 : decode cX7_growsBy 44 = .ok (.ifCond .ge 28, 3) := by decide +kernel
theorem dX7_growsBy_47 : decode cX7_growsBy 47 = .ok (.iconst 1, 1) := by decide +kernel
theorem dX7_growsBy_48 : decode cX7_growsBy 48 = .ok (.aload_n 0, 1) := by decide +kernel
theorem dX7_growsBy_49 : decode cX7_growsBy 49 = .ok (.iload_n 1, 1) := by decide +kernel
theorem dX7_growsBy_50 : decode cX7_growsBy 50 = .ok (.iconst 2, 1) := by decide +kernel
theorem dX7_growsBy_51 : decode cX7_growsBy 51 = .ok (.invokevirtual 80, 3) := by decide +kernel
theorem dX7_growsBy_54 : decode cX7_growsBy 54 = .ok (.bipush 20, 2) := by decide +kernel
theorem dX7_growsBy_56 : decode cX7_growsBy 56 = .ok (.idiv, 1) := by decide +kernel
theorem dX7_growsBy_57 : decode cX7_growsBy 57 = .ok (.iadd, 1) := by decide +kernel
theorem dX7_growsBy_58 : decode cX7_growsBy 58 = .ok (.aload_n 0, 1) := by decide +kernel
theorem dX7_growsBy_59 : decode cX7_growsBy 59 = .ok (.getfield 9, 3) := by decide +kernel
theorem dX7_growsBy_62 : decode cX7_growsBy 62 = .ok (.bipush 6, 2) := by decide +kernel
theorem dX7_growsBy_64 : decode cX7_growsBy 64 = .ok (.iaload, 1) := by decide +kernel
theorem dX7_growsBy_65 : decode cX7_growsBy 65 = .ok (.bipush 10, 2) := by decide +kernel
theorem dX7_growsBy_67 : decode cX7_growsBy 67 = .ok (.idiv, 1) := by decide +kernel
theorem dX7_growsBy_68 : decode cX7_growsBy 68 = .ok (.iadd, 1) := by decide +kernel
theorem dX7_growsBy_69 : decode cX7_growsBy 69 = .ok (.goto 8, 3) := by decide +kernel
theorem dX7_growsBy_72 : decode cX7_growsBy 72 = .ok (.aload_n 0, 1) := by decide +kernel
theorem dX7_growsBy_73 : decode cX7_growsBy 73 = .ok (.iload_n 2, 1) := by decide +kernel
theorem dX7_growsBy_74 : decode cX7_growsBy 74 = .ok (.invokevirtual 106, 3) := by decide +kernel
theorem dX7_growsBy_77 : decode cX7_growsBy 77 = .ok (.iconst 0, 1) := by decide +kernel
theorem dX7_growsBy_78 : decode cX7_growsBy 78 = .ok (.bipush 99, 2) := by decide +kernel
theorem dX7_growsBy_80 : decode cX7_growsBy 80 = .ok (.invokestatic 109, 3) := by decide +kernel
theorem dX7_growsBy_83 : decode cX7_growsBy 83 = .ok (.istore_n 3, 1) := by decide +kernel
theorem dX7_growsBy_84 : decode cX7_growsBy 84 = .ok (.aload_n 0, 1) := by decide +kernel
theorem dX7_growsBy_85 : decode cX7_growsBy 85 = .ok (.iload_n 1, 1) := by decide +kernel
theorem dX7_growsBy_86 : decode cX7_growsBy 86 = .ok (.iconst 4, 1) := by decide +kernel
theorem dX7_growsBy_87 : decode cX7_growsBy 87 = .ok (.invokevirtual 80, 3) := by decide +kernel
theorem dX7_growsBy_90 : decode cX7_growsBy 90 = .ok (.ifCond .le 7, 3) := by decide +kernel
theorem dX7_growsBy_93 : decode cX7_growsBy 93 = .ok (.iconst 0, 1) := by decide +kernel
theorem dX7_growsBy_94 : decode cX7_growsBy 94 = .ok (.goto 4, 3) := by decide +kernel
theorem dX7_growsBy_97 : decode cX7_growsBy 97 = .ok (.iload_n 3, 1) := by decide +kernel
theorem dX7_growsBy_98 : decode cX7_growsBy 98 = .ok (.ireturn, 1) := by decide +kernel
theorem dX7_isSetOff_0 : decode cX7_isSetOff 0 = .ok (.iconst 0, 1) := by decide +kernel
theorem dX7_isSetOff_1 : decode cX7_isSetOff 1 = .ok (.istore_n 2, 1) := by decide +kernel
theorem dX7_isSetOff_2 : decode cX7_isSetOff 2 = .ok (.iload_n 2, 1) := by decide +kernel
theorem dX7_isSetOff_3 : decode cX7_isSetOff 3 = .ok (.aload_n 0, 1) := by decide +kernel
theorem dX7_isSetOff_4 : decode cX7_isSetOff 4 = .ok (.getfield 9, 3) := by decide +kernel
theorem dX7_isSetOff_7 : decode cX7_isSetOff 7 = .ok (.iconst 1, 1) := by decide +kernel
theorem dX7_isSetOff_8 : decode cX7_isSetOff 8 = .ok (.iaload, 1) := by decide +kernel
theorem dX7_isSetOff_9 : decode cX7_isSetOff 9 = .ok (.if_icmp .ge 64, 3) := by decide +kernel
theorem dX7_isSetOff_12 : decode cX7_isSetOff 12 = .ok (.iload_n 2, 1) := by decide +kernel
theorem dX7_isSetOff_13 : decode cX7_isSetOff 13 = .ok (.iload_n 1, 1) := by decide +kernel
theorem dX7_isSetOff_14 : decode cX7_isSetOff 14 = .ok (.if_icmp .eq 53, 3) := by decide +kernel
theorem dX7_isSetOff_17 : decode cX7_isSetOff 17 = .ok (.aload_n 0, 1) := by decide +kernel
theorem dX7_isSetOff_18 : decode cX7_isSetOff 18 = .ok (.getfield 9, 3) := by decide +kernel
theorem dX7_isSetOff_21 : decode cX7_isSetOff 21 = .ok (.iconst 5, 1) := by decide +kernel
theorem dX7_isSetOff_22 : decode cX7_isSetOff 22 = .ok (.iaload, 1) := by decide +kernel
theorem dX7_isSetOff_23 : decode cX7_isSetOff 23 = .ok (.iload_n 2, 1) := by decide +kernel
theorem dX7_isSetOff_24 : decode cX7_isSetOff 24 = .ok (.ishr, 1) := by decide +kernel
theorem dX7_isSetOff_25 : decode cX7_isSetOff 25 = .ok (.iconst 1, 1) := by decide +kernel
theorem dX7_isSetOff_26 : decode cX7_isSetOff 26 = .ok (.iand, 1) := by decide +kernel
theorem dX7_isSetOff_27 : decode cX7_isSetOff 27 = .ok (.iconst 1, 1) := by decide +kernel
theorem dX7_isSetOff_28 : decode cX7_isSetOff 28 = .ok (.if_icmp .ne 39, 3) := by decide +kernel
theorem dX7_isSetOff_31 : decode cX7_isSetOff 31 = .ok (.aload_n 0, 1) := by decide +kernel
theorem dX7_isSetOff_32 : decode cX7_isSetOff 32 = .ok (.iload_n 2, 1) := by decide +kernel
theorem dX7_isSetOff_33 : decode cX7_isSetOff 33 = .ok (.iconst 1, 1) := by decide +kernel
theorem dX7_isSetOff_34 : decode cX7_isSetOff 34 = .ok (.invokevirtual 80, 3) := by decide +kernel
theorem dX7_isSetOff_37 : decode cX7_isSetOff 37 = .ok (.aload_n 0, 1) := by decide +kernel
theorem dX7_isSetOff_38 : decode cX7_isSetOff 38 = .ok (.iload_n 1, 1) := by decide +kernel
theorem dX7_isSetOff_39 : decode cX7_isSetOff 39 = .ok (.iconst 1, 1) := by decide +kernel
theorem dX7_isSetOff_40 : decode cX7_isSetOff 40 = .ok (.invokevirtual 80, 3) := by decide +kernel
theorem dX7_isSetOff_43 : decode cX7_isSetOff 43 = .ok (.isub, 1) := by decide +kernel
theorem dX7_isSetOff_44 : decode cX7_isSetOff 44 = .ok (.aload_n 0, 1) := by decide +kernel
theorem dX7_isSetOff_45 : decode cX7_isSetOff 45 = .ok (.getfield 9, 3) := by decide +kernel
theorem dX7_isSetOff_48 : decode cX7_isSetOff 48 = .ok (.bipush 7, 2) := by decide +kernel
theorem dX7_isSetOff_50 : decode cX7_isSetOff 50 = .ok (.iaload, 1) := by decide +kernel
theorem dX7_isSetOff_51 : decode cX7_isSetOff 51 = .ok (.ineg, 1) := by decide +kernel
theorem dX7_isSetOff_52 : decode cX7_isSetOff 52 = .ok (.aload_n 0, 1) := by decide +kernel
theorem dX7_isSetOff_53 : decode cX7_isSetOff 53 = .ok (.getfield 9, 3) := by decide +kernel
theorem dX7_isSetOff_56 : decode cX7_isSetOff 56 = .ok (.bipush 7, 2) := by decide +kernel
theorem dX7_isSetOff_58 : decode cX7_isSetOff 58 = .ok (.iaload, 1) := by decide +kernel
theorem dX7_isSetOff_59 : decode cX7_isSetOff 59 = .ok (.invokestatic 76, 3) := by decide +kernel
theorem dX7_isSetOff_62 : decode cX7_isSetOff 62 = .ok (.ifCond .eq 5, 3) := by decide +kernel
theorem dX7_isSetOff_65 : decode cX7_isSetOff 65 = .ok (.iconst 1, 1) := by decide +kernel
theorem dX7_isSetOff_66 : decode cX7_isSetOff 66 = .ok (.ireturn, 1) := by decide +kernel
theorem dX7_isSetOff_67 : decode cX7_isSetOff 67 = .ok (.iinc 2 1, 3) := by decide +kernel
theorem dX7_isSetOff_70 : decode cX7_isSetOff 70 = .ok (.goto (-68), 3) := by decide +kernel
theorem dX7_isSetOff_73 : decode cX7_isSetOff 73 = .ok (.iconst 0, 1) := by decide +kernel
theorem dX7_isSetOff_74 : decode cX7_isSetOff 74 = .ok (.ireturn, 1) := by decide +kernel
theorem dX7_letsGo_0 : decode cX7_letsGo 0 = .ok (.aload_n 0, 1) := by decide +kernel
theorem dX7_letsGo_1 : decode cX7_letsGo 1 = .ok (.iload_n 1, 1) := by decide +kernel
theorem dX7_letsGo_2 : decode cX7_letsGo 2 = .ok (.iconst 3, 1) := by decide +kernel
theorem dX7_letsGo_3 : decode cX7_letsGo 3 = .ok (.invokevirtual 80, 3) := by decide +kernel
theorem dX7_letsGo_6 : decode cX7_letsGo 6 = .ok (.istore_n 2, 1) := by decide +kernel
theorem dX7_letsGo_7 : decode cX7_letsGo 7 = .ok (.aload_n 0, 1) := by decide +kernel
theorem dX7_letsGo_8 : decode cX7_letsGo 8 = .ok (.iconst 0, 1) := by decide +kernel
theorem dX7_letsGo_9 : decode cX7_letsGo 9 = .ok (.invokevirtual 112, 3) := by decide +kernel
theorem dX7_letsGo_12 : decode cX7_letsGo 12 = .ok (.istore_n 3, 1) := by decide +kernel
theorem dX7_letsGo_13 : decode cX7_letsGo 13 = .ok (.iload_n 2, 1) := by decide +kernel
theorem dX7_letsGo_14 : decode cX7_letsGo 14 = .ok (.sipush 200, 3) := by decide +kernel
theorem dX7_letsGo_17 : decode cX7_letsGo 17 = .ok (.if_icmp .ge 13, 3) := by decide +kernel
theorem dX7_letsGo_20 : decode cX7_letsGo 20 = .ok (.iload_n 2, 1) := by decide +kernel
theorem dX7_letsGo_21 : decode cX7_letsGo 21 = .ok (.bipush 100, 2) := by decide +kernel
theorem dX7_letsGo_23 : decode cX7_letsGo 23 = .ok (.if_icmp .lt 11, 3) := by decide +kernel
theorem dX7_letsGo_26 : decode cX7_letsGo 26 = .ok (.iload_n 3, 1) := by decide +kernel
theorem dX7_letsGo_27 : decode cX7_letsGo 27 = .ok (.ifCond .ne 7, 3) := by decide +kernel
theorem dX7_letsGo_30 : decode cX7_letsGo 30 = .ok (.iconst 1, 1) := by decide +kernel
theorem dX7_letsGo_31 : decode cX7_letsGo 31 = .ok (.goto 4, 3) := by decide +kernel
theorem dX7_letsGo_34 : decode cX7_letsGo 34 = .ok (.iconst 0, 1) := by decide +kernel
theorem dX7_letsGo_35 : decode cX7_letsGo 35 = .ok (.istore 4, 2) := by decide +kernel
theorem dX7_letsGo_37 : decode cX7_letsGo 37 = .ok (.iload_n 2, 1) := by decide +kernel
theorem dX7_letsGo_38 : decode cX7_letsGo 38 = .ok (.sipush 200, 3) := by decide +kernel
theorem dX7_letsGo_41 : decode cX7_letsGo 41 = .ok (.if_icmp .ge 15, 3) := by decide +kernel
theorem dX7_letsGo_44 : decode cX7_letsGo 44 = .ok (.iload_n 2, 1) := by decide +kernel
theorem dX7_letsGo_45 : decode cX7_letsGo 45 = .ok (.bipush 100, 2) := by decide +kernel
theorem dX7_letsGo_47 : decode cX7_letsGo 47 = .ok (.if_icmp .lt 13, 3) := by decide +kernel
theorem dX7_letsGo_50 : decode cX7_letsGo 50 = .ok (.iload_n 3, 1) := by decide +kernel
theorem dX7_letsGo_51 : decode cX7_letsGo 51 = .ok (.bipush 50, 2) := by decide +kernel
theorem dX7_letsGo_53 : decode cX7_letsGo 53 = .ok (.if_icmp .lt 7, 3) := by decide +kernel
theorem dX7_letsGo_56 : decode cX7_letsGo 56 = .ok (.iconst 1, 1) := by decide +kernel
theorem dX7_letsGo_57 : decode cX7_letsGo 57 = .ok (.goto 4, 3) := by decide +kernel
theorem dX7_letsGo_60 : decode cX7_letsGo 60 = .ok (.iconst 0, 1) := by decide +kernel
theorem dX7_letsGo_61 : decode cX7_letsGo 61 = .ok (.istore 5, 2) := by decide +kernel
theorem dX7_letsGo_63 : decode cX7_letsGo 63 = .ok (.aload_n 0, 1) := by decide +kernel
theorem dX7_letsGo_64 : decode cX7_letsGo 64 = .ok (.iload_n 1, 1) := by decide +kernel
theorem dX7_letsGo_65 : decode cX7_letsGo 65 = .ok (.iconst 0, 1) := by decide +kernel
theorem dX7_letsGo_66 : decode cX7_letsGo 66 = .ok (.invokevirtual 80, 3) := by decide +kernel
theorem dX7_letsGo_69 : decode cX7_letsGo 69 = .ok (.tableswitch 126 1 5 #[35, 38, 41, 66, 102], 35) := by decide +kernel
theorem dX7_letsGo_104 : decode cX7_letsGo 104 = .ok (.iload 4, 2) := by decide +kernel
theorem dX7_letsGo_106 : decode cX7_letsGo 106 = .ok (.ireturn, 1) := by decide +kernel
theorem dX7_letsGo_107 : decode cX7_letsGo 107 = .ok (.iload 5, 2) := by decide +kernel
theorem dX7_letsGo_109 : decode cX7_letsGo 109 = .ok (.ireturn, 1) := by decide +kernel
theorem dX7_letsGo_110 : decode cX7_letsGo 110 = .ok (.iload 4, 2) := by decide +kernel
theorem dX7_letsGo_112 : decode cX7_letsGo 112 = .ok (.ifCond .ne 17, 3) := by decide +kernel
theorem dX7_letsGo_115 : decode cX7_letsGo 115 = .ok (.iload_n 2, 1) := by decide +kernel
theorem dX7_letsGo_116 : decode cX7_letsGo 116 = .ok (.bipush 50, 2) := by decide +kernel
theorem dX7_letsGo_118 : decode cX7_letsGo 118 = .ok (.if_icmp .lt 15, 3) := by decide +kernel
theorem dX7_letsGo_121 : decode cX7_letsGo 121 = .ok (.aload_n 0, 1) := by decide +kernel
theorem dX7_letsGo_122 : decode cX7_letsGo 122 = .ok (.iload_n 1, 1) := by decide +kernel
theorem dX7_letsGo_123 : decode cX7_letsGo 123 = .ok (.invokevirtual 115, 3) := by decide +kernel
theorem dX7_letsGo_126 : decode cX7_letsGo 126 = .ok (.ifCond .eq 7, 3) := by decide +kernel
theorem dX7_letsGo_129 : decode cX7_letsGo 129 = .ok (.iconst 1, 1) := by decide +kernel
theorem dX7_letsGo_130 : decode cX7_letsGo 130 = .ok (.goto 4, 3) := by decide +kernel
theorem dX7_letsGo_133 : decode cX7_letsGo 133 = .ok (.iconst 0, 1) := by decide +kernel
theorem dX7_letsGo_134 : decode cX7_letsGo 134 = .ok (.ireturn, 1) := by decide +kernel
theorem dX7_letsGo_135 : decode cX7_letsGo 135 = .ok (.iload 5, 2) := by decide +kernel
theorem dX7_letsGo_137 : decode cX7_letsGo 137 = .ok (.ifCond .ne 28, 3) := by decide +kernel
theorem dX7_letsGo_140 : decode cX7_letsGo 140 = .ok (.aload_n 0, 1) := by decide +kernel
theorem dX7_letsGo_141 : decode cX7_letsGo 141 = .ok (.getfield 9, 3) := by decide +kernel
theorem dX7_letsGo_144 : decode cX7_letsGo 144 = .ok (.iconst 3, 1) := by decide +kernel
theorem dX7_letsGo_145 : decode cX7_letsGo 145 = .ok (.iaload, 1) := by decide +kernel
theorem dX7_letsGo_146 : decode cX7_letsGo 146 = .ok (.bipush 60, 2) := by decide +kernel
theorem dX7_letsGo_148 : decode cX7_letsGo 148 = .ok (.irem, 1) := by decide +kernel
theorem dX7_letsGo_149 : decode cX7_letsGo 149 = .ok (.aload_n 0, 1) := by decide +kernel
theorem dX7_letsGo_150 : decode cX7_letsGo 150 = .ok (.iload_n 1, 1) := by decide +kernel
theorem dX7_letsGo_151 : decode cX7_letsGo 151 = .ok (.iconst 2, 1) := by decide +kernel
theorem dX7_letsGo_152 : decode cX7_letsGo 152 = .ok (.invokevirtual 80, 3) := by decide +kernel
theorem dX7_letsGo_155 : decode cX7_letsGo 155 = .ok (.bipush 60, 2) := by decide +kernel
theorem dX7_letsGo_157 : decode cX7_letsGo 157 = .ok (.irem, 1) := by decide +kernel
theorem dX7_letsGo_158 : decode cX7_letsGo 158 = .ok (.if_icmp .ne 11, 3) := by decide +kernel
theorem dX7_letsGo_161 : decode cX7_letsGo 161 = .ok (.iload_n 2, 1) := by decide +kernel
theorem dX7_letsGo_162 : decode cX7_letsGo 162 = .ok (.ifCond .le 7, 3) := by decide +kernel
theorem dX7_letsGo_165 : decode cX7_letsGo 165 = .ok (.iconst 1, 1) := by decide +kernel
theorem dX7_letsGo_166 : decode cX7_letsGo 166 = .ok (.goto 4, 3) := by decide +kernel
theorem dX7_letsGo_169 : decode cX7_letsGo 169 = .ok (.iconst 0, 1) := by decide +kernel
theorem dX7_letsGo_170 : decode cX7_letsGo 170 = .ok (.ireturn, 1) := by decide +kernel
theorem dX7_letsGo_171 : decode cX7_letsGo 171 = .ok (.aload_n 0, 1) := by decide +kernel
theorem dX7_letsGo_172 : decode cX7_letsGo 172 = .ok (.getfield 9, 3) := by decide +kernel
theorem dX7_letsGo_175 : decode cX7_letsGo 175 = .ok (.iconst 3, 1) := by decide +kernel
theorem dX7_letsGo_176 : decode cX7_letsGo 176 = .ok (.iaload, 1) := by decide +kernel
theorem dX7_letsGo_177 : decode cX7_letsGo 177 = .ok (.bipush 30, 2) := by decide +kernel
theorem dX7_letsGo_179 : decode cX7_letsGo 179 = .ok (.irem, 1) := by decide +kernel
theorem dX7_letsGo_180 : decode cX7_letsGo 180 = .ok (.aload_n 0, 1) := by decide +kernel
theorem dX7_letsGo_181 : decode cX7_letsGo 181 = .ok (.iload_n 1, 1) := by decide +kernel
theorem dX7_letsGo_182 : decode cX7_letsGo 182 = .ok (.iconst 1, 1) := by decide +kernel
theorem dX7_letsGo_183 : decode cX7_letsGo 183 = .ok (.invokevirtual 80, 3) := by decide +kernel
theorem dX7_letsGo_186 : decode cX7_letsGo 186 = .ok (.if_icmp .ne 7, 3) := by decide +kernel
theorem dX7_letsGo_189 : decode cX7_letsGo 189 = .ok (.iconst 1, 1) := by decide +kernel
theorem dX7_letsGo_190 : decode cX7_letsGo 190 = .ok (.goto 4, 3) := by decide +kernel
theorem dX7_letsGo_193 : decode cX7_letsGo 193 = .ok (.iconst 0, 1) := by decide +kernel
theorem dX7_letsGo_194 : decode cX7_letsGo 194 = .ok (.ireturn, 1) := by decide +kernel
theorem dX7_letsGo_195 : decode cX7_letsGo 195 = .ok (.iload_n 2, 1) := by decide +kernel
theorem dX7_letsGo_196 : decode cX7_letsGo 196 = .ok (.bipush 100, 2) := by decide +kernel
theorem dX7_letsGo_198 : decode cX7_letsGo 198 = .ok (.if_icmp .lt 7, 3) := by decide +kernel
theorem dX7_letsGo_201 : decode cX7_letsGo 201 = .ok (.iconst 1, 1) := by decide +kernel
theorem dX7_letsGo_202 : decode cX7_letsGo 202 = .ok (.goto 4, 3) := by decide +kernel
theorem dX7_letsGo_205 : decode cX7_letsGo 205 = .ok (.iconst 0, 1) := by decide +kernel
theorem dX7_letsGo_206 : decode cX7_letsGo 206 = .ok (.ireturn, 1) := by decide +kernel
theorem dX7_worthOf_0 : decode cX7_worthOf 0 = .ok (.aload_n 0, 1) := by decide +kernel
theorem dX7_worthOf_1 : decode cX7_worthOf 1 = .ok (.iload_n 1, 1) := by decide +kernel
theorem dX7_worthOf_2 : decode cX7_worthOf 2 = .ok (.iconst 2, 1) := by decide +kernel
theorem dX7_worthOf_3 : decode cX7_worthOf 3 = .ok (.invokevirtual 80, 3) := by decide +kernel
theorem dX7_worthOf_6 : decode cX7_worthOf 6 = .ok (.istore_n 2, 1) := by decide +kernel
theorem dX7_worthOf_7 : decode cX7_worthOf 7 = .ok (.aload_n 0, 1) := by decide +kernel
theorem dX7_worthOf_8 : decode cX7_worthOf 8 = .ok (.iload_n 1, 1) := by decide +kernel
theorem dX7_worthOf_9 : decode cX7_worthOf 9 = .ok (.iconst 0, 1) := by decide +kernel
theorem dX7_worthOf_10 : decode cX7_worthOf 10 = .ok (.invokevirtual 80, 3) := by decide +kernel
theorem dX7_worthOf_13 : decode cX7_worthOf 13 = .ok (.tableswitch 62 1 5 #[35, 39, 44, 50, 55], 35) := by decide +kernel
theorem dX7_worthOf_48 : decode cX7_worthOf 48 = .ok (.iload_n 2, 1) := by decide +kernel
theorem dX7_worthOf_49 : decode cX7_worthOf 49 = .ok (.iconst 4, 1) := by decide +kernel
theorem dX7_worthOf_50 : decode cX7_worthOf 50 = .ok (.iadd, 1) := by decide +kernel
theorem dX7_worthOf_51 : decode cX7_worthOf 51 = .ok (.ireturn, 1) := by decide +kernel
theorem dX7_worthOf_52 : decode cX7_worthOf 52 = .ok (.bipush 100, 2) := by decide +kernel
theorem dX7_worthOf_54 : decode cX7_worthOf 54 = .ok (.iload_n 2, 1) := by decide +kernel
theorem dX7_worthOf_55 : decode cX7_worthOf 55 = .ok (.isub, 1) := by decide +kernel
theorem dX7_worthOf_56 : decode cX7_worthOf 56 = .ok (.ireturn, 1) := by decide +kernel
theorem dX7_worthOf_57 : decode cX7_worthOf 57 = .ok (.iconst 2, 1) := by decide +kernel
theorem dX7_worthOf_58 : decode cX7_worthOf 58 = .ok (.iload_n 2, 1) := by decide +kernel
theorem dX7_worthOf_59 : decode cX7_worthOf 59 = .ok (.iconst 4, 1) := by decide +kernel
theorem dX7_worthOf_60 : decode cX7_worthOf 60 = .ok (.iadd, 1) := by decide +kernel
theorem dX7_worthOf_61 : decode cX7_worthOf 61 = .ok (.imul, 1) := by decide +kernel
theorem dX7_worthOf_62 : decode cX7_worthOf 62 = .ok (.ireturn, 1) := by decide +kernel
theorem dX7_worthOf_63 : decode cX7_worthOf 63 = .ok (.bipush 94, 2) := by decide +kernel
theorem dX7_worthOf_65 : decode cX7_worthOf 65 = .ok (.iload_n 2, 1) := by decide +kernel
theorem dX7_worthOf_66 : decode cX7_worthOf 66 = .ok (.isub, 1) := by decide +kernel
theorem dX7_worthOf_67 : decode cX7_worthOf 67 = .ok (.ireturn, 1) := by decide +kernel
theorem dX7_worthOf_68 : decode cX7_worthOf 68 = .ok (.aload_n 0, 1) := by decide +kernel
theorem dX7_worthOf_69 : decode cX7_worthOf 69 = .ok (.iload_n 1, 1) := by decide +kernel
theorem dX7_worthOf_70 : decode cX7_worthOf 70 = .ok (.iconst 1, 1) := by decide +kernel
theorem dX7_worthOf_71 : decode cX7_worthOf 71 = .ok (.invokevirtual 80, 3) := by decide +kernel
theorem dX7_worthOf_74 : decode cX7_worthOf 74 = .ok (.ireturn, 1) := by decide +kernel
theorem dX7_worthOf_75 : decode cX7_worthOf 75 = .ok (.iload_n 2, 1) := by decide +kernel
theorem dX7_worthOf_76 : decode cX7_worthOf 76 = .ok (.ireturn, 1) := by decide +kernel
theorem dX7_told_0 : decode cX7_told 0 = .ok (.aload_n 0, 1) := by decide +kernel
theorem dX7_told_1 : decode cX7_told 1 = .ok (.iload_n 1, 1) := by decide +kernel
theorem dX7_told_2 : decode cX7_told 2 = .ok (.invokevirtual 118, 3) := by decide +kernel
theorem dX7_told_5 : decode cX7_told 5 = .ok (.ifCond .eq 13, 3) := by decide +kernel
theorem dX7_told_8 : decode cX7_told 8 = .ok (.iload_n 2, 1) := by decide +kernel
theorem dX7_told_9 : decode cX7_told 9 = .ok (.iconst 0, 1) := by decide +kernel
theorem dX7_told_10 : decode cX7_told 10 = .ok (.bipush 8, 2) := by decide +kernel
theorem dX7_told_12 : decode cX7_told 12 = .ok (.invokestatic 76, 3) := by decide +kernel
theorem dX7_told_15 : decode cX7_told 15 = .ok (.ifCond .ne 6, 3) := by decide +kernel
theorem dX7_told_18 : decode cX7_told 18 = .ok (.ldc 92, 2) := by decide +kernel
theorem dX7_told_20 : decode cX7_told 20 = .ok (.ireturn, 1) := by decide +kernel
theorem dX7_told_21 : decode cX7_told 21 = .ok (.iload_n 2, 1) := by decide +kernel
theorem dX7_told_22 : decode cX7_told 22 = .ok (.tableswitch 52 6 8 #[26, 32, 46], 26) := by decide +kernel
theorem dX7_told_48 : decode cX7_told 48 = .ok (.aload_n 0, 1) := by decide +kernel
theorem dX7_told_49 : decode cX7_told 49 = .ok (.iload_n 1, 1) := by decide +kernel
theorem dX7_told_50 : decode cX7_told 50 = .ok (.invokevirtual 121, 3) := by decide +kernel
theorem dX7_told_53 : decode cX7_told 53 = .ok (.ireturn, 1) := by decide +kernel
theorem dX7_told_54 : decode cX7_told 54 = .ok (.aload_n 0, 1) := by decide +kernel
theorem dX7_told_55 : decode cX7_told 55 = .ok (.iload_n 1, 1) := by decide +kernel
theorem dX7_told_56 : decode cX7_told 56 = .ok (.invokevirtual 124, 3) := by decide +kernel
theorem dX7_told_59 : decode cX7_told 59 = .ok (.ifCond .eq 7, 3) := by decide +kernel
theorem dX7_told_62 : decode cX7_told 62 = .ok (.iconst 1, 1) := by decide +kernel
theorem dX7_told_63 : decode cX7_told 63 = .ok (.goto 4, 3) := by decide +kernel
theorem dX7_told_66 : decode cX7_told 66 = .ok (.iconst 0, 1) := by decide +kernel
theorem dX7_told_67 : decode cX7_told 67 = .ok (.ireturn, 1) := by decide +kernel
theorem dX7_told_68 : decode cX7_told 68 = .ok (.aload_n 0, 1) := by decide +kernel
theorem dX7_told_69 : decode cX7_told 69 = .ok (.iload_n 1, 1) := by decide +kernel
theorem dX7_told_70 : decode cX7_told 70 = .ok (.invokevirtual 127, 3) := by decide +kernel
theorem dX7_told_73 : decode cX7_told 73 = .ok (.ireturn, 1) := by decide +kernel
theorem dX7_told_74 : decode cX7_told 74 = .ok (.aload_n 0, 1) := by decide +kernel
theorem dX7_told_75 : decode cX7_told 75 = .ok (.iload_n 1, 1) := by decide +kernel
theorem dX7_told_76 : decode cX7_told 76 = .ok (.iload_n 2, 1) := by decide +kernel
theorem dX7_told_77 : decode cX7_told 77 = .ok (.invokevirtual 80, 3) := by decide +kernel
theorem dX7_told_80 : decode cX7_told 80 = .ok (.ireturn, 1) := by decide +kernel
theorem dX7_isUnder_0 : decode cX7_isUnder 0 = .ok (.iload_n 1, 1) := by decide +kernel
theorem dX7_isUnder_1 : decode cX7_isUnder 1 = .ok (.ifCond .eq 28, 3) := by decide +kernel
theorem dX7_isUnder_4 : decode cX7_isUnder 4 = .ok (.iload_n 0, 1) := by decide +kernel
theorem dX7_isUnder_5 : decode cX7_isUnder 5 = .ok (.iload_n 1, 1) := by decide +kernel
theorem dX7_isUnder_6 : decode cX7_isUnder 6 = .ok (.if_icmp .eq 23, 3) := by decide +kernel
theorem dX7_isUnder_9 : decode cX7_isUnder 9 = .ok (.iload_n 1, 1) := by decide +kernel
theorem dX7_isUnder_10 : decode cX7_isUnder 10 = .ok (.iconst 1, 1) := by decide +kernel
theorem dX7_isUnder_11 : decode cX7_isUnder 11 = .ok (.if_icmp .ne 8, 3) := by decide +kernel
theorem dX7_isUnder_14 : decode cX7_isUnder 14 = .ok (.iload_n 0, 1) := by decide +kernel
theorem dX7_isUnder_15 : decode cX7_isUnder 15 = .ok (.iconst 3, 1) := by decide +kernel
theorem dX7_isUnder_16 : decode cX7_isUnder 16 = .ok (.if_icmp .eq 13, 3) := by decide +kernel
theorem dX7_isUnder_19 : decode cX7_isUnder 19 = .ok (.iload_n 1, 1) := by decide +kernel
theorem dX7_isUnder_20 : decode cX7_isUnder 20 = .ok (.iconst 2, 1) := by decide +kernel
theorem dX7_isUnder_21 : decode cX7_isUnder 21 = .ok (.if_icmp .ne 12, 3) := by decide +kernel
theorem dX7_isUnder_24 : decode cX7_isUnder 24 = .ok (.iload_n 0, 1) := by decide +kernel
theorem dX7_isUnder_25 : decode cX7_isUnder 25 = .ok (.iconst 4, 1) := by decide +kernel
theorem dX7_isUnder_26 : decode cX7_isUnder 26 = .ok (.if_icmp .ne 7, 3) := by decide +kernel
theorem dX7_isUnder_29 : decode cX7_isUnder 29 = .ok (.iconst 1, 1) := by decide +kernel
theorem dX7_isUnder_30 : decode cX7_isUnder 30 = .ok (.goto 4, 3) := by decide +kernel
theorem dX7_isUnder_33 : decode cX7_isUnder 33 = .ok (.iconst 0, 1) := by decide +kernel
theorem dX7_isUnder_34 : decode cX7_isUnder 34 = .ok (.ireturn, 1) := by decide +kernel
theorem dX7_as_0 : decode cX7_as 0 = .ok (.aload_n 0, 1) := by decide +kernel
theorem dX7_as_1 : decode cX7_as 1 = .ok (.iload_n 1, 1) := by decide +kernel
theorem dX7_as_2 : decode cX7_as 2 = .ok (.invokevirtual 118, 3) := by decide +kernel
theorem dX7_as_5 : decode cX7_as 5 = .ok (.ifCond .eq 12, 3) := by decide +kernel
theorem dX7_as_8 : decode cX7_as 8 = .ok (.iload_n 2, 1) := by decide +kernel
theorem dX7_as_9 : decode cX7_as 9 = .ok (.iconst 0, 1) := by decide +kernel
theorem dX7_as_10 : decode cX7_as 10 = .ok (.iconst 5, 1) := by decide +kernel
theorem dX7_as_11 : decode cX7_as 11 = .ok (.invokestatic 76, 3) := by decide +kernel
theorem dX7_as_14 : decode cX7_as 14 = .ok (.ifCond .ne 6, 3) := by decide +kernel
theorem dX7_as_17 : decode cX7_as 17 = .ok (.ldc 92, 2) := by decide +kernel
theorem dX7_as_19 : decode cX7_as 19 = .ok (.ireturn, 1) := by decide +kernel
theorem dX7_as_20 : decode cX7_as 20 = .ok (.aload_n 0, 1) := by decide +kernel
theorem dX7_as_21 : decode cX7_as 21 = .ok (.iload_n 1, 1) := by decide +kernel
theorem dX7_as_22 : decode cX7_as 22 = .ok (.iconst 0, 1) := by decide +kernel
theorem dX7_as_23 : decode cX7_as 23 = .ok (.invokevirtual 80, 3) := by decide +kernel
theorem dX7_as_26 : decode cX7_as 26 = .ok (.iload_n 2, 1) := by decide +kernel
theorem dX7_as_27 : decode cX7_as 27 = .ok (.invokestatic 130, 3) := by decide +kernel
theorem dX7_as_30 : decode cX7_as 30 = .ok (.ifCond .eq 12, 3) := by decide +kernel
theorem dX7_as_33 : decode cX7_as 33 = .ok (.aload_n 0, 1) := by decide +kernel
theorem dX7_as_34 : decode cX7_as 34 = .ok (.iload_n 1, 1) := by decide +kernel
theorem dX7_as_35 : decode cX7_as 35 = .ok (.iconst 2, 1) := by decide +kernel
theorem dX7_as_36 : decode cX7_as 36 = .ok (.invokevirtual 80, 3) := by decide +kernel
theorem dX7_as_39 : decode cX7_as 39 = .ok (.goto 5, 3) := by decide +kernel
theorem dX7_as_42 : decode cX7_as 42 = .ok (.ldc 134, 2) := by decide +kernel
theorem dX7_as_44 : decode cX7_as 44 = .ok (.ireturn, 1) := by decide +kernel
theorem dX7_turns_0 : decode cX7_turns 0 = .ok (.aload_n 0, 1) := by decide +kernel
theorem dX7_turns_1 : decode cX7_turns 1 = .ok (.iload_n 1, 1) := by decide +kernel
theorem dX7_turns_2 : decode cX7_turns 2 = .ok (.invokevirtual 118, 3) := by decide +kernel
theorem dX7_turns_5 : decode cX7_turns 5 = .ok (.ifCond .eq 27, 3) := by decide +kernel
theorem dX7_turns_8 : decode cX7_turns 8 = .ok (.iload_n 2, 1) := by decide +kernel
theorem dX7_turns_9 : decode cX7_turns 9 = .ok (.iconst 0, 1) := by decide +kernel
theorem dX7_turns_10 : decode cX7_turns 10 = .ok (.iconst 5, 1) := by decide +kernel
theorem dX7_turns_11 : decode cX7_turns 11 = .ok (.invokestatic 76, 3) := by decide +kernel
theorem dX7_turns_14 : decode cX7_turns 14 = .ok (.ifCond .eq 18, 3) := by decide +kernel
theorem dX7_turns_17 : decode cX7_turns 17 = .ok (.aload_n 0, 1) := by decide +kernel
theorem dX7_turns_18 : decode cX7_turns 18 = .ok (.bipush 33, 2) := by decide +kernel
theorem dX7_turns_20 : decode cX7_turns 20 = .ok (.bipush 6, 2) := by decide +kernel
theorem dX7_turns_22 : decode cX7_turns 22 = .ok (.iload_n 1, 1) := by decide +kernel
theorem dX7_turns_23 : decode cX7_turns 23 = .ok (.imul, 1) := by decide +kernel
theorem dX7_turns_24 : decode cX7_turns 24 = .ok (.iadd, 1) := by decide +kernel
theorem dX7_turns_25 : decode cX7_turns 25 = .ok (.iload_n 2, 1) := by decide +kernel
theorem dX7_turns_26 : decode cX7_turns 26 = .ok (.invokevirtual 135, 3) := by decide +kernel
theorem dX7_turns_29 : decode cX7_turns 29 = .ok (.goto 5, 3) := by decide +kernel
theorem dX7_turns_32 : decode cX7_turns 32 = .ok (.ldc 92, 2) := by decide +kernel
theorem dX7_turns_34 : decode cX7_turns 34 = .ok (.ireturn, 1) := by decide +kernel
theorem dX7_set_0 : decode cX7_set 0 = .ok (.aload_n 0, 1) := by decide +kernel
theorem dX7_set_1 : decode cX7_set 1 = .ok (.iload_n 1, 1) := by decide +kernel
theorem dX7_set_2 : decode cX7_set 2 = .ok (.invokevirtual 118, 3) := by decide +kernel
theorem dX7_set_5 : decode cX7_set 5 = .ok (.ifCond .eq 50, 3) := by decide +kernel
theorem dX7_set_8 : decode cX7_set 8 = .ok (.iload_n 2, 1) := by decide +kernel
theorem dX7_set_9 : decode cX7_set 9 = .ok (.iconst 2, 1) := by decide +kernel
theorem dX7_set_10 : decode cX7_set 10 = .ok (.iconst 4, 1) := by decide +kernel
theorem dX7_set_11 : decode cX7_set 11 = .ok (.invokestatic 76, 3) := by decide +kernel
theorem dX7_set_14 : decode cX7_set 14 = .ok (.ifCond .eq 41, 3) := by decide +kernel
theorem dX7_set_17 : decode cX7_set 17 = .ok (.iload_n 3, 1) := by decide +kernel
theorem dX7_set_18 : decode cX7_set 18 = .ok (.iconst 0, 1) := by decide +kernel
theorem dX7_set_19 : decode cX7_set 19 = .ok (.iload_n 2, 1) := by decide +kernel
theorem dX7_set_20 : decode cX7_set 20 = .ok (.iconst 3, 1) := by decide +kernel
theorem dX7_set_21 : decode cX7_set 21 = .ok (.if_icmp .ne 9, 3) := by decide +kernel
theorem dX7_set_24 : decode cX7_set 24 = .ok (.sipush 999, 3) := by decide +kernel
theorem dX7_set_27 : decode cX7_set 27 = .ok (.goto 5, 3) := by decide +kernel
theorem dX7_set_30 : decode cX7_set 30 = .ok (.bipush 99, 2) := by decide +kernel
theorem dX7_set_32 : decode cX7_set 32 = .ok (.invokestatic 76, 3) := by decide +kernel
theorem dX7_set_35 : decode cX7_set 35 = .ok (.ifCond .eq 20, 3) := by decide +kernel
theorem dX7_set_38 : decode cX7_set 38 = .ok (.aload_n 0, 1) := by decide +kernel
theorem dX7_set_39 : decode cX7_set 39 = .ok (.bipush 33, 2) := by decide +kernel
theorem dX7_set_41 : decode cX7_set 41 = .ok (.bipush 6, 2) := by decide +kernel
theorem dX7_set_43 : decode cX7_set 43 = .ok (.iload_n 1, 1) := by decide +kernel
theorem dX7_set_44 : decode cX7_set 44 = .ok (.imul, 1) := by decide +kernel
theorem dX7_set_45 : decode cX7_set 45 = .ok (.iadd, 1) := by decide +kernel
theorem dX7_set_46 : decode cX7_set 46 = .ok (.iload_n 2, 1) := by decide +kernel
theorem dX7_set_47 : decode cX7_set 47 = .ok (.iadd, 1) := by decide +kernel
theorem dX7_set_48 : decode cX7_set 48 = .ok (.iload_n 3, 1) := by decide +kernel
theorem dX7_set_49 : decode cX7_set 49 = .ok (.invokevirtual 135, 3) := by decide +kernel
theorem dX7_set_52 : decode cX7_set 52 = .ok (.goto 5, 3) := by decide +kernel
theorem dX7_set_55 : decode cX7_set 55 = .ok (.ldc 92, 2) := by decide +kernel
theorem dX7_set_57 : decode cX7_set 57 = .ok (.ireturn, 1) := by decide +kernel
theorem dX7_move_0 : decode cX7_move 0 = .ok (.aload_n 0, 1) := by decide +kernel
theorem dX7_move_1 : decode cX7_move 1 = .ok (.iload_n 1, 1) := by decide +kernel
theorem dX7_move_2 : decode cX7_move 2 = .ok (.invokevirtual 118, 3) := by decide +kernel
theorem dX7_move_5 : decode cX7_move 5 = .ok (.ifCond .eq 10, 3) := by decide +kernel
theorem dX7_move_8 : decode cX7_move 8 = .ok (.iload_n 2, 1) := by decide +kernel
theorem dX7_move_9 : decode cX7_move 9 = .ok (.invokestatic 88, 3) := by decide +kernel
theorem dX7_move_12 : decode cX7_move 12 = .ok (.ifCond .ne 6, 3) := by decide +kernel
theorem dX7_move_15 : decode cX7_move 15 = .ok (.ldc 92, 2) := by decide +kernel
theorem dX7_move_17 : decode cX7_move 17 = .ok (.ireturn, 1) := by decide +kernel
theorem dX7_move_18 : decode cX7_move 18 = .ok (.aload_n 0, 1) := by decide +kernel
theorem dX7_move_19 : decode cX7_move 19 = .ok (.iload_n 2, 1) := by decide +kernel
theorem dX7_move_20 : decode cX7_move 20 = .ok (.invokevirtual 93, 3) := by decide +kernel
theorem dX7_move_23 : decode cX7_move 23 = .ok (.istore_n 3, 1) := by decide +kernel
theorem dX7_move_24 : decode cX7_move 24 = .ok (.iload_n 3, 1) := by decide +kernel
theorem dX7_move_25 : decode cX7_move 25 = .ok (.ifCond .lt 13, 3) := by decide +kernel
theorem dX7_move_28 : decode cX7_move 28 = .ok (.iload_n 3, 1) := by decide +kernel
theorem dX7_move_29 : decode cX7_move 29 = .ok (.iload_n 1, 1) := by decide +kernel
theorem dX7_move_30 : decode cX7_move 30 = .ok (.if_icmp .eq 8, 3) := by decide +kernel
theorem dX7_move_33 : decode cX7_move 33 = .ok (.ldc 97, 2) := by decide +kernel
theorem dX7_move_35 : decode cX7_move 35 = .ok (.goto 17, 3) := by decide +kernel
theorem dX7_move_38 : decode cX7_move 38 = .ok (.aload_n 0, 1) := by decide +kernel
theorem dX7_move_39 : decode cX7_move 39 = .ok (.bipush 33, 2) := by decide +kernel
theorem dX7_move_41 : decode cX7_move 41 = .ok (.bipush 6, 2) := by decide +kernel
theorem dX7_move_43 : decode cX7_move 43 = .ok (.iload_n 1, 1) := by decide +kernel
theorem dX7_move_44 : decode cX7_move 44 = .ok (.imul, 1) := by decide +kernel
theorem dX7_move_45 : decode cX7_move 45 = .ok (.iadd, 1) := by decide +kernel
theorem dX7_move_46 : decode cX7_move 46 = .ok (.iconst 1, 1) := by decide +kernel
theorem dX7_move_47 : decode cX7_move 47 = .ok (.iadd, 1) := by decide +kernel
theorem dX7_move_48 : decode cX7_move 48 = .ok (.iload_n 2, 1) := by decide +kernel
theorem dX7_move_49 : decode cX7_move 49 = .ok (.invokevirtual 135, 3) := by decide +kernel
theorem dX7_move_52 : decode cX7_move 52 = .ok (.ireturn, 1) := by decide +kernel
theorem dX7_onSeat_0 : decode cX7_onSeat 0 = .ok (.iload_n 1, 1) := by decide +kernel
theorem dX7_onSeat_1 : decode cX7_onSeat 1 = .ok (.invokestatic 88, 3) := by decide +kernel
theorem dX7_onSeat_4 : decode cX7_onSeat 4 = .ok (.ifCond .eq 14, 3) := by decide +kernel
theorem dX7_onSeat_7 : decode cX7_onSeat 7 = .ok (.aload_n 0, 1) := by decide +kernel
theorem dX7_onSeat_8 : decode cX7_onSeat 8 = .ok (.iload_n 1, 1) := by decide +kernel
theorem dX7_onSeat_9 : decode cX7_onSeat 9 = .ok (.invokevirtual 93, 3) := by decide +kernel
theorem dX7_onSeat_12 : decode cX7_onSeat 12 = .ok (.invokestatic 138, 3) := by decide +kernel
theorem dX7_onSeat_15 : decode cX7_onSeat 15 = .ok (.goto 5, 3) := by decide +kernel
theorem dX7_onSeat_18 : decode cX7_onSeat 18 = .ok (.ldc 92, 2) := by decide +kernel
theorem dX7_onSeat_20 : decode cX7_onSeat 20 = .ok (.ireturn, 1) := by decide +kernel
theorem dX7_draw_0 : decode cX7_draw 0 = .ok (.aload_n 0, 1) := by decide +kernel
theorem dX7_draw_1 : decode cX7_draw 1 = .ok (.getfield 9, 3) := by decide +kernel
theorem dX7_draw_4 : decode cX7_draw 4 = .ok (.iconst 0, 1) := by decide +kernel
theorem dX7_draw_5 : decode cX7_draw 5 = .ok (.aload_n 0, 1) := by decide +kernel
theorem dX7_draw_6 : decode cX7_draw 6 = .ok (.getfield 9, 3) := by decide +kernel
theorem dX7_draw_9 : decode cX7_draw 9 = .ok (.iconst 0, 1) := by decide +kernel
theorem dX7_draw_10 : decode cX7_draw 10 = .ok (.iaload, 1) := by decide +kernel
theorem dX7_draw_11 : decode cX7_draw 11 = .ok (.ldc 141, 2) := by decide +kernel
theorem dX7_draw_13 : decode cX7_draw 13 = .ok (.imul, 1) := by decide +kernel
theorem dX7_draw_14 : decode cX7_draw 14 = .ok (.sipush 12345, 3) := by decide +kernel
theorem dX7_draw_17 : decode cX7_draw 17 = .ok (.iadd, 1) := by decide +kernel
theorem dX7_draw_18 : decode cX7_draw 18 = .ok (.iastore, 1) := by decide +kernel
theorem dX7_draw_19 : decode cX7_draw 19 = .ok (.aload_n 0, 1) := by decide +kernel
theorem dX7_draw_20 : decode cX7_draw 20 = .ok (.getfield 9, 3) := by decide +kernel
theorem dX7_draw_23 : decode cX7_draw 23 = .ok (.iconst 0, 1) := by decide +kernel
theorem dX7_draw_24 : decode cX7_draw 24 = .ok (.iaload, 1) := by decide +kernel
theorem dX7_draw_25 : decode cX7_draw 25 = .ok (.bipush 8, 2) := by decide +kernel
theorem dX7_draw_27 : decode cX7_draw 27 = .ok (.iushr, 1) := by decide +kernel
theorem dX7_draw_28 : decode cX7_draw 28 = .ok (.ireturn, 1) := by decide +kernel
theorem dX7_deal_0 : decode cX7_deal 0 = .ok (.iload_n 1, 1) := by decide +kernel
theorem dX7_deal_1 : decode cX7_deal 1 = .ok (.iconst 1, 1) := by decide +kernel
theorem dX7_deal_2 : decode cX7_deal 2 = .ok (.bipush 10, 2) := by decide +kernel
theorem dX7_deal_4 : decode cX7_deal 4 = .ok (.invokestatic 76, 3) := by decide +kernel
theorem dX7_deal_7 : decode cX7_deal 7 = .ok (.ifCond .ne 6, 3) := by decide +kernel
theorem dX7_deal_10 : decode cX7_deal 10 = .ok (.ldc 92, 2) := by decide +kernel
theorem dX7_deal_12 : decode cX7_deal 12 = .ok (.ireturn, 1) := by decide +kernel
theorem dX7_deal_13 : decode cX7_deal 13 = .ok (.iconst 0, 1) := by decide +kernel
theorem dX7_deal_14 : decode cX7_deal 14 = .ok (.istore_n 2, 1) := by decide +kernel
theorem dX7_deal_15 : decode cX7_deal 15 = .ok (.iload_n 2, 1) := by decide +kernel
theorem dX7_deal_16 : decode cX7_deal 16 = .ok (.iload_n 1, 1) := by decide +kernel
theorem dX7_deal_17 : decode cX7_deal 17 = .ok (.if_icmp .ge 78, 3) := by decide +kernel
theorem dX7_deal_20 : decode cX7_deal 20 = .ok (.aload_n 0, 1) := by decide +kernel
theorem dX7_deal_21 : decode cX7_deal 21 = .ok (.getfield 9, 3) := by decide +kernel
theorem dX7_deal_24 : decode cX7_deal 24 = .ok (.iconst 1, 1) := by decide +kernel
theorem dX7_deal_25 : decode cX7_deal 25 = .ok (.iaload, 1) := by decide +kernel
theorem dX7_deal_26 : decode cX7_deal 26 = .ok (.bipush 10, 2) := by decide +kernel
theorem dX7_deal_28 : decode cX7_deal 28 = .ok (.if_icmp .ge 67, 3) := by decide +kernel
theorem dX7_deal_31 : decode cX7_deal 31 = .ok (.aload_n 0, 1) := by decide +kernel
theorem dX7_deal_32 : decode cX7_deal 32 = .ok (.invokevirtual 142, 3) := by decide +kernel
theorem dX7_deal_35 : decode cX7_deal 35 = .ok (.bipush 6, 2) := by decide +kernel
theorem dX7_deal_37 : decode cX7_deal 37 = .ok (.irem, 1) := by decide +kernel
theorem dX7_deal_38 : decode cX7_deal 38 = .ok (.istore_n 3, 1) := by decide +kernel
theorem dX7_deal_39 : decode cX7_deal 39 = .ok (.aload_n 0, 1) := by decide +kernel
theorem dX7_deal_40 : decode cX7_deal 40 = .ok (.invokevirtual 142, 3) := by decide +kernel
theorem dX7_deal_43 : decode cX7_deal 43 = .ok (.bipush 100, 2) := by decide +kernel
theorem dX7_deal_45 : decode cX7_deal 45 = .ok (.irem, 1) := by decide +kernel
theorem dX7_deal_46 : decode cX7_deal 46 = .ok (.istore 4, 2) := by decide +kernel
theorem dX7_deal_48 : decode cX7_deal 48 = .ok (.aload_n 0, 1) := by decide +kernel
theorem dX7_deal_49 : decode cX7_deal 49 = .ok (.invokevirtual 142, 3) := by decide +kernel
theorem dX7_deal_52 : decode cX7_deal 52 = .ok (.bipush 30, 2) := by decide +kernel
theorem dX7_deal_54 : decode cX7_deal 54 = .ok (.irem, 1) := by decide +kernel
theorem dX7_deal_55 : decode cX7_deal 55 = .ok (.istore 5, 2) := by decide +kernel
theorem dX7_deal_57 : decode cX7_deal 57 = .ok (.aload_n 0, 1) := by decide +kernel
theorem dX7_deal_58 : decode cX7_deal 58 = .ok (.iload 5, 2) := by decide +kernel
theorem dX7_deal_60 : decode cX7_deal 60 = .ok (.invokevirtual 93, 3) := by decide +kernel
theorem dX7_deal_63 : decode cX7_deal 63 = .ok (.ifCond .lt 15, 3) := by decide +kernel
theorem dX7_deal_66 : decode cX7_deal 66 = .ok (.iload 5, 2) := by decide +kernel
theorem dX7_deal_68 : decode cX7_deal 68 = .ok (.iconst 1, 1) := by decide +kernel
theorem dX7_deal_69 : decode cX7_deal 69 = .ok (.iadd, 1) := by decide +kernel
theorem dX7_deal_70 : decode cX7_deal 70 = .ok (.bipush 30, 2) := by decide +kernel
theorem dX7_deal_72 : decode cX7_deal 72 = .ok (.irem, 1) := by decide +kernel
theorem dX7_deal_73 : decode cX7_deal 73 = .ok (.istore 5, 2) := by decide +kernel
theorem dX7_deal_75 : decode cX7_deal 75 = .ok (.goto (-18), 3) := by decide +kernel
theorem dX7_deal_78 : decode cX7_deal 78 = .ok (.aload_n 0, 1) := by decide +kernel
theorem dX7_deal_79 : decode cX7_deal 79 = .ok (.iload_n 3, 1) := by decide +kernel
theorem dX7_deal_80 : decode cX7_deal 80 = .ok (.iload 5, 2) := by decide +kernel
theorem dX7_deal_82 : decode cX7_deal 82 = .ok (.iload 4, 2) := by decide +kernel
theorem dX7_deal_84 : decode cX7_deal 84 = .ok (.invokevirtual 99, 3) := by decide +kernel
theorem dX7_deal_87 : decode cX7_deal 87 = .ok (.istore 6, 2) := by decide +kernel
theorem dX7_deal_89 : decode cX7_deal 89 = .ok (.iinc 2 1, 3) := by decide +kernel
theorem dX7_deal_92 : decode cX7_deal 92 = .ok (.goto (-77), 3) := by decide +kernel
theorem dX7_deal_95 : decode cX7_deal 95 = .ok (.iload_n 2, 1) := by decide +kernel
theorem dX7_deal_96 : decode cX7_deal 96 = .ok (.ireturn, 1) := by decide +kernel
theorem dX7_seed_0 : decode cX7_seed 0 = .ok (.aload_n 0, 1) := by decide +kernel
theorem dX7_seed_1 : decode cX7_seed 1 = .ok (.iconst 0, 1) := by decide +kernel
theorem dX7_seed_2 : decode cX7_seed 2 = .ok (.iload_n 1, 1) := by decide +kernel
theorem dX7_seed_3 : decode cX7_seed 3 = .ok (.invokevirtual 135, 3) := by decide +kernel
theorem dX7_seed_6 : decode cX7_seed 6 = .ok (.ireturn, 1) := by decide +kernel
theorem dX7_hall_0 : decode cX7_hall 0 = .ok (.iload_n 1, 1) := by decide +kernel
theorem dX7_hall_1 : decode cX7_hall 1 = .ok (.iconst 0, 1) := by decide +kernel
theorem dX7_hall_2 : decode cX7_hall 2 = .ok (.iconst 1, 1) := by decide +kernel
theorem dX7_hall_3 : decode cX7_hall 3 = .ok (.invokestatic 76, 3) := by decide +kernel
theorem dX7_hall_6 : decode cX7_hall 6 = .ok (.ifCond .eq 34, 3) := by decide +kernel
theorem dX7_hall_9 : decode cX7_hall 9 = .ok (.iload_n 2, 1) := by decide +kernel
theorem dX7_hall_10 : decode cX7_hall 10 = .ok (.iconst 0, 1) := by decide +kernel
theorem dX7_hall_11 : decode cX7_hall 11 = .ok (.iload_n 1, 1) := by decide +kernel
theorem dX7_hall_12 : decode cX7_hall 12 = .ok (.ifCond .ne 8, 3) := by decide +kernel
theorem dX7_hall_15 : decode cX7_hall 15 = .ok (.bipush 99, 2) := by decide +kernel
theorem dX7_hall_17 : decode cX7_hall 17 = .ok (.goto 5, 3) := by decide +kernel
theorem dX7_hall_20 : decode cX7_hall 20 = .ok (.bipush 9, 2) := by decide +kernel
theorem dX7_hall_22 : decode cX7_hall 22 = .ok (.invokestatic 76, 3) := by decide +kernel
theorem dX7_hall_25 : decode cX7_hall 25 = .ok (.ifCond .eq 15, 3) := by decide +kernel
theorem dX7_hall_28 : decode cX7_hall 28 = .ok (.aload_n 0, 1) := by decide +kernel
theorem dX7_hall_29 : decode cX7_hall 29 = .ok (.bipush 6, 2) := by decide +kernel
theorem dX7_hall_31 : decode cX7_hall 31 = .ok (.iload_n 1, 1) := by decide +kernel
theorem dX7_hall_32 : decode cX7_hall 32 = .ok (.iadd, 1) := by decide +kernel
theorem dX7_hall_33 : decode cX7_hall 33 = .ok (.iload_n 2, 1) := by decide +kernel
theorem dX7_hall_34 : decode cX7_hall 34 = .ok (.invokevirtual 135, 3) := by decide +kernel
theorem dX7_hall_37 : decode cX7_hall 37 = .ok (.goto 5, 3) := by decide +kernel
theorem dX7_hall_40 : decode cX7_hall 40 = .ok (.ldc 92, 2) := by decide +kernel
theorem dX7_hall_42 : decode cX7_hall 42 = .ok (.ireturn, 1) := by decide +kernel
theorem dX7_bars_0 : decode cX7_bars 0 = .ok (.iload_n 1, 1) := by decide +kernel
theorem dX7_bars_1 : decode cX7_bars 1 = .ok (.iconst 1, 1) := by decide +kernel
theorem dX7_bars_2 : decode cX7_bars 2 = .ok (.bipush 24, 2) := by decide +kernel
theorem dX7_bars_4 : decode cX7_bars 4 = .ok (.invokestatic 76, 3) := by decide +kernel
theorem dX7_bars_7 : decode cX7_bars 7 = .ok (.ifCond .ne 6, 3) := by decide +kernel
theorem dX7_bars_10 : decode cX7_bars 10 = .ok (.ldc 92, 2) := by decide +kernel
theorem dX7_bars_12 : decode cX7_bars 12 = .ok (.ireturn, 1) := by decide +kernel
theorem dX7_bars_13 : decode cX7_bars 13 = .ok (.iload_n 1, 1) := by decide +kernel
theorem dX7_bars_14 : decode cX7_bars 14 = .ok (.istore_n 2, 1) := by decide +kernel
theorem dX7_bars_15 : decode cX7_bars 15 = .ok (.iload_n 2, 1) := by decide +kernel
theorem dX7_bars_16 : decode cX7_bars 16 = .ok (.bipush 24, 2) := by decide +kernel
theorem dX7_bars_18 : decode cX7_bars 18 = .ok (.if_icmp .ge 19, 3) := by decide +kernel
theorem dX7_bars_21 : decode cX7_bars 21 = .ok (.aload_n 0, 1) := by decide +kernel
theorem dX7_bars_22 : decode cX7_bars 22 = .ok (.getfield 9, 3) := by decide +kernel
theorem dX7_bars_25 : decode cX7_bars 25 = .ok (.bipush 9, 2) := by decide +kernel
theorem dX7_bars_27 : decode cX7_bars 27 = .ok (.iload_n 2, 1) := by decide +kernel
theorem dX7_bars_28 : decode cX7_bars 28 = .ok (.iadd, 1) := by decide +kernel
theorem dX7_bars_29 : decode cX7_bars 29 = .ok (.iconst 0, 1) := by decide +kernel
theorem dX7_bars_30 : decode cX7_bars 30 = .ok (.iastore, 1) := by decide +kernel
theorem dX7_bars_31 : decode cX7_bars 31 = .ok (.iinc 2 1, 3) := by decide +kernel
theorem dX7_bars_34 : decode cX7_bars 34 = .ok (.goto (-19), 3) := by decide +kernel
theorem dX7_bars_37 : decode cX7_bars 37 = .ok (.aload_n 0, 1) := by decide +kernel
theorem dX7_bars_38 : decode cX7_bars 38 = .ok (.iconst 2, 1) := by decide +kernel
theorem dX7_bars_39 : decode cX7_bars 39 = .ok (.iload_n 1, 1) := by decide +kernel
theorem dX7_bars_40 : decode cX7_bars 40 = .ok (.invokevirtual 135, 3) := by decide +kernel
theorem dX7_bars_43 : decode cX7_bars 43 = .ok (.ireturn, 1) := by decide +kernel
theorem dX7_loud_0 : decode cX7_loud 0 = .ok (.iload_n 1, 1) := by decide +kernel
theorem dX7_loud_1 : decode cX7_loud 1 = .ok (.iconst 0, 1) := by decide +kernel
theorem dX7_loud_2 : decode cX7_loud 2 = .ok (.aload_n 0, 1) := by decide +kernel
theorem dX7_loud_3 : decode cX7_loud 3 = .ok (.getfield 9, 3) := by decide +kernel
theorem dX7_loud_6 : decode cX7_loud 6 = .ok (.iconst 2, 1) := by decide +kernel
theorem dX7_loud_7 : decode cX7_loud 7 = .ok (.iaload, 1) := by decide +kernel
theorem dX7_loud_8 : decode cX7_loud 8 = .ok (.iconst 1, 1) := by decide +kernel
theorem dX7_loud_9 : decode cX7_loud 9 = .ok (.isub, 1) := by decide +kernel
theorem dX7_loud_10 : decode cX7_loud 10 = .ok (.invokestatic 76, 3) := by decide +kernel
theorem dX7_loud_13 : decode cX7_loud 13 = .ok (.ifCond .eq 25, 3) := by decide +kernel
theorem dX7_loud_16 : decode cX7_loud 16 = .ok (.iload_n 2, 1) := by decide +kernel
theorem dX7_loud_17 : decode cX7_loud 17 = .ok (.iconst 0, 1) := by decide +kernel
theorem dX7_loud_18 : decode cX7_loud 18 = .ok (.bipush 99, 2) := by decide +kernel
theorem dX7_loud_20 : decode cX7_loud 20 = .ok (.invokestatic 76, 3) := by decide +kernel
theorem dX7_loud_23 : decode cX7_loud 23 = .ok (.ifCond .eq 15, 3) := by decide +kernel
theorem dX7_loud_26 : decode cX7_loud 26 = .ok (.aload_n 0, 1) := by decide +kernel
theorem dX7_loud_27 : decode cX7_loud 27 = .ok (.bipush 9, 2) := by decide +kernel
theorem dX7_loud_29 : decode cX7_loud 29 = .ok (.iload_n 1, 1) := by decide +kernel
theorem dX7_loud_30 : decode cX7_loud 30 = .ok (.iadd, 1) := by decide +kernel
theorem dX7_loud_31 : decode cX7_loud 31 = .ok (.iload_n 2, 1) := by decide +kernel
theorem dX7_loud_32 : decode cX7_loud 32 = .ok (.invokevirtual 135, 3) := by decide +kernel
theorem dX7_loud_35 : decode cX7_loud 35 = .ok (.goto 5, 3) := by decide +kernel
theorem dX7_loud_38 : decode cX7_loud 38 = .ok (.ldc 92, 2) := by decide +kernel
theorem dX7_loud_40 : decode cX7_loud 40 = .ok (.ireturn, 1) := by decide +kernel
theorem dX7_music_0 : decode cX7_music 0 = .ok (.iload_n 1, 1) := by decide +kernel
theorem dX7_music_1 : decode cX7_music 1 = .ok (.iconst 0, 1) := by decide +kernel
theorem dX7_music_2 : decode cX7_music 2 = .ok (.bipush 99, 2) := by decide +kernel
theorem dX7_music_4 : decode cX7_music 4 = .ok (.invokestatic 76, 3) := by decide +kernel
theorem dX7_music_7 : decode cX7_music 7 = .ok (.ifCond .eq 11, 3) := by decide +kernel
theorem dX7_music_10 : decode cX7_music 10 = .ok (.aload_n 0, 1) := by decide +kernel
theorem dX7_music_11 : decode cX7_music 11 = .ok (.iload_n 1, 1) := by decide +kernel
theorem dX7_music_12 : decode cX7_music 12 = .ok (.invokevirtual 112, 3) := by decide +kernel
theorem dX7_music_15 : decode cX7_music 15 = .ok (.goto 5, 3) := by decide +kernel
theorem dX7_music_18 : decode cX7_music 18 = .ok (.ldc 92, 2) := by decide +kernel
theorem dX7_music_20 : decode cX7_music 20 = .ok (.ireturn, 1) := by decide +kernel
theorem dX7_harmBy_0 : decode cX7_harmBy 0 = .ok (.aload_n 0, 1) := by decide +kernel
theorem dX7_harmBy_1 : decode cX7_harmBy 1 = .ok (.iconst 1, 1) := by decide +kernel
theorem dX7_harmBy_2 : decode cX7_harmBy 2 = .ok (.invokevirtual 103, 3) := by decide +kernel
theorem dX7_harmBy_5 : decode cX7_harmBy 5 = .ok (.istore_n 2, 1) := by decide +kernel
theorem dX7_harmBy_6 : decode cX7_harmBy 6 = .ok (.aload_n 0, 1) := by decide +kernel
theorem dX7_harmBy_7 : decode cX7_harmBy 7 = .ok (.iconst 0, 1) := by decide +kernel
theorem dX7_harmBy_8 : decode cX7_harmBy 8 = .ok (.invokevirtual 112, 3) := by decide +kernel
theorem dX7_harmBy_11 : decode cX7_harmBy 11 = .ok (.istore_n 3, 1) := by decide +kernel
theorem dX7_harmBy_12 : decode cX7_harmBy 12 = .ok (.aload_n 0, 1) := by decide +kernel
theorem dX7_harmBy_13 : decode cX7_harmBy 13 = .ok (.getfield 45, 3) := by decide +kernel
theorem dX7_harmBy_16 : decode cX7_harmBy 16 = .ok (.iconst 0, 1) := by decide +kernel
theorem dX7_harmBy_17 : decode cX7_harmBy 17 = .ok (.iload_n 1, 1) := by decide +kernel
theorem dX7_harmBy_18 : decode cX7_harmBy 18 = .ok (.iastore, 1) := by decide +kernel
theorem dX7_harmBy_19 : decode cX7_harmBy 19 = .ok (.aload_n 0, 1) := by decide +kernel
theorem dX7_harmBy_20 : decode cX7_harmBy 20 = .ok (.getfield 45, 3) := by decide +kernel
theorem dX7_harmBy_23 : decode cX7_harmBy 23 = .ok (.iconst 1, 1) := by decide +kernel
theorem dX7_harmBy_24 : decode cX7_harmBy 24 = .ok (.iload_n 3, 1) := by decide +kernel
theorem dX7_harmBy_25 : decode cX7_harmBy 25 = .ok (.iastore, 1) := by decide +kernel
theorem dX7_harmBy_26 : decode cX7_harmBy 26 = .ok (.iload_n 2, 1) := by decide +kernel
theorem dX7_harmBy_27 : decode cX7_harmBy 27 = .ok (.ifCond .ge 18, 3) := by decide +kernel
theorem dX7_harmBy_30 : decode cX7_harmBy 30 = .ok (.iload_n 1, 1) := by decide +kernel
theorem dX7_harmBy_31 : decode cX7_harmBy 31 = .ok (.bipush 60, 2) := by decide +kernel
theorem dX7_harmBy_33 : decode cX7_harmBy 33 = .ok (.iload_n 3, 1) := by decide +kernel
theorem dX7_harmBy_34 : decode cX7_harmBy 34 = .ok (.isub, 1) := by decide +kernel
theorem dX7_harmBy_35 : decode cX7_harmBy 35 = .ok (.iconst 0, 1) := by decide +kernel
theorem dX7_harmBy_36 : decode cX7_harmBy 36 = .ok (.bipush 60, 2) := by decide +kernel
theorem dX7_harmBy_38 : decode cX7_harmBy 38 = .ok (.invokestatic 109, 3) := by decide +kernel
theorem dX7_harmBy_41 : decode cX7_harmBy 41 = .ok (.imul, 1) := by decide +kernel
theorem dX7_harmBy_42 : decode cX7_harmBy 42 = .ok (.goto 15, 3) := by decide +kernel
theorem dX7_harmBy_45 : decode cX7_harmBy 45 = .ok (.aload_n 0, 1) := by decide +kernel
theorem dX7_harmBy_46 : decode cX7_harmBy 46 = .ok (.iload_n 2, 1) := by decide +kernel
theorem dX7_harmBy_47 : decode cX7_harmBy 47 = .ok (.invokevirtual 106, 3) := by decide +kernel
theorem dX7_harmBy_50 : decode cX7_harmBy 50 = .ok (.iconst 0, 1) := by decide +kernel
theorem dX7_harmBy_51 : decode cX7_harmBy 51 = .ok (.sipush 9999, 3) := by decide +kernel
theorem dX7_harmBy_54 : decode cX7_harmBy 54 = .ok (.invokestatic 109, 3) := by decide +kernel
theorem dX7_harmBy_57 : decode cX7_harmBy 57 = .ok (.ireturn, 1) := by decide +kernel
theorem dX7_bitsOf_0 : decode cX7_bitsOf 0 = .ok (.iconst 0, 1) := by decide +kernel
theorem dX7_bitsOf_1 : decode cX7_bitsOf 1 = .ok (.istore_n 1, 1) := by decide +kernel
theorem dX7_bitsOf_2 : decode cX7_bitsOf 2 = .ok (.iload_n 0, 1) := by decide +kernel
theorem dX7_bitsOf_3 : decode cX7_bitsOf 3 = .ok (.istore_n 2, 1) := by decide +kernel
theorem dX7_bitsOf_4 : decode cX7_bitsOf 4 = .ok (.iload_n 2, 1) := by decide +kernel
theorem dX7_bitsOf_5 : decode cX7_bitsOf 5 = .ok (.ifCond .eq 15, 3) := by decide +kernel
theorem dX7_bitsOf_8 : decode cX7_bitsOf 8 = .ok (.iinc 1 1, 3) := by decide +kernel
theorem dX7_bitsOf_11 : decode cX7_bitsOf 11 = .ok (.iload_n 2, 1) := by decide +kernel
theorem dX7_bitsOf_12 : decode cX7_bitsOf 12 = .ok (.iload_n 2, 1) := by decide +kernel
theorem dX7_bitsOf_13 : decode cX7_bitsOf 13 = .ok (.iconst 1, 1) := by decide +kernel
theorem dX7_bitsOf_14 : decode cX7_bitsOf 14 = .ok (.isub, 1) := by decide +kernel
theorem dX7_bitsOf_15 : decode cX7_bitsOf 15 = .ok (.iand, 1) := by decide +kernel
theorem dX7_bitsOf_16 : decode cX7_bitsOf 16 = .ok (.istore_n 2, 1) := by decide +kernel
theorem dX7_bitsOf_17 : decode cX7_bitsOf 17 = .ok (.goto (-13), 3) := by decide +kernel
theorem dX7_bitsOf_20 : decode cX7_bitsOf 20 = .ok (.iload_n 1, 1) := by decide +kernel
theorem dX7_bitsOf_21 : decode cX7_bitsOf 21 = .ok (.ireturn, 1) := by decide +kernel
theorem dX7_second_0 : decode cX7_second 0 = .ok (.iconst 0, 1) := by decide +kernel
theorem dX7_second_1 : decode cX7_second 1 = .ok (.istore_n 1, 1) := by decide +kernel
theorem dX7_second_2 : decode cX7_second 2 = .ok (.iload_n 1, 1) := by decide +kernel
theorem dX7_second_3 : decode cX7_second 3 = .ok (.aload_n 0, 1) := by decide +kernel
theorem dX7_second_4 : decode cX7_second 4 = .ok (.getfield 9, 3) := by decide +kernel
theorem dX7_second_7 : decode cX7_second 7 = .ok (.iconst 1, 1) := by decide +kernel
theorem dX7_second_8 : decode cX7_second 8 = .ok (.iaload, 1) := by decide +kernel
theorem dX7_second_9 : decode cX7_second 9 = .ok (.if_icmp .ge 61, 3) := by decide +kernel
theorem dX7_second_12 : decode cX7_second 12 = .ok (.aload_n 0, 1) := by decide +kernel
theorem dX7_second_13 : decode cX7_second 13 = .ok (.iload_n 1, 1) := by decide +kernel
theorem dX7_second_14 : decode cX7_second 14 = .ok (.iconst 3, 1) := by decide +kernel
theorem dX7_second_15 : decode cX7_second 15 = .ok (.aload_n 0, 1) := by decide +kernel
theorem dX7_second_16 : decode cX7_second 16 = .ok (.iload_n 1, 1) := by decide +kernel
theorem dX7_second_17 : decode cX7_second 17 = .ok (.iconst 3, 1) := by decide +kernel
theorem dX7_second_18 : decode cX7_second 18 = .ok (.invokevirtual 80, 3) := by decide +kernel
theorem dX7_second_21 : decode cX7_second 21 = .ok (.aload_n 0, 1) := by decide +kernel
theorem dX7_second_22 : decode cX7_second 22 = .ok (.iload_n 1, 1) := by decide +kernel
theorem dX7_second_23 : decode cX7_second 23 = .ok (.invokevirtual 121, 3) := by decide +kernel
theorem dX7_second_26 : decode cX7_second 26 = .ok (.iadd, 1) := by decide +kernel
theorem dX7_second_27 : decode cX7_second 27 = .ok (.iconst 0, 1) := by decide +kernel
theorem dX7_second_28 : decode cX7_second 28 = .ok (.sipush 999, 3) := by decide +kernel
theorem dX7_second_31 : decode cX7_second 31 = .ok (.invokestatic 109, 3) := by decide +kernel
theorem dX7_second_34 : decode cX7_second 34 = .ok (.invokevirtual 84, 3) := by decide +kernel
theorem dX7_second_37 : decode cX7_second 37 = .ok (.aload_n 0, 1) := by decide +kernel
theorem dX7_second_38 : decode cX7_second 38 = .ok (.iload_n 1, 1) := by decide +kernel
theorem dX7_second_39 : decode cX7_second 39 = .ok (.iconst 4, 1) := by decide +kernel
theorem dX7_second_40 : decode cX7_second 40 = .ok (.aload_n 0, 1) := by decide +kernel
theorem dX7_second_41 : decode cX7_second 41 = .ok (.iload_n 1, 1) := by decide +kernel
theorem dX7_second_42 : decode cX7_second 42 = .ok (.iconst 4, 1) := by decide +kernel
theorem dX7_second_43 : decode cX7_second 43 = .ok (.invokevirtual 80, 3) := by decide +kernel
theorem dX7_second_46 : decode cX7_second 46 = .ok (.ifCond .le 14, 3) := by decide +kernel
theorem dX7_second_49 : decode cX7_second 49 = .ok (.aload_n 0, 1) := by decide +kernel
theorem dX7_second_50 : decode cX7_second 50 = .ok (.iload_n 1, 1) := by decide +kernel
theorem dX7_second_51 : decode cX7_second 51 = .ok (.iconst 4, 1) := by decide +kernel
theorem dX7_second_52 : decode cX7_second 52 = .ok (.invokevirtual 80, 3) := by decide +kernel
theorem dX7_second_55 : decode cX7_second 55 = .ok (.iconst 1, 1) := by decide +kernel
theorem dX7_second_56 : decode cX7_second 56 = .ok (.isub, 1) := by decide +kernel
theorem dX7_second_57 : decode cX7_second 57 = .ok (.goto 4, 3) := by decide +kernel
theorem dX7_second_60 : decode cX7_second 60 = .ok (.iconst 0, 1) := by decide +kernel
theorem dX7_second_61 : decode cX7_second 61 = .ok (.invokevirtual 84, 3) := by decide +kernel
theorem dX7_second_64 : decode cX7_second 64 = .ok (.iinc 1 1, 3) := by decide +kernel
theorem dX7_second_67 : decode cX7_second 67 = .ok (.goto (-65), 3) := by decide +kernel
theorem dX7_second_70 : decode cX7_second 70 = .ok (.iconst 0, 1) := by decide +kernel
theorem dX7_second_71 : decode cX7_second 71 = .ok (.istore_n 1, 1) := by decide +kernel
theorem dX7_second_72 : decode cX7_second 72 = .ok (.iconst 0, 1) := by decide +kernel
theorem dX7_second_73 : decode cX7_second 73 = .ok (.istore_n 2, 1) := by decide +kernel
theorem dX7_second_74 : decode cX7_second 74 = .ok (.iload_n 2, 1) := by decide +kernel
theorem dX7_second_75 : decode cX7_second 75 = .ok (.aload_n 0, 1) := by decide +kernel
theorem dX7_second_76 : decode cX7_second 76 = .ok (.getfield 9, 3) := by decide +kernel
theorem dX7_second_79 : decode cX7_second 79 = .ok (.iconst 1, 1) := by decide +kernel
theorem dX7_second_80 : decode cX7_second 80 = .ok (.iaload, 1) := by decide +kernel
theorem dX7_second_81 : decode cX7_second 81 = .ok (.if_icmp .ge 27, 3) := by decide +kernel
theorem dX7_second_84 : decode cX7_second 84 = .ok (.iload_n 1, 1) := by decide +kernel
theorem dX7_second_85 : decode cX7_second 85 = .ok (.aload_n 0, 1) := by decide +kernel
theorem dX7_second_86 : decode cX7_second 86 = .ok (.iload_n 2, 1) := by decide +kernel
theorem dX7_second_87 : decode cX7_second 87 = .ok (.invokevirtual 124, 3) := by decide +kernel
theorem dX7_second_90 : decode cX7_second 90 = .ok (.ifCond .eq 9, 3) := by decide +kernel
theorem dX7_second_93 : decode cX7_second 93 = .ok (.iconst 1, 1) := by decide +kernel
theorem dX7_second_94 : decode cX7_second 94 = .ok (.iload_n 2, 1) := by decide +kernel
theorem dX7_second_95 : decode cX7_second 95 = .ok (.ishl, 1) := by decide +kernel
theorem dX7_second_96 : decode cX7_second 96 = .ok (.goto 4, 3) := by decide +kernel
theorem dX7_second_99 : decode cX7_second 99 = .ok (.iconst 0, 1) := by decide +kernel
theorem dX7_second_100 : decode cX7_second 100 = .ok (.ior, 1) := by decide +kernel
theorem dX7_second_101 : decode cX7_second 101 = .ok (.istore_n 1, 1) := by decide +kernel
theorem dX7_second_102 : decode cX7_second 102 = .ok (.iinc 2 1, 3) := by decide +kernel
theorem dX7_second_105 : decode cX7_second 105 = .ok (.goto (-31), 3) := by decide +kernel
theorem dX7_second_108 : decode cX7_second 108 = .ok (.iconst 0, 1) := by decide +kernel
theorem dX7_second_109 : decode cX7_second 109 = .ok (.istore_n 2, 1) := by decide +kernel
theorem dX7_second_110 : decode cX7_second 110 = .ok (.iload_n 2, 1) := by decide +kernel
theorem dX7_second_111 : decode cX7_second 111 = .ok (.aload_n 0, 1) := by decide +kernel
theorem dX7_second_112 : decode cX7_second 112 = .ok (.getfield 9, 3) := by decide +kernel
theorem dX7_second_115 : decode cX7_second 115 = .ok (.iconst 1, 1) := by decide +kernel
theorem dX7_second_116 : decode cX7_second 116 = .ok (.iaload, 1) := by decide +kernel
theorem dX7_second_117 : decode cX7_second 117 = .ok (.if_icmp .ge 66, 3) := by decide +kernel
theorem dX7_second_120 : decode cX7_second 120 = .ok (.iload_n 1, 1) := by decide +kernel
theorem dX7_second_121 : decode cX7_second 121 = .ok (.iload_n 2, 1) := by decide +kernel
theorem dX7_second_122 : decode cX7_second 122 = .ok (.ishr, 1) := by decide +kernel
theorem dX7_second_123 : decode cX7_second 123 = .ok (.iconst 1, 1) := by decide +kernel
theorem dX7_second_124 : decode cX7_second 124 = .ok (.iand, 1) := by decide +kernel
theorem dX7_second_125 : decode cX7_second 125 = .ok (.iconst 1, 1) := by decide +kernel
theorem dX7_second_126 : decode cX7_second 126 = .ok (.if_icmp .ne 7, 3) := by decide +kernel
theorem dX7_second_129 : decode cX7_second 129 = .ok (.iconst 1, 1) := by decide +kernel
theorem dX7_second_130 : decode cX7_second 130 = .ok (.goto 4, 3) := by decide +kernel
theorem dX7_second_133 : decode cX7_second 133 = .ok (.iconst 0, 1) := by decide +kernel
theorem dX7_second_134 : decode cX7_second 134 = .ok (.istore_n 3, 1) := by decide +kernel
theorem dX7_second_135 : decode cX7_second 135 = .ok (.aload_n 0, 1) := by decide +kernel
theorem dX7_second_136 : decode cX7_second 136 = .ok (.iload_n 2, 1) := by decide +kernel
theorem dX7_second_137 : decode cX7_second 137 = .ok (.iconst 3, 1) := by decide +kernel
theorem dX7_second_138 : decode cX7_second 138 = .ok (.iload_n 3, 1) := by decide +kernel
theorem dX7_second_139 : decode cX7_second 139 = .ok (.ifCond .eq 7, 3) := by decide +kernel
theorem dX7_second_142 : decode cX7_second 142 = .ok (.iconst 0, 1) := by decide +kernel
theorem dX7_second_143 : decode cX7_second 143 = .ok (.goto 9, 3) := by decide +kernel
theorem dX7_second_146 : decode cX7_second 146 = .ok (.aload_n 0, 1) := by decide +kernel
theorem dX7_second_147 : decode cX7_second 147 = .ok (.iload_n 2, 1) := by decide +kernel
theorem dX7_second_148 : decode cX7_second 148 = .ok (.iconst 3, 1) := by decide +kernel
theorem dX7_second_149 : decode cX7_second 149 = .ok (.invokevirtual 80, 3) := by decide +kernel
theorem dX7_second_152 : decode cX7_second 152 = .ok (.invokevirtual 84, 3) := by decide +kernel
theorem dX7_second_155 : decode cX7_second 155 = .ok (.aload_n 0, 1) := by decide +kernel
theorem dX7_second_156 : decode cX7_second 156 = .ok (.iload_n 2, 1) := by decide +kernel
theorem dX7_second_157 : decode cX7_second 157 = .ok (.iconst 5, 1) := by decide +kernel
theorem dX7_second_158 : decode cX7_second 158 = .ok (.aload_n 0, 1) := by decide +kernel
theorem dX7_second_159 : decode cX7_second 159 = .ok (.iload_n 2, 1) := by decide +kernel
theorem dX7_second_160 : decode cX7_second 160 = .ok (.iconst 5, 1) := by decide +kernel
theorem dX7_second_161 : decode cX7_second 161 = .ok (.invokevirtual 80, 3) := by decide +kernel
theorem dX7_second_164 : decode cX7_second 164 = .ok (.iload_n 3, 1) := by decide +kernel
theorem dX7_second_165 : decode cX7_second 165 = .ok (.ifCond .eq 7, 3) := by decide +kernel
theorem dX7_second_168 : decode cX7_second 168 = .ok (.iconst 1, 1) := by decide +kernel
theorem dX7_second_169 : decode cX7_second 169 = .ok (.goto 4, 3) := by decide +kernel
theorem dX7_second_172 : decode cX7_second 172 = .ok (.iconst 0, 1) := by decide +kernel
theorem dX7_second_173 : decode cX7_second 173 = .ok (.iadd, 1) := by decide +kernel
theorem dX7_second_174 : decode cX7_second 174 = .ok (.invokevirtual 84, 3) := by decide +kernel
theorem dX7_second_177 : decode cX7_second 177 = .ok (.iinc 2 1, 3) := by decide +kernel
theorem dX7_second_180 : decode cX7_second 180 = .ok (.goto (-70), 3) := by decide +kernel
theorem dX7_second_183 : decode cX7_second 183 = .ok (.iload_n 1, 1) := by decide +kernel
theorem dX7_second_184 : decode cX7_second 184 = .ok (.invokestatic 146, 3) := by decide +kernel
theorem dX7_second_187 : decode cX7_second 187 = .ok (.istore_n 2, 1) := by decide +kernel
theorem dX7_second_188 : decode cX7_second 188 = .ok (.aload_n 0, 1) := by decide +kernel
theorem dX7_second_189 : decode cX7_second 189 = .ok (.getfield 9, 3) := by decide +kernel
theorem dX7_second_192 : decode cX7_second 192 = .ok (.iconst 4, 1) := by decide +kernel
theorem dX7_second_193 : decode cX7_second 193 = .ok (.dup2, 1) := by decide +kernel
theorem dX7_second_194 : decode cX7_second 194 = .ok (.iaload, 1) := by decide +kernel
theorem dX7_second_195 : decode cX7_second 195 = .ok (.iload_n 2, 1) := by decide +kernel
theorem dX7_second_196 : decode cX7_second 196 = .ok (.ifCond .le 11, 3) := by decide +kernel
theorem dX7_second_199 : decode cX7_second 199 = .ok (.aload_n 0, 1) := by decide +kernel
theorem dX7_second_200 : decode cX7_second 200 = .ok (.iload_n 2, 1) := by decide +kernel
theorem dX7_second_201 : decode cX7_second 201 = .ok (.invokevirtual 149, 3) := by decide +kernel
theorem dX7_second_204 : decode cX7_second 204 = .ok (.goto 4, 3) := by decide +kernel
theorem dX7_second_207 : decode cX7_second 207 = .ok (.iconst 0, 1) := by decide +kernel
theorem dX7_second_208 : decode cX7_second 208 = .ok (.iadd, 1) := by decide +kernel
theorem dX7_second_209 : decode cX7_second 209 = .ok (.iastore, 1) := by decide +kernel
theorem dX7_second_210 : decode cX7_second 210 = .ok (.aload_n 0, 1) := by decide +kernel
theorem dX7_second_211 : decode cX7_second 211 = .ok (.getfield 9, 3) := by decide +kernel
theorem dX7_second_214 : decode cX7_second 214 = .ok (.iconst 3, 1) := by decide +kernel
theorem dX7_second_215 : decode cX7_second 215 = .ok (.dup2, 1) := by decide +kernel
theorem dX7_second_216 : decode cX7_second 216 = .ok (.iaload, 1) := by decide +kernel
theorem dX7_second_217 : decode cX7_second 217 = .ok (.iconst 1, 1) := by decide +kernel
theorem dX7_second_218 : decode cX7_second 218 = .ok (.iadd, 1) := by decide +kernel
theorem dX7_second_219 : decode cX7_second 219 = .ok (.iastore, 1) := by decide +kernel
theorem dX7_second_220 : decode cX7_second 220 = .ok (.aload_n 0, 1) := by decide +kernel
theorem dX7_second_221 : decode cX7_second 221 = .ok (.getfield 9, 3) := by decide +kernel
theorem dX7_second_224 : decode cX7_second 224 = .ok (.iconst 5, 1) := by decide +kernel
theorem dX7_second_225 : decode cX7_second 225 = .ok (.iload_n 1, 1) := by decide +kernel
theorem dX7_second_226 : decode cX7_second 226 = .ok (.iastore, 1) := by decide +kernel
theorem dX7_second_227 : decode cX7_second 227 = .ok (.iload_n 2, 1) := by decide +kernel
theorem dX7_second_228 : decode cX7_second 228 = .ok (.ireturn, 1) := by decide +kernel
theorem dX7_seconds_0 : decode cX7_seconds 0 = .ok (.iconst 0, 1) := by decide +kernel
theorem dX7_seconds_1 : decode cX7_seconds 1 = .ok (.istore_n 2, 1) := by decide +kernel
theorem dX7_seconds_2 : decode cX7_seconds 2 = .ok (.iconst 0, 1) := by decide +kernel
theorem dX7_seconds_3 : decode cX7_seconds 3 = .ok (.istore_n 3, 1) := by decide +kernel
theorem dX7_seconds_4 : decode cX7_seconds 4 = .ok (.iload_n 3, 1) := by decide +kernel
theorem dX7_seconds_5 : decode cX7_seconds 5 = .ok (.iload_n 1, 1) := by decide +kernel
theorem dX7_seconds_6 : decode cX7_seconds 6 = .ok (.if_icmp .ge 16, 3) := by decide +kernel
theorem dX7_seconds_9 : decode cX7_seconds 9 = .ok (.iload_n 2, 1) := by decide +kernel
theorem dX7_seconds_10 : decode cX7_seconds 10 = .ok (.aload_n 0, 1) := by decide +kernel
theorem dX7_seconds_11 : decode cX7_seconds 11 = .ok (.invokevirtual 152, 3) := by decide +kernel
theorem dX7_seconds_14 : decode cX7_seconds 14 = .ok (.iadd, 1) := by decide +kernel
theorem dX7_seconds_15 : decode cX7_seconds 15 = .ok (.istore_n 2, 1) := by decide +kernel
theorem dX7_seconds_16 : decode cX7_seconds 16 = .ok (.iinc 3 1, 3) := by decide +kernel
theorem dX7_seconds_19 : decode cX7_seconds 19 = .ok (.goto (-15), 3) := by decide +kernel
theorem dX7_seconds_22 : decode cX7_seconds 22 = .ok (.iload_n 2, 1) := by decide +kernel
theorem dX7_seconds_23 : decode cX7_seconds 23 = .ok (.ireturn, 1) := by decide +kernel
theorem dX7_run_0 : decode cX7_run 0 = .ok (.iload_n 1, 1) := by decide +kernel
theorem dX7_run_1 : decode cX7_run 1 = .ok (.iconst 1, 1) := by decide +kernel
theorem dX7_run_2 : decode cX7_run 2 = .ok (.sipush 200, 3) := by decide +kernel
theorem dX7_run_5 : decode cX7_run 5 = .ok (.invokestatic 76, 3) := by decide +kernel
theorem dX7_run_8 : decode cX7_run 8 = .ok (.ifCond .eq 24, 3) := by decide +kernel
theorem dX7_run_11 : decode cX7_run 11 = .ok (.aload_n 0, 1) := by decide +kernel
theorem dX7_run_12 : decode cX7_run 12 = .ok (.ldc 155, 2) := by decide +kernel
theorem dX7_run_14 : decode cX7_run 14 = .ok (.aload_n 0, 1) := by decide +kernel
theorem dX7_run_15 : decode cX7_run 15 = .ok (.getfield 9, 3) := by decide +kernel
theorem dX7_run_18 : decode cX7_run 18 = .ok (.iconst 3, 1) := by decide +kernel
theorem dX7_run_19 : decode cX7_run 19 = .ok (.iaload, 1) := by decide +kernel
theorem dX7_run_20 : decode cX7_run 20 = .ok (.isub, 1) := by decide +kernel
theorem dX7_run_21 : decode cX7_run 21 = .ok (.iconst 0, 1) := by decide +kernel
theorem dX7_run_22 : decode cX7_run 22 = .ok (.iload_n 1, 1) := by decide +kernel
theorem dX7_run_23 : decode cX7_run 23 = .ok (.invokestatic 109, 3) := by decide +kernel
theorem dX7_run_26 : decode cX7_run 26 = .ok (.invokevirtual 156, 3) := by decide +kernel
theorem dX7_run_29 : decode cX7_run 29 = .ok (.goto 5, 3) := by decide +kernel
theorem dX7_run_32 : decode cX7_run 32 = .ok (.ldc 92, 2) := by decide +kernel
theorem dX7_run_34 : decode cX7_run 34 = .ok (.ireturn, 1) := by decide +kernel
theorem dX7_did_0 : decode cX7_did 0 = .ok (.aload_n 0, 1) := by decide +kernel
theorem dX7_did_1 : decode cX7_did 1 = .ok (.getfield 9, 3) := by decide +kernel
theorem dX7_did_4 : decode cX7_did 4 = .ok (.iconst 5, 1) := by decide +kernel
theorem dX7_did_5 : decode cX7_did 5 = .ok (.iaload, 1) := by decide +kernel
theorem dX7_did_6 : decode cX7_did 6 = .ok (.ireturn, 1) := by decide +kernel
theorem dX7_thinks_0 : decode cX7_thinks 0 = .ok (.iconst 0, 1) := by decide +kernel
theorem dX7_thinks_1 : decode cX7_thinks 1 = .ok (.istore_n 1, 1) := by decide +kernel
theorem dX7_thinks_2 : decode cX7_thinks 2 = .ok (.iload_n 1, 1) := by decide +kernel
theorem dX7_thinks_3 : decode cX7_thinks 3 = .ok (.bipush 93, 2) := by decide +kernel
theorem dX7_thinks_5 : decode cX7_thinks 5 = .ok (.if_icmp .ge 21, 3) := by decide +kernel
theorem dX7_thinks_8 : decode cX7_thinks 8 = .ok (.aload_n 0, 1) := by decide +kernel
theorem dX7_thinks_9 : decode cX7_thinks 9 = .ok (.getfield 19, 3) := by decide +kernel
theorem dX7_thinks_12 : decode cX7_thinks 12 = .ok (.iload_n 1, 1) := by decide +kernel
theorem dX7_thinks_13 : decode cX7_thinks 13 = .ok (.aload_n 0, 1) := by decide +kernel
theorem dX7_thinks_14 : decode cX7_thinks 14 = .ok (.getfield 9, 3) := by decide +kernel
theorem dX7_thinks_17 : decode cX7_thinks 17 = .ok (.iload_n 1, 1) := by decide +kernel
theorem dX7_thinks_18 : decode cX7_thinks 18 = .ok (.iaload, 1) := by decide +kernel
theorem dX7_thinks_19 : decode cX7_thinks 19 = .ok (.iastore, 1) := by decide +kernel
theorem dX7_thinks_20 : decode cX7_thinks 20 = .ok (.iinc 1 1, 3) := by decide +kernel
theorem dX7_thinks_23 : decode cX7_thinks 23 = .ok (.goto (-21), 3) := by decide +kernel
theorem dX7_thinks_26 : decode cX7_thinks 26 = .ok (.return_, 1) := by decide +kernel
theorem dX7_putsBack_0 : decode cX7_putsBack 0 = .ok (.iconst 0, 1) := by decide +kernel
theorem dX7_putsBack_1 : decode cX7_putsBack 1 = .ok (.istore_n 1, 1) := by decide +kernel
theorem dX7_putsBack_2 : decode cX7_putsBack 2 = .ok (.iload_n 1, 1) := by decide +kernel
theorem dX7_putsBack_3 : decode cX7_putsBack 3 = .ok (.bipush 93, 2) := by decide +kernel
theorem dX7_putsBack_5 : decode cX7_putsBack 5 = .ok (.if_icmp .ge 21, 3) := by decide +kernel
theorem dX7_putsBack_8 : decode cX7_putsBack 8 = .ok (.aload_n 0, 1) := by decide +kernel
theorem dX7_putsBack_9 : decode cX7_putsBack 9 = .ok (.getfield 9, 3) := by decide +kernel
theorem dX7_putsBack_12 : decode cX7_putsBack 12 = .ok (.iload_n 1, 1) := by decide +kernel
theorem dX7_putsBack_13 : decode cX7_putsBack 13 = .ok (.aload_n 0, 1) := by decide +kernel
theorem dX7_putsBack_14 : decode cX7_putsBack 14 = .ok (.getfield 19, 3) := by decide +kernel
theorem dX7_putsBack_17 : decode cX7_putsBack 17 = .ok (.iload_n 1, 1) := by decide +kernel
theorem dX7_putsBack_18 : decode cX7_putsBack 18 = .ok (.iaload, 1) := by decide +kernel
theorem dX7_putsBack_19 : decode cX7_putsBack 19 = .ok (.iastore, 1) := by decide +kernel
theorem dX7_putsBack_20 : decode cX7_putsBack 20 = .ok (.iinc 1 1, 3) := by decide +kernel
theorem dX7_putsBack_23 : decode cX7_putsBack 23 = .ok (.goto (-21), 3) := by decide +kernel
theorem dX7_putsBack_26 : decode cX7_putsBack 26 = .ok (.return_, 1) := by decide +kernel
theorem dX7_coughsAll_0 : decode cX7_coughsAll 0 = .ok (.iconst 0, 1) := by decide +kernel
theorem dX7_coughsAll_1 : decode cX7_coughsAll 1 = .ok (.istore_n 1, 1) := by decide +kernel
theorem dX7_coughsAll_2 : decode cX7_coughsAll 2 = .ok (.iconst 0, 1) := by decide +kernel
theorem dX7_coughsAll_3 : decode cX7_coughsAll 3 = .ok (.istore_n 2, 1) := by decide +kernel
theorem dX7_coughsAll_4 : decode cX7_coughsAll 4 = .ok (.iload_n 2, 1) := by decide +kernel
theorem dX7_coughsAll_5 : decode cX7_coughsAll 5 = .ok (.aload_n 0, 1) := by decide +kernel
theorem dX7_coughsAll_6 : decode cX7_coughsAll 6 = .ok (.getfield 9, 3) := by decide +kernel
theorem dX7_coughsAll_9 : decode cX7_coughsAll 9 = .ok (.iconst 1, 1) := by decide +kernel
theorem dX7_coughsAll_10 : decode cX7_coughsAll 10 = .ok (.iaload, 1) := by decide +kernel
theorem dX7_coughsAll_11 : decode cX7_coughsAll 11 = .ok (.if_icmp .ge 18, 3) := by decide +kernel
theorem dX7_coughsAll_14 : decode cX7_coughsAll 14 = .ok (.iload_n 1, 1) := by decide +kernel
theorem dX7_coughsAll_15 : decode cX7_coughsAll 15 = .ok (.aload_n 0, 1) := by decide +kernel
theorem dX7_coughsAll_16 : decode cX7_coughsAll 16 = .ok (.iload_n 2, 1) := by decide +kernel
theorem dX7_coughsAll_17 : decode cX7_coughsAll 17 = .ok (.iconst 5, 1) := by decide +kernel
theorem dX7_coughsAll_18 : decode cX7_coughsAll 18 = .ok (.invokevirtual 80, 3) := by decide +kernel
theorem dX7_coughsAll_21 : decode cX7_coughsAll 21 = .ok (.iadd, 1) := by decide +kernel
theorem dX7_coughsAll_22 : decode cX7_coughsAll 22 = .ok (.istore_n 1, 1) := by decide +kernel
theorem dX7_coughsAll_23 : decode cX7_coughsAll 23 = .ok (.iinc 2 1, 3) := by decide +kernel
theorem dX7_coughsAll_26 : decode cX7_coughsAll 26 = .ok (.goto (-22), 3) := by decide +kernel
theorem dX7_coughsAll_29 : decode cX7_coughsAll 29 = .ok (.iload_n 1, 1) := by decide +kernel
theorem dX7_coughsAll_30 : decode cX7_coughsAll 30 = .ok (.ireturn, 1) := by decide +kernel
theorem dX7_mostItch_0 : decode cX7_mostItch 0 = .ok (.iconst 0, 1) := by decide +kernel
theorem dX7_mostItch_1 : decode cX7_mostItch 1 = .ok (.istore_n 1, 1) := by decide +kernel
theorem dX7_mostItch_2 : decode cX7_mostItch 2 = .ok (.iconst 0, 1) := by decide +kernel
theorem dX7_mostItch_3 : decode cX7_mostItch 3 = .ok (.istore_n 2, 1) := by decide +kernel
theorem dX7_mostItch_4 : decode cX7_mostItch 4 = .ok (.iload_n 2, 1) := by decide +kernel
theorem dX7_mostItch_5 : decode cX7_mostItch 5 = .ok (.aload_n 0, 1) := by decide +kernel
theorem dX7_mostItch_6 : decode cX7_mostItch 6 = .ok (.getfield 9, 3) := by decide +kernel
theorem dX7_mostItch_9 : decode cX7_mostItch 9 = .ok (.iconst 1, 1) := by decide +kernel
theorem dX7_mostItch_10 : decode cX7_mostItch 10 = .ok (.iaload, 1) := by decide +kernel
theorem dX7_mostItch_11 : decode cX7_mostItch 11 = .ok (.if_icmp .ge 30, 3) := by decide +kernel
theorem dX7_mostItch_14 : decode cX7_mostItch 14 = .ok (.aload_n 0, 1) := by decide +kernel
theorem dX7_mostItch_15 : decode cX7_mostItch 15 = .ok (.iload_n 2, 1) := by decide +kernel
theorem dX7_mostItch_16 : decode cX7_mostItch 16 = .ok (.iconst 3, 1) := by decide +kernel
theorem dX7_mostItch_17 : decode cX7_mostItch 17 = .ok (.invokevirtual 80, 3) := by decide +kernel
theorem dX7_mostItch_20 : decode cX7_mostItch 20 = .ok (.iload_n 1, 1) := by decide +kernel
theorem dX7_mostItch_21 : decode cX7_mostItch 21 = .ok (.if_icmp .le 12, 3) := by decide +kernel
theorem dX7_mostItch_24 : decode cX7_mostItch 24 = .ok (.aload_n 0, 1) := by decide +kernel
theorem dX7_mostItch_25 : decode cX7_mostItch 25 = .ok (.iload_n 2, 1) := by decide +kernel
theorem dX7_mostItch_26 : decode cX7_mostItch 26 = .ok (.iconst 3, 1) := by decide +kernel
theorem dX7_mostItch_27 : decode cX7_mostItch 27 = .ok (.invokevirtual 80, 3) := by decide +kernel
theorem dX7_mostItch_30 : decode cX7_mostItch 30 = .ok (.goto 4, 3) := by decide +kernel
theorem dX7_mostItch_33 : decode cX7_mostItch 33 = .ok (.iload_n 1, 1) := by decide +kernel
theorem dX7_mostItch_34 : decode cX7_mostItch 34 = .ok (.istore_n 1, 1) := by decide +kernel
theorem dX7_mostItch_35 : decode cX7_mostItch 35 = .ok (.iinc 2 1, 3) := by decide +kernel
theorem dX7_mostItch_38 : decode cX7_mostItch 38 = .ok (.goto (-34), 3) := by decide +kernel
theorem dX7_mostItch_41 : decode cX7_mostItch 41 = .ok (.iload_n 1, 1) := by decide +kernel
theorem dX7_mostItch_42 : decode cX7_mostItch 42 = .ok (.ireturn, 1) := by decide +kernel
theorem dX7_behindAll_0 : decode cX7_behindAll 0 = .ok (.aload_n 0, 1) := by decide +kernel
theorem dX7_behindAll_1 : decode cX7_behindAll 1 = .ok (.iload_n 1, 1) := by decide +kernel
theorem dX7_behindAll_2 : decode cX7_behindAll 2 = .ok (.invokevirtual 156, 3) := by decide +kernel
theorem dX7_behindAll_5 : decode cX7_behindAll 5 = .ok (.istore_n 3, 1) := by decide +kernel
theorem dX7_behindAll_6 : decode cX7_behindAll 6 = .ok (.iload_n 2, 1) := by decide +kernel
theorem dX7_behindAll_7 : decode cX7_behindAll 7 = .ok (.ifCond .ne 10, 3) := by decide +kernel
theorem dX7_behindAll_10 : decode cX7_behindAll 10 = .ok (.aload_n 0, 1) := by decide +kernel
theorem dX7_behindAll_11 : decode cX7_behindAll 11 = .ok (.invokevirtual 159, 3) := by decide +kernel
theorem dX7_behindAll_14 : decode cX7_behindAll 14 = .ok (.goto 21, 3) := by decide +kernel
theorem dX7_behindAll_17 : decode cX7_behindAll 17 = .ok (.iload_n 2, 1) := by decide +kernel
theorem dX7_behindAll_18 : decode cX7_behindAll 18 = .ok (.iconst 1, 1) := by decide +kernel
theorem dX7_behindAll_19 : decode cX7_behindAll 19 = .ok (.if_icmp .ne 12, 3) := by decide +kernel
theorem dX7_behindAll_22 : decode cX7_behindAll 22 = .ok (.aload_n 0, 1) := by decide +kernel
theorem dX7_behindAll_23 : decode cX7_behindAll 23 = .ok (.getfield 9, 3) := by decide +kernel
theorem dX7_behindAll_26 : decode cX7_behindAll 26 = .ok (.iconst 4, 1) := by decide +kernel
theorem dX7_behindAll_27 : decode cX7_behindAll 27 = .ok (.iaload, 1) := by decide +kernel
theorem dX7_behindAll_28 : decode cX7_behindAll 28 = .ok (.goto 7, 3) := by decide +kernel
theorem dX7_behindAll_31 : decode cX7_behindAll 31 = .ok (.aload_n 0, 1) := by decide +kernel
theorem dX7_behindAll_32 : decode cX7_behindAll 32 = .ok (.invokevirtual 162, 3) := by decide +kernel
theorem dX7_behindAll_35 : decode cX7_behindAll 35 = .ok (.istore 4, 2) := by decide +kernel
theorem dX7_behindAll_37 : decode cX7_behindAll 37 = .ok (.aload_n 0, 1) := by decide +kernel
theorem dX7_behindAll_38 : decode cX7_behindAll 38 = .ok (.invokevirtual 165, 3) := by decide +kernel
theorem dX7_behindAll_41 : decode cX7_behindAll 41 = .ok (.iload 4, 2) := by decide +kernel
theorem dX7_behindAll_43 : decode cX7_behindAll 43 = .ok (.ireturn, 1) := by decide +kernel
theorem dX7_behind_0 : decode cX7_behind 0 = .ok (.iload_n 1, 1) := by decide +kernel
theorem dX7_behind_1 : decode cX7_behind 1 = .ok (.iconst 0, 1) := by decide +kernel
theorem dX7_behind_2 : decode cX7_behind 2 = .ok (.sipush 200, 3) := by decide +kernel
theorem dX7_behind_5 : decode cX7_behind 5 = .ok (.invokestatic 76, 3) := by decide +kernel
theorem dX7_behind_8 : decode cX7_behind 8 = .ok (.ifCond .eq 12, 3) := by decide +kernel
theorem dX7_behind_11 : decode cX7_behind 11 = .ok (.iload_n 2, 1) := by decide +kernel
theorem dX7_behind_12 : decode cX7_behind 12 = .ok (.iconst 0, 1) := by decide +kernel
theorem dX7_behind_13 : decode cX7_behind 13 = .ok (.iconst 2, 1) := by decide +kernel
theorem dX7_behind_14 : decode cX7_behind 14 = .ok (.invokestatic 76, 3) := by decide +kernel
theorem dX7_behind_17 : decode cX7_behind 17 = .ok (.ifCond .ne 6, 3) := by decide +kernel
theorem dX7_behind_20 : decode cX7_behind 20 = .ok (.ldc 92, 2) := by decide +kernel
theorem dX7_behind_22 : decode cX7_behind 22 = .ok (.ireturn, 1) := by decide +kernel
theorem dX7_behind_23 : decode cX7_behind 23 = .ok (.aload_n 0, 1) := by decide +kernel
theorem dX7_behind_24 : decode cX7_behind 24 = .ok (.invokevirtual 168, 3) := by decide +kernel
theorem dX7_behind_27 : decode cX7_behind 27 = .ok (.aload_n 0, 1) := by decide +kernel
theorem dX7_behind_28 : decode cX7_behind 28 = .ok (.iload_n 1, 1) := by decide +kernel
theorem dX7_behind_29 : decode cX7_behind 29 = .ok (.iload_n 2, 1) := by decide +kernel
theorem dX7_behind_30 : decode cX7_behind 30 = .ok (.invokevirtual 171, 3) := by decide +kernel
theorem dX7_behind_33 : decode cX7_behind 33 = .ok (.ireturn, 1) := by decide +kernel
theorem dX7_first_0 : decode cX7_first 0 = .ok (.aload_n 0, 1) := by decide +kernel
theorem dX7_first_1 : decode cX7_first 1 = .ok (.invokevirtual 168, 3) := by decide +kernel
theorem dX7_first_4 : decode cX7_first 4 = .ok (.iconst 1, 1) := by decide +kernel
theorem dX7_first_5 : decode cX7_first 5 = .ok (.istore_n 1, 1) := by decide +kernel
theorem dX7_first_6 : decode cX7_first 6 = .ok (.iload_n 1, 1) := by decide +kernel
theorem dX7_first_7 : decode cX7_first 7 = .ok (.sipush 200, 3) := by decide +kernel
theorem dX7_first_10 : decode cX7_first 10 = .ok (.if_icmp .gt 16, 3) := by decide +kernel
theorem dX7_first_13 : decode cX7_first 13 = .ok (.aload_n 0, 1) := by decide +kernel
theorem dX7_first_14 : decode cX7_first 14 = .ok (.invokevirtual 152, 3) := by decide +kernel
theorem dX7_first_17 : decode cX7_first 17 = .ok (.ifCond .ne 9, 3) := by decide +kernel
theorem dX7_first_20 : decode cX7_first 20 = .ok (.iinc 1 1, 3) := by decide +kernel
theorem dX7_first_23 : decode cX7_first 23 = .ok (.goto (-17), 3) := by decide +kernel
theorem dX7_first_26 : decode cX7_first 26 = .ok (.aload_n 0, 1) := by decide +kernel
theorem dX7_first_27 : decode cX7_first 27 = .ok (.invokevirtual 165, 3) := by decide +kernel
theorem dX7_first_30 : decode cX7_first 30 = .ok (.iload_n 1, 1) := by decide +kernel
theorem dX7_first_31 : decode cX7_first 31 = .ok (.sipush 200, 3) := by decide +kernel
theorem dX7_first_34 : decode cX7_first 34 = .ok (.if_icmp .gt 7, 3) := by decide +kernel
theorem dX7_first_37 : decode cX7_first 37 = .ok (.iload_n 1, 1) := by decide +kernel
theorem dX7_first_38 : decode cX7_first 38 = .ok (.goto 5, 3) := by decide +kernel
theorem dX7_first_41 : decode cX7_first 41 = .ok (.ldc 75, 2) := by decide +kernel
theorem dX7_first_43 : decode cX7_first 43 = .ok (.ireturn, 1) := by decide +kernel
theorem dX7_rest_0 : decode cX7_rest 0 = .ok (.iload_n 1, 1) := by decide +kernel
theorem dX7_rest_1 : decode cX7_rest 1 = .ok (.iconst 1, 1) := by decide +kernel
theorem dX7_rest_2 : decode cX7_rest 2 = .ok (.bipush 60, 2) := by decide +kernel
theorem dX7_rest_4 : decode cX7_rest 4 = .ok (.invokestatic 76, 3) := by decide +kernel
theorem dX7_rest_7 : decode cX7_rest 7 = .ok (.ifCond .ne 6, 3) := by decide +kernel
theorem dX7_rest_10 : decode cX7_rest 10 = .ok (.ldc 92, 2) := by decide +kernel
theorem dX7_rest_12 : decode cX7_rest 12 = .ok (.ireturn, 1) := by decide +kernel
theorem dX7_rest_13 : decode cX7_rest 13 = .ok (.aload_n 0, 1) := by decide +kernel
theorem dX7_rest_14 : decode cX7_rest 14 = .ok (.invokevirtual 168, 3) := by decide +kernel
theorem dX7_rest_17 : decode cX7_rest 17 = .ok (.iconst 0, 1) := by decide +kernel
theorem dX7_rest_18 : decode cX7_rest 18 = .ok (.istore_n 2, 1) := by decide +kernel
theorem dX7_rest_19 : decode cX7_rest 19 = .ok (.iconst 0, 1) := by decide +kernel
theorem dX7_rest_20 : decode cX7_rest 20 = .ok (.istore_n 3, 1) := by decide +kernel
theorem dX7_rest_21 : decode cX7_rest 21 = .ok (.iconst 0, 1) := by decide +kernel
theorem dX7_rest_22 : decode cX7_rest 22 = .ok (.istore 4, 2) := by decide +kernel
theorem dX7_rest_24 : decode cX7_rest 24 = .ok (.iload 4, 2) := by decide +kernel
theorem dX7_rest_26 : decode cX7_rest 26 = .ok (.aload_n 0, 1) := by decide +kernel
theorem dX7_rest_27 : decode cX7_rest 27 = .ok (.getfield 9, 3) := by decide +kernel
theorem dX7_rest_30 : decode cX7_rest 30 = .ok (.iconst 2, 1) := by decide +kernel
theorem dX7_rest_31 : decode cX7_rest 31 = .ok (.iaload, 1) := by decide +kernel
theorem dX7_rest_32 : decode cX7_rest 32 = .ok (.if_icmp .ge 59, 3) := by decide +kernel
theorem dX7_rest_35 : decode cX7_rest 35 = .ok (.aload_n 0, 1) := by decide +kernel
theorem dX7_rest_36 : decode cX7_rest 36 = .ok (.getfield 9, 3) := by decide +kernel
theorem dX7_rest_39 : decode cX7_rest 39 = .ok (.bipush 9, 2) := by decide +kernel
theorem dX7_rest_41 : decode cX7_rest 41 = .ok (.iload 4, 2) := by decide +kernel
theorem dX7_rest_43 : decode cX7_rest 43 = .ok (.iadd, 1) := by decide +kernel
theorem dX7_rest_44 : decode cX7_rest 44 = .ok (.iconst 0, 1) := by decide +kernel
theorem dX7_rest_45 : decode cX7_rest 45 = .ok (.iastore, 1) := by decide +kernel
theorem dX7_rest_46 : decode cX7_rest 46 = .ok (.aload_n 0, 1) := by decide +kernel
theorem dX7_rest_47 : decode cX7_rest 47 = .ok (.iload_n 1, 1) := by decide +kernel
theorem dX7_rest_48 : decode cX7_rest 48 = .ok (.iconst 1, 1) := by decide +kernel
theorem dX7_rest_49 : decode cX7_rest 49 = .ok (.invokevirtual 171, 3) := by decide +kernel
theorem dX7_rest_52 : decode cX7_rest 52 = .ok (.istore 5, 2) := by decide +kernel
theorem dX7_rest_54 : decode cX7_rest 54 = .ok (.iload 4, 2) := by decide +kernel
theorem dX7_rest_56 : decode cX7_rest 56 = .ok (.ifCond .eq 9, 3) := by decide +kernel
theorem dX7_rest_59 : decode cX7_rest 59 = .ok (.iload 5, 2) := by decide +kernel
theorem dX7_rest_61 : decode cX7_rest 61 = .ok (.iload_n 3, 1) := by decide +kernel
theorem dX7_rest_62 : decode cX7_rest 62 = .ok (.if_icmp .ge 8, 3) := by decide +kernel
theorem dX7_rest_65 : decode cX7_rest 65 = .ok (.iload 4, 2) := by decide +kernel
theorem dX7_rest_67 : decode cX7_rest 67 = .ok (.goto 4, 3) := by decide +kernel
theorem dX7_rest_70 : decode cX7_rest 70 = .ok (.iload_n 2, 1) := by decide +kernel
theorem dX7_rest_71 : decode cX7_rest 71 = .ok (.istore_n 2, 1) := by decide +kernel
theorem dX7_rest_72 : decode cX7_rest 72 = .ok (.iload_n 2, 1) := by decide +kernel
theorem dX7_rest_73 : decode cX7_rest 73 = .ok (.iload 4, 2) := by decide +kernel
theorem dX7_rest_75 : decode cX7_rest 75 = .ok (.if_icmp .ne 8, 3) := by decide +kernel
theorem dX7_rest_78 : decode cX7_rest 78 = .ok (.iload 5, 2) := by decide +kernel
theorem dX7_rest_80 : decode cX7_rest 80 = .ok (.goto 4, 3) := by decide +kernel
theorem dX7_rest_83 : decode cX7_rest 83 = .ok (.iload_n 3, 1) := by decide +kernel
theorem dX7_rest_84 : decode cX7_rest 84 = .ok (.istore_n 3, 1) := by decide +kernel
theorem dX7_rest_85 : decode cX7_rest 85 = .ok (.iinc 4 1, 3) := by decide +kernel
theorem dX7_rest_88 : decode cX7_rest 88 = .ok (.goto (-64), 3) := by decide +kernel
theorem dX7_rest_91 : decode cX7_rest 91 = .ok (.iload_n 2, 1) := by decide +kernel
theorem dX7_rest_92 : decode cX7_rest 92 = .ok (.ireturn, 1) := by decide +kernel
theorem dX7_change_0 : decode cX7_change 0 = .ok (.iload_n 1, 1) := by decide +kernel
theorem dX7_change_1 : decode cX7_change 1 = .ok (.iconst 1, 1) := by decide +kernel
theorem dX7_change_2 : decode cX7_change 2 = .ok (.bipush 40, 2) := by decide +kernel
theorem dX7_change_4 : decode cX7_change 4 = .ok (.invokestatic 76, 3) := by decide +kernel
theorem dX7_change_7 : decode cX7_change 7 = .ok (.ifCond .ne 6, 3) := by decide +kernel
theorem dX7_change_10 : decode cX7_change 10 = .ok (.ldc 92, 2) := by decide +kernel
theorem dX7_change_12 : decode cX7_change 12 = .ok (.ireturn, 1) := by decide +kernel
theorem dX7_change_13 : decode cX7_change 13 = .ok (.aload_n 0, 1) := by decide +kernel
theorem dX7_change_14 : decode cX7_change 14 = .ok (.invokevirtual 168, 3) := by decide +kernel
theorem dX7_change_17 : decode cX7_change 17 = .ok (.ldc 75, 2) := by decide +kernel
theorem dX7_change_19 : decode cX7_change 19 = .ok (.istore_n 2, 1) := by decide +kernel
theorem dX7_change_20 : decode cX7_change 20 = .ok (.iconst 0, 1) := by decide +kernel
theorem dX7_change_21 : decode cX7_change 21 = .ok (.istore_n 3, 1) := by decide +kernel
theorem dX7_change_22 : decode cX7_change 22 = .ok (.iconst 0, 1) := by decide +kernel
theorem dX7_change_23 : decode cX7_change 23 = .ok (.istore 4, 2) := by decide +kernel
theorem dX7_change_25 : decode cX7_change 25 = .ok (.iload 4, 2) := by decide +kernel
theorem dX7_change_27 : decode cX7_change 27 = .ok (.aload_n 0, 1) := by decide +kernel
theorem dX7_change_28 : decode cX7_change 28 = .ok (.getfield 9, 3) := by decide +kernel
theorem dX7_change_31 : decode cX7_change 31 = .ok (.iconst 1, 1) := by decide +kernel
theorem dX7_change_32 : decode cX7_change 32 = .ok (.iaload, 1) := by decide +kernel
theorem dX7_change_33 : decode cX7_change 33 = .ok (.if_icmp .ge 121, 3) := by decide +kernel
theorem dX7_change_36 : decode cX7_change 36 = .ok (.iload 4, 2) := by decide +kernel
theorem dX7_change_38 : decode cX7_change 38 = .ok (.iconst 1, 1) := by decide +kernel
theorem dX7_change_39 : decode cX7_change 39 = .ok (.iadd, 1) := by decide +kernel
theorem dX7_change_40 : decode cX7_change 40 = .ok (.istore 5, 2) := by decide +kernel
theorem dX7_change_42 : decode cX7_change 42 = .ok (.iload 5, 2) := by decide +kernel
theorem dX7_change_44 : decode cX7_change 44 = .ok (.aload_n 0, 1) := by decide +kernel
theorem dX7_change_45 : decode cX7_change 45 = .ok (.getfield 9, 3) := by decide +kernel
theorem dX7_change_48 : decode cX7_change 48 = .ok (.iconst 1, 1) := by decide +kernel
theorem dX7_change_49 : decode cX7_change 49 = .ok (.iaload, 1) := by decide +kernel
theorem dX7_change_50 : decode cX7_change 50 = .ok (.if_icmp .ge 98, 3) := by decide +kernel
theorem dX7_change_53 : decode cX7_change 53 = .ok (.aload_n 0, 1) := by decide +kernel
theorem dX7_change_54 : decode cX7_change 54 = .ok (.iload 4, 2) := by decide +kernel
theorem dX7_change_56 : decode cX7_change 56 = .ok (.iconst 1, 1) := by decide +kernel
theorem dX7_change_57 : decode cX7_change 57 = .ok (.invokevirtual 80, 3) := by decide +kernel
theorem dX7_change_60 : decode cX7_change 60 = .ok (.istore 6, 2) := by decide +kernel
theorem dX7_change_62 : decode cX7_change 62 = .ok (.aload_n 0, 1) := by decide +kernel
theorem dX7_change_63 : decode cX7_change 63 = .ok (.iload 4, 2) := by decide +kernel
theorem dX7_change_65 : decode cX7_change 65 = .ok (.iconst 1, 1) := by decide +kernel
theorem dX7_change_66 : decode cX7_change 66 = .ok (.aload_n 0, 1) := by decide +kernel
theorem dX7_change_67 : decode cX7_change 67 = .ok (.iload 5, 2) := by decide +kernel
theorem dX7_change_69 : decode cX7_change 69 = .ok (.iconst 1, 1) := by decide +kernel
theorem dX7_change_70 : decode cX7_change 70 = .ok (.invokevirtual 80, 3) := by decide +kernel
theorem dX7_change_73 : decode cX7_change 73 = .ok (.invokevirtual 84, 3) := by decide +kernel
theorem dX7_change_76 : decode cX7_change 76 = .ok (.aload_n 0, 1) := by decide +kernel
theorem dX7_change_77 : decode cX7_change 77 = .ok (.iload 5, 2) := by decide +kernel
theorem dX7_change_79 : decode cX7_change 79 = .ok (.iconst 1, 1) := by decide +kernel
theorem dX7_change_80 : decode cX7_change 80 = .ok (.iload 6, 2) := by decide +kernel
theorem dX7_change_82 : decode cX7_change 82 = .ok (.invokevirtual 84, 3) := by decide +kernel
theorem dX7_change_85 : decode cX7_change 85 = .ok (.aload_n 0, 1) := by decide +kernel
theorem dX7_change_86 : decode cX7_change 86 = .ok (.iload_n 1, 1) := by decide +kernel
theorem dX7_change_87 : decode cX7_change 87 = .ok (.iconst 0, 1) := by decide +kernel
theorem dX7_change_88 : decode cX7_change 88 = .ok (.invokevirtual 171, 3) := by decide +kernel
theorem dX7_change_91 : decode cX7_change 91 = .ok (.istore 7, 2) := by decide +kernel
theorem dX7_change_93 : decode cX7_change 93 = .ok (.iload_n 2, 1) := by decide +kernel
theorem dX7_change_94 : decode cX7_change 94 = .ok (.ldc 75, 2) := by decide +kernel
theorem dX7_change_96 : decode cX7_change 96 = .ok (.if_icmp .eq 9, 3) := by decide +kernel
theorem dX7_change_99 : decode cX7_change 99 = .ok (.iload 7, 2) := by decide +kernel
theorem dX7_change_101 : decode cX7_change 101 = .ok (.iload_n 3, 1) := by decide +kernel
theorem dX7_change_102 : decode cX7_change 102 = .ok (.if_icmp .ge 7, 3) := by decide +kernel
theorem dX7_change_105 : decode cX7_change 105 = .ok (.iconst 1, 1) := by decide +kernel
theorem dX7_change_106 : decode cX7_change 106 = .ok (.goto 4, 3) := by decide +kernel
theorem dX7_change_109 : decode cX7_change 109 = .ok (.iconst 0, 1) := by decide +kernel
theorem dX7_change_110 : decode cX7_change 110 = .ok (.istore 8, 2) := by decide +kernel
theorem dX7_change_112 : decode cX7_change 112 = .ok (.iload 8, 2) := by decide +kernel
theorem dX7_change_114 : decode cX7_change 114 = .ok (.ifCond .eq 14, 3) := by decide +kernel
theorem dX7_change_117 : decode cX7_change 117 = .ok (.bipush 100, 2) := by decide +kernel
theorem dX7_change_119 : decode cX7_change 119 = .ok (.iload 4, 2) := by decide +kernel
theorem dX7_change_121 : decode cX7_change 121 = .ok (.imul, 1) := by decide +kernel
theorem dX7_change_122 : decode cX7_change 122 = .ok (.iload 5, 2) := by decide +kernel
theorem dX7_change_124 : decode cX7_change 124 = .ok (.iadd, 1) := by decide +kernel
theorem dX7_change_125 : decode cX7_change 125 = .ok (.goto 4, 3) := by decide +kernel
theorem dX7_change_128 : decode cX7_change 128 = .ok (.iload_n 2, 1) := by decide +kernel
theorem dX7_change_129 : decode cX7_change 129 = .ok (.istore_n 2, 1) := by decide +kernel
theorem dX7_change_130 : decode cX7_change 130 = .ok (.iload 8, 2) := by decide +kernel
theorem dX7_change_132 : decode cX7_change 132 = .ok (.ifCond .eq 8, 3) := by decide +kernel
theorem dX7_change_135 : decode cX7_change 135 = .ok (.iload 7, 2) := by decide +kernel
theorem dX7_change_137 : decode cX7_change 137 = .ok (.goto 4, 3) := by decide +kernel
theorem dX7_change_140 : decode cX7_change 140 = .ok (.iload_n 3, 1) := by decide +kernel
theorem dX7_change_141 : decode cX7_change 141 = .ok (.istore_n 3, 1) := by decide +kernel
theorem dX7_change_142 : decode cX7_change 142 = .ok (.iinc 5 1, 3) := by decide +kernel
theorem dX7_change_145 : decode cX7_change 145 = .ok (.goto (-103), 3) := by decide +kernel
theorem dX7_change_148 : decode cX7_change 148 = .ok (.iinc 4 1, 3) := by decide +kernel
theorem dX7_change_151 : decode cX7_change 151 = .ok (.goto (-126), 3) := by decide +kernel
theorem dX7_change_154 : decode cX7_change 154 = .ok (.iload_n 2, 1) := by decide +kernel
theorem dX7_change_155 : decode cX7_change 155 = .ok (.ireturn, 1) := by decide +kernel
theorem dX7_sweet_0 : decode cX7_sweet 0 = .ok (.iload_n 1, 1) := by decide +kernel
theorem dX7_sweet_1 : decode cX7_sweet 1 = .ok (.iconst 1, 1) := by decide +kernel
theorem dX7_sweet_2 : decode cX7_sweet 2 = .ok (.bipush 60, 2) := by decide +kernel
theorem dX7_sweet_4 : decode cX7_sweet 4 = .ok (.invokestatic 76, 3) := by decide +kernel
theorem dX7_sweet_7 : decode cX7_sweet 7 = .ok (.ifCond .ne 6, 3) := by decide +kernel
theorem dX7_sweet_10 : decode cX7_sweet 10 = .ok (.ldc 92, 2) := by decide +kernel
theorem dX7_sweet_12 : decode cX7_sweet 12 = .ok (.ireturn, 1) := by decide +kernel
theorem dX7_sweet_13 : decode cX7_sweet 13 = .ok (.aload_n 0, 1) := by decide +kernel
theorem dX7_sweet_14 : decode cX7_sweet 14 = .ok (.invokevirtual 168, 3) := by decide +kernel
theorem dX7_sweet_17 : decode cX7_sweet 17 = .ok (.ldc 75, 2) := by decide +kernel
theorem dX7_sweet_19 : decode cX7_sweet 19 = .ok (.istore_n 2, 1) := by decide +kernel
theorem dX7_sweet_20 : decode cX7_sweet 20 = .ok (.iconst 0, 1) := by decide +kernel
theorem dX7_sweet_21 : decode cX7_sweet 21 = .ok (.istore_n 3, 1) := by decide +kernel
theorem dX7_sweet_22 : decode cX7_sweet 22 = .ok (.iconst 0, 1) := by decide +kernel
theorem dX7_sweet_23 : decode cX7_sweet 23 = .ok (.istore 4, 2) := by decide +kernel
theorem dX7_sweet_25 : decode cX7_sweet 25 = .ok (.iload 4, 2) := by decide +kernel
theorem dX7_sweet_27 : decode cX7_sweet 27 = .ok (.aload_n 0, 1) := by decide +kernel
theorem dX7_sweet_28 : decode cX7_sweet 28 = .ok (.getfield 9, 3) := by decide +kernel
theorem dX7_sweet_31 : decode cX7_sweet 31 = .ok (.iconst 1, 1) := by decide +kernel
theorem dX7_sweet_32 : decode cX7_sweet 32 = .ok (.iaload, 1) := by decide +kernel
theorem dX7_sweet_33 : decode cX7_sweet 33 = .ok (.if_icmp .ge 69, 3) := by decide +kernel
theorem dX7_sweet_36 : decode cX7_sweet 36 = .ok (.aload_n 0, 1) := by decide +kernel
theorem dX7_sweet_37 : decode cX7_sweet 37 = .ok (.iload 4, 2) := by decide +kernel
theorem dX7_sweet_39 : decode cX7_sweet 39 = .ok (.iconst 4, 1) := by decide +kernel
theorem dX7_sweet_40 : decode cX7_sweet 40 = .ok (.bipush 40, 2) := by decide +kernel
theorem dX7_sweet_42 : decode cX7_sweet 42 = .ok (.invokevirtual 84, 3) := by decide +kernel
theorem dX7_sweet_45 : decode cX7_sweet 45 = .ok (.aload_n 0, 1) := by decide +kernel
theorem dX7_sweet_46 : decode cX7_sweet 46 = .ok (.iload_n 1, 1) := by decide +kernel
theorem dX7_sweet_47 : decode cX7_sweet 47 = .ok (.iconst 1, 1) := by decide +kernel
theorem dX7_sweet_48 : decode cX7_sweet 48 = .ok (.invokevirtual 171, 3) := by decide +kernel
theorem dX7_sweet_51 : decode cX7_sweet 51 = .ok (.istore 5, 2) := by decide +kernel
theorem dX7_sweet_53 : decode cX7_sweet 53 = .ok (.iload_n 2, 1) := by decide +kernel
theorem dX7_sweet_54 : decode cX7_sweet 54 = .ok (.ldc 75, 2) := by decide +kernel
theorem dX7_sweet_56 : decode cX7_sweet 56 = .ok (.if_icmp .eq 9, 3) := by decide +kernel
theorem dX7_sweet_59 : decode cX7_sweet 59 = .ok (.iload 5, 2) := by decide +kernel
theorem dX7_sweet_61 : decode cX7_sweet 61 = .ok (.iload_n 3, 1) := by decide +kernel
theorem dX7_sweet_62 : decode cX7_sweet 62 = .ok (.if_icmp .ge 7, 3) := by decide +kernel
theorem dX7_sweet_65 : decode cX7_sweet 65 = .ok (.iconst 1, 1) := by decide +kernel
theorem dX7_sweet_66 : decode cX7_sweet 66 = .ok (.goto 4, 3) := by decide +kernel
theorem dX7_sweet_69 : decode cX7_sweet 69 = .ok (.iconst 0, 1) := by decide +kernel
theorem dX7_sweet_70 : decode cX7_sweet 70 = .ok (.istore 6, 2) := by decide +kernel
theorem dX7_sweet_72 : decode cX7_sweet 72 = .ok (.iload 6, 2) := by decide +kernel
theorem dX7_sweet_74 : decode cX7_sweet 74 = .ok (.ifCond .eq 8, 3) := by decide +kernel
theorem dX7_sweet_77 : decode cX7_sweet 77 = .ok (.iload 4, 2) := by decide +kernel
theorem dX7_sweet_79 : decode cX7_sweet 79 = .ok (.goto 4, 3) := by decide +kernel
theorem dX7_sweet_82 : decode cX7_sweet 82 = .ok (.iload_n 2, 1) := by decide +kernel
theorem dX7_sweet_83 : decode cX7_sweet 83 = .ok (.istore_n 2, 1) := by decide +kernel
theorem dX7_sweet_84 : decode cX7_sweet 84 = .ok (.iload 6, 2) := by decide +kernel
theorem dX7_sweet_86 : decode cX7_sweet 86 = .ok (.ifCond .eq 8, 3) := by decide +kernel
theorem dX7_sweet_89 : decode cX7_sweet 89 = .ok (.iload 5, 2) := by decide +kernel
theorem dX7_sweet_91 : decode cX7_sweet 91 = .ok (.goto 4, 3) := by decide +kernel
theorem dX7_sweet_94 : decode cX7_sweet 94 = .ok (.iload_n 3, 1) := by decide +kernel
theorem dX7_sweet_95 : decode cX7_sweet 95 = .ok (.istore_n 3, 1) := by decide +kernel
theorem dX7_sweet_96 : decode cX7_sweet 96 = .ok (.iinc 4 1, 3) := by decide +kernel
theorem dX7_sweet_99 : decode cX7_sweet 99 = .ok (.goto (-74), 3) := by decide +kernel
theorem dX7_sweet_102 : decode cX7_sweet 102 = .ok (.iload_n 2, 1) := by decide +kernel
theorem dX7_sweet_103 : decode cX7_sweet 103 = .ok (.ireturn, 1) := by decide +kernel
theorem dX7_setOff_0 : decode cX7_setOff 0 = .ok (.aload_n 0, 1) := by decide +kernel
theorem dX7_setOff_1 : decode cX7_setOff 1 = .ok (.iload_n 1, 1) := by decide +kernel
theorem dX7_setOff_2 : decode cX7_setOff 2 = .ok (.invokevirtual 118, 3) := by decide +kernel
theorem dX7_setOff_5 : decode cX7_setOff 5 = .ok (.ifCond .eq 27, 3) := by decide +kernel
theorem dX7_setOff_8 : decode cX7_setOff 8 = .ok (.aload_n 0, 1) := by decide +kernel
theorem dX7_setOff_9 : decode cX7_setOff 9 = .ok (.iload_n 2, 1) := by decide +kernel
theorem dX7_setOff_10 : decode cX7_setOff 10 = .ok (.invokevirtual 118, 3) := by decide +kernel
theorem dX7_setOff_13 : decode cX7_setOff 13 = .ok (.ifCond .eq 19, 3) := by decide +kernel
theorem dX7_setOff_16 : decode cX7_setOff 16 = .ok (.iload_n 1, 1) := by decide +kernel
theorem dX7_setOff_17 : decode cX7_setOff 17 = .ok (.iload_n 2, 1) := by decide +kernel
theorem dX7_setOff_18 : decode cX7_setOff 18 = .ok (.if_icmp .eq 14, 3) := by decide +kernel
theorem dX7_setOff_21 : decode cX7_setOff 21 = .ok (.iload_n 3, 1) := by decide +kernel
theorem dX7_setOff_22 : decode cX7_setOff 22 = .ok (.iconst 1, 1) := by decide +kernel
theorem dX7_setOff_23 : decode cX7_setOff 23 = .ok (.sipush 200, 3) := by decide +kernel
theorem dX7_setOff_26 : decode cX7_setOff 26 = .ok (.invokestatic 76, 3) := by decide +kernel
theorem dX7_setOff_29 : decode cX7_setOff 29 = .ok (.ifCond .ne 6, 3) := by decide +kernel
theorem dX7_setOff_32 : decode cX7_setOff 32 = .ok (.ldc 92, 2) := by decide +kernel
theorem dX7_setOff_34 : decode cX7_setOff 34 = .ok (.ireturn, 1) := by decide +kernel
theorem dX7_setOff_35 : decode cX7_setOff 35 = .ok (.aload_n 0, 1) := by decide +kernel
theorem dX7_setOff_36 : decode cX7_setOff 36 = .ok (.invokevirtual 168, 3) := by decide +kernel
theorem dX7_setOff_39 : decode cX7_setOff 39 = .ok (.iconst 0, 1) := by decide +kernel
theorem dX7_setOff_40 : decode cX7_setOff 40 = .ok (.istore 4, 2) := by decide +kernel
theorem dX7_setOff_42 : decode cX7_setOff 42 = .ok (.iconst 0, 1) := by decide +kernel
theorem dX7_setOff_43 : decode cX7_setOff 43 = .ok (.istore 5, 2) := by decide +kernel
theorem dX7_setOff_45 : decode cX7_setOff 45 = .ok (.iload 5, 2) := by decide +kernel
theorem dX7_setOff_47 : decode cX7_setOff 47 = .ok (.iload_n 3, 1) := by decide +kernel
theorem dX7_setOff_48 : decode cX7_setOff 48 = .ok (.if_icmp .ge 43, 3) := by decide +kernel
theorem dX7_setOff_51 : decode cX7_setOff 51 = .ok (.aload_n 0, 1) := by decide +kernel
theorem dX7_setOff_52 : decode cX7_setOff 52 = .ok (.getfield 9, 3) := by decide +kernel
theorem dX7_setOff_55 : decode cX7_setOff 55 = .ok (.iconst 5, 1) := by decide +kernel
theorem dX7_setOff_56 : decode cX7_setOff 56 = .ok (.iaload, 1) := by decide +kernel
theorem dX7_setOff_57 : decode cX7_setOff 57 = .ok (.iload_n 2, 1) := by decide +kernel
theorem dX7_setOff_58 : decode cX7_setOff 58 = .ok (.ishr, 1) := by decide +kernel
theorem dX7_setOff_59 : decode cX7_setOff 59 = .ok (.iconst 1, 1) := by decide +kernel
theorem dX7_setOff_60 : decode cX7_setOff 60 = .ok (.iand, 1) := by decide +kernel
theorem dX7_setOff_61 : decode cX7_setOff 61 = .ok (.istore 6, 2) := by decide +kernel
theorem dX7_setOff_63 : decode cX7_setOff 63 = .ok (.aload_n 0, 1) := by decide +kernel
theorem dX7_setOff_64 : decode cX7_setOff 64 = .ok (.invokevirtual 152, 3) := by decide +kernel
theorem dX7_setOff_67 : decode cX7_setOff 67 = .ok (.istore 7, 2) := by decide +kernel
theorem dX7_setOff_69 : decode cX7_setOff 69 = .ok (.iload 4, 2) := by decide +kernel
theorem dX7_setOff_71 : decode cX7_setOff 71 = .ok (.aload_n 0, 1) := by decide +kernel
theorem dX7_setOff_72 : decode cX7_setOff 72 = .ok (.getfield 9, 3) := by decide +kernel
theorem dX7_setOff_75 : decode cX7_setOff 75 = .ok (.iconst 5, 1) := by decide +kernel
theorem dX7_setOff_76 : decode cX7_setOff 76 = .ok (.iaload, 1) := by decide +kernel
theorem dX7_setOff_77 : decode cX7_setOff 77 = .ok (.iload_n 1, 1) := by decide +kernel
theorem dX7_setOff_78 : decode cX7_setOff 78 = .ok (.ishr, 1) := by decide +kernel
theorem dX7_setOff_79 : decode cX7_setOff 79 = .ok (.iload 6, 2) := by decide +kernel
theorem dX7_setOff_81 : decode cX7_setOff 81 = .ok (.iand, 1) := by decide +kernel
theorem dX7_setOff_82 : decode cX7_setOff 82 = .ok (.iadd, 1) := by decide +kernel
theorem dX7_setOff_83 : decode cX7_setOff 83 = .ok (.istore 4, 2) := by decide +kernel
theorem dX7_setOff_85 : decode cX7_setOff 85 = .ok (.iinc 5 1, 3) := by decide +kernel
theorem dX7_setOff_88 : decode cX7_setOff 88 = .ok (.goto (-43), 3) := by decide +kernel
theorem dX7_setOff_91 : decode cX7_setOff 91 = .ok (.aload_n 0, 1) := by decide +kernel
theorem dX7_setOff_92 : decode cX7_setOff 92 = .ok (.invokevirtual 165, 3) := by decide +kernel
theorem dX7_setOff_95 : decode cX7_setOff 95 = .ok (.iload 4, 2) := by decide +kernel
theorem dX7_setOff_97 : decode cX7_setOff 97 = .ok (.ireturn, 1) := by decide +kernel
theorem dX7_loudest_0 : decode cX7_loudest 0 = .ok (.ldc 75, 2) := by decide +kernel
theorem dX7_loudest_2 : decode cX7_loudest 2 = .ok (.istore_n 1, 1) := by decide +kernel
theorem dX7_loudest_3 : decode cX7_loudest 3 = .ok (.iconst 0, 1) := by decide +kernel
theorem dX7_loudest_4 : decode cX7_loudest 4 = .ok (.istore_n 2, 1) := by decide +kernel
theorem dX7_loudest_5 : decode cX7_loudest 5 = .ok (.iload_n 2, 1) := by decide +kernel
theorem dX7_loudest_6 : decode cX7_loudest 6 = .ok (.aload_n 0, 1) := by decide +kernel
theorem dX7_loudest_7 : decode cX7_loudest 7 = .ok (.getfield 9, 3) := by decide +kernel
theorem dX7_loudest_10 : decode cX7_loudest 10 = .ok (.iconst 1, 1) := by decide +kernel
theorem dX7_loudest_11 : decode cX7_loudest 11 = .ok (.iaload, 1) := by decide +kernel
theorem dX7_loudest_12 : decode cX7_loudest 12 = .ok (.if_icmp .ge 36, 3) := by decide +kernel
theorem dX7_loudest_15 : decode cX7_loudest 15 = .ok (.iload_n 1, 1) := by decide +kernel
theorem dX7_loudest_16 : decode cX7_loudest 16 = .ok (.ldc 75, 2) := by decide +kernel
theorem dX7_loudest_18 : decode cX7_loudest 18 = .ok (.if_icmp .eq 18, 3) := by decide +kernel
theorem dX7_loudest_21 : decode cX7_loudest 21 = .ok (.aload_n 0, 1) := by decide +kernel
theorem dX7_loudest_22 : decode cX7_loudest 22 = .ok (.iload_n 2, 1) := by decide +kernel
theorem dX7_loudest_23 : decode cX7_loudest 23 = .ok (.iconst 5, 1) := by decide +kernel
theorem dX7_loudest_24 : decode cX7_loudest 24 = .ok (.invokevirtual 80, 3) := by decide +kernel
theorem dX7_loudest_27 : decode cX7_loudest 27 = .ok (.aload_n 0, 1) := by decide +kernel
theorem dX7_loudest_28 : decode cX7_loudest 28 = .ok (.iload_n 1, 1) := by decide +kernel
theorem dX7_loudest_29 : decode cX7_loudest 29 = .ok (.iconst 5, 1) := by decide +kernel
theorem dX7_loudest_30 : decode cX7_loudest 30 = .ok (.invokevirtual 80, 3) := by decide +kernel
theorem dX7_loudest_33 : decode cX7_loudest 33 = .ok (.if_icmp .le 7, 3) := by decide +kernel
theorem dX7_loudest_36 : decode cX7_loudest 36 = .ok (.iload_n 2, 1) := by decide +kernel
theorem dX7_loudest_37 : decode cX7_loudest 37 = .ok (.goto 4, 3) := by decide +kernel
theorem dX7_loudest_40 : decode cX7_loudest 40 = .ok (.iload_n 1, 1) := by decide +kernel
theorem dX7_loudest_41 : decode cX7_loudest 41 = .ok (.istore_n 1, 1) := by decide +kernel
theorem dX7_loudest_42 : decode cX7_loudest 42 = .ok (.iinc 2 1, 3) := by decide +kernel
theorem dX7_loudest_45 : decode cX7_loudest 45 = .ok (.goto (-40), 3) := by decide +kernel
theorem dX7_loudest_48 : decode cX7_loudest 48 = .ok (.iload_n 1, 1) := by decide +kernel
theorem dX7_loudest_49 : decode cX7_loudest 49 = .ok (.ireturn, 1) := by decide +kernel
theorem dX7_otherwise_0 : decode cX7_otherwise 0 = .ok (.aload_n 0, 1) := by decide +kernel
theorem dX7_otherwise_1 : decode cX7_otherwise 1 = .ok (.iload_n 2, 1) := by decide +kernel
theorem dX7_otherwise_2 : decode cX7_otherwise 2 = .ok (.iconst 0, 1) := by decide +kernel
theorem dX7_otherwise_3 : decode cX7_otherwise 3 = .ok (.iload_n 3, 1) := by decide +kernel
theorem dX7_otherwise_4 : decode cX7_otherwise 4 = .ok (.invokevirtual 84, 3) := by decide +kernel
theorem dX7_otherwise_7 : decode cX7_otherwise 7 = .ok (.iconst 0, 1) := by decide +kernel
theorem dX7_otherwise_8 : decode cX7_otherwise 8 = .ok (.istore 4, 2) := by decide +kernel
theorem dX7_otherwise_10 : decode cX7_otherwise 10 = .ok (.iconst 0, 1) := by decide +kernel
theorem dX7_otherwise_11 : decode cX7_otherwise 11 = .ok (.istore 5, 2) := by decide +kernel
theorem dX7_otherwise_13 : decode cX7_otherwise 13 = .ok (.iload 5, 2) := by decide +kernel
theorem dX7_otherwise_15 : decode cX7_otherwise 15 = .ok (.aload_n 0, 1) := by decide +kernel
theorem dX7_otherwise_16 : decode cX7_otherwise 16 = .ok (.getfield 51, 3) := by decide +kernel
theorem dX7_otherwise_19 : decode cX7_otherwise 19 = .ok (.iload_n 1, 1) := by decide +kernel
theorem dX7_otherwise_20 : decode cX7_otherwise 20 = .ok (.iaload, 1) := by decide +kernel
theorem dX7_otherwise_21 : decode cX7_otherwise 21 = .ok (.if_icmp .ge 78, 3) := by decide +kernel
theorem dX7_otherwise_24 : decode cX7_otherwise 24 = .ok (.aload_n 0, 1) := by decide +kernel
theorem dX7_otherwise_25 : decode cX7_otherwise 25 = .ok (.invokevirtual 152, 3) := by decide +kernel
theorem dX7_otherwise_28 : decode cX7_otherwise 28 = .ok (.istore 6, 2) := by decide +kernel
theorem dX7_otherwise_30 : decode cX7_otherwise 30 = .ok (.aload_n 0, 1) := by decide +kernel
theorem dX7_otherwise_31 : decode cX7_otherwise 31 = .ok (.getfield 54, 3) := by decide +kernel
theorem dX7_otherwise_34 : decode cX7_otherwise 34 = .ok (.bipush 24, 2) := by decide +kernel
theorem dX7_otherwise_36 : decode cX7_otherwise 36 = .ok (.iload_n 1, 1) := by decide +kernel
theorem dX7_otherwise_37 : decode cX7_otherwise 37 = .ok (.imul, 1) := by decide +kernel
theorem dX7_otherwise_38 : decode cX7_otherwise 38 = .ok (.iload 5, 2) := by decide +kernel
theorem dX7_otherwise_40 : decode cX7_otherwise 40 = .ok (.iadd, 1) := by decide +kernel
theorem dX7_otherwise_41 : decode cX7_otherwise 41 = .ok (.iaload, 1) := by decide +kernel
theorem dX7_otherwise_42 : decode cX7_otherwise 42 = .ok (.istore 7, 2) := by decide +kernel
theorem dX7_otherwise_44 : decode cX7_otherwise 44 = .ok (.iload 4, 2) := by decide +kernel
theorem dX7_otherwise_46 : decode cX7_otherwise 46 = .ok (.iload 7, 2) := by decide +kernel
theorem dX7_otherwise_48 : decode cX7_otherwise 48 = .ok (.ldc 75, 2) := by decide +kernel
theorem dX7_otherwise_50 : decode cX7_otherwise 50 = .ok (.if_icmp .eq 39, 3) := by decide +kernel
theorem dX7_otherwise_53 : decode cX7_otherwise 53 = .ok (.iload 7, 2) := by decide +kernel
theorem dX7_otherwise_55 : decode cX7_otherwise 55 = .ok (.ifCond .eq 7, 3) := by decide +kernel
theorem dX7_otherwise_58 : decode cX7_otherwise 58 = .ok (.iconst 1, 1) := by decide +kernel
theorem dX7_otherwise_59 : decode cX7_otherwise 59 = .ok (.goto 4, 3) := by decide +kernel
theorem dX7_otherwise_62 : decode cX7_otherwise 62 = .ok (.iconst 0, 1) := by decide +kernel
theorem dX7_otherwise_63 : decode cX7_otherwise 63 = .ok (.aload_n 0, 1) := by decide +kernel
theorem dX7_otherwise_64 : decode cX7_otherwise 64 = .ok (.getfield 9, 3) := by decide +kernel
theorem dX7_otherwise_67 : decode cX7_otherwise 67 = .ok (.iconst 5, 1) := by decide +kernel
theorem dX7_otherwise_68 : decode cX7_otherwise 68 = .ok (.iaload, 1) := by decide +kernel
theorem dX7_otherwise_69 : decode cX7_otherwise 69 = .ok (.iload_n 2, 1) := by decide +kernel
theorem dX7_otherwise_70 : decode cX7_otherwise 70 = .ok (.ishr, 1) := by decide +kernel
theorem dX7_otherwise_71 : decode cX7_otherwise 71 = .ok (.iconst 1, 1) := by decide +kernel
theorem dX7_otherwise_72 : decode cX7_otherwise 72 = .ok (.iand, 1) := by decide +kernel
theorem dX7_otherwise_73 : decode cX7_otherwise 73 = .ok (.iconst 1, 1) := by decide +kernel
theorem dX7_otherwise_74 : decode cX7_otherwise 74 = .ok (.if_icmp .ne 7, 3) := by decide +kernel
theorem dX7_otherwise_77 : decode cX7_otherwise 77 = .ok (.iconst 1, 1) := by decide +kernel
theorem dX7_otherwise_78 : decode cX7_otherwise 78 = .ok (.goto 4, 3) := by decide +kernel
theorem dX7_otherwise_81 : decode cX7_otherwise 81 = .ok (.iconst 0, 1) := by decide +kernel
theorem dX7_otherwise_82 : decode cX7_otherwise 82 = .ok (.if_icmp .eq 7, 3) := by decide +kernel
theorem dX7_otherwise_85 : decode cX7_otherwise 85 = .ok (.iconst 1, 1) := by decide +kernel
theorem dX7_otherwise_86 : decode cX7_otherwise 86 = .ok (.goto 4, 3) := by decide +kernel
theorem dX7_otherwise_89 : decode cX7_otherwise 89 = .ok (.iconst 0, 1) := by decide +kernel
theorem dX7_otherwise_90 : decode cX7_otherwise 90 = .ok (.iadd, 1) := by decide +kernel
theorem dX7_otherwise_91 : decode cX7_otherwise 91 = .ok (.istore 4, 2) := by decide +kernel
theorem dX7_otherwise_93 : decode cX7_otherwise 93 = .ok (.iinc 5 1, 3) := by decide +kernel
theorem dX7_otherwise_96 : decode cX7_otherwise 96 = .ok (.goto (-83), 3) := by decide +kernel
theorem dX7_otherwise_99 : decode cX7_otherwise 99 = .ok (.aload_n 0, 1) := by decide +kernel
theorem dX7_otherwise_100 : decode cX7_otherwise 100 = .ok (.invokevirtual 165, 3) := by decide +kernel
theorem dX7_otherwise_103 : decode cX7_otherwise 103 = .ok (.iload 4, 2) := by decide +kernel
theorem dX7_otherwise_105 : decode cX7_otherwise 105 = .ok (.ireturn, 1) := by decide +kernel
theorem dX7_toldBy_0 : decode cX7_toldBy 0 = .ok (.iload_n 1, 1) := by decide +kernel
theorem dX7_toldBy_1 : decode cX7_toldBy 1 = .ok (.invokestatic 174, 3) := by decide +kernel
theorem dX7_toldBy_4 : decode cX7_toldBy 4 = .ok (.ifCond .eq 20, 3) := by decide +kernel
theorem dX7_toldBy_7 : decode cX7_toldBy 7 = .ok (.aload_n 0, 1) := by decide +kernel
theorem dX7_toldBy_8 : decode cX7_toldBy 8 = .ok (.iload_n 2, 1) := by decide +kernel
theorem dX7_toldBy_9 : decode cX7_toldBy 9 = .ok (.invokevirtual 118, 3) := by decide +kernel
theorem dX7_toldBy_12 : decode cX7_toldBy 12 = .ok (.ifCond .eq 12, 3) := by decide +kernel
theorem dX7_toldBy_15 : decode cX7_toldBy 15 = .ok (.iload_n 3, 1) := by decide +kernel
theorem dX7_toldBy_16 : decode cX7_toldBy 16 = .ok (.iconst 0, 1) := by decide +kernel
theorem dX7_toldBy_17 : decode cX7_toldBy 17 = .ok (.iconst 1, 1) := by decide +kernel
theorem dX7_toldBy_18 : decode cX7_toldBy 18 = .ok (.invokestatic 76, 3) := by decide +kernel
theorem dX7_toldBy_21 : decode cX7_toldBy 21 = .ok (.ifCond .ne 6, 3) := by decide +kernel
theorem dX7_toldBy_24 : decode cX7_toldBy 24 = .ok (.ldc 92, 2) := by decide +kernel
theorem dX7_toldBy_26 : decode cX7_toldBy 26 = .ok (.ireturn, 1) := by decide +kernel
theorem dX7_toldBy_27 : decode cX7_toldBy 27 = .ok (.aload_n 0, 1) := by decide +kernel
theorem dX7_toldBy_28 : decode cX7_toldBy 28 = .ok (.getfield 48, 3) := by decide +kernel
theorem dX7_toldBy_31 : decode cX7_toldBy 31 = .ok (.iload_n 1, 1) := by decide +kernel
theorem dX7_toldBy_32 : decode cX7_toldBy 32 = .ok (.iaload, 1) := by decide +kernel
theorem dX7_toldBy_33 : decode cX7_toldBy 33 = .ok (.ifCond .ge 6, 3) := by decide +kernel
theorem dX7_toldBy_36 : decode cX7_toldBy 36 = .ok (.ldc 177, 2) := by decide +kernel
theorem dX7_toldBy_38 : decode cX7_toldBy 38 = .ok (.ireturn, 1) := by decide +kernel
theorem dX7_toldBy_39 : decode cX7_toldBy 39 = .ok (.aload_n 0, 1) := by decide +kernel
theorem dX7_toldBy_40 : decode cX7_toldBy 40 = .ok (.invokevirtual 168, 3) := by decide +kernel
theorem dX7_toldBy_43 : decode cX7_toldBy 43 = .ok (.iconst 0, 1) := by decide +kernel
theorem dX7_toldBy_44 : decode cX7_toldBy 44 = .ok (.istore 4, 2) := by decide +kernel
theorem dX7_toldBy_46 : decode cX7_toldBy 46 = .ok (.aload_n 0, 1) := by decide +kernel
theorem dX7_toldBy_47 : decode cX7_toldBy 47 = .ok (.iload_n 1, 1) := by decide +kernel
theorem dX7_toldBy_48 : decode cX7_toldBy 48 = .ok (.iload_n 2, 1) := by decide +kernel
theorem dX7_toldBy_49 : decode cX7_toldBy 49 = .ok (.iconst 0, 1) := by decide +kernel
theorem dX7_toldBy_50 : decode cX7_toldBy 50 = .ok (.invokevirtual 178, 3) := by decide +kernel
theorem dX7_toldBy_53 : decode cX7_toldBy 53 = .ok (.istore 5, 2) := by decide +kernel
theorem dX7_toldBy_55 : decode cX7_toldBy 55 = .ok (.iconst 1, 1) := by decide +kernel
theorem dX7_toldBy_56 : decode cX7_toldBy 56 = .ok (.istore 6, 2) := by decide +kernel
theorem dX7_toldBy_58 : decode cX7_toldBy 58 = .ok (.iload 6, 2) := by decide +kernel
theorem dX7_toldBy_60 : decode cX7_toldBy 60 = .ok (.bipush 6, 2) := by decide +kernel
theorem dX7_toldBy_62 : decode cX7_toldBy 62 = .ok (.if_icmp .ge 51, 3) := by decide +kernel
theorem dX7_toldBy_65 : decode cX7_toldBy 65 = .ok (.aload_n 0, 1) := by decide +kernel
theorem dX7_toldBy_66 : decode cX7_toldBy 66 = .ok (.iload_n 1, 1) := by decide +kernel
theorem dX7_toldBy_67 : decode cX7_toldBy 67 = .ok (.iload_n 2, 1) := by decide +kernel
theorem dX7_toldBy_68 : decode cX7_toldBy 68 = .ok (.iload 6, 2) := by decide +kernel
theorem dX7_toldBy_70 : decode cX7_toldBy 70 = .ok (.invokevirtual 178, 3) := by decide +kernel
theorem dX7_toldBy_73 : decode cX7_toldBy 73 = .ok (.istore 7, 2) := by decide +kernel
theorem dX7_toldBy_75 : decode cX7_toldBy 75 = .ok (.iload 7, 2) := by decide +kernel
theorem dX7_toldBy_77 : decode cX7_toldBy 77 = .ok (.iload 5, 2) := by decide +kernel
theorem dX7_toldBy_79 : decode cX7_toldBy 79 = .ok (.if_icmp .ge 8, 3) := by decide +kernel
theorem dX7_toldBy_82 : decode cX7_toldBy 82 = .ok (.iload 6, 2) := by decide +kernel
theorem dX7_toldBy_84 : decode cX7_toldBy 84 = .ok (.goto 5, 3) := by decide +kernel
theorem dX7_toldBy_87 : decode cX7_toldBy 87 = .ok (.iload 4, 2) := by decide +kernel
theorem dX7_toldBy_89 : decode cX7_toldBy 89 = .ok (.istore 4, 2) := by decide +kernel
theorem dX7_toldBy_91 : decode cX7_toldBy 91 = .ok (.iload 7, 2) := by decide +kernel
theorem dX7_toldBy_93 : decode cX7_toldBy 93 = .ok (.iload 5, 2) := by decide +kernel
theorem dX7_toldBy_95 : decode cX7_toldBy 95 = .ok (.if_icmp .ge 8, 3) := by decide +kernel
theorem dX7_toldBy_98 : decode cX7_toldBy 98 = .ok (.iload 7, 2) := by decide +kernel
theorem dX7_toldBy_100 : decode cX7_toldBy 100 = .ok (.goto 5, 3) := by decide +kernel
theorem dX7_toldBy_103 : decode cX7_toldBy 103 = .ok (.iload 5, 2) := by decide +kernel
theorem dX7_toldBy_105 : decode cX7_toldBy 105 = .ok (.istore 5, 2) := by decide +kernel
theorem dX7_toldBy_107 : decode cX7_toldBy 107 = .ok (.iinc 6 1, 3) := by decide +kernel
theorem dX7_toldBy_110 : decode cX7_toldBy 110 = .ok (.goto (-52), 3) := by decide +kernel
theorem dX7_toldBy_113 : decode cX7_toldBy 113 = .ok (.iload_n 3, 1) := by decide +kernel
theorem dX7_toldBy_114 : decode cX7_toldBy 114 = .ok (.ifCond .ne 8, 3) := by decide +kernel
theorem dX7_toldBy_117 : decode cX7_toldBy 117 = .ok (.iload 4, 2) := by decide +kernel
theorem dX7_toldBy_119 : decode cX7_toldBy 119 = .ok (.goto 5, 3) := by decide +kernel
theorem dX7_toldBy_122 : decode cX7_toldBy 122 = .ok (.iload 5, 2) := by decide +kernel
theorem dX7_toldBy_124 : decode cX7_toldBy 124 = .ok (.ireturn, 1) := by decide +kernel
theorem dX7_fine_0 : decode cX7_fine 0 = .ok (.aload_n 0, 1) := by decide +kernel
theorem dX7_fine_1 : decode cX7_fine 1 = .ok (.iload_n 1, 1) := by decide +kernel
theorem dX7_fine_2 : decode cX7_fine 2 = .ok (.invokevirtual 118, 3) := by decide +kernel
theorem dX7_fine_5 : decode cX7_fine 5 = .ok (.ifCond .ne 6, 3) := by decide +kernel
theorem dX7_fine_8 : decode cX7_fine 8 = .ok (.ldc 92, 2) := by decide +kernel
theorem dX7_fine_10 : decode cX7_fine 10 = .ok (.ireturn, 1) := by decide +kernel
theorem dX7_fine_11 : decode cX7_fine 11 = .ok (.aload_n 0, 1) := by decide +kernel
theorem dX7_fine_12 : decode cX7_fine 12 = .ok (.iconst 2, 1) := by decide +kernel
theorem dX7_fine_13 : decode cX7_fine 13 = .ok (.invokevirtual 103, 3) := by decide +kernel
theorem dX7_fine_16 : decode cX7_fine 16 = .ok (.istore_n 2, 1) := by decide +kernel
theorem dX7_fine_17 : decode cX7_fine 17 = .ok (.aload_n 0, 1) := by decide +kernel
theorem dX7_fine_18 : decode cX7_fine 18 = .ok (.getfield 45, 3) := by decide +kernel
theorem dX7_fine_21 : decode cX7_fine 21 = .ok (.iconst 0, 1) := by decide +kernel
theorem dX7_fine_22 : decode cX7_fine 22 = .ok (.aload_n 0, 1) := by decide +kernel
theorem dX7_fine_23 : decode cX7_fine 23 = .ok (.iload_n 1, 1) := by decide +kernel
theorem dX7_fine_24 : decode cX7_fine 24 = .ok (.iconst 5, 1) := by decide +kernel
theorem dX7_fine_25 : decode cX7_fine 25 = .ok (.invokevirtual 80, 3) := by decide +kernel
theorem dX7_fine_28 : decode cX7_fine 28 = .ok (.iastore, 1) := by decide +kernel
theorem dX7_fine_29 : decode cX7_fine 29 = .ok (.aload_n 0, 1) := by decide +kernel
theorem dX7_fine_30 : decode cX7_fine 30 = .ok (.getfield 45, 3) := by decide +kernel
theorem dX7_fine_33 : decode cX7_fine 33 = .ok (.iconst 1, 1) := by decide +kernel
theorem dX7_fine_34 : decode cX7_fine 34 = .ok (.aload_n 0, 1) := by decide +kernel
theorem dX7_fine_35 : decode cX7_fine 35 = .ok (.getfield 9, 3) := by decide +kernel
theorem dX7_fine_38 : decode cX7_fine 38 = .ok (.iconst 4, 1) := by decide +kernel
theorem dX7_fine_39 : decode cX7_fine 39 = .ok (.iaload, 1) := by decide +kernel
theorem dX7_fine_40 : decode cX7_fine 40 = .ok (.iastore, 1) := by decide +kernel
theorem dX7_fine_41 : decode cX7_fine 41 = .ok (.iload_n 2, 1) := by decide +kernel
theorem dX7_fine_42 : decode cX7_fine 42 = .ok (.ifCond .ge 12, 3) := by decide +kernel
theorem dX7_fine_45 : decode cX7_fine 45 = .ok (.aload_n 0, 1) := by decide +kernel
theorem dX7_fine_46 : decode cX7_fine 46 = .ok (.iload_n 1, 1) := by decide +kernel
theorem dX7_fine_47 : decode cX7_fine 47 = .ok (.iconst 5, 1) := by decide +kernel
theorem dX7_fine_48 : decode cX7_fine 48 = .ok (.invokevirtual 80, 3) := by decide +kernel
theorem dX7_fine_51 : decode cX7_fine 51 = .ok (.goto 8, 3) := by decide +kernel
theorem dX7_fine_54 : decode cX7_fine 54 = .ok (.aload_n 0, 1) := by decide +kernel
theorem dX7_fine_55 : decode cX7_fine 55 = .ok (.iload_n 2, 1) := by decide +kernel
theorem dX7_fine_56 : decode cX7_fine 56 = .ok (.invokevirtual 106, 3) := by decide +kernel
theorem dX7_fine_59 : decode cX7_fine 59 = .ok (.ireturn, 1) := by decide +kernel
theorem dX7_feed_0 : decode cX7_feed 0 = .ok (.aload_n 0, 1) := by decide +kernel
theorem dX7_feed_1 : decode cX7_feed 1 = .ok (.getfield 181, 3) := by decide +kernel
theorem dX7_feed_4 : decode cX7_feed 4 = .ok (.bipush 12, 2) := by decide +kernel
theorem dX7_feed_6 : decode cX7_feed 6 = .ok (.iadd, 1) := by decide +kernel
theorem dX7_feed_7 : decode cX7_feed 7 = .ok (.bipush 96, 2) := by decide +kernel
theorem dX7_feed_9 : decode cX7_feed 9 = .ok (.if_icmp .le 6, 3) := by decide +kernel
theorem dX7_feed_12 : decode cX7_feed 12 = .ok (.ldc 98, 2) := by decide +kernel
theorem dX7_feed_14 : decode cX7_feed 14 = .ok (.ireturn, 1) := by decide +kernel
theorem dX7_feed_15 : decode cX7_feed 15 = .ok (.iconst 0, 1) := by decide +kernel
theorem dX7_feed_16 : decode cX7_feed 16 = .ok (.istore 4, 2) := by decide +kernel
theorem dX7_feed_18 : decode cX7_feed 18 = .ok (.iload 4, 2) := by decide +kernel
theorem dX7_feed_20 : decode cX7_feed 20 = .ok (.bipush 12, 2) := by decide +kernel
theorem dX7_feed_22 : decode cX7_feed 22 = .ok (.if_icmp .ge 62, 3) := by decide +kernel
theorem dX7_feed_25 : decode cX7_feed 25 = .ok (.iload 4, 2) := by decide +kernel
theorem dX7_feed_27 : decode cX7_feed 27 = .ok (.iconst 4, 1) := by decide +kernel
theorem dX7_feed_28 : decode cX7_feed 28 = .ok (.if_icmp .ge 7, 3) := by decide +kernel
theorem dX7_feed_31 : decode cX7_feed 31 = .ok (.iload_n 1, 1) := by decide +kernel
theorem dX7_feed_32 : decode cX7_feed 32 = .ok (.goto 15, 3) := by decide +kernel
theorem dX7_feed_35 : decode cX7_feed 35 = .ok (.iload 4, 2) := by decide +kernel
theorem dX7_feed_37 : decode cX7_feed 37 = .ok (.bipush 8, 2) := by decide +kernel
theorem dX7_feed_39 : decode cX7_feed 39 = .ok (.if_icmp .ge 7, 3) := by decide +kernel
theorem dX7_feed_42 : decode cX7_feed 42 = .ok (.iload_n 2, 1) := by decide +kernel
theorem dX7_feed_43 : decode cX7_feed 43 = .ok (.goto 4, 3) := by decide +kernel
theorem dX7_feed_46 : decode cX7_feed 46 = .ok (.iload_n 3, 1) := by decide +kernel
theorem dX7_feed_47 : decode cX7_feed 47 = .ok (.istore 5, 2) := by decide +kernel
theorem dX7_feed_49 : decode cX7_feed 49 = .ok (.aload_n 0, 1) := by decide +kernel
theorem dX7_feed_50 : decode cX7_feed 50 = .ok (.getfield 22, 3) := by decide +kernel
theorem dX7_feed_53 : decode cX7_feed 53 = .ok (.aload_n 0, 1) := by decide +kernel
theorem dX7_feed_54 : decode cX7_feed 54 = .ok (.getfield 181, 3) := by decide +kernel
theorem dX7_feed_57 : decode cX7_feed 57 = .ok (.iload 4, 2) := by decide +kernel
theorem dX7_feed_59 : decode cX7_feed 59 = .ok (.iadd, 1) := by decide +kernel
theorem dX7_feed_60 : decode cX7_feed 60 = .ok (.iload 5, 2) := by decide +kernel
theorem dX7_feed_62 : decode cX7_feed 62 = .ok (.bipush 24, 2) := by decide +kernel
theorem dX7_feed_64 : decode cX7_feed 64 = .ok (.bipush 8, 2) := by decide +kernel
theorem dX7_feed_66 : decode cX7_feed 66 = .ok (.iload 4, 2) := by decide +kernel
theorem dX7_feed_68 : decode cX7_feed 68 = .ok (.iconst 4, 1) := by decide +kernel
theorem dX7_feed_69 : decode cX7_feed 69 = .ok (.irem, 1) := by decide +kernel
theorem dX7_feed_70 : decode cX7_feed 70 = .ok (.imul, 1) := by decide +kernel
theorem dX7_feed_71 : decode cX7_feed 71 = .ok (.isub, 1) := by decide +kernel
theorem dX7_feed_72 : decode cX7_feed 72 = .ok (.ishr, 1) := by decide +kernel
theorem dX7_feed_73 : decode cX7_feed 73 = .ok (.sipush 255, 3) := by decide +kernel
theorem dX7_feed_76 : decode cX7_feed 76 = .ok (.iand, 1) := by decide +kernel
theorem dX7_feed_77 : decode cX7_feed 77 = .ok (.iastore, 1) := by decide +kernel
theorem dX7_feed_78 : decode cX7_feed 78 = .ok (.iinc 4 1, 3) := by decide +kernel
theorem dX7_feed_81 : decode cX7_feed 81 = .ok (.goto (-63), 3) := by decide +kernel
theorem dX7_feed_84 : decode cX7_feed 84 = .ok (.aload_n 0, 1) := by decide +kernel
theorem dX7_feed_85 : decode cX7_feed 85 = .ok (.dup, 1) := by decide +kernel
theorem dX7_feed_86 : decode cX7_feed 86 = .ok (.getfield 181, 3) := by decide +kernel
theorem dX7_feed_89 : decode cX7_feed 89 = .ok (.bipush 12, 2) := by decide +kernel
theorem dX7_feed_91 : decode cX7_feed 91 = .ok (.iadd, 1) := by decide +kernel
theorem dX7_feed_92 : decode cX7_feed 92 = .ok (.putfield 181, 3) := by decide +kernel
theorem dX7_feed_95 : decode cX7_feed 95 = .ok (.aload_n 0, 1) := by decide +kernel
theorem dX7_feed_96 : decode cX7_feed 96 = .ok (.getfield 181, 3) := by decide +kernel
theorem dX7_feed_99 : decode cX7_feed 99 = .ok (.ireturn, 1) := by decide +kernel
theorem dX7_trim_0 : decode cX7_trim 0 = .ok (.iload_n 1, 1) := by decide +kernel
theorem dX7_trim_1 : decode cX7_trim 1 = .ok (.iconst 0, 1) := by decide +kernel
theorem dX7_trim_2 : decode cX7_trim 2 = .ok (.aload_n 0, 1) := by decide +kernel
theorem dX7_trim_3 : decode cX7_trim 3 = .ok (.getfield 181, 3) := by decide +kernel
theorem dX7_trim_6 : decode cX7_trim 6 = .ok (.invokestatic 76, 3) := by decide +kernel
theorem dX7_trim_9 : decode cX7_trim 9 = .ok (.ifCond .ne 6, 3) := by decide +kernel
theorem dX7_trim_12 : decode cX7_trim 12 = .ok (.ldc 92, 2) := by decide +kernel
theorem dX7_trim_14 : decode cX7_trim 14 = .ok (.ireturn, 1) := by decide +kernel
theorem dX7_trim_15 : decode cX7_trim 15 = .ok (.aload_n 0, 1) := by decide +kernel
theorem dX7_trim_16 : decode cX7_trim 16 = .ok (.iload_n 1, 1) := by decide +kernel
theorem dX7_trim_17 : decode cX7_trim 17 = .ok (.putfield 181, 3) := by decide +kernel
theorem dX7_trim_20 : decode cX7_trim 20 = .ok (.iload_n 1, 1) := by decide +kernel
theorem dX7_trim_21 : decode cX7_trim 21 = .ok (.ireturn, 1) := by decide +kernel
theorem dX7_isLetter_0 : decode cX7_isLetter 0 = .ok (.iload_n 1, 1) := by decide +kernel
theorem dX7_isLetter_1 : decode cX7_isLetter 1 = .ok (.aload_n 0, 1) := by decide +kernel
theorem dX7_isLetter_2 : decode cX7_isLetter 2 = .ok (.getfield 181, 3) := by decide +kernel
theorem dX7_isLetter_5 : decode cX7_isLetter 5 = .ok (.if_icmp .ge 29, 3) := by decide +kernel
theorem dX7_isLetter_8 : decode cX7_isLetter 8 = .ok (.aload_n 0, 1) := by decide +kernel
theorem dX7_isLetter_9 : decode cX7_isLetter 9 = .ok (.getfield 22, 3) := by decide +kernel
theorem dX7_isLetter_12 : decode cX7_isLetter 12 = .ok (.iload_n 1, 1) := by decide +kernel
theorem dX7_isLetter_13 : decode cX7_isLetter 13 = .ok (.iaload, 1) := by decide +kernel
theorem dX7_isLetter_14 : decode cX7_isLetter 14 = .ok (.bipush 97, 2) := by decide +kernel
theorem dX7_isLetter_16 : decode cX7_isLetter 16 = .ok (.if_icmp .lt 18, 3) := by decide +kernel
theorem dX7_isLetter_19 : decode cX7_isLetter 19 = .ok (.aload_n 0, 1) := by decide +kernel
theorem dX7_isLetter_20 : decode cX7_isLetter 20 = .ok (.getfield 22, 3) := by decide +kernel
theorem dX7_isLetter_23 : decode cX7_isLetter 23 = .ok (.iload_n 1, 1) := by decide +kernel
theorem dX7_isLetter_24 : decode cX7_isLetter 24 = .ok (.iaload, 1) := by decide +kernel
theorem dX7_isLetter_25 : decode cX7_isLetter 25 = .ok (.bipush 122, 2) := by decide +kernel
theorem dX7_isLetter_27 : decode cX7_isLetter 27 = .ok (.if_icmp .gt 7, 3) := by decide +kernel
theorem dX7_isLetter_30 : decode cX7_isLetter 30 = .ok (.iconst 1, 1) := by decide +kernel
theorem dX7_isLetter_31 : decode cX7_isLetter 31 = .ok (.goto 4, 3) := by decide +kernel
theorem dX7_isLetter_34 : decode cX7_isLetter 34 = .ok (.iconst 0, 1) := by decide +kernel
theorem dX7_isLetter_35 : decode cX7_isLetter 35 = .ok (.ireturn, 1) := by decide +kernel
theorem dX7_isFigure_0 : decode cX7_isFigure 0 = .ok (.iload_n 1, 1) := by decide +kernel
theorem dX7_isFigure_1 : decode cX7_isFigure 1 = .ok (.aload_n 0, 1) := by decide +kernel
theorem dX7_isFigure_2 : decode cX7_isFigure 2 = .ok (.getfield 181, 3) := by decide +kernel
theorem dX7_isFigure_5 : decode cX7_isFigure 5 = .ok (.if_icmp .ge 29, 3) := by decide +kernel
theorem dX7_isFigure_8 : decode cX7_isFigure 8 = .ok (.aload_n 0, 1) := by decide +kernel
theorem dX7_isFigure_9 : decode cX7_isFigure 9 = .ok (.getfield 22, 3) := by decide +kernel
theorem dX7_isFigure_12 : decode cX7_isFigure 12 = .ok (.iload_n 1, 1) := by decide +kernel
theorem dX7_isFigure_13 : decode cX7_isFigure 13 = .ok (.iaload, 1) := by decide +kernel
theorem dX7_isFigure_14 : decode cX7_isFigure 14 = .ok (.bipush 48, 2) := by decide +kernel
theorem dX7_isFigure_16 : decode cX7_isFigure 16 = .ok (.if_icmp .lt 18, 3) := by decide +kernel
theorem dX7_isFigure_19 : decode cX7_isFigure 19 = .ok (.aload_n 0, 1) := by decide +kernel
theorem dX7_isFigure_20 : decode cX7_isFigure 20 = .ok (.getfield 22, 3) := by decide +kernel
theorem dX7_isFigure_23 : decode cX7_isFigure 23 = .ok (.iload_n 1, 1) := by decide +kernel
theorem dX7_isFigure_24 : decode cX7_isFigure 24 = .ok (.iaload, 1) := by decide +kernel
theorem dX7_isFigure_25 : decode cX7_isFigure 25 = .ok (.bipush 57, 2) := by decide +kernel
theorem dX7_isFigure_27 : decode cX7_isFigure 27 = .ok (.if_icmp .gt 7, 3) := by decide +kernel
theorem dX7_isFigure_30 : decode cX7_isFigure 30 = .ok (.iconst 1, 1) := by decide +kernel
theorem dX7_isFigure_31 : decode cX7_isFigure 31 = .ok (.goto 4, 3) := by decide +kernel
theorem dX7_isFigure_34 : decode cX7_isFigure 34 = .ok (.iconst 0, 1) := by decide +kernel
theorem dX7_isFigure_35 : decode cX7_isFigure 35 = .ok (.ireturn, 1) := by decide +kernel
theorem dX7_go_0 : decode cX7_go 0 = .ok (.aload_n 0, 1) := by decide +kernel
theorem dX7_go_1 : decode cX7_go 1 = .ok (.getfield 185, 3) := by decide +kernel
theorem dX7_go_4 : decode cX7_go 4 = .ok (.aload_n 0, 1) := by decide +kernel
theorem dX7_go_5 : decode cX7_go 5 = .ok (.getfield 181, 3) := by decide +kernel
theorem dX7_go_8 : decode cX7_go 8 = .ok (.if_icmp .ge 30, 3) := by decide +kernel
theorem dX7_go_11 : decode cX7_go 11 = .ok (.aload_n 0, 1) := by decide +kernel
theorem dX7_go_12 : decode cX7_go 12 = .ok (.getfield 22, 3) := by decide +kernel
theorem dX7_go_15 : decode cX7_go 15 = .ok (.aload_n 0, 1) := by decide +kernel
theorem dX7_go_16 : decode cX7_go 16 = .ok (.getfield 185, 3) := by decide +kernel
theorem dX7_go_19 : decode cX7_go 19 = .ok (.iaload, 1) := by decide +kernel
theorem dX7_go_20 : decode cX7_go 20 = .ok (.bipush 32, 2) := by decide +kernel
theorem dX7_go_22 : decode cX7_go 22 = .ok (.if_icmp .ne 16, 3) := by decide +kernel
theorem dX7_go_25 : decode cX7_go 25 = .ok (.aload_n 0, 1) := by decide +kernel
theorem dX7_go_26 : decode cX7_go 26 = .ok (.dup, 1) := by decide +kernel
theorem dX7_go_27 : decode cX7_go 27 = .ok (.getfield 185, 3) := by decide +kernel
theorem dX7_go_30 : decode cX7_go 30 = .ok (.iconst 1, 1) := by decide +kernel
theorem dX7_go_31 : decode cX7_go 31 = .ok (.iadd, 1) := by decide +kernel
theorem dX7_go_32 : decode cX7_go 32 = .ok (.putfield 185, 3) := by decide +kernel
theorem dX7_go_35 : decode cX7_go 35 = .ok (.goto (-35), 3) := by decide +kernel
theorem dX7_go_38 : decode cX7_go 38 = .ok (.aload_n 0, 1) := by decide +kernel
theorem dX7_go_39 : decode cX7_go 39 = .ok (.aload_n 0, 1) := by decide +kernel
theorem dX7_go_40 : decode cX7_go 40 = .ok (.getfield 185, 3) := by decide +kernel
theorem dX7_go_43 : decode cX7_go 43 = .ok (.putfield 188, 3) := by decide +kernel
theorem dX7_go_46 : decode cX7_go 46 = .ok (.aload_n 0, 1) := by decide +kernel
theorem dX7_go_47 : decode cX7_go 47 = .ok (.getfield 188, 3) := by decide +kernel
theorem dX7_go_50 : decode cX7_go 50 = .ok (.aload_n 0, 1) := by decide +kernel
theorem dX7_go_51 : decode cX7_go 51 = .ok (.getfield 191, 3) := by decide +kernel
theorem dX7_go_54 : decode cX7_go 54 = .ok (.if_icmp .ne 7, 3) := by decide +kernel
theorem dX7_go_57 : decode cX7_go 57 = .ok (.iconst 1, 1) := by decide +kernel
theorem dX7_go_58 : decode cX7_go 58 = .ok (.goto 4, 3) := by decide +kernel
theorem dX7_go_61 : decode cX7_go 61 = .ok (.iconst 0, 1) := by decide +kernel
theorem dX7_go_62 : decode cX7_go 62 = .ok (.istore_n 1, 1) := by decide +kernel
theorem dX7_go_63 : decode cX7_go 63 = .ok (.aload_n 0, 1) := by decide +kernel
theorem dX7_go_64 : decode cX7_go 64 = .ok (.getfield 188, 3) := by decide +kernel
theorem dX7_go_67 : decode cX7_go 67 = .ok (.aload_n 0, 1) := by decide +kernel
theorem dX7_go_68 : decode cX7_go 68 = .ok (.getfield 181, 3) := by decide +kernel
theorem dX7_go_71 : decode cX7_go 71 = .ok (.if_icmp .ne 11, 3) := by decide +kernel
theorem dX7_go_74 : decode cX7_go 74 = .ok (.aload_n 0, 1) := by decide +kernel
theorem dX7_go_75 : decode cX7_go 75 = .ok (.iconst 0, 1) := by decide +kernel
theorem dX7_go_76 : decode cX7_go 76 = .ok (.putfield 194, 3) := by decide +kernel
theorem dX7_go_79 : decode cX7_go 79 = .ok (.goto 224, 3) := by decide +kernel
theorem dX7_go_82 : decode cX7_go 82 = .ok (.aload_n 0, 1) := by decide +kernel
theorem dX7_go_83 : decode cX7_go 83 = .ok (.aload_n 0, 1) := by decide +kernel
theorem dX7_go_84 : decode cX7_go 84 = .ok (.getfield 188, 3) := by decide +kernel
theorem dX7_go_87 : decode cX7_go 87 = .ok (.invokevirtual 197, 3) := by decide +kernel
theorem dX7_go_90 : decode cX7_go 90 = .ok (.ifCond .eq 64, 3) := by decide +kernel
theorem dX7_go_93 : decode cX7_go 93 = .ok (.aload_n 0, 1) := by decide +kernel
theorem dX7_go_94 : decode cX7_go 94 = .ok (.aload_n 0, 1) := by decide +kernel
theorem dX7_go_95 : decode cX7_go 95 = .ok (.getfield 185, 3) := by decide +kernel
theorem dX7_go_98 : decode cX7_go 98 = .ok (.invokevirtual 197, 3) := by decide +kernel
theorem dX7_go_101 : decode cX7_go 101 = .ok (.ifCond .eq 16, 3) := by decide +kernel
theorem dX7_go_104 : decode cX7_go 104 = .ok (.aload_n 0, 1) := by decide +kernel
theorem dX7_go_105 : decode cX7_go 105 = .ok (.dup, 1) := by decide +kernel
theorem dX7_go_106 : decode cX7_go 106 = .ok (.getfield 185, 3) := by decide +kernel
theorem dX7_go_109 : decode cX7_go 109 = .ok (.iconst 1, 1) := by decide +kernel
theorem dX7_go_110 : decode cX7_go 110 = .ok (.iadd, 1) := by decide +kernel
theorem dX7_go_111 : decode cX7_go 111 = .ok (.putfield 185, 3) := by decide +kernel
theorem dX7_go_114 : decode cX7_go 114 = .ok (.goto (-21), 3) := by decide +kernel
theorem dX7_go_117 : decode cX7_go 117 = .ok (.aload_n 0, 1) := by decide +kernel
theorem dX7_go_118 : decode cX7_go 118 = .ok (.iload_n 1, 1) := by decide +kernel
theorem dX7_go_119 : decode cX7_go 119 = .ok (.ifCond .eq 7, 3) := by decide +kernel
theorem dX7_go_122 : decode cX7_go 122 = .ok (.iconst 4, 1) := by decide +kernel
theorem dX7_go_123 : decode cX7_go 123 = .ok (.goto 4, 3) := by decide +kernel
theorem dX7_go_126 : decode cX7_go 126 = .ok (.iconst 1, 1) := by decide +kernel
theorem dX7_go_127 : decode cX7_go 127 = .ok (.putfield 194, 3) := by decide +kernel
theorem dX7_go_130 : decode cX7_go 130 = .ok (.aload_n 0, 1) := by decide +kernel
theorem dX7_go_131 : decode cX7_go 131 = .ok (.aload_n 0, 1) := by decide +kernel
theorem dX7_go_132 : decode cX7_go 132 = .ok (.getfield 22, 3) := by decide +kernel
theorem dX7_go_135 : decode cX7_go 135 = .ok (.aload_n 0, 1) := by decide +kernel
theorem dX7_go_136 : decode cX7_go 136 = .ok (.getfield 188, 3) := by decide +kernel
theorem dX7_go_139 : decode cX7_go 139 = .ok (.iaload, 1) := by decide +kernel
theorem dX7_go_140 : decode cX7_go 140 = .ok (.putfield 200, 3) := by decide +kernel
theorem dX7_go_143 : decode cX7_go 143 = .ok (.aload_n 0, 1) := by decide +kernel
theorem dX7_go_144 : decode cX7_go 144 = .ok (.aload_n 0, 1) := by decide +kernel
theorem dX7_go_145 : decode cX7_go 145 = .ok (.getfield 185, 3) := by decide +kernel
theorem dX7_go_148 : decode cX7_go 148 = .ok (.putfield 191, 3) := by decide +kernel
theorem dX7_go_151 : decode cX7_go 151 = .ok (.goto 152, 3) := by decide +kernel
theorem dX7_go_154 : decode cX7_go 154 = .ok (.aload_n 0, 1) := by decide +kernel
theorem dX7_go_155 : decode cX7_go 155 = .ok (.aload_n 0, 1) := by decide +kernel
theorem dX7_go_156 : decode cX7_go 156 = .ok (.getfield 188, 3) := by decide +kernel
theorem dX7_go_159 : decode cX7_go 159 = .ok (.invokevirtual 203, 3) := by decide +kernel
theorem dX7_go_162 : decode cX7_go 162 = .ok (.ifCond .eq 113, 3) := by decide +kernel
theorem dX7_go_165 : decode cX7_go 165 = .ok (.aload_n 0, 1) := by decide +kernel
theorem dX7_go_166 : decode cX7_go 166 = .ok (.iconst 0, 1) := by decide +kernel
theorem dX7_go_167 : decode cX7_go 167 = .ok (.putfield 200, 3) := by decide +kernel
theorem dX7_go_170 : decode cX7_go 170 = .ok (.aload_n 0, 1) := by decide +kernel
theorem dX7_go_171 : decode cX7_go 171 = .ok (.aload_n 0, 1) := by decide +kernel
theorem dX7_go_172 : decode cX7_go 172 = .ok (.getfield 185, 3) := by decide +kernel
end
section
theorem dX7_go_175 : decode cX7_go 175 = .ok (.invokevirtual 203, 3) := by decide +kernel
theorem dX7_go_178 : decode cX7_go 178 = .ok (.ifCond .eq 60, 3) := by decide +kernel
theorem dX7_go_181 : decode cX7_go 181 = .ok (.aload_n 0, 1) := by decide +kernel
theorem dX7_go_182 : decode cX7_go 182 = .ok (.aload_n 0, 1) := by decide +kernel
theorem dX7_go_183 : decode cX7_go 183 = .ok (.getfield 185, 3) := by decide +kernel
theorem dX7_go_186 : decode cX7_go 186 = .ok (.aload_n 0, 1) := by decide +kernel
theorem dX7_go_187 : decode cX7_go 187 = .ok (.getfield 188, 3) := by decide +kernel
theorem dX7_go_190 : decode cX7_go 190 = .ok (.isub, 1) := by decide +kernel
theorem dX7_go_191 : decode cX7_go 191 = .ok (.iconst 4, 1) := by decide +kernel
theorem dX7_go_192 : decode cX7_go 192 = .ok (.if_icmp .ge 26, 3) := by decide +kernel
theorem dX7_go_195 : decode cX7_go 195 = .ok (.bipush 10, 2) := by decide +kernel
theorem dX7_go_197 : decode cX7_go 197 = .ok (.aload_n 0, 1) := by decide +kernel
theorem dX7_go_198 : decode cX7_go 198 = .ok (.getfield 200, 3) := by decide +kernel
theorem dX7_go_201 : decode cX7_go 201 = .ok (.imul, 1) := by decide +kernel
theorem dX7_go_202 : decode cX7_go 202 = .ok (.aload_n 0, 1) := by decide +kernel
theorem dX7_go_203 : decode cX7_go 203 = .ok (.getfield 22, 3) := by decide +kernel
theorem dX7_go_206 : decode cX7_go 206 = .ok (.aload_n 0, 1) := by decide +kernel
theorem dX7_go_207 : decode cX7_go 207 = .ok (.getfield 185, 3) := by decide +kernel
theorem dX7_go_210 : decode cX7_go 210 = .ok (.iaload, 1) := by decide +kernel
theorem dX7_go_211 : decode cX7_go 211 = .ok (.iadd, 1) := by decide +kernel
theorem dX7_go_212 : decode cX7_go 212 = .ok (.bipush 48, 2) := by decide +kernel
theorem dX7_go_214 : decode cX7_go 214 = .ok (.isub, 1) := by decide +kernel
theorem dX7_go_215 : decode cX7_go 215 = .ok (.goto 7, 3) := by decide +kernel
theorem dX7_go_218 : decode cX7_go 218 = .ok (.aload_n 0, 1) := by decide +kernel
theorem dX7_go_219 : decode cX7_go 219 = .ok (.getfield 200, 3) := by decide +kernel
theorem dX7_go_222 : decode cX7_go 222 = .ok (.putfield 200, 3) := by decide +kernel
theorem dX7_go_225 : decode cX7_go 225 = .ok (.aload_n 0, 1) := by decide +kernel
theorem dX7_go_226 : decode cX7_go 226 = .ok (.dup, 1) := by decide +kernel
theorem dX7_go_227 : decode cX7_go 227 = .ok (.getfield 185, 3) := by decide +kernel
theorem dX7_go_230 : decode cX7_go 230 = .ok (.iconst 1, 1) := by decide +kernel
theorem dX7_go_231 : decode cX7_go 231 = .ok (.iadd, 1) := by decide +kernel
theorem dX7_go_232 : decode cX7_go 232 = .ok (.putfield 185, 3) := by decide +kernel
theorem dX7_go_235 : decode cX7_go 235 = .ok (.goto (-65), 3) := by decide +kernel
theorem dX7_go_238 : decode cX7_go 238 = .ok (.aload_n 0, 1) := by decide +kernel
theorem dX7_go_239 : decode cX7_go 239 = .ok (.iload_n 1, 1) := by decide +kernel
theorem dX7_go_240 : decode cX7_go 240 = .ok (.ifCond .ne 16, 3) := by decide +kernel
theorem dX7_go_243 : decode cX7_go 243 = .ok (.aload_n 0, 1) := by decide +kernel
theorem dX7_go_244 : decode cX7_go 244 = .ok (.getfield 185, 3) := by decide +kernel
theorem dX7_go_247 : decode cX7_go 247 = .ok (.aload_n 0, 1) := by decide +kernel
theorem dX7_go_248 : decode cX7_go 248 = .ok (.getfield 188, 3) := by decide +kernel
theorem dX7_go_251 : decode cX7_go 251 = .ok (.isub, 1) := by decide +kernel
theorem dX7_go_252 : decode cX7_go 252 = .ok (.iconst 4, 1) := by decide +kernel
theorem dX7_go_253 : decode cX7_go 253 = .ok (.if_icmp .le 7, 3) := by decide +kernel
theorem dX7_go_256 : decode cX7_go 256 = .ok (.iconst 4, 1) := by decide +kernel
theorem dX7_go_257 : decode cX7_go 257 = .ok (.goto 4, 3) := by decide +kernel
theorem dX7_go_260 : decode cX7_go 260 = .ok (.iconst 2, 1) := by decide +kernel
theorem dX7_go_261 : decode cX7_go 261 = .ok (.putfield 194, 3) := by decide +kernel
theorem dX7_go_264 : decode cX7_go 264 = .ok (.aload_n 0, 1) := by decide +kernel
theorem dX7_go_265 : decode cX7_go 265 = .ok (.aload_n 0, 1) := by decide +kernel
theorem dX7_go_266 : decode cX7_go 266 = .ok (.getfield 185, 3) := by decide +kernel
theorem dX7_go_269 : decode cX7_go 269 = .ok (.putfield 191, 3) := by decide +kernel
theorem dX7_go_272 : decode cX7_go 272 = .ok (.goto 31, 3) := by decide +kernel
theorem dX7_go_275 : decode cX7_go 275 = .ok (.aload_n 0, 1) := by decide +kernel
theorem dX7_go_276 : decode cX7_go 276 = .ok (.iconst 3, 1) := by decide +kernel
theorem dX7_go_277 : decode cX7_go 277 = .ok (.putfield 194, 3) := by decide +kernel
theorem dX7_go_280 : decode cX7_go 280 = .ok (.aload_n 0, 1) := by decide +kernel
theorem dX7_go_281 : decode cX7_go 281 = .ok (.aload_n 0, 1) := by decide +kernel
theorem dX7_go_282 : decode cX7_go 282 = .ok (.getfield 22, 3) := by decide +kernel
theorem dX7_go_285 : decode cX7_go 285 = .ok (.aload_n 0, 1) := by decide +kernel
theorem dX7_go_286 : decode cX7_go 286 = .ok (.getfield 188, 3) := by decide +kernel
theorem dX7_go_289 : decode cX7_go 289 = .ok (.iaload, 1) := by decide +kernel
theorem dX7_go_290 : decode cX7_go 290 = .ok (.putfield 200, 3) := by decide +kernel
theorem dX7_go_293 : decode cX7_go 293 = .ok (.aload_n 0, 1) := by decide +kernel
theorem dX7_go_294 : decode cX7_go 294 = .ok (.dup, 1) := by decide +kernel
theorem dX7_go_295 : decode cX7_go 295 = .ok (.getfield 185, 3) := by decide +kernel
theorem dX7_go_298 : decode cX7_go 298 = .ok (.iconst 1, 1) := by decide +kernel
theorem dX7_go_299 : decode cX7_go 299 = .ok (.iadd, 1) := by decide +kernel
theorem dX7_go_300 : decode cX7_go 300 = .ok (.putfield 185, 3) := by decide +kernel
theorem dX7_go_303 : decode cX7_go 303 = .ok (.return_, 1) := by decide +kernel
theorem dX7_takesKey_0 : decode cX7_takesKey 0 = .ok (.aload_n 0, 1) := by decide +kernel
theorem dX7_takesKey_1 : decode cX7_takesKey 1 = .ok (.getfield 194, 3) := by decide +kernel
theorem dX7_takesKey_4 : decode cX7_takesKey 4 = .ok (.iconst 1, 1) := by decide +kernel
theorem dX7_takesKey_5 : decode cX7_takesKey 5 = .ok (.if_icmp .eq 5, 3) := by decide +kernel
theorem dX7_takesKey_8 : decode cX7_takesKey 8 = .ok (.iconst 0, 1) := by decide +kernel
theorem dX7_takesKey_9 : decode cX7_takesKey 9 = .ok (.ireturn, 1) := by decide +kernel
theorem dX7_takesKey_10 : decode cX7_takesKey 10 = .ok (.iconst 0, 1) := by decide +kernel
theorem dX7_takesKey_11 : decode cX7_takesKey 11 = .ok (.istore_n 1, 1) := by decide +kernel
theorem dX7_takesKey_12 : decode cX7_takesKey 12 = .ok (.iload_n 1, 1) := by decide +kernel
theorem dX7_takesKey_13 : decode cX7_takesKey 13 = .ok (.iconst 3, 1) := by decide +kernel
theorem dX7_takesKey_14 : decode cX7_takesKey 14 = .ok (.if_icmp .ge 113, 3) := by decide +kernel
theorem dX7_takesKey_17 : decode cX7_takesKey 17 = .ok (.aload_n 0, 1) := by decide +kernel
theorem dX7_takesKey_18 : decode cX7_takesKey 18 = .ok (.getfield 29, 3) := by decide +kernel
theorem dX7_takesKey_21 : decode cX7_takesKey 21 = .ok (.iload_n 1, 1) := by decide +kernel
theorem dX7_takesKey_22 : decode cX7_takesKey 22 = .ok (.iconst 1, 1) := by decide +kernel
theorem dX7_takesKey_23 : decode cX7_takesKey 23 = .ok (.iadd, 1) := by decide +kernel
theorem dX7_takesKey_24 : decode cX7_takesKey 24 = .ok (.iaload, 1) := by decide +kernel
theorem dX7_takesKey_25 : decode cX7_takesKey 25 = .ok (.aload_n 0, 1) := by decide +kernel
theorem dX7_takesKey_26 : decode cX7_takesKey 26 = .ok (.getfield 29, 3) := by decide +kernel
theorem dX7_takesKey_29 : decode cX7_takesKey 29 = .ok (.iload_n 1, 1) := by decide +kernel
theorem dX7_takesKey_30 : decode cX7_takesKey 30 = .ok (.iaload, 1) := by decide +kernel
theorem dX7_takesKey_31 : decode cX7_takesKey 31 = .ok (.isub, 1) := by decide +kernel
theorem dX7_takesKey_32 : decode cX7_takesKey 32 = .ok (.istore_n 2, 1) := by decide +kernel
theorem dX7_takesKey_33 : decode cX7_takesKey 33 = .ok (.iload_n 2, 1) := by decide +kernel
theorem dX7_takesKey_34 : decode cX7_takesKey 34 = .ok (.aload_n 0, 1) := by decide +kernel
theorem dX7_takesKey_35 : decode cX7_takesKey 35 = .ok (.getfield 185, 3) := by decide +kernel
theorem dX7_takesKey_38 : decode cX7_takesKey 38 = .ok (.aload_n 0, 1) := by decide +kernel
theorem dX7_takesKey_39 : decode cX7_takesKey 39 = .ok (.getfield 188, 3) := by decide +kernel
theorem dX7_takesKey_42 : decode cX7_takesKey 42 = .ok (.isub, 1) := by decide +kernel
theorem dX7_takesKey_43 : decode cX7_takesKey 43 = .ok (.if_icmp .ne 7, 3) := by decide +kernel
theorem dX7_takesKey_46 : decode cX7_takesKey 46 = .ok (.iconst 1, 1) := by decide +kernel
theorem dX7_takesKey_47 : decode cX7_takesKey 47 = .ok (.goto 4, 3) := by decide +kernel
theorem dX7_takesKey_50 : decode cX7_takesKey 50 = .ok (.iconst 0, 1) := by decide +kernel
theorem dX7_takesKey_51 : decode cX7_takesKey 51 = .ok (.istore_n 3, 1) := by decide +kernel
theorem dX7_takesKey_52 : decode cX7_takesKey 52 = .ok (.iconst 0, 1) := by decide +kernel
theorem dX7_takesKey_53 : decode cX7_takesKey 53 = .ok (.istore 4, 2) := by decide +kernel
theorem dX7_takesKey_55 : decode cX7_takesKey 55 = .ok (.iload 4, 2) := by decide +kernel
theorem dX7_takesKey_57 : decode cX7_takesKey 57 = .ok (.iload_n 2, 1) := by decide +kernel
theorem dX7_takesKey_58 : decode cX7_takesKey 58 = .ok (.if_icmp .ge 48, 3) := by decide +kernel
theorem dX7_takesKey_61 : decode cX7_takesKey 61 = .ok (.iload_n 3, 1) := by decide +kernel
theorem dX7_takesKey_62 : decode cX7_takesKey 62 = .ok (.ifCond .eq 44, 3) := by decide +kernel
theorem dX7_takesKey_65 : decode cX7_takesKey 65 = .ok (.aload_n 0, 1) := by decide +kernel
theorem dX7_takesKey_66 : decode cX7_takesKey 66 = .ok (.getfield 22, 3) := by decide +kernel
theorem dX7_takesKey_69 : decode cX7_takesKey 69 = .ok (.aload_n 0, 1) := by decide +kernel
theorem dX7_takesKey_70 : decode cX7_takesKey 70 = .ok (.getfield 188, 3) := by decide +kernel
theorem dX7_takesKey_73 : decode cX7_takesKey 73 = .ok (.iload 4, 2) := by decide +kernel
theorem dX7_takesKey_75 : decode cX7_takesKey 75 = .ok (.iadd, 1) := by decide +kernel
theorem dX7_takesKey_76 : decode cX7_takesKey 76 = .ok (.iaload, 1) := by decide +kernel
theorem dX7_takesKey_77 : decode cX7_takesKey 77 = .ok (.aload_n 0, 1) := by decide +kernel
theorem dX7_takesKey_78 : decode cX7_takesKey 78 = .ok (.getfield 25, 3) := by decide +kernel
theorem dX7_takesKey_81 : decode cX7_takesKey 81 = .ok (.aload_n 0, 1) := by decide +kernel
theorem dX7_takesKey_82 : decode cX7_takesKey 82 = .ok (.getfield 29, 3) := by decide +kernel
theorem dX7_takesKey_85 : decode cX7_takesKey 85 = .ok (.iload_n 1, 1) := by decide +kernel
theorem dX7_takesKey_86 : decode cX7_takesKey 86 = .ok (.iaload, 1) := by decide +kernel
theorem dX7_takesKey_87 : decode cX7_takesKey 87 = .ok (.iload 4, 2) := by decide +kernel
theorem dX7_takesKey_89 : decode cX7_takesKey 89 = .ok (.iadd, 1) := by decide +kernel
theorem dX7_takesKey_90 : decode cX7_takesKey 90 = .ok (.caload, 1) := by decide +kernel
theorem dX7_takesKey_91 : decode cX7_takesKey 91 = .ok (.if_icmp .ne 7, 3) := by decide +kernel
theorem dX7_takesKey_94 : decode cX7_takesKey 94 = .ok (.iconst 1, 1) := by decide +kernel
theorem dX7_takesKey_95 : decode cX7_takesKey 95 = .ok (.goto 4, 3) := by decide +kernel
theorem dX7_takesKey_98 : decode cX7_takesKey 98 = .ok (.iconst 0, 1) := by decide +kernel
theorem dX7_takesKey_99 : decode cX7_takesKey 99 = .ok (.istore_n 3, 1) := by decide +kernel
theorem dX7_takesKey_100 : decode cX7_takesKey 100 = .ok (.iinc 4 1, 3) := by decide +kernel
theorem dX7_takesKey_103 : decode cX7_takesKey 103 = .ok (.goto (-48), 3) := by decide +kernel
theorem dX7_takesKey_106 : decode cX7_takesKey 106 = .ok (.iload_n 3, 1) := by decide +kernel
theorem dX7_takesKey_107 : decode cX7_takesKey 107 = .ok (.ifCond .eq 14, 3) := by decide +kernel
theorem dX7_takesKey_110 : decode cX7_takesKey 110 = .ok (.aload_n 0, 1) := by decide +kernel
theorem dX7_takesKey_111 : decode cX7_takesKey 111 = .ok (.iload_n 1, 1) := by decide +kernel
theorem dX7_takesKey_112 : decode cX7_takesKey 112 = .ok (.putfield 206, 3) := by decide +kernel
theorem dX7_takesKey_115 : decode cX7_takesKey 115 = .ok (.aload_n 0, 1) := by decide +kernel
theorem dX7_takesKey_116 : decode cX7_takesKey 116 = .ok (.invokevirtual 209, 3) := by decide +kernel
theorem dX7_takesKey_119 : decode cX7_takesKey 119 = .ok (.iconst 1, 1) := by decide +kernel
theorem dX7_takesKey_120 : decode cX7_takesKey 120 = .ok (.ireturn, 1) := by decide +kernel
theorem dX7_takesKey_121 : decode cX7_takesKey 121 = .ok (.iinc 1 1, 3) := by decide +kernel
theorem dX7_takesKey_124 : decode cX7_takesKey 124 = .ok (.goto (-112), 3) := by decide +kernel
theorem dX7_takesKey_127 : decode cX7_takesKey 127 = .ok (.iconst 0, 1) := by decide +kernel
theorem dX7_takesKey_128 : decode cX7_takesKey 128 = .ok (.ireturn, 1) := by decide +kernel
theorem dX7_nameOf_0 : decode cX7_nameOf 0 = .ok (.aload_n 0, 1) := by decide +kernel
theorem dX7_nameOf_1 : decode cX7_nameOf 1 = .ok (.getfield 206, 3) := by decide +kernel
theorem dX7_nameOf_4 : decode cX7_nameOf 4 = .ok (.lookupswitch 82 #[(0, 28), (1, 60)], 28) := by decide +kernel
theorem dX7_nameOf_32 : decode cX7_nameOf 32 = .ok (.iload_n 1, 1) := by decide +kernel
theorem dX7_nameOf_33 : decode cX7_nameOf 33 = .ok (.bipush 97, 2) := by decide +kernel
theorem dX7_nameOf_35 : decode cX7_nameOf 35 = .ok (.if_icmp .ne 7, 3) := by decide +kernel
theorem dX7_nameOf_38 : decode cX7_nameOf 38 = .ok (.iconst 0, 1) := by decide +kernel
theorem dX7_nameOf_39 : decode cX7_nameOf 39 = .ok (.goto 24, 3) := by decide +kernel
theorem dX7_nameOf_42 : decode cX7_nameOf 42 = .ok (.iload_n 1, 1) := by decide +kernel
theorem dX7_nameOf_43 : decode cX7_nameOf 43 = .ok (.bipush 100, 2) := by decide +kernel
theorem dX7_nameOf_45 : decode cX7_nameOf 45 = .ok (.if_icmp .ne 7, 3) := by decide +kernel
theorem dX7_nameOf_48 : decode cX7_nameOf 48 = .ok (.iconst 1, 1) := by decide +kernel
theorem dX7_nameOf_49 : decode cX7_nameOf 49 = .ok (.goto 14, 3) := by decide +kernel
theorem dX7_nameOf_52 : decode cX7_nameOf 52 = .ok (.iload_n 1, 1) := by decide +kernel
theorem dX7_nameOf_53 : decode cX7_nameOf 53 = .ok (.bipush 105, 2) := by decide +kernel
theorem dX7_nameOf_55 : decode cX7_nameOf 55 = .ok (.if_icmp .ne 7, 3) := by decide +kernel
theorem dX7_nameOf_58 : decode cX7_nameOf 58 = .ok (.iconst 2, 1) := by decide +kernel
theorem dX7_nameOf_59 : decode cX7_nameOf 59 = .ok (.goto 4, 3) := by decide +kernel
theorem dX7_nameOf_62 : decode cX7_nameOf 62 = .ok (.iconst (-1), 1) := by decide +kernel
theorem dX7_nameOf_63 : decode cX7_nameOf 63 = .ok (.ireturn, 1) := by decide +kernel
theorem dX7_nameOf_64 : decode cX7_nameOf 64 = .ok (.iload_n 1, 1) := by decide +kernel
theorem dX7_nameOf_65 : decode cX7_nameOf 65 = .ok (.bipush 110, 2) := by decide +kernel
theorem dX7_nameOf_67 : decode cX7_nameOf 67 = .ok (.if_icmp .ne 7, 3) := by decide +kernel
theorem dX7_nameOf_70 : decode cX7_nameOf 70 = .ok (.iconst 0, 1) := by decide +kernel
theorem dX7_nameOf_71 : decode cX7_nameOf 71 = .ok (.goto 14, 3) := by decide +kernel
theorem dX7_nameOf_74 : decode cX7_nameOf 74 = .ok (.iload_n 1, 1) := by decide +kernel
theorem dX7_nameOf_75 : decode cX7_nameOf 75 = .ok (.bipush 108, 2) := by decide +kernel
theorem dX7_nameOf_77 : decode cX7_nameOf 77 = .ok (.if_icmp .ne 7, 3) := by decide +kernel
theorem dX7_nameOf_80 : decode cX7_nameOf 80 = .ok (.iconst 1, 1) := by decide +kernel
theorem dX7_nameOf_81 : decode cX7_nameOf 81 = .ok (.goto 4, 3) := by decide +kernel
theorem dX7_nameOf_84 : decode cX7_nameOf 84 = .ok (.iconst (-1), 1) := by decide +kernel
theorem dX7_nameOf_85 : decode cX7_nameOf 85 = .ok (.ireturn, 1) := by decide +kernel
theorem dX7_nameOf_86 : decode cX7_nameOf 86 = .ok (.iload_n 1, 1) := by decide +kernel
theorem dX7_nameOf_87 : decode cX7_nameOf 87 = .ok (.bipush 99, 2) := by decide +kernel
theorem dX7_nameOf_89 : decode cX7_nameOf 89 = .ok (.if_icmp .ne 7, 3) := by decide +kernel
theorem dX7_nameOf_92 : decode cX7_nameOf 92 = .ok (.iconst 0, 1) := by decide +kernel
theorem dX7_nameOf_93 : decode cX7_nameOf 93 = .ok (.goto 14, 3) := by decide +kernel
theorem dX7_nameOf_96 : decode cX7_nameOf 96 = .ok (.iload_n 1, 1) := by decide +kernel
theorem dX7_nameOf_97 : decode cX7_nameOf 97 = .ok (.bipush 104, 2) := by decide +kernel
theorem dX7_nameOf_99 : decode cX7_nameOf 99 = .ok (.if_icmp .ne 7, 3) := by decide +kernel
theorem dX7_nameOf_102 : decode cX7_nameOf 102 = .ok (.iconst 1, 1) := by decide +kernel
theorem dX7_nameOf_103 : decode cX7_nameOf 103 = .ok (.goto 4, 3) := by decide +kernel
theorem dX7_nameOf_106 : decode cX7_nameOf 106 = .ok (.iconst (-1), 1) := by decide +kernel
theorem dX7_nameOf_107 : decode cX7_nameOf 107 = .ok (.ireturn, 1) := by decide +kernel
theorem dX7_rank_0 : decode cX7_rank 0 = .ok (.iload_n 0, 1) := by decide +kernel
theorem dX7_rank_1 : decode cX7_rank 1 = .ok (.iconst (-1), 1) := by decide +kernel
theorem dX7_rank_2 : decode cX7_rank 2 = .ok (.if_icmp .ne 7, 3) := by decide +kernel
theorem dX7_rank_5 : decode cX7_rank 5 = .ok (.iconst 1, 1) := by decide +kernel
theorem dX7_rank_6 : decode cX7_rank 6 = .ok (.goto 45, 3) := by decide +kernel
theorem dX7_rank_9 : decode cX7_rank 9 = .ok (.iload_n 0, 1) := by decide +kernel
theorem dX7_rank_10 : decode cX7_rank 10 = .ok (.bipush (-2), 2) := by decide +kernel
theorem dX7_rank_12 : decode cX7_rank 12 = .ok (.if_icmp .ne 7, 3) := by decide +kernel
theorem dX7_rank_15 : decode cX7_rank 15 = .ok (.iconst 2, 1) := by decide +kernel
theorem dX7_rank_16 : decode cX7_rank 16 = .ok (.goto 35, 3) := by decide +kernel
theorem dX7_rank_19 : decode cX7_rank 19 = .ok (.iload_n 0, 1) := by decide +kernel
theorem dX7_rank_20 : decode cX7_rank 20 = .ok (.bipush (-5), 2) := by decide +kernel
theorem dX7_rank_22 : decode cX7_rank 22 = .ok (.if_icmp .lt 7, 3) := by decide +kernel
theorem dX7_rank_25 : decode cX7_rank 25 = .ok (.iconst 3, 1) := by decide +kernel
theorem dX7_rank_26 : decode cX7_rank 26 = .ok (.goto 25, 3) := by decide +kernel
theorem dX7_rank_29 : decode cX7_rank 29 = .ok (.iload_n 0, 1) := by decide +kernel
theorem dX7_rank_30 : decode cX7_rank 30 = .ok (.bipush (-7), 2) := by decide +kernel
theorem dX7_rank_32 : decode cX7_rank 32 = .ok (.if_icmp .lt 7, 3) := by decide +kernel
theorem dX7_rank_35 : decode cX7_rank 35 = .ok (.iconst 4, 1) := by decide +kernel
theorem dX7_rank_36 : decode cX7_rank 36 = .ok (.goto 15, 3) := by decide +kernel
theorem dX7_rank_39 : decode cX7_rank 39 = .ok (.iload_n 0, 1) := by decide +kernel
theorem dX7_rank_40 : decode cX7_rank 40 = .ok (.bipush (-9), 2) := by decide +kernel
theorem dX7_rank_42 : decode cX7_rank 42 = .ok (.if_icmp .lt 7, 3) := by decide +kernel
theorem dX7_rank_45 : decode cX7_rank 45 = .ok (.iconst 5, 1) := by decide +kernel
theorem dX7_rank_46 : decode cX7_rank 46 = .ok (.goto 5, 3) := by decide +kernel
theorem dX7_rank_49 : decode cX7_rank 49 = .ok (.bipush 6, 2) := by decide +kernel
theorem dX7_rank_51 : decode cX7_rank 51 = .ok (.ireturn, 1) := by decide +kernel
theorem dX7_settle_0 : decode cX7_settle 0 = .ok (.aload_n 0, 1) := by decide +kernel
theorem dX7_settle_1 : decode cX7_settle 1 = .ok (.getfield 212, 3) := by decide +kernel
theorem dX7_settle_4 : decode cX7_settle 4 = .ok (.ifCond .le 78, 3) := by decide +kernel
theorem dX7_settle_7 : decode cX7_settle 7 = .ok (.aload_n 0, 1) := by decide +kernel
theorem dX7_settle_8 : decode cX7_settle 8 = .ok (.getfield 35, 3) := by decide +kernel
theorem dX7_settle_11 : decode cX7_settle 11 = .ok (.aload_n 0, 1) := by decide +kernel
theorem dX7_settle_12 : decode cX7_settle 12 = .ok (.getfield 212, 3) := by decide +kernel
theorem dX7_settle_15 : decode cX7_settle 15 = .ok (.iconst 1, 1) := by decide +kernel
theorem dX7_settle_16 : decode cX7_settle 16 = .ok (.isub, 1) := by decide +kernel
theorem dX7_settle_17 : decode cX7_settle 17 = .ok (.iaload, 1) := by decide +kernel
theorem dX7_settle_18 : decode cX7_settle 18 = .ok (.bipush (-11), 2) := by decide +kernel
theorem dX7_settle_20 : decode cX7_settle 20 = .ok (.if_icmp .eq 62, 3) := by decide +kernel
theorem dX7_settle_23 : decode cX7_settle 23 = .ok (.aload_n 0, 1) := by decide +kernel
theorem dX7_settle_24 : decode cX7_settle 24 = .ok (.getfield 35, 3) := by decide +kernel
theorem dX7_settle_27 : decode cX7_settle 27 = .ok (.aload_n 0, 1) := by decide +kernel
theorem dX7_settle_28 : decode cX7_settle 28 = .ok (.getfield 212, 3) := by decide +kernel
theorem dX7_settle_31 : decode cX7_settle 31 = .ok (.iconst 1, 1) := by decide +kernel
theorem dX7_settle_32 : decode cX7_settle 32 = .ok (.isub, 1) := by decide +kernel
theorem dX7_settle_33 : decode cX7_settle 33 = .ok (.iaload, 1) := by decide +kernel
theorem dX7_settle_34 : decode cX7_settle 34 = .ok (.invokestatic 215, 3) := by decide +kernel
theorem dX7_settle_37 : decode cX7_settle 37 = .ok (.iload_n 1, 1) := by decide +kernel
theorem dX7_settle_38 : decode cX7_settle 38 = .ok (.if_icmp .lt 44, 3) := by decide +kernel
theorem dX7_settle_41 : decode cX7_settle 41 = .ok (.aload_n 0, 1) := by decide +kernel
theorem dX7_settle_42 : decode cX7_settle 42 = .ok (.dup, 1) := by decide +kernel
theorem dX7_settle_43 : decode cX7_settle 43 = .ok (.getfield 212, 3) := by decide +kernel
theorem dX7_settle_46 : decode cX7_settle 46 = .ok (.iconst 1, 1) := by decide +kernel
theorem dX7_settle_47 : decode cX7_settle 47 = .ok (.isub, 1) := by decide +kernel
theorem dX7_settle_48 : decode cX7_settle 48 = .ok (.putfield 212, 3) := by decide +kernel
theorem dX7_settle_51 : decode cX7_settle 51 = .ok (.aload_n 0, 1) := by decide +kernel
theorem dX7_settle_52 : decode cX7_settle 52 = .ok (.getfield 32, 3) := by decide +kernel
theorem dX7_settle_55 : decode cX7_settle 55 = .ok (.aload_n 0, 1) := by decide +kernel
theorem dX7_settle_56 : decode cX7_settle 56 = .ok (.getfield 218, 3) := by decide +kernel
theorem dX7_settle_59 : decode cX7_settle 59 = .ok (.aload_n 0, 1) := by decide +kernel
theorem dX7_settle_60 : decode cX7_settle 60 = .ok (.getfield 35, 3) := by decide +kernel
theorem dX7_settle_63 : decode cX7_settle 63 = .ok (.aload_n 0, 1) := by decide +kernel
theorem dX7_settle_64 : decode cX7_settle 64 = .ok (.getfield 212, 3) := by decide +kernel
theorem dX7_settle_67 : decode cX7_settle 67 = .ok (.iaload, 1) := by decide +kernel
theorem dX7_settle_68 : decode cX7_settle 68 = .ok (.iastore, 1) := by decide +kernel
theorem dX7_settle_69 : decode cX7_settle 69 = .ok (.aload_n 0, 1) := by decide +kernel
theorem dX7_settle_70 : decode cX7_settle 70 = .ok (.dup, 1) := by decide +kernel
theorem dX7_settle_71 : decode cX7_settle 71 = .ok (.getfield 218, 3) := by decide +kernel
theorem dX7_settle_74 : decode cX7_settle 74 = .ok (.iconst 1, 1) := by decide +kernel
theorem dX7_settle_75 : decode cX7_settle 75 = .ok (.iadd, 1) := by decide +kernel
theorem dX7_settle_76 : decode cX7_settle 76 = .ok (.putfield 218, 3) := by decide +kernel
theorem dX7_settle_79 : decode cX7_settle 79 = .ok (.goto (-79), 3) := by decide +kernel
theorem dX7_settle_82 : decode cX7_settle 82 = .ok (.return_, 1) := by decide +kernel
theorem dX7_signHere_0 : decode cX7_signHere 0 = .ok (.aload_n 0, 1) := by decide +kernel
theorem dX7_signHere_1 : decode cX7_signHere 1 = .ok (.getfield 194, 3) := by decide +kernel
theorem dX7_signHere_4 : decode cX7_signHere 4 = .ok (.iconst 3, 1) := by decide +kernel
theorem dX7_signHere_5 : decode cX7_signHere 5 = .ok (.if_icmp .eq 5, 3) := by decide +kernel
theorem dX7_signHere_8 : decode cX7_signHere 8 = .ok (.iconst 0, 1) := by decide +kernel
theorem dX7_signHere_9 : decode cX7_signHere 9 = .ok (.ireturn, 1) := by decide +kernel
theorem dX7_signHere_10 : decode cX7_signHere 10 = .ok (.aload_n 0, 1) := by decide +kernel
theorem dX7_signHere_11 : decode cX7_signHere 11 = .ok (.getfield 200, 3) := by decide +kernel
theorem dX7_signHere_14 : decode cX7_signHere 14 = .ok (.lookupswitch 108 #[(38, 84), (42, 102), (43, 96), (45, 99), (47, 105), (60, 87), (61, 90), (62, 93), (124, 82)], 82) := by decide +kernel
theorem dX7_signHere_96 : decode cX7_signHere 96 = .ok (.iconst (-1), 1) := by decide +kernel
theorem dX7_signHere_97 : decode cX7_signHere 97 = .ok (.ireturn, 1) := by decide +kernel
theorem dX7_signHere_98 : decode cX7_signHere 98 = .ok (.bipush (-2), 2) := by decide +kernel
theorem dX7_signHere_100 : decode cX7_signHere 100 = .ok (.ireturn, 1) := by decide +kernel
theorem dX7_signHere_101 : decode cX7_signHere 101 = .ok (.bipush (-3), 2) := by decide +kernel
theorem dX7_signHere_103 : decode cX7_signHere 103 = .ok (.ireturn, 1) := by decide +kernel
theorem dX7_signHere_104 : decode cX7_signHere 104 = .ok (.bipush (-4), 2) := by decide +kernel
theorem dX7_signHere_106 : decode cX7_signHere 106 = .ok (.ireturn, 1) := by decide +kernel
theorem dX7_signHere_107 : decode cX7_signHere 107 = .ok (.bipush (-5), 2) := by decide +kernel
theorem dX7_signHere_109 : decode cX7_signHere 109 = .ok (.ireturn, 1) := by decide +kernel
theorem dX7_signHere_110 : decode cX7_signHere 110 = .ok (.bipush (-6), 2) := by decide +kernel
theorem dX7_signHere_112 : decode cX7_signHere 112 = .ok (.ireturn, 1) := by decide +kernel
theorem dX7_signHere_113 : decode cX7_signHere 113 = .ok (.bipush (-7), 2) := by decide +kernel
theorem dX7_signHere_115 : decode cX7_signHere 115 = .ok (.ireturn, 1) := by decide +kernel
theorem dX7_signHere_116 : decode cX7_signHere 116 = .ok (.bipush (-8), 2) := by decide +kernel
theorem dX7_signHere_118 : decode cX7_signHere 118 = .ok (.ireturn, 1) := by decide +kernel
theorem dX7_signHere_119 : decode cX7_signHere 119 = .ok (.bipush (-9), 2) := by decide +kernel
theorem dX7_signHere_121 : decode cX7_signHere 121 = .ok (.ireturn, 1) := by decide +kernel
theorem dX7_signHere_122 : decode cX7_signHere 122 = .ok (.iconst 0, 1) := by decide +kernel
theorem dX7_signHere_123 : decode cX7_signHere 123 = .ok (.ireturn, 1) := by decide +kernel
theorem dX7_takesPart_0 : decode cX7_takesPart 0 = .ok (.aload_n 0, 1) := by decide +kernel
theorem dX7_takesPart_1 : decode cX7_takesPart 1 = .ok (.getfield 194, 3) := by decide +kernel
theorem dX7_takesPart_4 : decode cX7_takesPart 4 = .ok (.iconst 1, 1) := by decide +kernel
theorem dX7_takesPart_5 : decode cX7_takesPart 5 = .ok (.if_icmp .ne 31, 3) := by decide +kernel
theorem dX7_takesPart_8 : decode cX7_takesPart 8 = .ok (.aload_n 0, 1) := by decide +kernel
theorem dX7_takesPart_9 : decode cX7_takesPart 9 = .ok (.getfield 185, 3) := by decide +kernel
theorem dX7_takesPart_12 : decode cX7_takesPart 12 = .ok (.aload_n 0, 1) := by decide +kernel
theorem dX7_takesPart_13 : decode cX7_takesPart 13 = .ok (.getfield 188, 3) := by decide +kernel
theorem dX7_takesPart_16 : decode cX7_takesPart 16 = .ok (.isub, 1) := by decide +kernel
theorem dX7_takesPart_17 : decode cX7_takesPart 17 = .ok (.iconst 1, 1) := by decide +kernel
theorem dX7_takesPart_18 : decode cX7_takesPart 18 = .ok (.if_icmp .ne 18, 3) := by decide +kernel
theorem dX7_takesPart_21 : decode cX7_takesPart 21 = .ok (.aload_n 0, 1) := by decide +kernel
theorem dX7_takesPart_22 : decode cX7_takesPart 22 = .ok (.aload_n 0, 1) := by decide +kernel
theorem dX7_takesPart_23 : decode cX7_takesPart 23 = .ok (.getfield 200, 3) := by decide +kernel
theorem dX7_takesPart_26 : decode cX7_takesPart 26 = .ok (.invokevirtual 221, 3) := by decide +kernel
theorem dX7_takesPart_29 : decode cX7_takesPart 29 = .ok (.ifCond .lt 7, 3) := by decide +kernel
theorem dX7_takesPart_32 : decode cX7_takesPart 32 = .ok (.iconst 1, 1) := by decide +kernel
theorem dX7_takesPart_33 : decode cX7_takesPart 33 = .ok (.goto 4, 3) := by decide +kernel
theorem dX7_takesPart_36 : decode cX7_takesPart 36 = .ok (.iconst 0, 1) := by decide +kernel
theorem dX7_takesPart_37 : decode cX7_takesPart 37 = .ok (.istore_n 1, 1) := by decide +kernel
theorem dX7_takesPart_38 : decode cX7_takesPart 38 = .ok (.aload_n 0, 1) := by decide +kernel
theorem dX7_takesPart_39 : decode cX7_takesPart 39 = .ok (.getfield 194, 3) := by decide +kernel
theorem dX7_takesPart_42 : decode cX7_takesPart 42 = .ok (.iconst 2, 1) := by decide +kernel
theorem dX7_takesPart_43 : decode cX7_takesPart 43 = .ok (.if_icmp .eq 9, 3) := by decide +kernel
theorem dX7_takesPart_46 : decode cX7_takesPart 46 = .ok (.iload_n 1, 1) := by decide +kernel
theorem dX7_takesPart_47 : decode cX7_takesPart 47 = .ok (.ifCond .ne 5, 3) := by decide +kernel
theorem dX7_takesPart_50 : decode cX7_takesPart 50 = .ok (.iconst 0, 1) := by decide +kernel
theorem dX7_takesPart_51 : decode cX7_takesPart 51 = .ok (.ireturn, 1) := by decide +kernel
theorem dX7_takesPart_52 : decode cX7_takesPart 52 = .ok (.aload_n 0, 1) := by decide +kernel
theorem dX7_takesPart_53 : decode cX7_takesPart 53 = .ok (.getfield 32, 3) := by decide +kernel
theorem dX7_takesPart_56 : decode cX7_takesPart 56 = .ok (.aload_n 0, 1) := by decide +kernel
theorem dX7_takesPart_57 : decode cX7_takesPart 57 = .ok (.getfield 218, 3) := by decide +kernel
theorem dX7_takesPart_60 : decode cX7_takesPart 60 = .ok (.aload_n 0, 1) := by decide +kernel
theorem dX7_takesPart_61 : decode cX7_takesPart 61 = .ok (.getfield 194, 3) := by decide +kernel
theorem dX7_takesPart_64 : decode cX7_takesPart 64 = .ok (.iconst 2, 1) := by decide +kernel
theorem dX7_takesPart_65 : decode cX7_takesPart 65 = .ok (.if_icmp .ne 10, 3) := by decide +kernel
theorem dX7_takesPart_68 : decode cX7_takesPart 68 = .ok (.aload_n 0, 1) := by decide +kernel
theorem dX7_takesPart_69 : decode cX7_takesPart 69 = .ok (.getfield 200, 3) := by decide +kernel
theorem dX7_takesPart_72 : decode cX7_takesPart 72 = .ok (.goto 15, 3) := by decide +kernel
theorem dX7_takesPart_75 : decode cX7_takesPart 75 = .ok (.sipush 10000, 3) := by decide +kernel
theorem dX7_takesPart_78 : decode cX7_takesPart 78 = .ok (.aload_n 0, 1) := by decide +kernel
theorem dX7_takesPart_79 : decode cX7_takesPart 79 = .ok (.aload_n 0, 1) := by decide +kernel
theorem dX7_takesPart_80 : decode cX7_takesPart 80 = .ok (.getfield 200, 3) := by decide +kernel
theorem dX7_takesPart_83 : decode cX7_takesPart 83 = .ok (.invokevirtual 221, 3) := by decide +kernel
theorem dX7_takesPart_86 : decode cX7_takesPart 86 = .ok (.iadd, 1) := by decide +kernel
theorem dX7_takesPart_87 : decode cX7_takesPart 87 = .ok (.iastore, 1) := by decide +kernel
theorem dX7_takesPart_88 : decode cX7_takesPart 88 = .ok (.aload_n 0, 1) := by decide +kernel
theorem dX7_takesPart_89 : decode cX7_takesPart 89 = .ok (.dup, 1) := by decide +kernel
theorem dX7_takesPart_90 : decode cX7_takesPart 90 = .ok (.getfield 218, 3) := by decide +kernel
theorem dX7_takesPart_93 : decode cX7_takesPart 93 = .ok (.iconst 1, 1) := by decide +kernel
theorem dX7_takesPart_94 : decode cX7_takesPart 94 = .ok (.iadd, 1) := by decide +kernel
theorem dX7_takesPart_95 : decode cX7_takesPart 95 = .ok (.putfield 218, 3) := by decide +kernel
theorem dX7_takesPart_98 : decode cX7_takesPart 98 = .ok (.aload_n 0, 1) := by decide +kernel
theorem dX7_takesPart_99 : decode cX7_takesPart 99 = .ok (.dup, 1) := by decide +kernel
theorem dX7_takesPart_100 : decode cX7_takesPart 100 = .ok (.getfield 224, 3) := by decide +kernel
theorem dX7_takesPart_103 : decode cX7_takesPart 103 = .ok (.iconst 1, 1) := by decide +kernel
theorem dX7_takesPart_104 : decode cX7_takesPart 104 = .ok (.iadd, 1) := by decide +kernel
theorem dX7_takesPart_105 : decode cX7_takesPart 105 = .ok (.putfield 224, 3) := by decide +kernel
theorem dX7_takesPart_108 : decode cX7_takesPart 108 = .ok (.aload_n 0, 1) := by decide +kernel
theorem dX7_takesPart_109 : decode cX7_takesPart 109 = .ok (.bipush 6, 2) := by decide +kernel
theorem dX7_takesPart_111 : decode cX7_takesPart 111 = .ok (.invokevirtual 227, 3) := by decide +kernel
theorem dX7_takesPart_114 : decode cX7_takesPart 114 = .ok (.aload_n 0, 1) := by decide +kernel
theorem dX7_takesPart_115 : decode cX7_takesPart 115 = .ok (.invokevirtual 209, 3) := by decide +kernel
theorem dX7_takesPart_118 : decode cX7_takesPart 118 = .ok (.iconst 1, 1) := by decide +kernel
theorem dX7_takesPart_119 : decode cX7_takesPart 119 = .ok (.ireturn, 1) := by decide +kernel
theorem dX7_takesE_0 : decode cX7_takesE 0 = .ok (.iconst 0, 1) := by decide +kernel
theorem dX7_takesE_1 : decode cX7_takesE 1 = .ok (.istore_n 1, 1) := by decide +kernel
theorem dX7_takesE_2 : decode cX7_takesE 2 = .ok (.iconst 0, 1) := by decide +kernel
theorem dX7_takesE_3 : decode cX7_takesE 3 = .ok (.istore_n 2, 1) := by decide +kernel
theorem dX7_takesE_4 : decode cX7_takesE 4 = .ok (.iconst 1, 1) := by decide +kernel
theorem dX7_takesE_5 : decode cX7_takesE 5 = .ok (.istore_n 3, 1) := by decide +kernel
theorem dX7_takesE_6 : decode cX7_takesE 6 = .ok (.aload_n 0, 1) := by decide +kernel
theorem dX7_takesE_7 : decode cX7_takesE 7 = .ok (.iconst 0, 1) := by decide +kernel
theorem dX7_takesE_8 : decode cX7_takesE 8 = .ok (.putfield 218, 3) := by decide +kernel
theorem dX7_takesE_11 : decode cX7_takesE 11 = .ok (.aload_n 0, 1) := by decide +kernel
theorem dX7_takesE_12 : decode cX7_takesE 12 = .ok (.iconst 0, 1) := by decide +kernel
theorem dX7_takesE_13 : decode cX7_takesE 13 = .ok (.putfield 224, 3) := by decide +kernel
theorem dX7_takesE_16 : decode cX7_takesE 16 = .ok (.aload_n 0, 1) := by decide +kernel
theorem dX7_takesE_17 : decode cX7_takesE 17 = .ok (.iconst 0, 1) := by decide +kernel
theorem dX7_takesE_18 : decode cX7_takesE 18 = .ok (.putfield 212, 3) := by decide +kernel
theorem dX7_takesE_21 : decode cX7_takesE 21 = .ok (.aload_n 0, 1) := by decide +kernel
theorem dX7_takesE_22 : decode cX7_takesE 22 = .ok (.getfield 38, 3) := by decide +kernel
theorem dX7_takesE_25 : decode cX7_takesE 25 = .ok (.iconst 0, 1) := by decide +kernel
theorem dX7_takesE_26 : decode cX7_takesE 26 = .ok (.iconst 0, 1) := by decide +kernel
theorem dX7_takesE_27 : decode cX7_takesE 27 = .ok (.bastore, 1) := by decide +kernel
theorem dX7_takesE_28 : decode cX7_takesE 28 = .ok (.iload_n 3, 1) := by decide +kernel
theorem dX7_takesE_29 : decode cX7_takesE 29 = .ok (.ifCond .ne 10, 3) := by decide +kernel
theorem dX7_takesE_32 : decode cX7_takesE 32 = .ok (.aload_n 0, 1) := by decide +kernel
theorem dX7_takesE_33 : decode cX7_takesE 33 = .ok (.getfield 194, 3) := by decide +kernel
theorem dX7_takesE_36 : decode cX7_takesE 36 = .ok (.ifCond .eq 309, 3) := by decide +kernel
theorem dX7_takesE_39 : decode cX7_takesE 39 = .ok (.iload_n 3, 1) := by decide +kernel
theorem dX7_takesE_40 : decode cX7_takesE 40 = .ok (.ifCond .eq 140, 3) := by decide +kernel
theorem dX7_takesE_43 : decode cX7_takesE 43 = .ok (.aload_n 0, 1) := by decide +kernel
theorem dX7_takesE_44 : decode cX7_takesE 44 = .ok (.getfield 194, 3) := by decide +kernel
theorem dX7_takesE_47 : decode cX7_takesE 47 = .ok (.iconst 3, 1) := by decide +kernel
theorem dX7_takesE_48 : decode cX7_takesE 48 = .ok (.if_icmp .ne 49, 3) := by decide +kernel
theorem dX7_takesE_51 : decode cX7_takesE 51 = .ok (.aload_n 0, 1) := by decide +kernel
theorem dX7_takesE_52 : decode cX7_takesE 52 = .ok (.getfield 200, 3) := by decide +kernel
theorem dX7_takesE_55 : decode cX7_takesE 55 = .ok (.bipush 33, 2) := by decide +kernel
theorem dX7_takesE_57 : decode cX7_takesE 57 = .ok (.if_icmp .ne 40, 3) := by decide +kernel
theorem dX7_takesE_60 : decode cX7_takesE 60 = .ok (.iload_n 2, 1) := by decide +kernel
theorem dX7_takesE_61 : decode cX7_takesE 61 = .ok (.bipush 8, 2) := by decide +kernel
theorem dX7_takesE_63 : decode cX7_takesE 63 = .ok (.if_icmp .ge 34, 3) := by decide +kernel
theorem dX7_takesE_66 : decode cX7_takesE 66 = .ok (.aload_n 0, 1) := by decide +kernel
theorem dX7_takesE_67 : decode cX7_takesE 67 = .ok (.getfield 35, 3) := by decide +kernel
theorem dX7_takesE_70 : decode cX7_takesE 70 = .ok (.aload_n 0, 1) := by decide +kernel
theorem dX7_takesE_71 : decode cX7_takesE 71 = .ok (.getfield 212, 3) := by decide +kernel
theorem dX7_takesE_74 : decode cX7_takesE 74 = .ok (.bipush (-10), 2) := by decide +kernel
theorem dX7_takesE_76 : decode cX7_takesE 76 = .ok (.iastore, 1) := by decide +kernel
theorem dX7_takesE_77 : decode cX7_takesE 77 = .ok (.aload_n 0, 1) := by decide +kernel
theorem dX7_takesE_78 : decode cX7_takesE 78 = .ok (.dup, 1) := by decide +kernel
theorem dX7_takesE_79 : decode cX7_takesE 79 = .ok (.getfield 212, 3) := by decide +kernel
theorem dX7_takesE_82 : decode cX7_takesE 82 = .ok (.iconst 1, 1) := by decide +kernel
theorem dX7_takesE_83 : decode cX7_takesE 83 = .ok (.iadd, 1) := by decide +kernel
theorem dX7_takesE_84 : decode cX7_takesE 84 = .ok (.putfield 212, 3) := by decide +kernel
theorem dX7_takesE_87 : decode cX7_takesE 87 = .ok (.iinc 2 1, 3) := by decide +kernel
theorem dX7_takesE_90 : decode cX7_takesE 90 = .ok (.aload_n 0, 1) := by decide +kernel
theorem dX7_takesE_91 : decode cX7_takesE 91 = .ok (.invokevirtual 209, 3) := by decide +kernel
theorem dX7_takesE_94 : decode cX7_takesE 94 = .ok (.goto 78, 3) := by decide +kernel
theorem dX7_takesE_97 : decode cX7_takesE 97 = .ok (.aload_n 0, 1) := by decide +kernel
theorem dX7_takesE_98 : decode cX7_takesE 98 = .ok (.getfield 194, 3) := by decide +kernel
theorem dX7_takesE_101 : decode cX7_takesE 101 = .ok (.iconst 3, 1) := by decide +kernel
theorem dX7_takesE_102 : decode cX7_takesE 102 = .ok (.if_icmp .ne 56, 3) := by decide +kernel
theorem dX7_takesE_105 : decode cX7_takesE 105 = .ok (.aload_n 0, 1) := by decide +kernel
theorem dX7_takesE_106 : decode cX7_takesE 106 = .ok (.getfield 200, 3) := by decide +kernel
theorem dX7_takesE_109 : decode cX7_takesE 109 = .ok (.bipush 40, 2) := by decide +kernel
theorem dX7_takesE_111 : decode cX7_takesE 111 = .ok (.if_icmp .ne 47, 3) := by decide +kernel
theorem dX7_takesE_114 : decode cX7_takesE 114 = .ok (.iload_n 1, 1) := by decide +kernel
theorem dX7_takesE_115 : decode cX7_takesE 115 = .ok (.bipush 8, 2) := by decide +kernel
theorem dX7_takesE_117 : decode cX7_takesE 117 = .ok (.if_icmp .ge 41, 3) := by decide +kernel
theorem dX7_takesE_120 : decode cX7_takesE 120 = .ok (.aload_n 0, 1) := by decide +kernel
theorem dX7_takesE_121 : decode cX7_takesE 121 = .ok (.getfield 35, 3) := by decide +kernel
theorem dX7_takesE_124 : decode cX7_takesE 124 = .ok (.aload_n 0, 1) := by decide +kernel
theorem dX7_takesE_125 : decode cX7_takesE 125 = .ok (.getfield 212, 3) := by decide +kernel
theorem dX7_takesE_128 : decode cX7_takesE 128 = .ok (.bipush (-11), 2) := by decide +kernel
theorem dX7_takesE_130 : decode cX7_takesE 130 = .ok (.iastore, 1) := by decide +kernel
theorem dX7_takesE_131 : decode cX7_takesE 131 = .ok (.aload_n 0, 1) := by decide +kernel
theorem dX7_takesE_132 : decode cX7_takesE 132 = .ok (.dup, 1) := by decide +kernel
theorem dX7_takesE_133 : decode cX7_takesE 133 = .ok (.getfield 212, 3) := by decide +kernel
theorem dX7_takesE_136 : decode cX7_takesE 136 = .ok (.iconst 1, 1) := by decide +kernel
theorem dX7_takesE_137 : decode cX7_takesE 137 = .ok (.iadd, 1) := by decide +kernel
theorem dX7_takesE_138 : decode cX7_takesE 138 = .ok (.putfield 212, 3) := by decide +kernel
theorem dX7_takesE_141 : decode cX7_takesE 141 = .ok (.iinc 1 1, 3) := by decide +kernel
theorem dX7_takesE_144 : decode cX7_takesE 144 = .ok (.aload_n 0, 1) := by decide +kernel
theorem dX7_takesE_145 : decode cX7_takesE 145 = .ok (.getfield 38, 3) := by decide +kernel
theorem dX7_takesE_148 : decode cX7_takesE 148 = .ok (.iload_n 1, 1) := by decide +kernel
theorem dX7_takesE_149 : decode cX7_takesE 149 = .ok (.iconst 0, 1) := by decide +kernel
theorem dX7_takesE_150 : decode cX7_takesE 150 = .ok (.bastore, 1) := by decide +kernel
theorem dX7_takesE_151 : decode cX7_takesE 151 = .ok (.aload_n 0, 1) := by decide +kernel
theorem dX7_takesE_152 : decode cX7_takesE 152 = .ok (.invokevirtual 209, 3) := by decide +kernel
theorem dX7_takesE_155 : decode cX7_takesE 155 = .ok (.goto 17, 3) := by decide +kernel
theorem dX7_takesE_158 : decode cX7_takesE 158 = .ok (.aload_n 0, 1) := by decide +kernel
theorem dX7_takesE_159 : decode cX7_takesE 159 = .ok (.invokevirtual 231, 3) := by decide +kernel
theorem dX7_takesE_162 : decode cX7_takesE 162 = .ok (.ifCond .eq 8, 3) := by decide +kernel
theorem dX7_takesE_165 : decode cX7_takesE 165 = .ok (.iconst 0, 1) := by decide +kernel
theorem dX7_takesE_166 : decode cX7_takesE 166 = .ok (.istore_n 3, 1) := by decide +kernel
theorem dX7_takesE_167 : decode cX7_takesE 167 = .ok (.goto 5, 3) := by decide +kernel
theorem dX7_takesE_170 : decode cX7_takesE 170 = .ok (.iconst 0, 1) := by decide +kernel
theorem dX7_takesE_171 : decode cX7_takesE 171 = .ok (.ireturn, 1) := by decide +kernel
theorem dX7_takesE_172 : decode cX7_takesE 172 = .ok (.aload_n 0, 1) := by decide +kernel
theorem dX7_takesE_173 : decode cX7_takesE 173 = .ok (.invokevirtual 235, 3) := by decide +kernel
theorem dX7_takesE_176 : decode cX7_takesE 176 = .ok (.istore_n 2, 1) := by decide +kernel
theorem dX7_takesE_177 : decode cX7_takesE 177 = .ok (.goto (-149), 3) := by decide +kernel
theorem dX7_takesE_180 : decode cX7_takesE 180 = .ok (.aload_n 0, 1) := by decide +kernel
theorem dX7_takesE_181 : decode cX7_takesE 181 = .ok (.getfield 194, 3) := by decide +kernel
theorem dX7_takesE_184 : decode cX7_takesE 184 = .ok (.iconst 3, 1) := by decide +kernel
theorem dX7_takesE_185 : decode cX7_takesE 185 = .ok (.if_icmp .ne 52, 3) := by decide +kernel
theorem dX7_takesE_188 : decode cX7_takesE 188 = .ok (.aload_n 0, 1) := by decide +kernel
theorem dX7_takesE_189 : decode cX7_takesE 189 = .ok (.getfield 200, 3) := by decide +kernel
theorem dX7_takesE_192 : decode cX7_takesE 192 = .ok (.bipush 41, 2) := by decide +kernel
theorem dX7_takesE_194 : decode cX7_takesE 194 = .ok (.if_icmp .ne 43, 3) := by decide +kernel
theorem dX7_takesE_197 : decode cX7_takesE 197 = .ok (.iload_n 1, 1) := by decide +kernel
theorem dX7_takesE_198 : decode cX7_takesE 198 = .ok (.ifCond .le 39, 3) := by decide +kernel
theorem dX7_takesE_201 : decode cX7_takesE 201 = .ok (.aload_n 0, 1) := by decide +kernel
theorem dX7_takesE_202 : decode cX7_takesE 202 = .ok (.iconst 0, 1) := by decide +kernel
theorem dX7_takesE_203 : decode cX7_takesE 203 = .ok (.invokevirtual 227, 3) := by decide +kernel
theorem dX7_takesE_206 : decode cX7_takesE 206 = .ok (.aload_n 0, 1) := by decide +kernel
theorem dX7_takesE_207 : decode cX7_takesE 207 = .ok (.dup, 1) := by decide +kernel
theorem dX7_takesE_208 : decode cX7_takesE 208 = .ok (.getfield 212, 3) := by decide +kernel
theorem dX7_takesE_211 : decode cX7_takesE 211 = .ok (.iconst 1, 1) := by decide +kernel
theorem dX7_takesE_212 : decode cX7_takesE 212 = .ok (.isub, 1) := by decide +kernel
theorem dX7_takesE_213 : decode cX7_takesE 213 = .ok (.putfield 212, 3) := by decide +kernel
theorem dX7_takesE_216 : decode cX7_takesE 216 = .ok (.iinc 1 (-1), 3) := by decide +kernel
theorem dX7_takesE_219 : decode cX7_takesE 219 = .ok (.aload_n 0, 1) := by decide +kernel
theorem dX7_takesE_220 : decode cX7_takesE 220 = .ok (.bipush 6, 2) := by decide +kernel
theorem dX7_takesE_222 : decode cX7_takesE 222 = .ok (.invokevirtual 227, 3) := by decide +kernel
theorem dX7_takesE_225 : decode cX7_takesE 225 = .ok (.aload_n 0, 1) := by decide +kernel
theorem dX7_takesE_226 : decode cX7_takesE 226 = .ok (.invokevirtual 235, 3) := by decide +kernel
theorem dX7_takesE_229 : decode cX7_takesE 229 = .ok (.istore_n 2, 1) := by decide +kernel
theorem dX7_takesE_230 : decode cX7_takesE 230 = .ok (.aload_n 0, 1) := by decide +kernel
theorem dX7_takesE_231 : decode cX7_takesE 231 = .ok (.invokevirtual 209, 3) := by decide +kernel
theorem dX7_takesE_234 : decode cX7_takesE 234 = .ok (.goto (-206), 3) := by decide +kernel
theorem dX7_takesE_237 : decode cX7_takesE 237 = .ok (.aload_n 0, 1) := by decide +kernel
theorem dX7_takesE_238 : decode cX7_takesE 238 = .ok (.invokevirtual 238, 3) := by decide +kernel
theorem dX7_takesE_241 : decode cX7_takesE 241 = .ok (.istore 4, 2) := by decide +kernel
theorem dX7_takesE_243 : decode cX7_takesE 243 = .ok (.iload 4, 2) := by decide +kernel
theorem dX7_takesE_245 : decode cX7_takesE 245 = .ok (.ifCond .eq 21, 3) := by decide +kernel
theorem dX7_takesE_248 : decode cX7_takesE 248 = .ok (.iload 4, 2) := by decide +kernel
theorem dX7_takesE_250 : decode cX7_takesE 250 = .ok (.invokestatic 215, 3) := by decide +kernel
theorem dX7_takesE_253 : decode cX7_takesE 253 = .ok (.iconst 3, 1) := by decide +kernel
theorem dX7_takesE_254 : decode cX7_takesE 254 = .ok (.if_icmp .ne 14, 3) := by decide +kernel
theorem dX7_takesE_257 : decode cX7_takesE 257 = .ok (.aload_n 0, 1) := by decide +kernel
theorem dX7_takesE_258 : decode cX7_takesE 258 = .ok (.getfield 38, 3) := by decide +kernel
theorem dX7_takesE_261 : decode cX7_takesE 261 = .ok (.iload_n 1, 1) := by decide +kernel
theorem dX7_takesE_262 : decode cX7_takesE 262 = .ok (.baload, 1) := by decide +kernel
theorem dX7_takesE_263 : decode cX7_takesE 263 = .ok (.ifCond .eq 5, 3) := by decide +kernel
theorem dX7_takesE_266 : decode cX7_takesE 266 = .ok (.iconst 0, 1) := by decide +kernel
theorem dX7_takesE_267 : decode cX7_takesE 267 = .ok (.ireturn, 1) := by decide +kernel
theorem dX7_takesE_268 : decode cX7_takesE 268 = .ok (.aload_n 0, 1) := by decide +kernel
theorem dX7_takesE_269 : decode cX7_takesE 269 = .ok (.getfield 38, 3) := by decide +kernel
theorem dX7_takesE_272 : decode cX7_takesE 272 = .ok (.iload_n 1, 1) := by decide +kernel
theorem dX7_takesE_273 : decode cX7_takesE 273 = .ok (.iload 4, 2) := by decide +kernel
theorem dX7_takesE_275 : decode cX7_takesE 275 = .ok (.invokestatic 215, 3) := by decide +kernel
theorem dX7_takesE_278 : decode cX7_takesE 278 = .ok (.iconst 3, 1) := by decide +kernel
theorem dX7_takesE_279 : decode cX7_takesE 279 = .ok (.if_icmp .eq 21, 3) := by decide +kernel
theorem dX7_takesE_282 : decode cX7_takesE 282 = .ok (.iload 4, 2) := by decide +kernel
theorem dX7_takesE_284 : decode cX7_takesE 284 = .ok (.invokestatic 215, 3) := by decide +kernel
theorem dX7_takesE_287 : decode cX7_takesE 287 = .ok (.iconst 3, 1) := by decide +kernel
theorem dX7_takesE_288 : decode cX7_takesE 288 = .ok (.if_icmp .le 16, 3) := by decide +kernel
theorem dX7_takesE_291 : decode cX7_takesE 291 = .ok (.aload_n 0, 1) := by decide +kernel
theorem dX7_takesE_292 : decode cX7_takesE 292 = .ok (.getfield 38, 3) := by decide +kernel
theorem dX7_takesE_295 : decode cX7_takesE 295 = .ok (.iload_n 1, 1) := by decide +kernel
theorem dX7_takesE_296 : decode cX7_takesE 296 = .ok (.baload, 1) := by decide +kernel
theorem dX7_takesE_297 : decode cX7_takesE 297 = .ok (.ifCond .eq 7, 3) := by decide +kernel
theorem dX7_takesE_300 : decode cX7_takesE 300 = .ok (.iconst 1, 1) := by decide +kernel
theorem dX7_takesE_301 : decode cX7_takesE 301 = .ok (.goto 4, 3) := by decide +kernel
theorem dX7_takesE_304 : decode cX7_takesE 304 = .ok (.iconst 0, 1) := by decide +kernel
theorem dX7_takesE_305 : decode cX7_takesE 305 = .ok (.bastore, 1) := by decide +kernel
theorem dX7_takesE_306 : decode cX7_takesE 306 = .ok (.aload_n 0, 1) := by decide +kernel
theorem dX7_takesE_307 : decode cX7_takesE 307 = .ok (.iload 4, 2) := by decide +kernel
theorem dX7_takesE_309 : decode cX7_takesE 309 = .ok (.invokestatic 215, 3) := by decide +kernel
theorem dX7_takesE_312 : decode cX7_takesE 312 = .ok (.invokevirtual 227, 3) := by decide +kernel
theorem dX7_takesE_315 : decode cX7_takesE 315 = .ok (.aload_n 0, 1) := by decide +kernel
theorem dX7_takesE_316 : decode cX7_takesE 316 = .ok (.getfield 35, 3) := by decide +kernel
theorem dX7_takesE_319 : decode cX7_takesE 319 = .ok (.aload_n 0, 1) := by decide +kernel
theorem dX7_takesE_320 : decode cX7_takesE 320 = .ok (.getfield 212, 3) := by decide +kernel
theorem dX7_takesE_323 : decode cX7_takesE 323 = .ok (.iload 4, 2) := by decide +kernel
theorem dX7_takesE_325 : decode cX7_takesE 325 = .ok (.iastore, 1) := by decide +kernel
theorem dX7_takesE_326 : decode cX7_takesE 326 = .ok (.aload_n 0, 1) := by decide +kernel
theorem dX7_takesE_327 : decode cX7_takesE 327 = .ok (.dup, 1) := by decide +kernel
theorem dX7_takesE_328 : decode cX7_takesE 328 = .ok (.getfield 212, 3) := by decide +kernel
theorem dX7_takesE_331 : decode cX7_takesE 331 = .ok (.iconst 1, 1) := by decide +kernel
theorem dX7_takesE_332 : decode cX7_takesE 332 = .ok (.iadd, 1) := by decide +kernel
theorem dX7_takesE_333 : decode cX7_takesE 333 = .ok (.putfield 212, 3) := by decide +kernel
theorem dX7_takesE_336 : decode cX7_takesE 336 = .ok (.iconst 1, 1) := by decide +kernel
theorem dX7_takesE_337 : decode cX7_takesE 337 = .ok (.istore_n 3, 1) := by decide +kernel
theorem dX7_takesE_338 : decode cX7_takesE 338 = .ok (.aload_n 0, 1) := by decide +kernel
theorem dX7_takesE_339 : decode cX7_takesE 339 = .ok (.invokevirtual 209, 3) := by decide +kernel
theorem dX7_takesE_342 : decode cX7_takesE 342 = .ok (.goto (-314), 3) := by decide +kernel
theorem dX7_takesE_345 : decode cX7_takesE 345 = .ok (.aload_n 0, 1) := by decide +kernel
theorem dX7_takesE_346 : decode cX7_takesE 346 = .ok (.iconst 0, 1) := by decide +kernel
theorem dX7_takesE_347 : decode cX7_takesE 347 = .ok (.invokevirtual 227, 3) := by decide +kernel
theorem dX7_takesE_350 : decode cX7_takesE 350 = .ok (.iload_n 1, 1) := by decide +kernel
theorem dX7_takesE_351 : decode cX7_takesE 351 = .ok (.ifCond .ne 7, 3) := by decide +kernel
theorem dX7_takesE_354 : decode cX7_takesE 354 = .ok (.iconst 1, 1) := by decide +kernel
theorem dX7_takesE_355 : decode cX7_takesE 355 = .ok (.goto 4, 3) := by decide +kernel
theorem dX7_takesE_358 : decode cX7_takesE 358 = .ok (.iconst 0, 1) := by decide +kernel
theorem dX7_takesE_359 : decode cX7_takesE 359 = .ok (.ireturn, 1) := by decide +kernel
theorem dX7_notsOpen_0 : decode cX7_notsOpen 0 = .ok (.iconst 0, 1) := by decide +kernel
theorem dX7_notsOpen_1 : decode cX7_notsOpen 1 = .ok (.istore_n 1, 1) := by decide +kernel
theorem dX7_notsOpen_2 : decode cX7_notsOpen 2 = .ok (.iconst 0, 1) := by decide +kernel
theorem dX7_notsOpen_3 : decode cX7_notsOpen 3 = .ok (.istore_n 2, 1) := by decide +kernel
theorem dX7_notsOpen_4 : decode cX7_notsOpen 4 = .ok (.iload_n 2, 1) := by decide +kernel
theorem dX7_notsOpen_5 : decode cX7_notsOpen 5 = .ok (.aload_n 0, 1) := by decide +kernel
theorem dX7_notsOpen_6 : decode cX7_notsOpen 6 = .ok (.getfield 212, 3) := by decide +kernel
theorem dX7_notsOpen_9 : decode cX7_notsOpen 9 = .ok (.if_icmp .ge 28, 3) := by decide +kernel
theorem dX7_notsOpen_12 : decode cX7_notsOpen 12 = .ok (.iload_n 1, 1) := by decide +kernel
theorem dX7_notsOpen_13 : decode cX7_notsOpen 13 = .ok (.aload_n 0, 1) := by decide +kernel
theorem dX7_notsOpen_14 : decode cX7_notsOpen 14 = .ok (.getfield 35, 3) := by decide +kernel
theorem dX7_notsOpen_17 : decode cX7_notsOpen 17 = .ok (.iload_n 2, 1) := by decide +kernel
theorem dX7_notsOpen_18 : decode cX7_notsOpen 18 = .ok (.iaload, 1) := by decide +kernel
theorem dX7_notsOpen_19 : decode cX7_notsOpen 19 = .ok (.bipush (-10), 2) := by decide +kernel
theorem dX7_notsOpen_21 : decode cX7_notsOpen 21 = .ok (.if_icmp .ne 7, 3) := by decide +kernel
theorem dX7_notsOpen_24 : decode cX7_notsOpen 24 = .ok (.iconst 1, 1) := by decide +kernel
theorem dX7_notsOpen_25 : decode cX7_notsOpen 25 = .ok (.goto 4, 3) := by decide +kernel
theorem dX7_notsOpen_28 : decode cX7_notsOpen 28 = .ok (.iconst 0, 1) := by decide +kernel
theorem dX7_notsOpen_29 : decode cX7_notsOpen 29 = .ok (.iadd, 1) := by decide +kernel
theorem dX7_notsOpen_30 : decode cX7_notsOpen 30 = .ok (.istore_n 1, 1) := by decide +kernel
theorem dX7_notsOpen_31 : decode cX7_notsOpen 31 = .ok (.iinc 2 1, 3) := by decide +kernel
theorem dX7_notsOpen_34 : decode cX7_notsOpen 34 = .ok (.goto (-30), 3) := by decide +kernel
theorem dX7_notsOpen_37 : decode cX7_notsOpen 37 = .ok (.iload_n 1, 1) := by decide +kernel
theorem dX7_notsOpen_38 : decode cX7_notsOpen 38 = .ok (.ireturn, 1) := by decide +kernel
theorem dX7_text_0 : decode cX7_text 0 = .ok (.aload_n 0, 1) := by decide +kernel
theorem dX7_text_1 : decode cX7_text 1 = .ok (.iconst 0, 1) := by decide +kernel
theorem dX7_text_2 : decode cX7_text 2 = .ok (.putfield 185, 3) := by decide +kernel
theorem dX7_text_5 : decode cX7_text 5 = .ok (.aload_n 0, 1) := by decide +kernel
theorem dX7_text_6 : decode cX7_text 6 = .ok (.iconst (-1), 1) := by decide +kernel
theorem dX7_text_7 : decode cX7_text 7 = .ok (.putfield 191, 3) := by decide +kernel
theorem dX7_text_10 : decode cX7_text 10 = .ok (.aload_n 0, 1) := by decide +kernel
theorem dX7_text_11 : decode cX7_text 11 = .ok (.invokevirtual 209, 3) := by decide +kernel
theorem dX7_text_14 : decode cX7_text 14 = .ok (.aload_n 0, 1) := by decide +kernel
theorem dX7_text_15 : decode cX7_text 15 = .ok (.invokevirtual 241, 3) := by decide +kernel
theorem dX7_text_18 : decode cX7_text 18 = .ok (.ifCond .eq 14, 3) := by decide +kernel
theorem dX7_text_21 : decode cX7_text 21 = .ok (.aload_n 0, 1) := by decide +kernel
theorem dX7_text_22 : decode cX7_text 22 = .ok (.invokevirtual 244, 3) := by decide +kernel
theorem dX7_text_25 : decode cX7_text 25 = .ok (.ifCond .eq 7, 3) := by decide +kernel
theorem dX7_text_28 : decode cX7_text 28 = .ok (.iconst 1, 1) := by decide +kernel
theorem dX7_text_29 : decode cX7_text 29 = .ok (.goto 4, 3) := by decide +kernel
theorem dX7_text_32 : decode cX7_text 32 = .ok (.iconst 0, 1) := by decide +kernel
theorem dX7_text_33 : decode cX7_text 33 = .ok (.istore_n 1, 1) := by decide +kernel
theorem dX7_text_34 : decode cX7_text 34 = .ok (.aload_n 0, 1) := by decide +kernel
theorem dX7_text_35 : decode cX7_text 35 = .ok (.iconst 0, 1) := by decide +kernel
theorem dX7_text_36 : decode cX7_text 36 = .ok (.putfield 181, 3) := by decide +kernel
theorem dX7_text_39 : decode cX7_text 39 = .ok (.iload_n 1, 1) := by decide +kernel
theorem dX7_text_40 : decode cX7_text 40 = .ok (.ifCond .ne 11, 3) := by decide +kernel
theorem dX7_text_43 : decode cX7_text 43 = .ok (.bipush (-100), 2) := by decide +kernel
theorem dX7_text_45 : decode cX7_text 45 = .ok (.aload_n 0, 1) := by decide +kernel
theorem dX7_text_46 : decode cX7_text 46 = .ok (.getfield 188, 3) := by decide +kernel
theorem dX7_text_49 : decode cX7_text 49 = .ok (.isub, 1) := by decide +kernel
theorem dX7_text_50 : decode cX7_text 50 = .ok (.ireturn, 1) := by decide +kernel
theorem dX7_text_51 : decode cX7_text 51 = .ok (.aload_n 0, 1) := by decide +kernel
theorem dX7_text_52 : decode cX7_text 52 = .ok (.getfield 9, 3) := by decide +kernel
theorem dX7_text_55 : decode cX7_text 55 = .ok (.bipush 8, 2) := by decide +kernel
theorem dX7_text_57 : decode cX7_text 57 = .ok (.iaload, 1) := by decide +kernel
theorem dX7_text_58 : decode cX7_text 58 = .ok (.bipush 14, 2) := by decide +kernel
theorem dX7_text_60 : decode cX7_text 60 = .ok (.if_icmp .ne 6, 3) := by decide +kernel
theorem dX7_text_63 : decode cX7_text 63 = .ok (.ldc 98, 2) := by decide +kernel
theorem dX7_text_65 : decode cX7_text 65 = .ok (.ireturn, 1) := by decide +kernel
theorem dX7_text_66 : decode cX7_text 66 = .ok (.aload_n 0, 1) := by decide +kernel
theorem dX7_text_67 : decode cX7_text 67 = .ok (.getfield 9, 3) := by decide +kernel
theorem dX7_text_70 : decode cX7_text 70 = .ok (.bipush 8, 2) := by decide +kernel
theorem dX7_text_72 : decode cX7_text 72 = .ok (.iaload, 1) := by decide +kernel
theorem dX7_text_73 : decode cX7_text 73 = .ok (.istore_n 2, 1) := by decide +kernel
theorem dX7_text_74 : decode cX7_text 74 = .ok (.aload_n 0, 1) := by decide +kernel
theorem dX7_text_75 : decode cX7_text 75 = .ok (.getfield 9, 3) := by decide +kernel
theorem dX7_text_78 : decode cX7_text 78 = .ok (.bipush 93, 2) := by decide +kernel
theorem dX7_text_80 : decode cX7_text 80 = .ok (.iconst 2, 1) := by decide +kernel
theorem dX7_text_81 : decode cX7_text 81 = .ok (.iload_n 2, 1) := by decide +kernel
theorem dX7_text_82 : decode cX7_text 82 = .ok (.imul, 1) := by decide +kernel
theorem dX7_text_83 : decode cX7_text 83 = .ok (.iadd, 1) := by decide +kernel
theorem dX7_text_84 : decode cX7_text 84 = .ok (.sipush 1000, 3) := by decide +kernel
theorem dX7_text_87 : decode cX7_text 87 = .ok (.aload_n 0, 1) := by decide +kernel
theorem dX7_text_88 : decode cX7_text 88 = .ok (.getfield 206, 3) := by decide +kernel
theorem dX7_text_91 : decode cX7_text 91 = .ok (.imul, 1) := by decide +kernel
theorem dX7_text_92 : decode cX7_text 92 = .ok (.aload_n 0, 1) := by decide +kernel
theorem dX7_text_93 : decode cX7_text 93 = .ok (.getfield 218, 3) := by decide +kernel
theorem dX7_text_96 : decode cX7_text 96 = .ok (.iadd, 1) := by decide +kernel
theorem dX7_text_97 : decode cX7_text 97 = .ok (.iastore, 1) := by decide +kernel
theorem dX7_text_98 : decode cX7_text 98 = .ok (.aload_n 0, 1) := by decide +kernel
theorem dX7_text_99 : decode cX7_text 99 = .ok (.getfield 9, 3) := by decide +kernel
theorem dX7_text_102 : decode cX7_text 102 = .ok (.bipush 93, 2) := by decide +kernel
theorem dX7_text_104 : decode cX7_text 104 = .ok (.iconst 2, 1) := by decide +kernel
theorem dX7_text_105 : decode cX7_text 105 = .ok (.iload_n 2, 1) := by decide +kernel
theorem dX7_text_106 : decode cX7_text 106 = .ok (.imul, 1) := by decide +kernel
theorem dX7_text_107 : decode cX7_text 107 = .ok (.iadd, 1) := by decide +kernel
theorem dX7_text_108 : decode cX7_text 108 = .ok (.iconst 1, 1) := by decide +kernel
theorem dX7_text_109 : decode cX7_text 109 = .ok (.iadd, 1) := by decide +kernel
theorem dX7_text_110 : decode cX7_text 110 = .ok (.aload_n 0, 1) := by decide +kernel
theorem dX7_text_111 : decode cX7_text 111 = .ok (.getfield 224, 3) := by decide +kernel
theorem dX7_text_114 : decode cX7_text 114 = .ok (.iastore, 1) := by decide +kernel
theorem dX7_text_115 : decode cX7_text 115 = .ok (.iconst 0, 1) := by decide +kernel
theorem dX7_text_116 : decode cX7_text 116 = .ok (.istore_n 3, 1) := by decide +kernel
theorem dX7_text_117 : decode cX7_text 117 = .ok (.iload_n 3, 1) := by decide +kernel
theorem dX7_text_118 : decode cX7_text 118 = .ok (.aload_n 0, 1) := by decide +kernel
theorem dX7_text_119 : decode cX7_text 119 = .ok (.getfield 218, 3) := by decide +kernel
theorem dX7_text_122 : decode cX7_text 122 = .ok (.if_icmp .ge 29, 3) := by decide +kernel
theorem dX7_text_125 : decode cX7_text 125 = .ok (.aload_n 0, 1) := by decide +kernel
theorem dX7_text_126 : decode cX7_text 126 = .ok (.getfield 9, 3) := by decide +kernel
theorem dX7_text_129 : decode cX7_text 129 = .ok (.bipush 121, 2) := by decide +kernel
theorem dX7_text_131 : decode cX7_text 131 = .ok (.bipush 96, 2) := by decide +kernel
theorem dX7_text_133 : decode cX7_text 133 = .ok (.iload_n 2, 1) := by decide +kernel
theorem dX7_text_134 : decode cX7_text 134 = .ok (.imul, 1) := by decide +kernel
theorem dX7_text_135 : decode cX7_text 135 = .ok (.iadd, 1) := by decide +kernel
theorem dX7_text_136 : decode cX7_text 136 = .ok (.iload_n 3, 1) := by decide +kernel
theorem dX7_text_137 : decode cX7_text 137 = .ok (.iadd, 1) := by decide +kernel
theorem dX7_text_138 : decode cX7_text 138 = .ok (.aload_n 0, 1) := by decide +kernel
theorem dX7_text_139 : decode cX7_text 139 = .ok (.getfield 32, 3) := by decide +kernel
theorem dX7_text_142 : decode cX7_text 142 = .ok (.iload_n 3, 1) := by decide +kernel
theorem dX7_text_143 : decode cX7_text 143 = .ok (.iaload, 1) := by decide +kernel
theorem dX7_text_144 : decode cX7_text 144 = .ok (.iastore, 1) := by decide +kernel
theorem dX7_text_145 : decode cX7_text 145 = .ok (.iinc 3 1, 3) := by decide +kernel
theorem dX7_text_148 : decode cX7_text 148 = .ok (.goto (-31), 3) := by decide +kernel
theorem dX7_text_151 : decode cX7_text 151 = .ok (.aload_n 0, 1) := by decide +kernel
theorem dX7_text_152 : decode cX7_text 152 = .ok (.getfield 9, 3) := by decide +kernel
theorem dX7_text_155 : decode cX7_text 155 = .ok (.bipush 8, 2) := by decide +kernel
theorem dX7_text_157 : decode cX7_text 157 = .ok (.dup2, 1) := by decide +kernel
theorem dX7_text_158 : decode cX7_text 158 = .ok (.iaload, 1) := by decide +kernel
theorem dX7_text_159 : decode cX7_text 159 = .ok (.iconst 1, 1) := by decide +kernel
theorem dX7_text_160 : decode cX7_text 160 = .ok (.iadd, 1) := by decide +kernel
theorem dX7_text_161 : decode cX7_text 161 = .ok (.iastore, 1) := by decide +kernel
theorem dX7_text_162 : decode cX7_text 162 = .ok (.iload_n 2, 1) := by decide +kernel
theorem dX7_text_163 : decode cX7_text 163 = .ok (.ireturn, 1) := by decide +kernel
theorem dX7_textTold_0 : decode cX7_textTold 0 = .ok (.iload_n 1, 1) := by decide +kernel
theorem dX7_textTold_1 : decode cX7_textTold 1 = .ok (.iconst 0, 1) := by decide +kernel
theorem dX7_textTold_2 : decode cX7_textTold 2 = .ok (.aload_n 0, 1) := by decide +kernel
theorem dX7_textTold_3 : decode cX7_textTold 3 = .ok (.getfield 9, 3) := by decide +kernel
theorem dX7_textTold_6 : decode cX7_textTold 6 = .ok (.bipush 8, 2) := by decide +kernel
theorem dX7_textTold_8 : decode cX7_textTold 8 = .ok (.iaload, 1) := by decide +kernel
theorem dX7_textTold_9 : decode cX7_textTold 9 = .ok (.iconst 1, 1) := by decide +kernel
theorem dX7_textTold_10 : decode cX7_textTold 10 = .ok (.isub, 1) := by decide +kernel
theorem dX7_textTold_11 : decode cX7_textTold 11 = .ok (.invokestatic 76, 3) := by decide +kernel
theorem dX7_textTold_14 : decode cX7_textTold 14 = .ok (.ifCond .eq 12, 3) := by decide +kernel
theorem dX7_textTold_17 : decode cX7_textTold 17 = .ok (.iload_n 2, 1) := by decide +kernel
theorem dX7_textTold_18 : decode cX7_textTold 18 = .ok (.iconst 0, 1) := by decide +kernel
theorem dX7_textTold_19 : decode cX7_textTold 19 = .ok (.iconst 1, 1) := by decide +kernel
theorem dX7_textTold_20 : decode cX7_textTold 20 = .ok (.invokestatic 76, 3) := by decide +kernel
theorem dX7_textTold_23 : decode cX7_textTold 23 = .ok (.ifCond .ne 6, 3) := by decide +kernel
theorem dX7_textTold_26 : decode cX7_textTold 26 = .ok (.ldc 92, 2) := by decide +kernel
theorem dX7_textTold_28 : decode cX7_textTold 28 = .ok (.ireturn, 1) := by decide +kernel
theorem dX7_textTold_29 : decode cX7_textTold 29 = .ok (.iload_n 2, 1) := by decide +kernel
theorem dX7_textTold_30 : decode cX7_textTold 30 = .ok (.ifCond .ne 21, 3) := by decide +kernel
theorem dX7_textTold_33 : decode cX7_textTold 33 = .ok (.aload_n 0, 1) := by decide +kernel
theorem dX7_textTold_34 : decode cX7_textTold 34 = .ok (.getfield 9, 3) := by decide +kernel
theorem dX7_textTold_37 : decode cX7_textTold 37 = .ok (.bipush 93, 2) := by decide +kernel
theorem dX7_textTold_39 : decode cX7_textTold 39 = .ok (.iconst 2, 1) := by decide +kernel
theorem dX7_textTold_40 : decode cX7_textTold 40 = .ok (.iload_n 1, 1) := by decide +kernel
theorem dX7_textTold_41 : decode cX7_textTold 41 = .ok (.imul, 1) := by decide +kernel
theorem dX7_textTold_42 : decode cX7_textTold 42 = .ok (.iadd, 1) := by decide +kernel
theorem dX7_textTold_43 : decode cX7_textTold 43 = .ok (.iaload, 1) := by decide +kernel
theorem dX7_textTold_44 : decode cX7_textTold 44 = .ok (.sipush 1000, 3) := by decide +kernel
theorem dX7_textTold_47 : decode cX7_textTold 47 = .ok (.idiv, 1) := by decide +kernel
theorem dX7_textTold_48 : decode cX7_textTold 48 = .ok (.goto 16, 3) := by decide +kernel
theorem dX7_textTold_51 : decode cX7_textTold 51 = .ok (.aload_n 0, 1) := by decide +kernel
theorem dX7_textTold_52 : decode cX7_textTold 52 = .ok (.getfield 9, 3) := by decide +kernel
theorem dX7_textTold_55 : decode cX7_textTold 55 = .ok (.bipush 93, 2) := by decide +kernel
theorem dX7_textTold_57 : decode cX7_textTold 57 = .ok (.iconst 2, 1) := by decide +kernel
theorem dX7_textTold_58 : decode cX7_textTold 58 = .ok (.iload_n 1, 1) := by decide +kernel
theorem dX7_textTold_59 : decode cX7_textTold 59 = .ok (.imul, 1) := by decide +kernel
theorem dX7_textTold_60 : decode cX7_textTold 60 = .ok (.iadd, 1) := by decide +kernel
theorem dX7_textTold_61 : decode cX7_textTold 61 = .ok (.iconst 1, 1) := by decide +kernel
theorem dX7_textTold_62 : decode cX7_textTold 62 = .ok (.iadd, 1) := by decide +kernel
theorem dX7_textTold_63 : decode cX7_textTold 63 = .ok (.iaload, 1) := by decide +kernel
theorem dX7_textTold_64 : decode cX7_textTold 64 = .ok (.ireturn, 1) := by decide +kernel
theorem dX7_counts_0 : decode cX7_counts 0 = .ok (.aload_n 0, 1) := by decide +kernel
theorem dX7_counts_1 : decode cX7_counts 1 = .ok (.getfield 9, 3) := by decide +kernel
theorem dX7_counts_4 : decode cX7_counts 4 = .ok (.bipush 8, 2) := by decide +kernel
theorem dX7_counts_6 : decode cX7_counts 6 = .ok (.iaload, 1) := by decide +kernel
theorem dX7_counts_7 : decode cX7_counts 7 = .ok (.iconst 1, 1) := by decide +kernel
theorem dX7_counts_8 : decode cX7_counts 8 = .ok (.isub, 1) := by decide +kernel
theorem dX7_counts_9 : decode cX7_counts 9 = .ok (.istore_n 2, 1) := by decide +kernel
theorem dX7_counts_10 : decode cX7_counts 10 = .ok (.iload_n 2, 1) := by decide +kernel
theorem dX7_counts_11 : decode cX7_counts 11 = .ok (.ifCond .lt 30, 3) := by decide +kernel
theorem dX7_counts_14 : decode cX7_counts 14 = .ok (.aload_n 0, 1) := by decide +kernel
theorem dX7_counts_15 : decode cX7_counts 15 = .ok (.getfield 9, 3) := by decide +kernel
theorem dX7_counts_18 : decode cX7_counts 18 = .ok (.bipush 93, 2) := by decide +kernel
theorem dX7_counts_20 : decode cX7_counts 20 = .ok (.iconst 2, 1) := by decide +kernel
theorem dX7_counts_21 : decode cX7_counts 21 = .ok (.iload_n 2, 1) := by decide +kernel
theorem dX7_counts_22 : decode cX7_counts 22 = .ok (.imul, 1) := by decide +kernel
theorem dX7_counts_23 : decode cX7_counts 23 = .ok (.iadd, 1) := by decide +kernel
theorem dX7_counts_24 : decode cX7_counts 24 = .ok (.iaload, 1) := by decide +kernel
theorem dX7_counts_25 : decode cX7_counts 25 = .ok (.sipush 1000, 3) := by decide +kernel
theorem dX7_counts_28 : decode cX7_counts 28 = .ok (.idiv, 1) := by decide +kernel
theorem dX7_counts_29 : decode cX7_counts 29 = .ok (.iload_n 1, 1) := by decide +kernel
theorem dX7_counts_30 : decode cX7_counts 30 = .ok (.if_icmp .ne 5, 3) := by decide +kernel
theorem dX7_counts_33 : decode cX7_counts 33 = .ok (.iload_n 2, 1) := by decide +kernel
theorem dX7_counts_34 : decode cX7_counts 34 = .ok (.ireturn, 1) := by decide +kernel
theorem dX7_counts_35 : decode cX7_counts 35 = .ok (.iinc 2 (-1), 3) := by decide +kernel
theorem dX7_counts_38 : decode cX7_counts 38 = .ok (.goto (-28), 3) := by decide +kernel
theorem dX7_counts_41 : decode cX7_counts 41 = .ok (.iconst (-1), 1) := by decide +kernel
theorem dX7_counts_42 : decode cX7_counts 42 = .ok (.ireturn, 1) := by decide +kernel
theorem dX7_why_0 : decode cX7_why 0 = .ok (.iload_n 1, 1) := by decide +kernel
theorem dX7_why_1 : decode cX7_why 1 = .ok (.iconst 0, 1) := by decide +kernel
theorem dX7_why_2 : decode cX7_why 2 = .ok (.iconst 2, 1) := by decide +kernel
theorem dX7_why_3 : decode cX7_why 3 = .ok (.invokestatic 76, 3) := by decide +kernel
theorem dX7_why_6 : decode cX7_why 6 = .ok (.ifCond .ne 6, 3) := by decide +kernel
theorem dX7_why_9 : decode cX7_why 9 = .ok (.ldc 92, 2) := by decide +kernel
theorem dX7_why_11 : decode cX7_why 11 = .ok (.ireturn, 1) := by decide +kernel
theorem dX7_why_12 : decode cX7_why 12 = .ok (.aload_n 0, 1) := by decide +kernel
theorem dX7_why_13 : decode cX7_why 13 = .ok (.iload_n 1, 1) := by decide +kernel
theorem dX7_why_14 : decode cX7_why 14 = .ok (.invokevirtual 103, 3) := by decide +kernel
theorem dX7_why_17 : decode cX7_why 17 = .ok (.istore_n 2, 1) := by decide +kernel
theorem dX7_why_18 : decode cX7_why 18 = .ok (.iload_n 2, 1) := by decide +kernel
theorem dX7_why_19 : decode cX7_why 19 = .ok (.ifCond .ge 8, 3) := by decide +kernel
theorem dX7_why_22 : decode cX7_why 22 = .ok (.ldc 75, 2) := by decide +kernel
theorem dX7_why_24 : decode cX7_why 24 = .ok (.goto 4, 3) := by decide +kernel
theorem dX7_why_27 : decode cX7_why 27 = .ok (.iload_n 2, 1) := by decide +kernel
theorem dX7_why_28 : decode cX7_why 28 = .ok (.ireturn, 1) := by decide +kernel
theorem dX7_two_0 : decode cX7_two 0 = .ok (.iload_n 0, 1) := by decide +kernel
theorem dX7_two_1 : decode cX7_two 1 = .ok (.tableswitch 120 (-8) (-1) #[116, 112, 108, 97, 86, 75, 61, 47], 47) := by decide +kernel
theorem dX7_two_48 : decode cX7_two 48 = .ok (.iload_n 1, 1) := by decide +kernel
theorem dX7_two_49 : decode cX7_two 49 = .ok (.ifCond .ne 7, 3) := by decide +kernel
theorem dX7_two_52 : decode cX7_two 52 = .ok (.iload_n 2, 1) := by decide +kernel
theorem dX7_two_53 : decode cX7_two 53 = .ok (.ifCond .eq 7, 3) := by decide +kernel
theorem dX7_two_56 : decode cX7_two 56 = .ok (.iconst 1, 1) := by decide +kernel
theorem dX7_two_57 : decode cX7_two 57 = .ok (.goto 4, 3) := by decide +kernel
theorem dX7_two_60 : decode cX7_two 60 = .ok (.iconst 0, 1) := by decide +kernel
theorem dX7_two_61 : decode cX7_two 61 = .ok (.ireturn, 1) := by decide +kernel
theorem dX7_two_62 : decode cX7_two 62 = .ok (.iload_n 1, 1) := by decide +kernel
theorem dX7_two_63 : decode cX7_two 63 = .ok (.ifCond .eq 11, 3) := by decide +kernel
theorem dX7_two_66 : decode cX7_two 66 = .ok (.iload_n 2, 1) := by decide +kernel
theorem dX7_two_67 : decode cX7_two 67 = .ok (.ifCond .eq 7, 3) := by decide +kernel
theorem dX7_two_70 : decode cX7_two 70 = .ok (.iconst 1, 1) := by decide +kernel
theorem dX7_two_71 : decode cX7_two 71 = .ok (.goto 4, 3) := by decide +kernel
theorem dX7_two_74 : decode cX7_two 74 = .ok (.iconst 0, 1) := by decide +kernel
theorem dX7_two_75 : decode cX7_two 75 = .ok (.ireturn, 1) := by decide +kernel
theorem dX7_two_76 : decode cX7_two 76 = .ok (.iload_n 1, 1) := by decide +kernel
theorem dX7_two_77 : decode cX7_two 77 = .ok (.iload_n 2, 1) := by decide +kernel
theorem dX7_two_78 : decode cX7_two 78 = .ok (.if_icmp .ge 7, 3) := by decide +kernel
theorem dX7_two_81 : decode cX7_two 81 = .ok (.iconst 1, 1) := by decide +kernel
theorem dX7_two_82 : decode cX7_two 82 = .ok (.goto 4, 3) := by decide +kernel
theorem dX7_two_85 : decode cX7_two 85 = .ok (.iconst 0, 1) := by decide +kernel
theorem dX7_two_86 : decode cX7_two 86 = .ok (.ireturn, 1) := by decide +kernel
theorem dX7_two_87 : decode cX7_two 87 = .ok (.iload_n 1, 1) := by decide +kernel
theorem dX7_two_88 : decode cX7_two 88 = .ok (.iload_n 2, 1) := by decide +kernel
theorem dX7_two_89 : decode cX7_two 89 = .ok (.if_icmp .ne 7, 3) := by decide +kernel
theorem dX7_two_92 : decode cX7_two 92 = .ok (.iconst 1, 1) := by decide +kernel
theorem dX7_two_93 : decode cX7_two 93 = .ok (.goto 4, 3) := by decide +kernel
theorem dX7_two_96 : decode cX7_two 96 = .ok (.iconst 0, 1) := by decide +kernel
theorem dX7_two_97 : decode cX7_two 97 = .ok (.ireturn, 1) := by decide +kernel
theorem dX7_two_98 : decode cX7_two 98 = .ok (.iload_n 1, 1) := by decide +kernel
theorem dX7_two_99 : decode cX7_two 99 = .ok (.iload_n 2, 1) := by decide +kernel
theorem dX7_two_100 : decode cX7_two 100 = .ok (.if_icmp .le 7, 3) := by decide +kernel
theorem dX7_two_103 : decode cX7_two 103 = .ok (.iconst 1, 1) := by decide +kernel
theorem dX7_two_104 : decode cX7_two 104 = .ok (.goto 4, 3) := by decide +kernel
theorem dX7_two_107 : decode cX7_two 107 = .ok (.iconst 0, 1) := by decide +kernel
theorem dX7_two_108 : decode cX7_two 108 = .ok (.ireturn, 1) := by decide +kernel
theorem dX7_two_109 : decode cX7_two 109 = .ok (.iload_n 1, 1) := by decide +kernel
theorem dX7_two_110 : decode cX7_two 110 = .ok (.iload_n 2, 1) := by decide +kernel
theorem dX7_two_111 : decode cX7_two 111 = .ok (.iadd, 1) := by decide +kernel
theorem dX7_two_112 : decode cX7_two 112 = .ok (.ireturn, 1) := by decide +kernel
theorem dX7_two_113 : decode cX7_two 113 = .ok (.iload_n 1, 1) := by decide +kernel
theorem dX7_two_114 : decode cX7_two 114 = .ok (.iload_n 2, 1) := by decide +kernel
theorem dX7_two_115 : decode cX7_two 115 = .ok (.isub, 1) := by decide +kernel
theorem dX7_two_116 : decode cX7_two 116 = .ok (.ireturn, 1) := by decide +kernel
theorem dX7_two_117 : decode cX7_two 117 = .ok (.iload_n 1, 1) := by decide +kernel
theorem dX7_two_118 : decode cX7_two 118 = .ok (.iload_n 2, 1) := by decide +kernel
theorem dX7_two_119 : decode cX7_two 119 = .ok (.imul, 1) := by decide +kernel
theorem dX7_two_120 : decode cX7_two 120 = .ok (.ireturn, 1) := by decide +kernel
theorem dX7_two_121 : decode cX7_two 121 = .ok (.iload_n 2, 1) := by decide +kernel
theorem dX7_two_122 : decode cX7_two 122 = .ok (.ifCond .ne 7, 3) := by decide +kernel
theorem dX7_two_125 : decode cX7_two 125 = .ok (.iconst 0, 1) := by decide +kernel
theorem dX7_two_126 : decode cX7_two 126 = .ok (.goto 6, 3) := by decide +kernel
theorem dX7_two_129 : decode cX7_two 129 = .ok (.iload_n 1, 1) := by decide +kernel
theorem dX7_two_130 : decode cX7_two 130 = .ok (.iload_n 2, 1) := by decide +kernel
theorem dX7_two_131 : decode cX7_two 131 = .ok (.idiv, 1) := by decide +kernel
theorem dX7_two_132 : decode cX7_two 132 = .ok (.ireturn, 1) := by decide +kernel
theorem dX7_worksOut_0 : decode cX7_worksOut 0 = .ok (.iconst 0, 1) := by decide +kernel
theorem dX7_worksOut_1 : decode cX7_worksOut 1 = .ok (.istore_n 2, 1) := by decide +kernel
theorem dX7_worksOut_2 : decode cX7_worksOut 2 = .ok (.aload_n 0, 1) := by decide +kernel
theorem dX7_worksOut_3 : decode cX7_worksOut 3 = .ok (.getfield 9, 3) := by decide +kernel
theorem dX7_worksOut_6 : decode cX7_worksOut 6 = .ok (.bipush 93, 2) := by decide +kernel
theorem dX7_worksOut_8 : decode cX7_worksOut 8 = .ok (.iconst 2, 1) := by decide +kernel
theorem dX7_worksOut_9 : decode cX7_worksOut 9 = .ok (.iload_n 1, 1) := by decide +kernel
theorem dX7_worksOut_10 : decode cX7_worksOut 10 = .ok (.imul, 1) := by decide +kernel
theorem dX7_worksOut_11 : decode cX7_worksOut 11 = .ok (.iadd, 1) := by decide +kernel
theorem dX7_worksOut_12 : decode cX7_worksOut 12 = .ok (.iaload, 1) := by decide +kernel
theorem dX7_worksOut_13 : decode cX7_worksOut 13 = .ok (.sipush 1000, 3) := by decide +kernel
theorem dX7_worksOut_16 : decode cX7_worksOut 16 = .ok (.irem, 1) := by decide +kernel
theorem dX7_worksOut_17 : decode cX7_worksOut 17 = .ok (.istore_n 3, 1) := by decide +kernel
theorem dX7_worksOut_18 : decode cX7_worksOut 18 = .ok (.iconst 0, 1) := by decide +kernel
theorem dX7_worksOut_19 : decode cX7_worksOut 19 = .ok (.istore 4, 2) := by decide +kernel
theorem dX7_worksOut_21 : decode cX7_worksOut 21 = .ok (.iload 4, 2) := by decide +kernel
theorem dX7_worksOut_23 : decode cX7_worksOut 23 = .ok (.iload_n 3, 1) := by decide +kernel
theorem dX7_worksOut_24 : decode cX7_worksOut 24 = .ok (.if_icmp .ge 131, 3) := by decide +kernel
theorem dX7_worksOut_27 : decode cX7_worksOut 27 = .ok (.aload_n 0, 1) := by decide +kernel
theorem dX7_worksOut_28 : decode cX7_worksOut 28 = .ok (.getfield 9, 3) := by decide +kernel
theorem dX7_worksOut_31 : decode cX7_worksOut 31 = .ok (.bipush 121, 2) := by decide +kernel
theorem dX7_worksOut_33 : decode cX7_worksOut 33 = .ok (.bipush 96, 2) := by decide +kernel
theorem dX7_worksOut_35 : decode cX7_worksOut 35 = .ok (.iload_n 1, 1) := by decide +kernel
theorem dX7_worksOut_36 : decode cX7_worksOut 36 = .ok (.imul, 1) := by decide +kernel
theorem dX7_worksOut_37 : decode cX7_worksOut 37 = .ok (.iadd, 1) := by decide +kernel
theorem dX7_worksOut_38 : decode cX7_worksOut 38 = .ok (.iload 4, 2) := by decide +kernel
theorem dX7_worksOut_40 : decode cX7_worksOut 40 = .ok (.iadd, 1) := by decide +kernel
theorem dX7_worksOut_41 : decode cX7_worksOut 41 = .ok (.iaload, 1) := by decide +kernel
theorem dX7_worksOut_42 : decode cX7_worksOut 42 = .ok (.istore 5, 2) := by decide +kernel
theorem dX7_worksOut_44 : decode cX7_worksOut 44 = .ok (.iload 5, 2) := by decide +kernel
theorem dX7_worksOut_46 : decode cX7_worksOut 46 = .ok (.ifCond .lt 39, 3) := by decide +kernel
theorem dX7_worksOut_49 : decode cX7_worksOut 49 = .ok (.aload_n 0, 1) := by decide +kernel
theorem dX7_worksOut_50 : decode cX7_worksOut 50 = .ok (.getfield 42, 3) := by decide +kernel
theorem dX7_worksOut_53 : decode cX7_worksOut 53 = .ok (.iload_n 2, 1) := by decide +kernel
theorem dX7_worksOut_54 : decode cX7_worksOut 54 = .ok (.iload 5, 2) := by decide +kernel
theorem dX7_worksOut_56 : decode cX7_worksOut 56 = .ok (.sipush 10000, 3) := by decide +kernel
theorem dX7_worksOut_59 : decode cX7_worksOut 59 = .ok (.if_icmp .ge 8, 3) := by decide +kernel
theorem dX7_worksOut_62 : decode cX7_worksOut 62 = .ok (.iload 5, 2) := by decide +kernel
theorem dX7_worksOut_64 : decode cX7_worksOut 64 = .ok (.goto 14, 3) := by decide +kernel
theorem dX7_worksOut_67 : decode cX7_worksOut 67 = .ok (.aload_n 0, 1) := by decide +kernel
theorem dX7_worksOut_68 : decode cX7_worksOut 68 = .ok (.getfield 45, 3) := by decide +kernel
theorem dX7_worksOut_71 : decode cX7_worksOut 71 = .ok (.iload 5, 2) := by decide +kernel
theorem dX7_worksOut_73 : decode cX7_worksOut 73 = .ok (.sipush 10000, 3) := by decide +kernel
theorem dX7_worksOut_76 : decode cX7_worksOut 76 = .ok (.isub, 1) := by decide +kernel
theorem dX7_worksOut_77 : decode cX7_worksOut 77 = .ok (.iaload, 1) := by decide +kernel
theorem dX7_worksOut_78 : decode cX7_worksOut 78 = .ok (.iastore, 1) := by decide +kernel
theorem dX7_worksOut_79 : decode cX7_worksOut 79 = .ok (.iinc 2 1, 3) := by decide +kernel
theorem dX7_worksOut_82 : decode cX7_worksOut 82 = .ok (.goto 67, 3) := by decide +kernel
theorem dX7_worksOut_85 : decode cX7_worksOut 85 = .ok (.iload 5, 2) := by decide +kernel
theorem dX7_worksOut_87 : decode cX7_worksOut 87 = .ok (.bipush (-10), 2) := by decide +kernel
theorem dX7_worksOut_89 : decode cX7_worksOut 89 = .ok (.if_icmp .ne 30, 3) := by decide +kernel
theorem dX7_worksOut_92 : decode cX7_worksOut 92 = .ok (.aload_n 0, 1) := by decide +kernel
theorem dX7_worksOut_93 : decode cX7_worksOut 93 = .ok (.getfield 42, 3) := by decide +kernel
theorem dX7_worksOut_96 : decode cX7_worksOut 96 = .ok (.iload_n 2, 1) := by decide +kernel
theorem dX7_worksOut_97 : decode cX7_worksOut 97 = .ok (.iconst 1, 1) := by decide +kernel
theorem dX7_worksOut_98 : decode cX7_worksOut 98 = .ok (.isub, 1) := by decide +kernel
theorem dX7_worksOut_99 : decode cX7_worksOut 99 = .ok (.aload_n 0, 1) := by decide +kernel
theorem dX7_worksOut_100 : decode cX7_worksOut 100 = .ok (.getfield 42, 3) := by decide +kernel
theorem dX7_worksOut_103 : decode cX7_worksOut 103 = .ok (.iload_n 2, 1) := by decide +kernel
theorem dX7_worksOut_104 : decode cX7_worksOut 104 = .ok (.iconst 1, 1) := by decide +kernel
theorem dX7_worksOut_105 : decode cX7_worksOut 105 = .ok (.isub, 1) := by decide +kernel
theorem dX7_worksOut_106 : decode cX7_worksOut 106 = .ok (.iaload, 1) := by decide +kernel
theorem dX7_worksOut_107 : decode cX7_worksOut 107 = .ok (.ifCond .ne 7, 3) := by decide +kernel
theorem dX7_worksOut_110 : decode cX7_worksOut 110 = .ok (.iconst 1, 1) := by decide +kernel
theorem dX7_worksOut_111 : decode cX7_worksOut 111 = .ok (.goto 4, 3) := by decide +kernel
theorem dX7_worksOut_114 : decode cX7_worksOut 114 = .ok (.iconst 0, 1) := by decide +kernel
theorem dX7_worksOut_115 : decode cX7_worksOut 115 = .ok (.iastore, 1) := by decide +kernel
theorem dX7_worksOut_116 : decode cX7_worksOut 116 = .ok (.goto 33, 3) := by decide +kernel
theorem dX7_worksOut_119 : decode cX7_worksOut 119 = .ok (.iinc 2 (-1), 3) := by decide +kernel
theorem dX7_worksOut_122 : decode cX7_worksOut 122 = .ok (.aload_n 0, 1) := by decide +kernel
theorem dX7_worksOut_123 : decode cX7_worksOut 123 = .ok (.getfield 42, 3) := by decide +kernel
theorem dX7_worksOut_126 : decode cX7_worksOut 126 = .ok (.iload_n 2, 1) := by decide +kernel
theorem dX7_worksOut_127 : decode cX7_worksOut 127 = .ok (.iconst 1, 1) := by decide +kernel
theorem dX7_worksOut_128 : decode cX7_worksOut 128 = .ok (.isub, 1) := by decide +kernel
theorem dX7_worksOut_129 : decode cX7_worksOut 129 = .ok (.iload 5, 2) := by decide +kernel
theorem dX7_worksOut_131 : decode cX7_worksOut 131 = .ok (.aload_n 0, 1) := by decide +kernel
theorem dX7_worksOut_132 : decode cX7_worksOut 132 = .ok (.getfield 42, 3) := by decide +kernel
theorem dX7_worksOut_135 : decode cX7_worksOut 135 = .ok (.iload_n 2, 1) := by decide +kernel
theorem dX7_worksOut_136 : decode cX7_worksOut 136 = .ok (.iconst 1, 1) := by decide +kernel
theorem dX7_worksOut_137 : decode cX7_worksOut 137 = .ok (.isub, 1) := by decide +kernel
theorem dX7_worksOut_138 : decode cX7_worksOut 138 = .ok (.iaload, 1) := by decide +kernel
theorem dX7_worksOut_139 : decode cX7_worksOut 139 = .ok (.aload_n 0, 1) := by decide +kernel
theorem dX7_worksOut_140 : decode cX7_worksOut 140 = .ok (.getfield 42, 3) := by decide +kernel
theorem dX7_worksOut_143 : decode cX7_worksOut 143 = .ok (.iload_n 2, 1) := by decide +kernel
theorem dX7_worksOut_144 : decode cX7_worksOut 144 = .ok (.iaload, 1) := by decide +kernel
theorem dX7_worksOut_145 : decode cX7_worksOut 145 = .ok (.invokestatic 247, 3) := by decide +kernel
theorem dX7_worksOut_148 : decode cX7_worksOut 148 = .ok (.iastore, 1) := by decide +kernel
theorem dX7_worksOut_149 : decode cX7_worksOut 149 = .ok (.iinc 4 1, 3) := by decide +kernel
theorem dX7_worksOut_152 : decode cX7_worksOut 152 = .ok (.goto (-131), 3) := by decide +kernel
theorem dX7_worksOut_155 : decode cX7_worksOut 155 = .ok (.aload_n 0, 1) := by decide +kernel
theorem dX7_worksOut_156 : decode cX7_worksOut 156 = .ok (.getfield 42, 3) := by decide +kernel
theorem dX7_worksOut_159 : decode cX7_worksOut 159 = .ok (.iconst 0, 1) := by decide +kernel
theorem dX7_worksOut_160 : decode cX7_worksOut 160 = .ok (.iaload, 1) := by decide +kernel
theorem dX7_worksOut_161 : decode cX7_worksOut 161 = .ok (.ireturn, 1) := by decide +kernel
theorem dX7_isSheet_0 : decode cX7_isSheet 0 = .ok (.iload_n 0, 1) := by decide +kernel
theorem dX7_isSheet_1 : decode cX7_isSheet 1 = .ok (.iconst 0, 1) := by decide +kernel
theorem dX7_isSheet_2 : decode cX7_isSheet 2 = .ok (.iconst 3, 1) := by decide +kernel
theorem dX7_isSheet_3 : decode cX7_isSheet 3 = .ok (.invokestatic 76, 3) := by decide +kernel
theorem dX7_isSheet_6 : decode cX7_isSheet 6 = .ok (.ireturn, 1) := by decide +kernel
theorem dX7_isSlot_0 : decode cX7_isSlot 0 = .ok (.iload_n 0, 1) := by decide +kernel
theorem dX7_isSlot_1 : decode cX7_isSlot 1 = .ok (.iconst 0, 1) := by decide +kernel
theorem dX7_isSlot_2 : decode cX7_isSlot 2 = .ok (.iconst 4, 1) := by decide +kernel
theorem dX7_isSlot_3 : decode cX7_isSlot 3 = .ok (.invokestatic 76, 3) := by decide +kernel
theorem dX7_isSlot_6 : decode cX7_isSlot 6 = .ok (.ireturn, 1) := by decide +kernel
theorem dX7_sheet_0 : decode cX7_sheet 0 = .ok (.iload_n 1, 1) := by decide +kernel
theorem dX7_sheet_1 : decode cX7_sheet 1 = .ok (.invokestatic 174, 3) := by decide +kernel
theorem dX7_sheet_4 : decode cX7_sheet 4 = .ok (.ifCond .eq 22, 3) := by decide +kernel
theorem dX7_sheet_7 : decode cX7_sheet 7 = .ok (.iload_n 2, 1) := by decide +kernel
theorem dX7_sheet_8 : decode cX7_sheet 8 = .ok (.iconst (-1), 1) := by decide +kernel
theorem dX7_sheet_9 : decode cX7_sheet 9 = .ok (.iconst 1, 1) := by decide +kernel
theorem dX7_sheet_10 : decode cX7_sheet 10 = .ok (.invokestatic 76, 3) := by decide +kernel
theorem dX7_sheet_13 : decode cX7_sheet 13 = .ok (.ifCond .eq 13, 3) := by decide +kernel
theorem dX7_sheet_16 : decode cX7_sheet 16 = .ok (.iload_n 2, 1) := by decide +kernel
theorem dX7_sheet_17 : decode cX7_sheet 17 = .ok (.ifCond .lt 12, 3) := by decide +kernel
theorem dX7_sheet_20 : decode cX7_sheet 20 = .ok (.iload_n 3, 1) := by decide +kernel
theorem dX7_sheet_21 : decode cX7_sheet 21 = .ok (.bipush 24, 2) := by decide +kernel
theorem dX7_sheet_23 : decode cX7_sheet 23 = .ok (.if_icmp .le 6, 3) := by decide +kernel
theorem dX7_sheet_26 : decode cX7_sheet 26 = .ok (.ldc 92, 2) := by decide +kernel
theorem dX7_sheet_28 : decode cX7_sheet 28 = .ok (.ireturn, 1) := by decide +kernel
theorem dX7_sheet_29 : decode cX7_sheet 29 = .ok (.iload_n 2, 1) := by decide +kernel
theorem dX7_sheet_30 : decode cX7_sheet 30 = .ok (.ifCond .lt 10, 3) := by decide +kernel
theorem dX7_sheet_33 : decode cX7_sheet 33 = .ok (.iload_n 3, 1) := by decide +kernel
theorem dX7_sheet_34 : decode cX7_sheet 34 = .ok (.ifCond .ge 6, 3) := by decide +kernel
theorem dX7_sheet_37 : decode cX7_sheet 37 = .ok (.ldc 250, 2) := by decide +kernel
theorem dX7_sheet_39 : decode cX7_sheet 39 = .ok (.ireturn, 1) := by decide +kernel
theorem dX7_sheet_40 : decode cX7_sheet 40 = .ok (.aload_n 0, 1) := by decide +kernel
theorem dX7_sheet_41 : decode cX7_sheet 41 = .ok (.getfield 48, 3) := by decide +kernel
theorem dX7_sheet_44 : decode cX7_sheet 44 = .ok (.iload_n 1, 1) := by decide +kernel
theorem dX7_sheet_45 : decode cX7_sheet 45 = .ok (.iload_n 2, 1) := by decide +kernel
theorem dX7_sheet_46 : decode cX7_sheet 46 = .ok (.iastore, 1) := by decide +kernel
theorem dX7_sheet_47 : decode cX7_sheet 47 = .ok (.aload_n 0, 1) := by decide +kernel
theorem dX7_sheet_48 : decode cX7_sheet 48 = .ok (.getfield 51, 3) := by decide +kernel
theorem dX7_sheet_51 : decode cX7_sheet 51 = .ok (.iload_n 1, 1) := by decide +kernel
theorem dX7_sheet_52 : decode cX7_sheet 52 = .ok (.iload_n 2, 1) := by decide +kernel
theorem dX7_sheet_53 : decode cX7_sheet 53 = .ok (.ifCond .ge 7, 3) := by decide +kernel
theorem dX7_sheet_56 : decode cX7_sheet 56 = .ok (.iconst 0, 1) := by decide +kernel
theorem dX7_sheet_57 : decode cX7_sheet 57 = .ok (.goto 4, 3) := by decide +kernel
theorem dX7_sheet_60 : decode cX7_sheet 60 = .ok (.iload_n 3, 1) := by decide +kernel
theorem dX7_sheet_61 : decode cX7_sheet 61 = .ok (.iastore, 1) := by decide +kernel
theorem dX7_sheet_62 : decode cX7_sheet 62 = .ok (.iconst 0, 1) := by decide +kernel
theorem dX7_sheet_63 : decode cX7_sheet 63 = .ok (.istore 4, 2) := by decide +kernel
theorem dX7_sheet_65 : decode cX7_sheet 65 = .ok (.iload 4, 2) := by decide +kernel
theorem dX7_sheet_67 : decode cX7_sheet 67 = .ok (.bipush 24, 2) := by decide +kernel
theorem dX7_sheet_69 : decode cX7_sheet 69 = .ok (.if_icmp .ge 22, 3) := by decide +kernel
theorem dX7_sheet_72 : decode cX7_sheet 72 = .ok (.aload_n 0, 1) := by decide +kernel
theorem dX7_sheet_73 : decode cX7_sheet 73 = .ok (.getfield 54, 3) := by decide +kernel
theorem dX7_sheet_76 : decode cX7_sheet 76 = .ok (.bipush 24, 2) := by decide +kernel
theorem dX7_sheet_78 : decode cX7_sheet 78 = .ok (.iload_n 1, 1) := by decide +kernel
theorem dX7_sheet_79 : decode cX7_sheet 79 = .ok (.imul, 1) := by decide +kernel
theorem dX7_sheet_80 : decode cX7_sheet 80 = .ok (.iload 4, 2) := by decide +kernel
theorem dX7_sheet_82 : decode cX7_sheet 82 = .ok (.iadd, 1) := by decide +kernel
theorem dX7_sheet_83 : decode cX7_sheet 83 = .ok (.iconst 0, 1) := by decide +kernel
theorem dX7_sheet_84 : decode cX7_sheet 84 = .ok (.iastore, 1) := by decide +kernel
theorem dX7_sheet_85 : decode cX7_sheet 85 = .ok (.iinc 4 1, 3) := by decide +kernel
theorem dX7_sheet_88 : decode cX7_sheet 88 = .ok (.goto (-23), 3) := by decide +kernel
theorem dX7_sheet_91 : decode cX7_sheet 91 = .ok (.aload_n 0, 1) := by decide +kernel
theorem dX7_sheet_92 : decode cX7_sheet 92 = .ok (.getfield 51, 3) := by decide +kernel
theorem dX7_sheet_95 : decode cX7_sheet 95 = .ok (.iload_n 1, 1) := by decide +kernel
theorem dX7_sheet_96 : decode cX7_sheet 96 = .ok (.iaload, 1) := by decide +kernel
theorem dX7_sheet_97 : decode cX7_sheet 97 = .ok (.ireturn, 1) := by decide +kernel
theorem dX7_mark_0 : decode cX7_mark 0 = .ok (.iload_n 1, 1) := by decide +kernel
theorem dX7_mark_1 : decode cX7_mark 1 = .ok (.invokestatic 174, 3) := by decide +kernel
theorem dX7_mark_4 : decode cX7_mark 4 = .ok (.ifCond .ne 6, 3) := by decide +kernel
theorem dX7_mark_7 : decode cX7_mark 7 = .ok (.ldc 92, 2) := by decide +kernel
theorem dX7_mark_9 : decode cX7_mark 9 = .ok (.ireturn, 1) := by decide +kernel
theorem dX7_mark_10 : decode cX7_mark 10 = .ok (.aload_n 0, 1) := by decide +kernel
theorem dX7_mark_11 : decode cX7_mark 11 = .ok (.getfield 48, 3) := by decide +kernel
theorem dX7_mark_14 : decode cX7_mark 14 = .ok (.iload_n 1, 1) := by decide +kernel
theorem dX7_mark_15 : decode cX7_mark 15 = .ok (.iaload, 1) := by decide +kernel
theorem dX7_mark_16 : decode cX7_mark 16 = .ok (.ifCond .ge 6, 3) := by decide +kernel
theorem dX7_mark_19 : decode cX7_mark 19 = .ok (.ldc 177, 2) := by decide +kernel
theorem dX7_mark_21 : decode cX7_mark 21 = .ok (.ireturn, 1) := by decide +kernel
theorem dX7_mark_22 : decode cX7_mark 22 = .ok (.iload_n 2, 1) := by decide +kernel
theorem dX7_mark_23 : decode cX7_mark 23 = .ok (.iconst 0, 1) := by decide +kernel
theorem dX7_mark_24 : decode cX7_mark 24 = .ok (.aload_n 0, 1) := by decide +kernel
theorem dX7_mark_25 : decode cX7_mark 25 = .ok (.getfield 51, 3) := by decide +kernel
theorem dX7_mark_28 : decode cX7_mark 28 = .ok (.iload_n 1, 1) := by decide +kernel
theorem dX7_mark_29 : decode cX7_mark 29 = .ok (.iaload, 1) := by decide +kernel
theorem dX7_mark_30 : decode cX7_mark 30 = .ok (.iconst 1, 1) := by decide +kernel
theorem dX7_mark_31 : decode cX7_mark 31 = .ok (.isub, 1) := by decide +kernel
theorem dX7_mark_32 : decode cX7_mark 32 = .ok (.invokestatic 76, 3) := by decide +kernel
theorem dX7_mark_35 : decode cX7_mark 35 = .ok (.ifCond .ne 6, 3) := by decide +kernel
theorem dX7_mark_38 : decode cX7_mark 38 = .ok (.ldc 251, 2) := by decide +kernel
theorem dX7_mark_40 : decode cX7_mark 40 = .ok (.ireturn, 1) := by decide +kernel
theorem dX7_mark_41 : decode cX7_mark 41 = .ok (.aload_n 0, 1) := by decide +kernel
theorem dX7_mark_42 : decode cX7_mark 42 = .ok (.getfield 48, 3) := by decide +kernel
theorem dX7_mark_45 : decode cX7_mark 45 = .ok (.iload_n 1, 1) := by decide +kernel
theorem dX7_mark_46 : decode cX7_mark 46 = .ok (.iaload, 1) := by decide +kernel
theorem dX7_mark_47 : decode cX7_mark 47 = .ok (.ifCond .ne 12, 3) := by decide +kernel
theorem dX7_mark_50 : decode cX7_mark 50 = .ok (.iload_n 3, 1) := by decide +kernel
theorem dX7_mark_51 : decode cX7_mark 51 = .ok (.ldc 75, 2) := by decide +kernel
theorem dX7_mark_53 : decode cX7_mark 53 = .ok (.if_icmp .ne 6, 3) := by decide +kernel
theorem dX7_mark_56 : decode cX7_mark 56 = .ok (.ldc 134, 2) := by decide +kernel
theorem dX7_mark_58 : decode cX7_mark 58 = .ok (.ireturn, 1) := by decide +kernel
theorem dX7_mark_59 : decode cX7_mark 59 = .ok (.aload_n 0, 1) := by decide +kernel
theorem dX7_mark_60 : decode cX7_mark 60 = .ok (.getfield 48, 3) := by decide +kernel
theorem dX7_mark_63 : decode cX7_mark 63 = .ok (.iload_n 1, 1) := by decide +kernel
theorem dX7_mark_64 : decode cX7_mark 64 = .ok (.iaload, 1) := by decide +kernel
theorem dX7_mark_65 : decode cX7_mark 65 = .ok (.iconst 1, 1) := by decide +kernel
theorem dX7_mark_66 : decode cX7_mark 66 = .ok (.if_icmp .ne 23, 3) := by decide +kernel
theorem dX7_mark_69 : decode cX7_mark 69 = .ok (.iload_n 3, 1) := by decide +kernel
theorem dX7_mark_70 : decode cX7_mark 70 = .ok (.ldc 75, 2) := by decide +kernel
theorem dX7_mark_72 : decode cX7_mark 72 = .ok (.if_icmp .eq 17, 3) := by decide +kernel
theorem dX7_mark_75 : decode cX7_mark 75 = .ok (.iload_n 3, 1) := by decide +kernel
theorem dX7_mark_76 : decode cX7_mark 76 = .ok (.ldc 252, 2) := by decide +kernel
theorem dX7_mark_78 : decode cX7_mark 78 = .ok (.ldc 155, 2) := by decide +kernel
theorem dX7_mark_80 : decode cX7_mark 80 = .ok (.invokestatic 76, 3) := by decide +kernel
theorem dX7_mark_83 : decode cX7_mark 83 = .ok (.ifCond .ne 6, 3) := by decide +kernel
theorem dX7_mark_86 : decode cX7_mark 86 = .ok (.ldc 92, 2) := by decide +kernel
theorem dX7_mark_88 : decode cX7_mark 88 = .ok (.ireturn, 1) := by decide +kernel
theorem dX7_mark_89 : decode cX7_mark 89 = .ok (.aload_n 0, 1) := by decide +kernel
theorem dX7_mark_90 : decode cX7_mark 90 = .ok (.getfield 54, 3) := by decide +kernel
theorem dX7_mark_93 : decode cX7_mark 93 = .ok (.bipush 24, 2) := by decide +kernel
theorem dX7_mark_95 : decode cX7_mark 95 = .ok (.iload_n 1, 1) := by decide +kernel
theorem dX7_mark_96 : decode cX7_mark 96 = .ok (.imul, 1) := by decide +kernel
theorem dX7_mark_97 : decode cX7_mark 97 = .ok (.iload_n 2, 1) := by decide +kernel
theorem dX7_mark_98 : decode cX7_mark 98 = .ok (.iadd, 1) := by decide +kernel
theorem dX7_mark_99 : decode cX7_mark 99 = .ok (.aload_n 0, 1) := by decide +kernel
theorem dX7_mark_100 : decode cX7_mark 100 = .ok (.getfield 48, 3) := by decide +kernel
theorem dX7_mark_103 : decode cX7_mark 103 = .ok (.iload_n 1, 1) := by decide +kernel
theorem dX7_mark_104 : decode cX7_mark 104 = .ok (.iaload, 1) := by decide +kernel
theorem dX7_mark_105 : decode cX7_mark 105 = .ok (.ifCond .ne 8, 3) := by decide +kernel
theorem dX7_mark_108 : decode cX7_mark 108 = .ok (.iload_n 3, 1) := by decide +kernel
theorem dX7_mark_109 : decode cX7_mark 109 = .ok (.i2s, 1) := by decide +kernel
theorem dX7_mark_110 : decode cX7_mark 110 = .ok (.goto 4, 3) := by decide +kernel
theorem dX7_mark_113 : decode cX7_mark 113 = .ok (.iload_n 3, 1) := by decide +kernel
theorem dX7_mark_114 : decode cX7_mark 114 = .ok (.iastore, 1) := by decide +kernel
theorem dX7_mark_115 : decode cX7_mark 115 = .ok (.iconst 1, 1) := by decide +kernel
theorem dX7_mark_116 : decode cX7_mark 116 = .ok (.ireturn, 1) := by decide +kernel
theorem dX7_pour_0 : decode cX7_pour 0 = .ok (.iload_n 1, 1) := by decide +kernel
theorem dX7_pour_1 : decode cX7_pour 1 = .ok (.invokestatic 174, 3) := by decide +kernel
theorem dX7_pour_4 : decode cX7_pour 4 = .ok (.ifCond .ne 6, 3) := by decide +kernel
theorem dX7_pour_7 : decode cX7_pour 7 = .ok (.ldc 92, 2) := by decide +kernel
theorem dX7_pour_9 : decode cX7_pour 9 = .ok (.ireturn, 1) := by decide +kernel
theorem dX7_pour_10 : decode cX7_pour 10 = .ok (.aload_n 0, 1) := by decide +kernel
theorem dX7_pour_11 : decode cX7_pour 11 = .ok (.getfield 48, 3) := by decide +kernel
theorem dX7_pour_14 : decode cX7_pour 14 = .ok (.iload_n 1, 1) := by decide +kernel
theorem dX7_pour_15 : decode cX7_pour 15 = .ok (.iaload, 1) := by decide +kernel
theorem dX7_pour_16 : decode cX7_pour 16 = .ok (.ifCond .ge 6, 3) := by decide +kernel
theorem dX7_pour_19 : decode cX7_pour 19 = .ok (.ldc 177, 2) := by decide +kernel
theorem dX7_pour_21 : decode cX7_pour 21 = .ok (.ireturn, 1) := by decide +kernel
theorem dX7_pour_22 : decode cX7_pour 22 = .ok (.iconst 0, 1) := by decide +kernel
theorem dX7_pour_23 : decode cX7_pour 23 = .ok (.istore_n 2, 1) := by decide +kernel
theorem dX7_pour_24 : decode cX7_pour 24 = .ok (.iconst 0, 1) := by decide +kernel
theorem dX7_pour_25 : decode cX7_pour 25 = .ok (.istore_n 3, 1) := by decide +kernel
theorem dX7_pour_26 : decode cX7_pour 26 = .ok (.iload_n 3, 1) := by decide +kernel
theorem dX7_pour_27 : decode cX7_pour 27 = .ok (.aload_n 0, 1) := by decide +kernel
theorem dX7_pour_28 : decode cX7_pour 28 = .ok (.getfield 51, 3) := by decide +kernel
theorem dX7_pour_31 : decode cX7_pour 31 = .ok (.iload_n 1, 1) := by decide +kernel
theorem dX7_pour_32 : decode cX7_pour 32 = .ok (.iaload, 1) := by decide +kernel
theorem dX7_pour_33 : decode cX7_pour 33 = .ok (.if_icmp .ge 84, 3) := by decide +kernel
theorem dX7_pour_36 : decode cX7_pour 36 = .ok (.iload_n 3, 1) := by decide +kernel
theorem dX7_pour_37 : decode cX7_pour 37 = .ok (.aload_n 0, 1) := by decide +kernel
theorem dX7_pour_38 : decode cX7_pour 38 = .ok (.getfield 9, 3) := by decide +kernel
theorem dX7_pour_41 : decode cX7_pour 41 = .ok (.iconst 2, 1) := by decide +kernel
theorem dX7_pour_42 : decode cX7_pour 42 = .ok (.iaload, 1) := by decide +kernel
theorem dX7_pour_43 : decode cX7_pour 43 = .ok (.if_icmp .ge 74, 3) := by decide +kernel
theorem dX7_pour_46 : decode cX7_pour 46 = .ok (.aload_n 0, 1) := by decide +kernel
theorem dX7_pour_47 : decode cX7_pour 47 = .ok (.getfield 54, 3) := by decide +kernel
theorem dX7_pour_50 : decode cX7_pour 50 = .ok (.bipush 24, 2) := by decide +kernel
theorem dX7_pour_52 : decode cX7_pour 52 = .ok (.iload_n 1, 1) := by decide +kernel
theorem dX7_pour_53 : decode cX7_pour 53 = .ok (.imul, 1) := by decide +kernel
theorem dX7_pour_54 : decode cX7_pour 54 = .ok (.iload_n 3, 1) := by decide +kernel
theorem dX7_pour_55 : decode cX7_pour 55 = .ok (.iadd, 1) := by decide +kernel
theorem dX7_pour_56 : decode cX7_pour 56 = .ok (.iaload, 1) := by decide +kernel
theorem dX7_pour_57 : decode cX7_pour 57 = .ok (.istore 4, 2) := by decide +kernel
theorem dX7_pour_59 : decode cX7_pour 59 = .ok (.iload 4, 2) := by decide +kernel
theorem dX7_pour_61 : decode cX7_pour 61 = .ok (.ldc 75, 2) := by decide +kernel
theorem dX7_pour_63 : decode cX7_pour 63 = .ok (.if_icmp .ne 15, 3) := by decide +kernel
theorem dX7_pour_66 : decode cX7_pour 66 = .ok (.aload_n 0, 1) := by decide +kernel
theorem dX7_pour_67 : decode cX7_pour 67 = .ok (.getfield 9, 3) := by decide +kernel
theorem dX7_pour_70 : decode cX7_pour 70 = .ok (.bipush 9, 2) := by decide +kernel
theorem dX7_pour_72 : decode cX7_pour 72 = .ok (.iload_n 3, 1) := by decide +kernel
theorem dX7_pour_73 : decode cX7_pour 73 = .ok (.iadd, 1) := by decide +kernel
theorem dX7_pour_74 : decode cX7_pour 74 = .ok (.iaload, 1) := by decide +kernel
theorem dX7_pour_75 : decode cX7_pour 75 = .ok (.goto 11, 3) := by decide +kernel
theorem dX7_pour_78 : decode cX7_pour 78 = .ok (.iload 4, 2) := by decide +kernel
theorem dX7_pour_80 : decode cX7_pour 80 = .ok (.iconst 0, 1) := by decide +kernel
theorem dX7_pour_81 : decode cX7_pour 81 = .ok (.bipush 99, 2) := by decide +kernel
theorem dX7_pour_83 : decode cX7_pour 83 = .ok (.invokestatic 109, 3) := by decide +kernel
theorem dX7_pour_86 : decode cX7_pour 86 = .ok (.istore 5, 2) := by decide +kernel
theorem dX7_pour_88 : decode cX7_pour 88 = .ok (.iload_n 2, 1) := by decide +kernel
theorem dX7_pour_89 : decode cX7_pour 89 = .ok (.aload_n 0, 1) := by decide +kernel
theorem dX7_pour_90 : decode cX7_pour 90 = .ok (.bipush 9, 2) := by decide +kernel
theorem dX7_pour_92 : decode cX7_pour 92 = .ok (.iload_n 3, 1) := by decide +kernel
theorem dX7_pour_93 : decode cX7_pour 93 = .ok (.iadd, 1) := by decide +kernel
theorem dX7_pour_94 : decode cX7_pour 94 = .ok (.iload 5, 2) := by decide +kernel
theorem dX7_pour_96 : decode cX7_pour 96 = .ok (.invokevirtual 135, 3) := by decide +kernel
theorem dX7_pour_99 : decode cX7_pour 99 = .ok (.iload 5, 2) := by decide +kernel
theorem dX7_pour_101 : decode cX7_pour 101 = .ok (.if_icmp .ne 7, 3) := by decide +kernel
theorem dX7_pour_104 : decode cX7_pour 104 = .ok (.iconst 0, 1) := by decide +kernel
theorem dX7_pour_105 : decode cX7_pour 105 = .ok (.goto 4, 3) := by decide +kernel
theorem dX7_pour_108 : decode cX7_pour 108 = .ok (.iconst 1, 1) := by decide +kernel
theorem dX7_pour_109 : decode cX7_pour 109 = .ok (.iadd, 1) := by decide +kernel
theorem dX7_pour_110 : decode cX7_pour 110 = .ok (.istore_n 2, 1) := by decide +kernel
theorem dX7_pour_111 : decode cX7_pour 111 = .ok (.iinc 3 1, 3) := by decide +kernel
theorem dX7_pour_114 : decode cX7_pour 114 = .ok (.goto (-88), 3) := by decide +kernel
theorem dX7_pour_117 : decode cX7_pour 117 = .ok (.iload_n 2, 1) := by decide +kernel
theorem dX7_pour_118 : decode cX7_pour 118 = .ok (.ireturn, 1) := by decide +kernel
theorem dX7_reads_0 : decode cX7_reads 0 = .ok (.iload_n 1, 1) := by decide +kernel
theorem dX7_reads_1 : decode cX7_reads 1 = .ok (.invokestatic 174, 3) := by decide +kernel
theorem dX7_reads_4 : decode cX7_reads 4 = .ok (.ifCond .ne 6, 3) := by decide +kernel
theorem dX7_reads_7 : decode cX7_reads 7 = .ok (.ldc 92, 2) := by decide +kernel
theorem dX7_reads_9 : decode cX7_reads 9 = .ok (.ireturn, 1) := by decide +kernel
theorem dX7_reads_10 : decode cX7_reads 10 = .ok (.aload_n 0, 1) := by decide +kernel
theorem dX7_reads_11 : decode cX7_reads 11 = .ok (.getfield 48, 3) := by decide +kernel
theorem dX7_reads_14 : decode cX7_reads 14 = .ok (.iload_n 1, 1) := by decide +kernel
theorem dX7_reads_15 : decode cX7_reads 15 = .ok (.iaload, 1) := by decide +kernel
theorem dX7_reads_16 : decode cX7_reads 16 = .ok (.ifCond .ge 6, 3) := by decide +kernel
theorem dX7_reads_19 : decode cX7_reads 19 = .ok (.ldc 177, 2) := by decide +kernel
theorem dX7_reads_21 : decode cX7_reads 21 = .ok (.ireturn, 1) := by decide +kernel
theorem dX7_reads_22 : decode cX7_reads 22 = .ok (.iconst 0, 1) := by decide +kernel
theorem dX7_reads_23 : decode cX7_reads 23 = .ok (.istore_n 2, 1) := by decide +kernel
theorem dX7_reads_24 : decode cX7_reads 24 = .ok (.iload_n 2, 1) := by decide +kernel
theorem dX7_reads_25 : decode cX7_reads 25 = .ok (.aload_n 0, 1) := by decide +kernel
theorem dX7_reads_26 : decode cX7_reads 26 = .ok (.getfield 51, 3) := by decide +kernel
theorem dX7_reads_29 : decode cX7_reads 29 = .ok (.iload_n 1, 1) := by decide +kernel
theorem dX7_reads_30 : decode cX7_reads 30 = .ok (.iaload, 1) := by decide +kernel
theorem dX7_reads_31 : decode cX7_reads 31 = .ok (.if_icmp .ge 38, 3) := by decide +kernel
theorem dX7_reads_34 : decode cX7_reads 34 = .ok (.aload_n 0, 1) := by decide +kernel
theorem dX7_reads_35 : decode cX7_reads 35 = .ok (.getfield 54, 3) := by decide +kernel
theorem dX7_reads_38 : decode cX7_reads 38 = .ok (.bipush 24, 2) := by decide +kernel
theorem dX7_reads_40 : decode cX7_reads 40 = .ok (.iload_n 1, 1) := by decide +kernel
theorem dX7_reads_41 : decode cX7_reads 41 = .ok (.imul, 1) := by decide +kernel
theorem dX7_reads_42 : decode cX7_reads 42 = .ok (.iload_n 2, 1) := by decide +kernel
theorem dX7_reads_43 : decode cX7_reads 43 = .ok (.iadd, 1) := by decide +kernel
theorem dX7_reads_44 : decode cX7_reads 44 = .ok (.iaload, 1) := by decide +kernel
theorem dX7_reads_45 : decode cX7_reads 45 = .ok (.istore_n 3, 1) := by decide +kernel
theorem dX7_reads_46 : decode cX7_reads 46 = .ok (.iload_n 3, 1) := by decide +kernel
theorem dX7_reads_47 : decode cX7_reads 47 = .ok (.ldc 75, 2) := by decide +kernel
theorem dX7_reads_49 : decode cX7_reads 49 = .ok (.if_icmp .eq 14, 3) := by decide +kernel
theorem dX7_reads_52 : decode cX7_reads 52 = .ok (.iload_n 3, 1) := by decide +kernel
theorem dX7_reads_53 : decode cX7_reads 53 = .ok (.aload_n 0, 1) := by decide +kernel
theorem dX7_reads_54 : decode cX7_reads 54 = .ok (.iload_n 2, 1) := by decide +kernel
theorem dX7_reads_55 : decode cX7_reads 55 = .ok (.invokevirtual 112, 3) := by decide +kernel
theorem dX7_reads_58 : decode cX7_reads 58 = .ok (.if_icmp .eq 5, 3) := by decide +kernel
theorem dX7_reads_61 : decode cX7_reads 61 = .ok (.iload_n 2, 1) := by decide +kernel
theorem dX7_reads_62 : decode cX7_reads 62 = .ok (.ireturn, 1) := by decide +kernel
theorem dX7_reads_63 : decode cX7_reads 63 = .ok (.iinc 2 1, 3) := by decide +kernel
theorem dX7_reads_66 : decode cX7_reads 66 = .ok (.goto (-42), 3) := by decide +kernel
theorem dX7_reads_69 : decode cX7_reads 69 = .ok (.ldc 75, 2) := by decide +kernel
theorem dX7_reads_71 : decode cX7_reads 71 = .ok (.ireturn, 1) := by decide +kernel
theorem dX7_copy_0 : decode cX7_copy 0 = .ok (.iload_n 1, 1) := by decide +kernel
theorem dX7_copy_1 : decode cX7_copy 1 = .ok (.invokestatic 174, 3) := by decide +kernel
theorem dX7_copy_4 : decode cX7_copy 4 = .ok (.ifCond .eq 10, 3) := by decide +kernel
theorem dX7_copy_7 : decode cX7_copy 7 = .ok (.iload_n 3, 1) := by decide +kernel
theorem dX7_copy_8 : decode cX7_copy 8 = .ok (.invokestatic 174, 3) := by decide +kernel
theorem dX7_copy_11 : decode cX7_copy 11 = .ok (.ifCond .ne 6, 3) := by decide +kernel
theorem dX7_copy_14 : decode cX7_copy 14 = .ok (.ldc 92, 2) := by decide +kernel
theorem dX7_copy_16 : decode cX7_copy 16 = .ok (.ireturn, 1) := by decide +kernel
theorem dX7_copy_17 : decode cX7_copy 17 = .ok (.aload_n 0, 1) := by decide +kernel
theorem dX7_copy_18 : decode cX7_copy 18 = .ok (.getfield 48, 3) := by decide +kernel
theorem dX7_copy_21 : decode cX7_copy 21 = .ok (.iload_n 1, 1) := by decide +kernel
theorem dX7_copy_22 : decode cX7_copy 22 = .ok (.iaload, 1) := by decide +kernel
theorem dX7_copy_23 : decode cX7_copy 23 = .ok (.ifCond .lt 12, 3) := by decide +kernel
theorem dX7_copy_26 : decode cX7_copy 26 = .ok (.aload_n 0, 1) := by decide +kernel
theorem dX7_copy_27 : decode cX7_copy 27 = .ok (.getfield 48, 3) := by decide +kernel
theorem dX7_copy_30 : decode cX7_copy 30 = .ok (.iload_n 3, 1) := by decide +kernel
theorem dX7_copy_31 : decode cX7_copy 31 = .ok (.iaload, 1) := by decide +kernel
theorem dX7_copy_32 : decode cX7_copy 32 = .ok (.ifCond .ge 6, 3) := by decide +kernel
theorem dX7_copy_35 : decode cX7_copy 35 = .ok (.ldc 177, 2) := by decide +kernel
theorem dX7_copy_37 : decode cX7_copy 37 = .ok (.ireturn, 1) := by decide +kernel
theorem dX7_copy_38 : decode cX7_copy 38 = .ok (.aload_n 0, 1) := by decide +kernel
theorem dX7_copy_39 : decode cX7_copy 39 = .ok (.getfield 48, 3) := by decide +kernel
theorem dX7_copy_42 : decode cX7_copy 42 = .ok (.iload_n 1, 1) := by decide +kernel
theorem dX7_copy_43 : decode cX7_copy 43 = .ok (.iaload, 1) := by decide +kernel
theorem dX7_copy_44 : decode cX7_copy 44 = .ok (.aload_n 0, 1) := by decide +kernel
theorem dX7_copy_45 : decode cX7_copy 45 = .ok (.getfield 48, 3) := by decide +kernel
theorem dX7_copy_48 : decode cX7_copy 48 = .ok (.iload_n 3, 1) := by decide +kernel
theorem dX7_copy_49 : decode cX7_copy 49 = .ok (.iaload, 1) := by decide +kernel
theorem dX7_copy_50 : decode cX7_copy 50 = .ok (.if_icmp .eq 6, 3) := by decide +kernel
theorem dX7_copy_53 : decode cX7_copy 53 = .ok (.ldc 134, 2) := by decide +kernel
theorem dX7_copy_55 : decode cX7_copy 55 = .ok (.ireturn, 1) := by decide +kernel
theorem dX7_copy_56 : decode cX7_copy 56 = .ok (.iload_n 2, 1) := by decide +kernel
theorem dX7_copy_57 : decode cX7_copy 57 = .ok (.ifCond .lt 40, 3) := by decide +kernel
theorem dX7_copy_60 : decode cX7_copy 60 = .ok (.iload 4, 2) := by decide +kernel
theorem dX7_copy_62 : decode cX7_copy 62 = .ok (.ifCond .lt 35, 3) := by decide +kernel
theorem dX7_copy_65 : decode cX7_copy 65 = .ok (.iload 5, 2) := by decide +kernel
theorem dX7_copy_67 : decode cX7_copy 67 = .ok (.ifCond .lt 30, 3) := by decide +kernel
theorem dX7_copy_70 : decode cX7_copy 70 = .ok (.iload_n 2, 1) := by decide +kernel
theorem dX7_copy_71 : decode cX7_copy 71 = .ok (.aload_n 0, 1) := by decide +kernel
theorem dX7_copy_72 : decode cX7_copy 72 = .ok (.getfield 51, 3) := by decide +kernel
theorem dX7_copy_75 : decode cX7_copy 75 = .ok (.iload_n 1, 1) := by decide +kernel
theorem dX7_copy_76 : decode cX7_copy 76 = .ok (.iaload, 1) := by decide +kernel
theorem dX7_copy_77 : decode cX7_copy 77 = .ok (.iload 5, 2) := by decide +kernel
theorem dX7_copy_79 : decode cX7_copy 79 = .ok (.isub, 1) := by decide +kernel
theorem dX7_copy_80 : decode cX7_copy 80 = .ok (.if_icmp .gt 17, 3) := by decide +kernel
theorem dX7_copy_83 : decode cX7_copy 83 = .ok (.iload 4, 2) := by decide +kernel
theorem dX7_copy_85 : decode cX7_copy 85 = .ok (.aload_n 0, 1) := by decide +kernel
theorem dX7_copy_86 : decode cX7_copy 86 = .ok (.getfield 51, 3) := by decide +kernel
theorem dX7_copy_89 : decode cX7_copy 89 = .ok (.iload_n 3, 1) := by decide +kernel
theorem dX7_copy_90 : decode cX7_copy 90 = .ok (.iaload, 1) := by decide +kernel
theorem dX7_copy_91 : decode cX7_copy 91 = .ok (.iload 5, 2) := by decide +kernel
theorem dX7_copy_93 : decode cX7_copy 93 = .ok (.isub, 1) := by decide +kernel
theorem dX7_copy_94 : decode cX7_copy 94 = .ok (.if_icmp .le 6, 3) := by decide +kernel
theorem dX7_copy_97 : decode cX7_copy 97 = .ok (.ldc 251, 2) := by decide +kernel
theorem dX7_copy_99 : decode cX7_copy 99 = .ok (.ireturn, 1) := by decide +kernel
theorem dX7_copy_100 : decode cX7_copy 100 = .ok (.iconst 0, 1) := by decide +kernel
theorem dX7_copy_101 : decode cX7_copy 101 = .ok (.istore 6, 2) := by decide +kernel
theorem dX7_copy_103 : decode cX7_copy 103 = .ok (.iload 6, 2) := by decide +kernel
theorem dX7_copy_105 : decode cX7_copy 105 = .ok (.iload 5, 2) := by decide +kernel
theorem dX7_copy_107 : decode cX7_copy 107 = .ok (.if_icmp .ge 30, 3) := by decide +kernel
theorem dX7_copy_110 : decode cX7_copy 110 = .ok (.aload_n 0, 1) := by decide +kernel
theorem dX7_copy_111 : decode cX7_copy 111 = .ok (.getfield 69, 3) := by decide +kernel
theorem dX7_copy_114 : decode cX7_copy 114 = .ok (.iload 6, 2) := by decide +kernel
theorem dX7_copy_116 : decode cX7_copy 116 = .ok (.aload_n 0, 1) := by decide +kernel
theorem dX7_copy_117 : decode cX7_copy 117 = .ok (.getfield 54, 3) := by decide +kernel
theorem dX7_copy_120 : decode cX7_copy 120 = .ok (.bipush 24, 2) := by decide +kernel
theorem dX7_copy_122 : decode cX7_copy 122 = .ok (.iload_n 1, 1) := by decide +kernel
theorem dX7_copy_123 : decode cX7_copy 123 = .ok (.imul, 1) := by decide +kernel
theorem dX7_copy_124 : decode cX7_copy 124 = .ok (.iload_n 2, 1) := by decide +kernel
theorem dX7_copy_125 : decode cX7_copy 125 = .ok (.iadd, 1) := by decide +kernel
theorem dX7_copy_126 : decode cX7_copy 126 = .ok (.iload 6, 2) := by decide +kernel
theorem dX7_copy_128 : decode cX7_copy 128 = .ok (.iadd, 1) := by decide +kernel
theorem dX7_copy_129 : decode cX7_copy 129 = .ok (.iaload, 1) := by decide +kernel
theorem dX7_copy_130 : decode cX7_copy 130 = .ok (.iastore, 1) := by decide +kernel
theorem dX7_copy_131 : decode cX7_copy 131 = .ok (.iinc 6 1, 3) := by decide +kernel
theorem dX7_copy_134 : decode cX7_copy 134 = .ok (.goto (-31), 3) := by decide +kernel
theorem dX7_copy_137 : decode cX7_copy 137 = .ok (.iconst 0, 1) := by decide +kernel
theorem dX7_copy_138 : decode cX7_copy 138 = .ok (.istore 6, 2) := by decide +kernel
theorem dX7_copy_140 : decode cX7_copy 140 = .ok (.iload 6, 2) := by decide +kernel
theorem dX7_copy_142 : decode cX7_copy 142 = .ok (.iload 5, 2) := by decide +kernel
theorem dX7_copy_144 : decode cX7_copy 144 = .ok (.if_icmp .ge 31, 3) := by decide +kernel
theorem dX7_copy_147 : decode cX7_copy 147 = .ok (.aload_n 0, 1) := by decide +kernel
theorem dX7_copy_148 : decode cX7_copy 148 = .ok (.getfield 54, 3) := by decide +kernel
theorem dX7_copy_151 : decode cX7_copy 151 = .ok (.bipush 24, 2) := by decide +kernel
theorem dX7_copy_153 : decode cX7_copy 153 = .ok (.iload_n 3, 1) := by decide +kernel
theorem dX7_copy_154 : decode cX7_copy 154 = .ok (.imul, 1) := by decide +kernel
theorem dX7_copy_155 : decode cX7_copy 155 = .ok (.iload 4, 2) := by decide +kernel
theorem dX7_copy_157 : decode cX7_copy 157 = .ok (.iadd, 1) := by decide +kernel
theorem dX7_copy_158 : decode cX7_copy 158 = .ok (.iload 6, 2) := by decide +kernel
theorem dX7_copy_160 : decode cX7_copy 160 = .ok (.iadd, 1) := by decide +kernel
theorem dX7_copy_161 : decode cX7_copy 161 = .ok (.aload_n 0, 1) := by decide +kernel
theorem dX7_copy_162 : decode cX7_copy 162 = .ok (.getfield 69, 3) := by decide +kernel
theorem dX7_copy_165 : decode cX7_copy 165 = .ok (.iload 6, 2) := by decide +kernel
theorem dX7_copy_167 : decode cX7_copy 167 = .ok (.iaload, 1) := by decide +kernel
theorem dX7_copy_168 : decode cX7_copy 168 = .ok (.iastore, 1) := by decide +kernel
theorem dX7_copy_169 : decode cX7_copy 169 = .ok (.iinc 6 1, 3) := by decide +kernel
theorem dX7_copy_172 : decode cX7_copy 172 = .ok (.goto (-32), 3) := by decide +kernel
theorem dX7_copy_175 : decode cX7_copy 175 = .ok (.iload 5, 2) := by decide +kernel
theorem dX7_copy_177 : decode cX7_copy 177 = .ok (.ireturn, 1) := by decide +kernel
theorem dX7_lay_0 : decode cX7_lay 0 = .ok (.iload_n 1, 1) := by decide +kernel
theorem dX7_lay_1 : decode cX7_lay 1 = .ok (.invokestatic 253, 3) := by decide +kernel
theorem dX7_lay_4 : decode cX7_lay 4 = .ok (.ifCond .eq 37, 3) := by decide +kernel
theorem dX7_lay_7 : decode cX7_lay 7 = .ok (.iload_n 2, 1) := by decide +kernel
theorem dX7_lay_8 : decode cX7_lay 8 = .ok (.iconst 0, 1) := by decide +kernel
theorem dX7_lay_9 : decode cX7_lay 9 = .ok (.iconst 3, 1) := by decide +kernel
theorem dX7_lay_10 : decode cX7_lay 10 = .ok (.invokestatic 76, 3) := by decide +kernel
theorem dX7_lay_13 : decode cX7_lay 13 = .ok (.ifCond .eq 28, 3) := by decide +kernel
theorem dX7_lay_16 : decode cX7_lay 16 = .ok (.iload_n 2, 1) := by decide +kernel
theorem dX7_lay_17 : decode cX7_lay 17 = .ok (.iconst 1, 1) := by decide +kernel
theorem dX7_lay_18 : decode cX7_lay 18 = .ok (.if_icmp .ne 11, 3) := by decide +kernel
theorem dX7_lay_21 : decode cX7_lay 21 = .ok (.aload_n 0, 1) := by decide +kernel
theorem dX7_lay_22 : decode cX7_lay 22 = .ok (.iload_n 3, 1) := by decide +kernel
theorem dX7_lay_23 : decode cX7_lay 23 = .ok (.invokevirtual 118, 3) := by decide +kernel
theorem dX7_lay_26 : decode cX7_lay 26 = .ok (.ifCond .eq 15, 3) := by decide +kernel
theorem dX7_lay_29 : decode cX7_lay 29 = .ok (.iload_n 2, 1) := by decide +kernel
theorem dX7_lay_30 : decode cX7_lay 30 = .ok (.iconst 2, 1) := by decide +kernel
theorem dX7_lay_31 : decode cX7_lay 31 = .ok (.if_icmp .ne 13, 3) := by decide +kernel
theorem dX7_lay_34 : decode cX7_lay 34 = .ok (.iload_n 3, 1) := by decide +kernel
theorem dX7_lay_35 : decode cX7_lay 35 = .ok (.invokestatic 174, 3) := by decide +kernel
theorem dX7_lay_38 : decode cX7_lay 38 = .ok (.ifCond .ne 6, 3) := by decide +kernel
theorem dX7_lay_41 : decode cX7_lay 41 = .ok (.ldc 92, 2) := by decide +kernel
theorem dX7_lay_43 : decode cX7_lay 43 = .ok (.ireturn, 1) := by decide +kernel
theorem dX7_lay_44 : decode cX7_lay 44 = .ok (.iload_n 2, 1) := by decide +kernel
theorem dX7_lay_45 : decode cX7_lay 45 = .ok (.iconst 2, 1) := by decide +kernel
theorem dX7_lay_46 : decode cX7_lay 46 = .ok (.if_icmp .ne 15, 3) := by decide +kernel
theorem dX7_lay_49 : decode cX7_lay 49 = .ok (.aload_n 0, 1) := by decide +kernel
theorem dX7_lay_50 : decode cX7_lay 50 = .ok (.getfield 48, 3) := by decide +kernel
theorem dX7_lay_53 : decode cX7_lay 53 = .ok (.iload_n 3, 1) := by decide +kernel
theorem dX7_lay_54 : decode cX7_lay 54 = .ok (.iaload, 1) := by decide +kernel
theorem dX7_lay_55 : decode cX7_lay 55 = .ok (.ifCond .ge 6, 3) := by decide +kernel
theorem dX7_lay_58 : decode cX7_lay 58 = .ok (.ldc 177, 2) := by decide +kernel
theorem dX7_lay_60 : decode cX7_lay 60 = .ok (.ireturn, 1) := by decide +kernel
theorem dX7_lay_61 : decode cX7_lay 61 = .ok (.aload_n 0, 1) := by decide +kernel
theorem dX7_lay_62 : decode cX7_lay 62 = .ok (.getfield 57, 3) := by decide +kernel
theorem dX7_lay_65 : decode cX7_lay 65 = .ok (.iload_n 1, 1) := by decide +kernel
theorem dX7_lay_66 : decode cX7_lay 66 = .ok (.iaload, 1) := by decide +kernel
theorem dX7_lay_67 : decode cX7_lay 67 = .ok (.istore 4, 2) := by decide +kernel
theorem dX7_lay_69 : decode cX7_lay 69 = .ok (.aload_n 0, 1) := by decide +kernel
theorem dX7_lay_70 : decode cX7_lay 70 = .ok (.getfield 57, 3) := by decide +kernel
theorem dX7_lay_73 : decode cX7_lay 73 = .ok (.iload_n 1, 1) := by decide +kernel
theorem dX7_lay_74 : decode cX7_lay 74 = .ok (.iload_n 2, 1) := by decide +kernel
theorem dX7_lay_75 : decode cX7_lay 75 = .ok (.iastore, 1) := by decide +kernel
theorem dX7_lay_76 : decode cX7_lay 76 = .ok (.aload_n 0, 1) := by decide +kernel
theorem dX7_lay_77 : decode cX7_lay 77 = .ok (.getfield 60, 3) := by decide +kernel
theorem dX7_lay_80 : decode cX7_lay 80 = .ok (.iload_n 1, 1) := by decide +kernel
theorem dX7_lay_81 : decode cX7_lay 81 = .ok (.iload_n 2, 1) := by decide +kernel
theorem dX7_lay_82 : decode cX7_lay 82 = .ok (.iconst 1, 1) := by decide +kernel
theorem dX7_lay_83 : decode cX7_lay 83 = .ok (.if_icmp .ne 12, 3) := by decide +kernel
theorem dX7_lay_86 : decode cX7_lay 86 = .ok (.aload_n 0, 1) := by decide +kernel
theorem dX7_lay_87 : decode cX7_lay 87 = .ok (.iload_n 3, 1) := by decide +kernel
theorem dX7_lay_88 : decode cX7_lay 88 = .ok (.iconst 0, 1) := by decide +kernel
theorem dX7_lay_89 : decode cX7_lay 89 = .ok (.invokevirtual 80, 3) := by decide +kernel
theorem dX7_lay_92 : decode cX7_lay 92 = .ok (.goto 18, 3) := by decide +kernel
theorem dX7_lay_95 : decode cX7_lay 95 = .ok (.iload_n 2, 1) := by decide +kernel
theorem dX7_lay_96 : decode cX7_lay 96 = .ok (.iconst 2, 1) := by decide +kernel
theorem dX7_lay_97 : decode cX7_lay 97 = .ok (.if_icmp .ne 12, 3) := by decide +kernel
theorem dX7_lay_100 : decode cX7_lay 100 = .ok (.aload_n 0, 1) := by decide +kernel
theorem dX7_lay_101 : decode cX7_lay 101 = .ok (.getfield 51, 3) := by decide +kernel
theorem dX7_lay_104 : decode cX7_lay 104 = .ok (.iload_n 3, 1) := by decide +kernel
theorem dX7_lay_105 : decode cX7_lay 105 = .ok (.iaload, 1) := by decide +kernel
theorem dX7_lay_106 : decode cX7_lay 106 = .ok (.goto 4, 3) := by decide +kernel
theorem dX7_lay_109 : decode cX7_lay 109 = .ok (.iload_n 3, 1) := by decide +kernel
theorem dX7_lay_110 : decode cX7_lay 110 = .ok (.iastore, 1) := by decide +kernel
theorem dX7_lay_111 : decode cX7_lay 111 = .ok (.aload_n 0, 1) := by decide +kernel
theorem dX7_lay_112 : decode cX7_lay 112 = .ok (.getfield 63, 3) := by decide +kernel
theorem dX7_lay_115 : decode cX7_lay 115 = .ok (.iload_n 1, 1) := by decide +kernel
theorem dX7_lay_116 : decode cX7_lay 116 = .ok (.iload_n 2, 1) := by decide +kernel
theorem dX7_lay_117 : decode cX7_lay 117 = .ok (.iconst 1, 1) := by decide +kernel
theorem dX7_lay_118 : decode cX7_lay 118 = .ok (.if_icmp .ne 11, 3) := by decide +kernel
theorem dX7_lay_121 : decode cX7_lay 121 = .ok (.aload_n 0, 1) := by decide +kernel
theorem dX7_lay_122 : decode cX7_lay 122 = .ok (.iload_n 3, 1) := by decide +kernel
theorem dX7_lay_123 : decode cX7_lay 123 = .ok (.invokevirtual 127, 3) := by decide +kernel
theorem dX7_lay_126 : decode cX7_lay 126 = .ok (.goto 4, 3) := by decide +kernel
theorem dX7_lay_129 : decode cX7_lay 129 = .ok (.iconst 0, 1) := by decide +kernel
theorem dX7_lay_130 : decode cX7_lay 130 = .ok (.iastore, 1) := by decide +kernel
theorem dX7_lay_131 : decode cX7_lay 131 = .ok (.iconst 0, 1) := by decide +kernel
theorem dX7_lay_132 : decode cX7_lay 132 = .ok (.istore 5, 2) := by decide +kernel
theorem dX7_lay_134 : decode cX7_lay 134 = .ok (.iload 5, 2) := by decide +kernel
theorem dX7_lay_136 : decode cX7_lay 136 = .ok (.bipush 24, 2) := by decide +kernel
theorem dX7_lay_138 : decode cX7_lay 138 = .ok (.if_icmp .ge 38, 3) := by decide +kernel
theorem dX7_lay_141 : decode cX7_lay 141 = .ok (.iload_n 2, 1) := by decide +kernel
theorem dX7_lay_142 : decode cX7_lay 142 = .ok (.iconst 2, 1) := by decide +kernel
theorem dX7_lay_143 : decode cX7_lay 143 = .ok (.if_icmp .ne 33, 3) := by decide +kernel
theorem dX7_lay_146 : decode cX7_lay 146 = .ok (.aload_n 0, 1) := by decide +kernel
theorem dX7_lay_147 : decode cX7_lay 147 = .ok (.getfield 66, 3) := by decide +kernel
theorem dX7_lay_150 : decode cX7_lay 150 = .ok (.bipush 24, 2) := by decide +kernel
theorem dX7_lay_152 : decode cX7_lay 152 = .ok (.iload_n 1, 1) := by decide +kernel
theorem dX7_lay_153 : decode cX7_lay 153 = .ok (.imul, 1) := by decide +kernel
theorem dX7_lay_154 : decode cX7_lay 154 = .ok (.iload 5, 2) := by decide +kernel
theorem dX7_lay_156 : decode cX7_lay 156 = .ok (.iadd, 1) := by decide +kernel
theorem dX7_lay_157 : decode cX7_lay 157 = .ok (.aload_n 0, 1) := by decide +kernel
theorem dX7_lay_158 : decode cX7_lay 158 = .ok (.getfield 54, 3) := by decide +kernel
theorem dX7_lay_161 : decode cX7_lay 161 = .ok (.bipush 24, 2) := by decide +kernel
theorem dX7_lay_163 : decode cX7_lay 163 = .ok (.iload_n 3, 1) := by decide +kernel
theorem dX7_lay_164 : decode cX7_lay 164 = .ok (.imul, 1) := by decide +kernel
theorem dX7_lay_165 : decode cX7_lay 165 = .ok (.iload 5, 2) := by decide +kernel
theorem dX7_lay_167 : decode cX7_lay 167 = .ok (.iadd, 1) := by decide +kernel
theorem dX7_lay_168 : decode cX7_lay 168 = .ok (.iaload, 1) := by decide +kernel
theorem dX7_lay_169 : decode cX7_lay 169 = .ok (.iastore, 1) := by decide +kernel
theorem dX7_lay_170 : decode cX7_lay 170 = .ok (.iinc 5 1, 3) := by decide +kernel
theorem dX7_lay_173 : decode cX7_lay 173 = .ok (.goto (-39), 3) := by decide +kernel
theorem dX7_lay_176 : decode cX7_lay 176 = .ok (.iload 4, 2) := by decide +kernel
theorem dX7_lay_178 : decode cX7_lay 178 = .ok (.ireturn, 1) := by decide +kernel
theorem dX7_ask_0 : decode cX7_ask 0 = .ok (.iload_n 1, 1) := by decide +kernel
theorem dX7_ask_1 : decode cX7_ask 1 = .ok (.invokestatic 253, 3) := by decide +kernel
theorem dX7_ask_4 : decode cX7_ask 4 = .ok (.ifCond .eq 12, 3) := by decide +kernel
theorem dX7_ask_7 : decode cX7_ask 7 = .ok (.iload_n 2, 1) := by decide +kernel
theorem dX7_ask_8 : decode cX7_ask 8 = .ok (.iconst 0, 1) := by decide +kernel
theorem dX7_ask_9 : decode cX7_ask 9 = .ok (.iconst 5, 1) := by decide +kernel
theorem dX7_ask_10 : decode cX7_ask 10 = .ok (.invokestatic 76, 3) := by decide +kernel
theorem dX7_ask_13 : decode cX7_ask 13 = .ok (.ifCond .ne 6, 3) := by decide +kernel
theorem dX7_ask_16 : decode cX7_ask 16 = .ok (.ldc 92, 2) := by decide +kernel
theorem dX7_ask_18 : decode cX7_ask 18 = .ok (.ireturn, 1) := by decide +kernel
theorem dX7_ask_19 : decode cX7_ask 19 = .ok (.aload_n 0, 1) := by decide +kernel
theorem dX7_ask_20 : decode cX7_ask 20 = .ok (.getfield 57, 3) := by decide +kernel
theorem dX7_ask_23 : decode cX7_ask 23 = .ok (.iload_n 1, 1) := by decide +kernel
theorem dX7_ask_24 : decode cX7_ask 24 = .ok (.iaload, 1) := by decide +kernel
theorem dX7_ask_25 : decode cX7_ask 25 = .ok (.ifCond .ne 6, 3) := by decide +kernel
theorem dX7_ask_28 : decode cX7_ask 28 = .ok (.ldc 177, 2) := by decide +kernel
theorem dX7_ask_30 : decode cX7_ask 30 = .ok (.ireturn, 1) := by decide +kernel
theorem dX7_ask_31 : decode cX7_ask 31 = .ok (.aload_n 0, 1) := by decide +kernel
theorem dX7_ask_32 : decode cX7_ask 32 = .ok (.getfield 57, 3) := by decide +kernel
theorem dX7_ask_35 : decode cX7_ask 35 = .ok (.iload_n 1, 1) := by decide +kernel
theorem dX7_ask_36 : decode cX7_ask 36 = .ok (.iaload, 1) := by decide +kernel
theorem dX7_ask_37 : decode cX7_ask 37 = .ok (.iconst 1, 1) := by decide +kernel
theorem dX7_ask_38 : decode cX7_ask 38 = .ok (.if_icmp .ne 25, 3) := by decide +kernel
theorem dX7_ask_41 : decode cX7_ask 41 = .ok (.aload_n 0, 1) := by decide +kernel
theorem dX7_ask_42 : decode cX7_ask 42 = .ok (.getfield 60, 3) := by decide +kernel
theorem dX7_ask_45 : decode cX7_ask 45 = .ok (.iload_n 1, 1) := by decide +kernel
theorem dX7_ask_46 : decode cX7_ask 46 = .ok (.iaload, 1) := by decide +kernel
theorem dX7_ask_47 : decode cX7_ask 47 = .ok (.iload_n 2, 1) := by decide +kernel
theorem dX7_ask_48 : decode cX7_ask 48 = .ok (.invokestatic 130, 3) := by decide +kernel
theorem dX7_ask_51 : decode cX7_ask 51 = .ok (.ifCond .eq 12, 3) := by decide +kernel
theorem dX7_ask_54 : decode cX7_ask 54 = .ok (.aload_n 0, 1) := by decide +kernel
theorem dX7_ask_55 : decode cX7_ask 55 = .ok (.getfield 63, 3) := by decide +kernel
theorem dX7_ask_58 : decode cX7_ask 58 = .ok (.iload_n 1, 1) := by decide +kernel
theorem dX7_ask_59 : decode cX7_ask 59 = .ok (.iaload, 1) := by decide +kernel
theorem dX7_ask_60 : decode cX7_ask 60 = .ok (.goto 5, 3) := by decide +kernel
theorem dX7_ask_63 : decode cX7_ask 63 = .ok (.ldc 134, 2) := by decide +kernel
theorem dX7_ask_65 : decode cX7_ask 65 = .ok (.ireturn, 1) := by decide +kernel
theorem dX7_item_0 : decode cX7_item 0 = .ok (.iload_n 1, 1) := by decide +kernel
theorem dX7_item_1 : decode cX7_item 1 = .ok (.invokestatic 253, 3) := by decide +kernel
theorem dX7_item_4 : decode cX7_item 4 = .ok (.ifCond .ne 6, 3) := by decide +kernel
theorem dX7_item_7 : decode cX7_item 7 = .ok (.ldc 92, 2) := by decide +kernel
theorem dX7_item_9 : decode cX7_item 9 = .ok (.ireturn, 1) := by decide +kernel
theorem dX7_item_10 : decode cX7_item 10 = .ok (.aload_n 0, 1) := by decide +kernel
theorem dX7_item_11 : decode cX7_item 11 = .ok (.getfield 57, 3) := by decide +kernel
theorem dX7_item_14 : decode cX7_item 14 = .ok (.iload_n 1, 1) := by decide +kernel
theorem dX7_item_15 : decode cX7_item 15 = .ok (.iaload, 1) := by decide +kernel
theorem dX7_item_16 : decode cX7_item 16 = .ok (.ifCond .ne 6, 3) := by decide +kernel
theorem dX7_item_19 : decode cX7_item 19 = .ok (.ldc 177, 2) := by decide +kernel
theorem dX7_item_21 : decode cX7_item 21 = .ok (.ireturn, 1) := by decide +kernel
theorem dX7_item_22 : decode cX7_item 22 = .ok (.aload_n 0, 1) := by decide +kernel
theorem dX7_item_23 : decode cX7_item 23 = .ok (.getfield 57, 3) := by decide +kernel
theorem dX7_item_26 : decode cX7_item 26 = .ok (.iload_n 1, 1) := by decide +kernel
theorem dX7_item_27 : decode cX7_item 27 = .ok (.iaload, 1) := by decide +kernel
theorem dX7_item_28 : decode cX7_item 28 = .ok (.iconst 2, 1) := by decide +kernel
theorem dX7_item_29 : decode cX7_item 29 = .ok (.if_icmp .eq 6, 3) := by decide +kernel
theorem dX7_item_32 : decode cX7_item 32 = .ok (.ldc 134, 2) := by decide +kernel
theorem dX7_item_34 : decode cX7_item 34 = .ok (.ireturn, 1) := by decide +kernel
theorem dX7_item_35 : decode cX7_item 35 = .ok (.iload_n 2, 1) := by decide +kernel
theorem dX7_item_36 : decode cX7_item 36 = .ok (.iconst 0, 1) := by decide +kernel
theorem dX7_item_37 : decode cX7_item 37 = .ok (.aload_n 0, 1) := by decide +kernel
theorem dX7_item_38 : decode cX7_item 38 = .ok (.getfield 60, 3) := by decide +kernel
theorem dX7_item_41 : decode cX7_item 41 = .ok (.iload_n 1, 1) := by decide +kernel
theorem dX7_item_42 : decode cX7_item 42 = .ok (.iaload, 1) := by decide +kernel
theorem dX7_item_43 : decode cX7_item 43 = .ok (.iconst 1, 1) := by decide +kernel
theorem dX7_item_44 : decode cX7_item 44 = .ok (.isub, 1) := by decide +kernel
theorem dX7_item_45 : decode cX7_item 45 = .ok (.invokestatic 76, 3) := by decide +kernel
theorem dX7_item_48 : decode cX7_item 48 = .ok (.ifCond .ne 6, 3) := by decide +kernel
theorem dX7_item_51 : decode cX7_item 51 = .ok (.ldc 251, 2) := by decide +kernel
theorem dX7_item_53 : decode cX7_item 53 = .ok (.ireturn, 1) := by decide +kernel
theorem dX7_item_54 : decode cX7_item 54 = .ok (.aload_n 0, 1) := by decide +kernel
theorem dX7_item_55 : decode cX7_item 55 = .ok (.getfield 66, 3) := by decide +kernel
theorem dX7_item_58 : decode cX7_item 58 = .ok (.bipush 24, 2) := by decide +kernel
theorem dX7_item_60 : decode cX7_item 60 = .ok (.iload_n 1, 1) := by decide +kernel
theorem dX7_item_61 : decode cX7_item 61 = .ok (.imul, 1) := by decide +kernel
theorem dX7_item_62 : decode cX7_item 62 = .ok (.iload_n 2, 1) := by decide +kernel
theorem dX7_item_63 : decode cX7_item 63 = .ok (.iadd, 1) := by decide +kernel
theorem dX7_item_64 : decode cX7_item 64 = .ok (.iaload, 1) := by decide +kernel
theorem dX7_item_65 : decode cX7_item 65 = .ok (.istore_n 3, 1) := by decide +kernel
theorem dX7_item_66 : decode cX7_item 66 = .ok (.iload_n 3, 1) := by decide +kernel
theorem dX7_item_67 : decode cX7_item 67 = .ok (.ldc 75, 2) := by decide +kernel
theorem dX7_item_69 : decode cX7_item 69 = .ok (.if_icmp .ne 8, 3) := by decide +kernel
theorem dX7_item_72 : decode cX7_item 72 = .ok (.ldc 134, 2) := by decide +kernel
theorem dX7_item_74 : decode cX7_item 74 = .ok (.goto 4, 3) := by decide +kernel
theorem dX7_item_77 : decode cX7_item 77 = .ok (.iload_n 3, 1) := by decide +kernel
theorem dX7_item_78 : decode cX7_item 78 = .ok (.ireturn, 1) := by decide +kernel
theorem dX7_remains_0 : decode cX7_remains 0 = .ok (.iload_n 1, 1) := by decide +kernel
theorem dX7_remains_1 : decode cX7_remains 1 = .ok (.invokestatic 253, 3) := by decide +kernel
theorem dX7_remains_4 : decode cX7_remains 4 = .ok (.ifCond .ne 6, 3) := by decide +kernel
theorem dX7_remains_7 : decode cX7_remains 7 = .ok (.ldc 92, 2) := by decide +kernel
theorem dX7_remains_9 : decode cX7_remains 9 = .ok (.ireturn, 1) := by decide +kernel
theorem dX7_remains_10 : decode cX7_remains 10 = .ok (.aload_n 0, 1) := by decide +kernel
theorem dX7_remains_11 : decode cX7_remains 11 = .ok (.getfield 57, 3) := by decide +kernel
theorem dX7_remains_14 : decode cX7_remains 14 = .ok (.iload_n 1, 1) := by decide +kernel
theorem dX7_remains_15 : decode cX7_remains 15 = .ok (.iaload, 1) := by decide +kernel
theorem dX7_remains_16 : decode cX7_remains 16 = .ok (.ifCond .ne 6, 3) := by decide +kernel
theorem dX7_remains_19 : decode cX7_remains 19 = .ok (.ldc 177, 2) := by decide +kernel
theorem dX7_remains_21 : decode cX7_remains 21 = .ok (.ireturn, 1) := by decide +kernel
theorem dX7_remains_22 : decode cX7_remains 22 = .ok (.aload_n 0, 1) := by decide +kernel
theorem dX7_remains_23 : decode cX7_remains 23 = .ok (.getfield 57, 3) := by decide +kernel
theorem dX7_remains_26 : decode cX7_remains 26 = .ok (.iload_n 1, 1) := by decide +kernel
theorem dX7_remains_27 : decode cX7_remains 27 = .ok (.iaload, 1) := by decide +kernel
theorem dX7_remains_28 : decode cX7_remains 28 = .ok (.iconst 3, 1) := by decide +kernel
theorem dX7_remains_29 : decode cX7_remains 29 = .ok (.if_icmp .eq 6, 3) := by decide +kernel
theorem dX7_remains_32 : decode cX7_remains 32 = .ok (.ldc 134, 2) := by decide +kernel
theorem dX7_remains_34 : decode cX7_remains 34 = .ok (.ireturn, 1) := by decide +kernel
theorem dX7_remains_35 : decode cX7_remains 35 = .ok (.iload_n 2, 1) := by decide +kernel
theorem dX7_remains_36 : decode cX7_remains 36 = .ok (.ifCond .ne 8, 3) := by decide +kernel
theorem dX7_remains_39 : decode cX7_remains 39 = .ok (.ldc 97, 2) := by decide +kernel
theorem dX7_remains_41 : decode cX7_remains 41 = .ok (.goto 20, 3) := by decide +kernel
theorem dX7_remains_44 : decode cX7_remains 44 = .ok (.iload_n 2, 1) := by decide +kernel
theorem dX7_remains_45 : decode cX7_remains 45 = .ok (.iconst (-1), 1) := by decide +kernel
theorem dX7_remains_46 : decode cX7_remains 46 = .ok (.if_icmp .ne 7, 3) := by decide +kernel
theorem dX7_remains_49 : decode cX7_remains 49 = .ok (.iconst 0, 1) := by decide +kernel
theorem dX7_remains_50 : decode cX7_remains 50 = .ok (.goto 11, 3) := by decide +kernel
theorem dX7_remains_53 : decode cX7_remains 53 = .ok (.aload_n 0, 1) := by decide +kernel
theorem dX7_remains_54 : decode cX7_remains 54 = .ok (.getfield 60, 3) := by decide +kernel
theorem dX7_remains_57 : decode cX7_remains 57 = .ok (.iload_n 1, 1) := by decide +kernel
theorem dX7_remains_58 : decode cX7_remains 58 = .ok (.iaload, 1) := by decide +kernel
theorem dX7_remains_59 : decode cX7_remains 59 = .ok (.iload_n 2, 1) := by decide +kernel
theorem dX7_remains_60 : decode cX7_remains 60 = .ok (.irem, 1) := by decide +kernel
theorem dX7_remains_61 : decode cX7_remains 61 = .ok (.ireturn, 1) := by decide +kernel
theorem dX7_tell_0 : decode cX7_tell 0 = .ok (.aload_n 0, 1) := by decide +kernel
theorem dX7_tell_1 : decode cX7_tell 1 = .ok (.getfield 256, 3) := by decide +kernel
theorem dX7_tell_4 : decode cX7_tell 4 = .ok (.bipush 60, 2) := by decide +kernel
theorem dX7_tell_6 : decode cX7_tell 6 = .ok (.if_icmp .ne 6, 3) := by decide +kernel
theorem dX7_tell_9 : decode cX7_tell 9 = .ok (.ldc 98, 2) := by decide +kernel
theorem dX7_tell_11 : decode cX7_tell 11 = .ok (.ireturn, 1) := by decide +kernel
theorem dX7_tell_12 : decode cX7_tell 12 = .ok (.aload_n 0, 1) := by decide +kernel
theorem dX7_tell_13 : decode cX7_tell 13 = .ok (.getfield 72, 3) := by decide +kernel
theorem dX7_tell_16 : decode cX7_tell 16 = .ok (.aload_n 0, 1) := by decide +kernel
theorem dX7_tell_17 : decode cX7_tell 17 = .ok (.getfield 256, 3) := by decide +kernel
theorem dX7_tell_20 : decode cX7_tell 20 = .ok (.iload_n 1, 1) := by decide +kernel
theorem dX7_tell_21 : decode cX7_tell 21 = .ok (.iastore, 1) := by decide +kernel
theorem dX7_tell_22 : decode cX7_tell 22 = .ok (.aload_n 0, 1) := by decide +kernel
theorem dX7_tell_23 : decode cX7_tell 23 = .ok (.dup, 1) := by decide +kernel
theorem dX7_tell_24 : decode cX7_tell 24 = .ok (.getfield 256, 3) := by decide +kernel
theorem dX7_tell_27 : decode cX7_tell 27 = .ok (.iconst 1, 1) := by decide +kernel
theorem dX7_tell_28 : decode cX7_tell 28 = .ok (.iadd, 1) := by decide +kernel
theorem dX7_tell_29 : decode cX7_tell 29 = .ok (.putfield 256, 3) := by decide +kernel
theorem dX7_tell_32 : decode cX7_tell 32 = .ok (.aload_n 0, 1) := by decide +kernel
theorem dX7_tell_33 : decode cX7_tell 33 = .ok (.getfield 256, 3) := by decide +kernel
theorem dX7_tell_36 : decode cX7_tell 36 = .ok (.ireturn, 1) := by decide +kernel
theorem dX7_check_0 : decode cX7_check 0 = .ok (.aload_n 0, 1) := by decide +kernel
theorem dX7_check_1 : decode cX7_check 1 = .ok (.getfield 256, 3) := by decide +kernel
theorem dX7_check_4 : decode cX7_check 4 = .ok (.istore_n 2, 1) := by decide +kernel
theorem dX7_check_5 : decode cX7_check 5 = .ok (.aload_n 0, 1) := by decide +kernel
theorem dX7_check_6 : decode cX7_check 6 = .ok (.iconst 0, 1) := by decide +kernel
theorem dX7_check_7 : decode cX7_check 7 = .ok (.putfield 256, 3) := by decide +kernel
theorem dX7_check_10 : decode cX7_check 10 = .ok (.iload_n 1, 1) := by decide +kernel
theorem dX7_check_11 : decode cX7_check 11 = .ok (.iconst 1, 1) := by decide +kernel
theorem dX7_check_12 : decode cX7_check 12 = .ok (.bipush 30, 2) := by decide +kernel
theorem dX7_check_14 : decode cX7_check 14 = .ok (.invokestatic 76, 3) := by decide +kernel
theorem dX7_check_17 : decode cX7_check 17 = .ok (.ifCond .ne 6, 3) := by decide +kernel
theorem dX7_check_20 : decode cX7_check 20 = .ok (.ldc 92, 2) := by decide +kernel
theorem dX7_check_22 : decode cX7_check 22 = .ok (.ireturn, 1) := by decide +kernel
theorem dX7_check_23 : decode cX7_check 23 = .ok (.aload_n 0, 1) := by decide +kernel
theorem dX7_check_24 : decode cX7_check 24 = .ok (.getfield 259, 3) := by decide +kernel
theorem dX7_check_27 : decode cX7_check 27 = .ok (.ifCond .ne 6, 3) := by decide +kernel
theorem dX7_check_30 : decode cX7_check 30 = .ok (.ldc 97, 2) := by decide +kernel
theorem dX7_check_32 : decode cX7_check 32 = .ok (.ireturn, 1) := by decide +kernel
theorem dX7_check_33 : decode cX7_check 33 = .ok (.aload_n 0, 1) := by decide +kernel
theorem dX7_check_34 : decode cX7_check 34 = .ok (.getfield 9, 3) := by decide +kernel
theorem dX7_check_37 : decode cX7_check 37 = .ok (.aload_n 0, 1) := by decide +kernel
theorem dX7_check_38 : decode cX7_check 38 = .ok (.getfield 16, 3) := by decide +kernel
theorem dX7_check_41 : decode cX7_check 41 = .ok (.invokestatic 263, 3) := by decide +kernel
theorem dX7_check_44 : decode cX7_check 44 = .ok (.aload_n 0, 1) := by decide +kernel
theorem dX7_check_45 : decode cX7_check 45 = .ok (.getfield 13, 3) := by decide +kernel
theorem dX7_check_48 : decode cX7_check 48 = .ok (.aload_n 0, 1) := by decide +kernel
theorem dX7_check_49 : decode cX7_check 49 = .ok (.getfield 9, 3) := by decide +kernel
theorem dX7_check_52 : decode cX7_check 52 = .ok (.invokestatic 263, 3) := by decide +kernel
theorem dX7_check_55 : decode cX7_check 55 = .ok (.iconst 2, 1) := by decide +kernel
theorem dX7_check_56 : decode cX7_check 56 = .ok (.ldc 155, 2) := by decide +kernel
theorem dX7_check_58 : decode cX7_check 58 = .ok (.aload_n 0, 1) := by decide +kernel
theorem dX7_check_59 : decode cX7_check 59 = .ok (.getfield 9, 3) := by decide +kernel
theorem dX7_check_62 : decode cX7_check 62 = .ok (.iconst 3, 1) := by decide +kernel
theorem dX7_check_63 : decode cX7_check 63 = .ok (.iaload, 1) := by decide +kernel
theorem dX7_check_64 : decode cX7_check 64 = .ok (.isub, 1) := by decide +kernel
theorem dX7_check_65 : decode cX7_check 65 = .ok (.iconst 0, 1) := by decide +kernel
theorem dX7_check_66 : decode cX7_check 66 = .ok (.iload_n 1, 1) := by decide +kernel
theorem dX7_check_67 : decode cX7_check 67 = .ok (.invokestatic 109, 3) := by decide +kernel
theorem dX7_check_70 : decode cX7_check 70 = .ok (.imul, 1) := by decide +kernel
theorem dX7_check_71 : decode cX7_check 71 = .ok (.istore_n 3, 1) := by decide +kernel
theorem dX7_check_72 : decode cX7_check 72 = .ok (.iconst 0, 1) := by decide +kernel
theorem dX7_check_73 : decode cX7_check 73 = .ok (.istore 4, 2) := by decide +kernel
theorem dX7_check_75 : decode cX7_check 75 = .ok (.iconst 0, 1) := by decide +kernel
theorem dX7_check_76 : decode cX7_check 76 = .ok (.istore 5, 2) := by decide +kernel
theorem dX7_check_78 : decode cX7_check 78 = .ok (.iconst 2, 1) := by decide +kernel
theorem dX7_check_79 : decode cX7_check 79 = .ok (.iload 5, 2) := by decide +kernel
theorem dX7_check_81 : decode cX7_check 81 = .ok (.imul, 1) := by decide +kernel
theorem dX7_check_82 : decode cX7_check 82 = .ok (.iload_n 3, 1) := by decide +kernel
theorem dX7_check_83 : decode cX7_check 83 = .ok (.if_icmp .ge 95, 3) := by decide +kernel
theorem dX7_check_86 : decode cX7_check 86 = .ok (.iload 4, 2) := by decide +kernel
theorem dX7_check_88 : decode cX7_check 88 = .ok (.iconst 2, 1) := by decide +kernel
theorem dX7_check_89 : decode cX7_check 89 = .ok (.iload 5, 2) := by decide +kernel
theorem dX7_check_91 : decode cX7_check 91 = .ok (.imul, 1) := by decide +kernel
theorem dX7_check_92 : decode cX7_check 92 = .ok (.if_icmp .ne 86, 3) := by decide +kernel
theorem dX7_check_95 : decode cX7_check 95 = .ok (.aload_n 0, 1) := by decide +kernel
theorem dX7_check_96 : decode cX7_check 96 = .ok (.invokevirtual 152, 3) := by decide +kernel
theorem dX7_check_99 : decode cX7_check 99 = .ok (.istore 6, 2) := by decide +kernel
theorem dX7_check_101 : decode cX7_check 101 = .ok (.iload 4, 2) := by decide +kernel
theorem dX7_check_103 : decode cX7_check 103 = .ok (.iload 4, 2) := by decide +kernel
theorem dX7_check_105 : decode cX7_check 105 = .ok (.iload_n 2, 1) := by decide +kernel
theorem dX7_check_106 : decode cX7_check 106 = .ok (.if_icmp .ge 19, 3) := by decide +kernel
theorem dX7_check_109 : decode cX7_check 109 = .ok (.aload_n 0, 1) := by decide +kernel
theorem dX7_check_110 : decode cX7_check 110 = .ok (.getfield 72, 3) := by decide +kernel
theorem dX7_check_113 : decode cX7_check 113 = .ok (.iload 4, 2) := by decide +kernel
theorem dX7_check_115 : decode cX7_check 115 = .ok (.iaload, 1) := by decide +kernel
theorem dX7_check_116 : decode cX7_check 116 = .ok (.iload 6, 2) := by decide +kernel
theorem dX7_check_118 : decode cX7_check 118 = .ok (.if_icmp .ne 7, 3) := by decide +kernel
theorem dX7_check_121 : decode cX7_check 121 = .ok (.iconst 1, 1) := by decide +kernel
theorem dX7_check_122 : decode cX7_check 122 = .ok (.goto 4, 3) := by decide +kernel
theorem dX7_check_125 : decode cX7_check 125 = .ok (.iconst 0, 1) := by decide +kernel
theorem dX7_check_126 : decode cX7_check 126 = .ok (.iadd, 1) := by decide +kernel
theorem dX7_check_127 : decode cX7_check 127 = .ok (.istore 4, 2) := by decide +kernel
theorem dX7_check_129 : decode cX7_check 129 = .ok (.iload 4, 2) := by decide +kernel
theorem dX7_check_131 : decode cX7_check 131 = .ok (.iload 4, 2) := by decide +kernel
theorem dX7_check_133 : decode cX7_check 133 = .ok (.iconst 2, 1) := by decide +kernel
theorem dX7_check_134 : decode cX7_check 134 = .ok (.iload 5, 2) := by decide +kernel
theorem dX7_check_136 : decode cX7_check 136 = .ok (.imul, 1) := by decide +kernel
theorem dX7_check_137 : decode cX7_check 137 = .ok (.iconst 1, 1) := by decide +kernel
theorem dX7_check_138 : decode cX7_check 138 = .ok (.iadd, 1) := by decide +kernel
theorem dX7_check_139 : decode cX7_check 139 = .ok (.if_icmp .ne 29, 3) := by decide +kernel
theorem dX7_check_142 : decode cX7_check 142 = .ok (.iload 4, 2) := by decide +kernel
theorem dX7_check_144 : decode cX7_check 144 = .ok (.iload_n 2, 1) := by decide +kernel
theorem dX7_check_145 : decode cX7_check 145 = .ok (.if_icmp .ge 23, 3) := by decide +kernel
theorem dX7_check_148 : decode cX7_check 148 = .ok (.aload_n 0, 1) := by decide +kernel
theorem dX7_check_149 : decode cX7_check 149 = .ok (.getfield 72, 3) := by decide +kernel
theorem dX7_check_152 : decode cX7_check 152 = .ok (.iload 4, 2) := by decide +kernel
theorem dX7_check_154 : decode cX7_check 154 = .ok (.iaload, 1) := by decide +kernel
theorem dX7_check_155 : decode cX7_check 155 = .ok (.aload_n 0, 1) := by decide +kernel
theorem dX7_check_156 : decode cX7_check 156 = .ok (.getfield 9, 3) := by decide +kernel
theorem dX7_check_159 : decode cX7_check 159 = .ok (.iconst 4, 1) := by decide +kernel
theorem dX7_check_160 : decode cX7_check 160 = .ok (.iaload, 1) := by decide +kernel
theorem dX7_check_161 : decode cX7_check 161 = .ok (.if_icmp .ne 7, 3) := by decide +kernel
theorem dX7_check_164 : decode cX7_check 164 = .ok (.iconst 1, 1) := by decide +kernel
theorem dX7_check_165 : decode cX7_check 165 = .ok (.goto 4, 3) := by decide +kernel
theorem dX7_check_168 : decode cX7_check 168 = .ok (.iconst 0, 1) := by decide +kernel
theorem dX7_check_169 : decode cX7_check 169 = .ok (.iadd, 1) := by decide +kernel
theorem dX7_check_170 : decode cX7_check 170 = .ok (.istore 4, 2) := by decide +kernel
theorem dX7_check_172 : decode cX7_check 172 = .ok (.iinc 5 1, 3) := by decide +kernel
theorem dX7_check_175 : decode cX7_check 175 = .ok (.goto (-97), 3) := by decide +kernel
theorem dX7_check_178 : decode cX7_check 178 = .ok (.aload_n 0, 1) := by decide +kernel
theorem dX7_check_179 : decode cX7_check 179 = .ok (.getfield 16, 3) := by decide +kernel
theorem dX7_check_182 : decode cX7_check 182 = .ok (.aload_n 0, 1) := by decide +kernel
theorem dX7_check_183 : decode cX7_check 183 = .ok (.getfield 9, 3) := by decide +kernel
theorem dX7_check_186 : decode cX7_check 186 = .ok (.invokestatic 263, 3) := by decide +kernel
theorem dX7_check_189 : decode cX7_check 189 = .ok (.iload 4, 2) := by decide +kernel
theorem dX7_check_191 : decode cX7_check 191 = .ok (.iload_n 2, 1) := by decide +kernel
theorem dX7_check_192 : decode cX7_check 192 = .ok (.if_icmp .ne 13, 3) := by decide +kernel
theorem dX7_check_195 : decode cX7_check 195 = .ok (.iload 4, 2) := by decide +kernel
theorem dX7_check_197 : decode cX7_check 197 = .ok (.iload_n 3, 1) := by decide +kernel
theorem dX7_check_198 : decode cX7_check 198 = .ok (.if_icmp .ne 7, 3) := by decide +kernel
theorem dX7_check_201 : decode cX7_check 201 = .ok (.iconst 0, 1) := by decide +kernel
theorem dX7_check_202 : decode cX7_check 202 = .ok (.goto 7, 3) := by decide +kernel
theorem dX7_check_205 : decode cX7_check 205 = .ok (.iconst 1, 1) := by decide +kernel
theorem dX7_check_206 : decode cX7_check 206 = .ok (.iload 4, 2) := by decide +kernel
theorem dX7_check_208 : decode cX7_check 208 = .ok (.iadd, 1) := by decide +kernel
theorem dX7_check_209 : decode cX7_check 209 = .ok (.ireturn, 1) := by decide +kernel
theorem dX7_keep_0 : decode cX7_keep 0 = .ok (.aload_n 0, 1) := by decide +kernel
theorem dX7_keep_1 : decode cX7_keep 1 = .ok (.getfield 9, 3) := by decide +kernel
theorem dX7_keep_4 : decode cX7_keep 4 = .ok (.aload_n 0, 1) := by decide +kernel
theorem dX7_keep_5 : decode cX7_keep 5 = .ok (.getfield 13, 3) := by decide +kernel
theorem dX7_keep_8 : decode cX7_keep 8 = .ok (.invokestatic 263, 3) := by decide +kernel
theorem dX7_keep_11 : decode cX7_keep 11 = .ok (.aload_n 0, 1) := by decide +kernel
theorem dX7_keep_12 : decode cX7_keep 12 = .ok (.iconst 1, 1) := by decide +kernel
theorem dX7_keep_13 : decode cX7_keep 13 = .ok (.putfield 259, 3) := by decide +kernel
theorem dX7_keep_16 : decode cX7_keep 16 = .ok (.aload_n 0, 1) := by decide +kernel
theorem dX7_keep_17 : decode cX7_keep 17 = .ok (.getfield 9, 3) := by decide +kernel
theorem dX7_keep_20 : decode cX7_keep 20 = .ok (.iconst 1, 1) := by decide +kernel
theorem dX7_keep_21 : decode cX7_keep 21 = .ok (.iaload, 1) := by decide +kernel
theorem dX7_keep_22 : decode cX7_keep 22 = .ok (.ireturn, 1) := by decide +kernel
theorem dX7_back_0 : decode cX7_back 0 = .ok (.aload_n 0, 1) := by decide +kernel
theorem dX7_back_1 : decode cX7_back 1 = .ok (.getfield 259, 3) := by decide +kernel
theorem dX7_back_4 : decode cX7_back 4 = .ok (.ifCond .ne 6, 3) := by decide +kernel
theorem dX7_back_7 : decode cX7_back 7 = .ok (.ldc 97, 2) := by decide +kernel
theorem dX7_back_9 : decode cX7_back 9 = .ok (.ireturn, 1) := by decide +kernel
theorem dX7_back_10 : decode cX7_back 10 = .ok (.aload_n 0, 1) := by decide +kernel
theorem dX7_back_11 : decode cX7_back 11 = .ok (.getfield 13, 3) := by decide +kernel
theorem dX7_back_14 : decode cX7_back 14 = .ok (.aload_n 0, 1) := by decide +kernel
theorem dX7_back_15 : decode cX7_back 15 = .ok (.getfield 9, 3) := by decide +kernel
theorem dX7_back_18 : decode cX7_back 18 = .ok (.invokestatic 263, 3) := by decide +kernel
theorem dX7_back_21 : decode cX7_back 21 = .ok (.aload_n 0, 1) := by decide +kernel
theorem dX7_back_22 : decode cX7_back 22 = .ok (.getfield 9, 3) := by decide +kernel
theorem dX7_back_25 : decode cX7_back 25 = .ok (.iconst 1, 1) := by decide +kernel
theorem dX7_back_26 : decode cX7_back 26 = .ok (.iaload, 1) := by decide +kernel
theorem dX7_back_27 : decode cX7_back 27 = .ok (.ireturn, 1) := by decide +kernel
theorem dX7_count_0 : decode cX7_count 0 = .ok (.iload_n 1, 1) := by decide +kernel
theorem dX7_count_1 : decode cX7_count 1 = .ok (.tableswitch 133 0 10 #[59, 66, 73, 80, 85, 92, 100, 108, 116, 121, 126], 59) := by decide +kernel
theorem dX7_count_60 : decode cX7_count 60 = .ok (.aload_n 0, 1) := by decide +kernel
theorem dX7_count_61 : decode cX7_count 61 = .ok (.getfield 9, 3) := by decide +kernel
theorem dX7_count_64 : decode cX7_count 64 = .ok (.iconst 1, 1) := by decide +kernel
theorem dX7_count_65 : decode cX7_count 65 = .ok (.iaload, 1) := by decide +kernel
theorem dX7_count_66 : decode cX7_count 66 = .ok (.ireturn, 1) := by decide +kernel
theorem dX7_count_67 : decode cX7_count 67 = .ok (.aload_n 0, 1) := by decide +kernel
theorem dX7_count_68 : decode cX7_count 68 = .ok (.getfield 9, 3) := by decide +kernel
theorem dX7_count_71 : decode cX7_count 71 = .ok (.iconst 2, 1) := by decide +kernel
theorem dX7_count_72 : decode cX7_count 72 = .ok (.iaload, 1) := by decide +kernel
theorem dX7_count_73 : decode cX7_count 73 = .ok (.ireturn, 1) := by decide +kernel
theorem dX7_count_74 : decode cX7_count 74 = .ok (.aload_n 0, 1) := by decide +kernel
theorem dX7_count_75 : decode cX7_count 75 = .ok (.getfield 9, 3) := by decide +kernel
theorem dX7_count_78 : decode cX7_count 78 = .ok (.iconst 3, 1) := by decide +kernel
theorem dX7_count_79 : decode cX7_count 79 = .ok (.iaload, 1) := by decide +kernel
theorem dX7_count_80 : decode cX7_count 80 = .ok (.ireturn, 1) := by decide +kernel
theorem dX7_count_81 : decode cX7_count 81 = .ok (.aload_n 0, 1) := by decide +kernel
theorem dX7_count_82 : decode cX7_count 82 = .ok (.invokevirtual 159, 3) := by decide +kernel
theorem dX7_count_85 : decode cX7_count 85 = .ok (.ireturn, 1) := by decide +kernel
theorem dX7_count_86 : decode cX7_count 86 = .ok (.aload_n 0, 1) := by decide +kernel
theorem dX7_count_87 : decode cX7_count 87 = .ok (.getfield 9, 3) := by decide +kernel
theorem dX7_count_90 : decode cX7_count 90 = .ok (.iconst 4, 1) := by decide +kernel
theorem dX7_count_91 : decode cX7_count 91 = .ok (.iaload, 1) := by decide +kernel
theorem dX7_count_92 : decode cX7_count 92 = .ok (.ireturn, 1) := by decide +kernel
theorem dX7_count_93 : decode cX7_count 93 = .ok (.aload_n 0, 1) := by decide +kernel
theorem dX7_count_94 : decode cX7_count 94 = .ok (.getfield 9, 3) := by decide +kernel
theorem dX7_count_97 : decode cX7_count 97 = .ok (.bipush 6, 2) := by decide +kernel
theorem dX7_count_99 : decode cX7_count 99 = .ok (.iaload, 1) := by decide +kernel
theorem dX7_count_100 : decode cX7_count 100 = .ok (.ireturn, 1) := by decide +kernel
theorem dX7_count_101 : decode cX7_count 101 = .ok (.aload_n 0, 1) := by decide +kernel
theorem dX7_count_102 : decode cX7_count 102 = .ok (.getfield 9, 3) := by decide +kernel
theorem dX7_count_105 : decode cX7_count 105 = .ok (.bipush 7, 2) := by decide +kernel
theorem dX7_count_107 : decode cX7_count 107 = .ok (.iaload, 1) := by decide +kernel
theorem dX7_count_108 : decode cX7_count 108 = .ok (.ireturn, 1) := by decide +kernel
theorem dX7_count_109 : decode cX7_count 109 = .ok (.aload_n 0, 1) := by decide +kernel
theorem dX7_count_110 : decode cX7_count 110 = .ok (.getfield 9, 3) := by decide +kernel
theorem dX7_count_113 : decode cX7_count 113 = .ok (.bipush 8, 2) := by decide +kernel
theorem dX7_count_115 : decode cX7_count 115 = .ok (.iaload, 1) := by decide +kernel
theorem dX7_count_116 : decode cX7_count 116 = .ok (.ireturn, 1) := by decide +kernel
theorem dX7_count_117 : decode cX7_count 117 = .ok (.aload_n 0, 1) := by decide +kernel
theorem dX7_count_118 : decode cX7_count 118 = .ok (.getfield 256, 3) := by decide +kernel
theorem dX7_count_121 : decode cX7_count 121 = .ok (.ireturn, 1) := by decide +kernel
theorem dX7_count_122 : decode cX7_count 122 = .ok (.aload_n 0, 1) := by decide +kernel
theorem dX7_count_123 : decode cX7_count 123 = .ok (.getfield 181, 3) := by decide +kernel
theorem dX7_count_126 : decode cX7_count 126 = .ok (.ireturn, 1) := by decide +kernel
theorem dX7_count_127 : decode cX7_count 127 = .ok (.aload_n 0, 1) := by decide +kernel
theorem dX7_count_128 : decode cX7_count 128 = .ok (.getfield 9, 3) := by decide +kernel
theorem dX7_count_131 : decode cX7_count 131 = .ok (.iconst 0, 1) := by decide +kernel
theorem dX7_count_132 : decode cX7_count 132 = .ok (.iaload, 1) := by decide +kernel
theorem dX7_count_133 : decode cX7_count 133 = .ok (.ireturn, 1) := by decide +kernel
theorem dX7_count_134 : decode cX7_count 134 = .ok (.ldc 92, 2) := by decide +kernel
theorem dX7_count_136 : decode cX7_count 136 = .ok (.ireturn, 1) := by decide +kernel
theorem dJ11_isValidCodePoint_9a6ad_0 : decode cJ11_isValidCodePoint_9a6ad 0 = .ok (.iload_n 0, 1) := by decide +kernel
theorem dJ11_isValidCodePoint_9a6ad_1 : decode cJ11_isValidCodePoint_9a6ad 1 = .ok (.bipush 16, 2) := by decide +kernel
theorem dJ11_isValidCodePoint_9a6ad_3 : decode cJ11_isValidCodePoint_9a6ad 3 = .ok (.iushr, 1) := by decide +kernel
theorem dJ11_isValidCodePoint_9a6ad_4 : decode cJ11_isValidCodePoint_9a6ad 4 = .ok (.istore_n 1, 1) := by decide +kernel
theorem dJ11_isValidCodePoint_9a6ad_5 : decode cJ11_isValidCodePoint_9a6ad 5 = .ok (.iload_n 1, 1) := by decide +kernel
theorem dJ11_isValidCodePoint_9a6ad_6 : decode cJ11_isValidCodePoint_9a6ad 6 = .ok (.bipush 17, 2) := by decide +kernel
theorem dJ11_isValidCodePoint_9a6ad_8 : decode cJ11_isValidCodePoint_9a6ad 8 = .ok (.if_icmp .ge 7, 3) := by decide +kernel
theorem dJ11_isValidCodePoint_9a6ad_11 : decode cJ11_isValidCodePoint_9a6ad 11 = .ok (.iconst 1, 1) := by decide +kernel
theorem dJ11_isValidCodePoint_9a6ad_12 : decode cJ11_isValidCodePoint_9a6ad 12 = .ok (.goto 4, 3) := by decide +kernel
theorem dJ11_isValidCodePoint_9a6ad_15 : decode cJ11_isValidCodePoint_9a6ad 15 = .ok (.iconst 0, 1) := by decide +kernel
theorem dJ11_isValidCodePoint_9a6ad_16 : decode cJ11_isValidCodePoint_9a6ad 16 = .ok (.ireturn, 1) := by decide +kernel
theorem dJ11_highSurrogate_5068e_0 : decode cJ11_highSurrogate_5068e 0 = .ok (.iload_n 0, 1) := by decide +kernel
theorem dJ11_highSurrogate_5068e_1 : decode cJ11_highSurrogate_5068e 1 = .ok (.bipush 10, 2) := by decide +kernel
theorem dJ11_highSurrogate_5068e_3 : decode cJ11_highSurrogate_5068e 3 = .ok (.iushr, 1) := by decide +kernel
theorem dJ11_highSurrogate_5068e_4 : decode cJ11_highSurrogate_5068e 4 = .ok (.ldc 110, 2) := by decide +kernel
theorem dJ11_highSurrogate_5068e_6 : decode cJ11_highSurrogate_5068e 6 = .ok (.iadd, 1) := by decide +kernel
theorem dJ11_highSurrogate_5068e_7 : decode cJ11_highSurrogate_5068e 7 = .ok (.i2c, 1) := by decide +kernel
theorem dJ11_highSurrogate_5068e_8 : decode cJ11_highSurrogate_5068e 8 = .ok (.ireturn, 1) := by decide +kernel
theorem dJ11_lowSurrogate_5068e_0 : decode cJ11_lowSurrogate_5068e 0 = .ok (.iload_n 0, 1) := by decide +kernel
theorem dJ11_lowSurrogate_5068e_1 : decode cJ11_lowSurrogate_5068e 1 = .ok (.sipush 1023, 3) := by decide +kernel
theorem dJ11_lowSurrogate_5068e_4 : decode cJ11_lowSurrogate_5068e 4 = .ok (.iand, 1) := by decide +kernel
theorem dJ11_lowSurrogate_5068e_5 : decode cJ11_lowSurrogate_5068e 5 = .ok (.ldc 76, 2) := by decide +kernel
theorem dJ11_lowSurrogate_5068e_7 : decode cJ11_lowSurrogate_5068e 7 = .ok (.iadd, 1) := by decide +kernel
theorem dJ11_lowSurrogate_5068e_8 : decode cJ11_lowSurrogate_5068e 8 = .ok (.i2c, 1) := by decide +kernel
theorem dJ11_lowSurrogate_5068e_9 : decode cJ11_lowSurrogate_5068e 9 = .ok (.ireturn, 1) := by decide +kernel
theorem dJ6_bitCount_0f7a4_0 : decode cJ6_bitCount_0f7a4 0 = .ok (.iload_n 0, 1) := by decide +kernel
theorem dJ6_bitCount_0f7a4_1 : decode cJ6_bitCount_0f7a4 1 = .ok (.iload_n 0, 1) := by decide +kernel
theorem dJ6_bitCount_0f7a4_2 : decode cJ6_bitCount_0f7a4 2 = .ok (.iconst 1, 1) := by decide +kernel
theorem dJ6_bitCount_0f7a4_3 : decode cJ6_bitCount_0f7a4 3 = .ok (.iushr, 1) := by decide +kernel
theorem dJ6_bitCount_0f7a4_4 : decode cJ6_bitCount_0f7a4 4 = .ok (.ldc_w 265, 3) := by decide +kernel
theorem dJ6_bitCount_0f7a4_7 : decode cJ6_bitCount_0f7a4 7 = .ok (.iand, 1) := by decide +kernel
theorem dJ6_bitCount_0f7a4_8 : decode cJ6_bitCount_0f7a4 8 = .ok (.isub, 1) := by decide +kernel
theorem dJ6_bitCount_0f7a4_9 : decode cJ6_bitCount_0f7a4 9 = .ok (.istore_n 0, 1) := by decide +kernel
theorem dJ6_bitCount_0f7a4_10 : decode cJ6_bitCount_0f7a4 10 = .ok (.iload_n 0, 1) := by decide +kernel
theorem dJ6_bitCount_0f7a4_11 : decode cJ6_bitCount_0f7a4 11 = .ok (.ldc_w 266, 3) := by decide +kernel
theorem dJ6_bitCount_0f7a4_14 : decode cJ6_bitCount_0f7a4 14 = .ok (.iand, 1) := by decide +kernel
theorem dJ6_bitCount_0f7a4_15 : decode cJ6_bitCount_0f7a4 15 = .ok (.iload_n 0, 1) := by decide +kernel
theorem dJ6_bitCount_0f7a4_16 : decode cJ6_bitCount_0f7a4 16 = .ok (.iconst 2, 1) := by decide +kernel
theorem dJ6_bitCount_0f7a4_17 : decode cJ6_bitCount_0f7a4 17 = .ok (.iushr, 1) := by decide +kernel
theorem dJ6_bitCount_0f7a4_18 : decode cJ6_bitCount_0f7a4 18 = .ok (.ldc_w 266, 3) := by decide +kernel
theorem dJ6_bitCount_0f7a4_21 : decode cJ6_bitCount_0f7a4 21 = .ok (.iand, 1) := by decide +kernel
theorem dJ6_bitCount_0f7a4_22 : decode cJ6_bitCount_0f7a4 22 = .ok (.iadd, 1) := by decide +kernel
theorem dJ6_bitCount_0f7a4_23 : decode cJ6_bitCount_0f7a4 23 = .ok (.istore_n 0, 1) := by decide +kernel
theorem dJ6_bitCount_0f7a4_24 : decode cJ6_bitCount_0f7a4 24 = .ok (.iload_n 0, 1) := by decide +kernel
theorem dJ6_bitCount_0f7a4_25 : decode cJ6_bitCount_0f7a4 25 = .ok (.iload_n 0, 1) := by decide +kernel
theorem dJ6_bitCount_0f7a4_26 : decode cJ6_bitCount_0f7a4 26 = .ok (.iconst 4, 1) := by decide +kernel
theorem dJ6_bitCount_0f7a4_27 : decode cJ6_bitCount_0f7a4 27 = .ok (.iushr, 1) := by decide +kernel
theorem dJ6_bitCount_0f7a4_28 : decode cJ6_bitCount_0f7a4 28 = .ok (.iadd, 1) := by decide +kernel
theorem dJ6_bitCount_0f7a4_29 : decode cJ6_bitCount_0f7a4 29 = .ok (.ldc_w 267, 3) := by decide +kernel
theorem dJ6_bitCount_0f7a4_32 : decode cJ6_bitCount_0f7a4 32 = .ok (.iand, 1) := by decide +kernel
theorem dJ6_bitCount_0f7a4_33 : decode cJ6_bitCount_0f7a4 33 = .ok (.istore_n 0, 1) := by decide +kernel
theorem dJ6_bitCount_0f7a4_34 : decode cJ6_bitCount_0f7a4 34 = .ok (.iload_n 0, 1) := by decide +kernel
theorem dJ6_bitCount_0f7a4_35 : decode cJ6_bitCount_0f7a4 35 = .ok (.iload_n 0, 1) := by decide +kernel
theorem dJ6_bitCount_0f7a4_36 : decode cJ6_bitCount_0f7a4 36 = .ok (.bipush 8, 2) := by decide +kernel
theorem dJ6_bitCount_0f7a4_38 : decode cJ6_bitCount_0f7a4 38 = .ok (.iushr, 1) := by decide +kernel
theorem dJ6_bitCount_0f7a4_39 : decode cJ6_bitCount_0f7a4 39 = .ok (.iadd, 1) := by decide +kernel
theorem dJ6_bitCount_0f7a4_40 : decode cJ6_bitCount_0f7a4 40 = .ok (.istore_n 0, 1) := by decide +kernel
theorem dJ6_bitCount_0f7a4_41 : decode cJ6_bitCount_0f7a4 41 = .ok (.iload_n 0, 1) := by decide +kernel
theorem dJ6_bitCount_0f7a4_42 : decode cJ6_bitCount_0f7a4 42 = .ok (.iload_n 0, 1) := by decide +kernel
theorem dJ6_bitCount_0f7a4_43 : decode cJ6_bitCount_0f7a4 43 = .ok (.bipush 16, 2) := by decide +kernel
theorem dJ6_bitCount_0f7a4_45 : decode cJ6_bitCount_0f7a4 45 = .ok (.iushr, 1) := by decide +kernel
theorem dJ6_bitCount_0f7a4_46 : decode cJ6_bitCount_0f7a4 46 = .ok (.iadd, 1) := by decide +kernel
theorem dJ6_bitCount_0f7a4_47 : decode cJ6_bitCount_0f7a4 47 = .ok (.istore_n 0, 1) := by decide +kernel
theorem dJ6_bitCount_0f7a4_48 : decode cJ6_bitCount_0f7a4 48 = .ok (.iload_n 0, 1) := by decide +kernel
theorem dJ6_bitCount_0f7a4_49 : decode cJ6_bitCount_0f7a4 49 = .ok (.bipush 63, 2) := by decide +kernel
theorem dJ6_bitCount_0f7a4_51 : decode cJ6_bitCount_0f7a4 51 = .ok (.iand, 1) := by decide +kernel
theorem dJ6_bitCount_0f7a4_52 : decode cJ6_bitCount_0f7a4 52 = .ok (.ireturn, 1) := by decide +kernel
theorem dJ9_abs_0f7a4_0 : decode cJ9_abs_0f7a4 0 = .ok (.iload_n 0, 1) := by decide +kernel
theorem dJ9_abs_0f7a4_1 : decode cJ9_abs_0f7a4 1 = .ok (.ifCond .ge 8, 3) := by decide +kernel
theorem dJ9_abs_0f7a4_4 : decode cJ9_abs_0f7a4 4 = .ok (.iload_n 0, 1) := by decide +kernel
theorem dJ9_abs_0f7a4_5 : decode cJ9_abs_0f7a4 5 = .ok (.ineg, 1) := by decide +kernel
theorem dJ9_abs_0f7a4_6 : decode cJ9_abs_0f7a4 6 = .ok (.goto 4, 3) := by decide +kernel
theorem dJ9_abs_0f7a4_9 : decode cJ9_abs_0f7a4 9 = .ok (.iload_n 0, 1) := by decide +kernel
theorem dJ9_abs_0f7a4_10 : decode cJ9_abs_0f7a4 10 = .ok (.ireturn, 1) := by decide +kernel
theorem dJ9_max_7cf53_0 : decode cJ9_max_7cf53 0 = .ok (.iload_n 0, 1) := by decide +kernel
theorem dJ9_max_7cf53_1 : decode cJ9_max_7cf53 1 = .ok (.iload_n 1, 1) := by decide +kernel
theorem dJ9_max_7cf53_2 : decode cJ9_max_7cf53 2 = .ok (.if_icmp .lt 7, 3) := by decide +kernel
theorem dJ9_max_7cf53_5 : decode cJ9_max_7cf53 5 = .ok (.iload_n 0, 1) := by decide +kernel
theorem dJ9_max_7cf53_6 : decode cJ9_max_7cf53 6 = .ok (.goto 4, 3) := by decide +kernel
theorem dJ9_max_7cf53_9 : decode cJ9_max_7cf53 9 = .ok (.iload_n 1, 1) := by decide +kernel
theorem dJ9_max_7cf53_10 : decode cJ9_max_7cf53 10 = .ok (.ireturn, 1) := by decide +kernel
theorem dJ9_min_7cf53_0 : decode cJ9_min_7cf53 0 = .ok (.iload_n 0, 1) := by decide +kernel
theorem dJ9_min_7cf53_1 : decode cJ9_min_7cf53 1 = .ok (.iload_n 1, 1) := by decide +kernel
theorem dJ9_min_7cf53_2 : decode cJ9_min_7cf53 2 = .ok (.if_icmp .gt 7, 3) := by decide +kernel
theorem dJ9_min_7cf53_5 : decode cJ9_min_7cf53 5 = .ok (.iload_n 0, 1) := by decide +kernel
theorem dJ9_min_7cf53_6 : decode cJ9_min_7cf53 6 = .ok (.goto 4, 3) := by decide +kernel
theorem dJ9_min_7cf53_9 : decode cJ9_min_7cf53 9 = .ok (.iload_n 1, 1) := by decide +kernel
theorem dJ9_min_7cf53_10 : decode cJ9_min_7cf53 10 = .ok (.ireturn, 1) := by decide +kernel
theorem dJ0_length_8abf5_0 : decode cJ0_length_8abf5 0 = .ok (.aload_n 0, 1) := by decide +kernel
theorem dJ0_length_8abf5_1 : decode cJ0_length_8abf5 1 = .ok (.getfield 9, 3) := by decide +kernel
theorem dJ0_length_8abf5_4 : decode cJ0_length_8abf5 4 = .ok (.arraylength, 1) := by decide +kernel
theorem dJ0_length_8abf5_5 : decode cJ0_length_8abf5 5 = .ok (.aload_n 0, 1) := by decide +kernel
theorem dJ0_length_8abf5_6 : decode cJ0_length_8abf5 6 = .ok (.invokevirtual 335, 3) := by decide +kernel
theorem dJ0_length_8abf5_9 : decode cJ0_length_8abf5 9 = .ok (.ishr, 1) := by decide +kernel
theorem dJ0_length_8abf5_10 : decode cJ0_length_8abf5 10 = .ok (.ireturn, 1) := by decide +kernel
theorem dJ0_charAt_5068e_0 : decode cJ0_charAt_5068e 0 = .ok (.aload_n 0, 1) := by decide +kernel
theorem dJ0_charAt_5068e_1 : decode cJ0_charAt_5068e 1 = .ok (.invokevirtual 492, 3) := by decide +kernel
theorem dJ0_charAt_5068e_4 : decode cJ0_charAt_5068e 4 = .ok (.ifCond .eq 12, 3) := by decide +kernel
end
section
theorem dJ0_charAt_5068e_7 : decode cJ0_charAt_5068e 7 = .ok (.aload_n 0, 1) := by decide +kernel
theorem dJ0_charAt_5068e_8 : decode cJ0_charAt_5068e 8 = .ok (.getfield 9, 3) := by decide +kernel
theorem dJ0_charAt_5068e_11 : decode cJ0_charAt_5068e 11 = .ok (.iload_n 1, 1) := by decide +kernel
theorem dJ0_charAt_5068e_12 : decode cJ0_charAt_5068e 12 = .ok (.invokestatic 495, 3) := by decide +kernel
theorem dJ0_charAt_5068e_15 : decode cJ0_charAt_5068e 15 = .ok (.ireturn, 1) := by decide +kernel
theorem dJ0_charAt_5068e_16 : decode cJ0_charAt_5068e 16 = .ok (.aload_n 0, 1) := by decide +kernel
theorem dJ0_charAt_5068e_17 : decode cJ0_charAt_5068e 17 = .ok (.getfield 9, 3) := by decide +kernel
theorem dJ0_charAt_5068e_20 : decode cJ0_charAt_5068e 20 = .ok (.iload_n 1, 1) := by decide +kernel
theorem dJ0_charAt_5068e_21 : decode cJ0_charAt_5068e 21 = .ok (.invokestatic 498, 3) := by decide +kernel
theorem dJ0_charAt_5068e_24 : decode cJ0_charAt_5068e 24 = .ok (.ireturn, 1) := by decide +kernel
theorem dJ0_indexOf_0f7a4_0 : decode cJ0_indexOf_0f7a4 0 = .ok (.aload_n 0, 1) := by decide +kernel
theorem dJ0_indexOf_0f7a4_1 : decode cJ0_indexOf_0f7a4 1 = .ok (.iload_n 1, 1) := by decide +kernel
theorem dJ0_indexOf_0f7a4_2 : decode cJ0_indexOf_0f7a4 2 = .ok (.iconst 0, 1) := by decide +kernel
theorem dJ0_indexOf_0f7a4_3 : decode cJ0_indexOf_0f7a4 3 = .ok (.invokevirtual 633, 3) := by decide +kernel
theorem dJ0_indexOf_0f7a4_6 : decode cJ0_indexOf_0f7a4 6 = .ok (.ireturn, 1) := by decide +kernel
theorem dJ0_indexOf_7cf53_0 : decode cJ0_indexOf_7cf53 0 = .ok (.aload_n 0, 1) := by decide +kernel
theorem dJ0_indexOf_7cf53_1 : decode cJ0_indexOf_7cf53 1 = .ok (.invokevirtual 492, 3) := by decide +kernel
theorem dJ0_indexOf_7cf53_4 : decode cJ0_indexOf_7cf53 4 = .ok (.ifCond .eq 19, 3) := by decide +kernel
theorem dJ0_indexOf_7cf53_7 : decode cJ0_indexOf_7cf53 7 = .ok (.aload_n 0, 1) := by decide +kernel
theorem dJ0_indexOf_7cf53_8 : decode cJ0_indexOf_7cf53 8 = .ok (.getfield 9, 3) := by decide +kernel
theorem dJ0_indexOf_7cf53_11 : decode cJ0_indexOf_7cf53 11 = .ok (.iload_n 1, 1) := by decide +kernel
theorem dJ0_indexOf_7cf53_12 : decode cJ0_indexOf_7cf53 12 = .ok (.iload_n 2, 1) := by decide +kernel
theorem dJ0_indexOf_7cf53_13 : decode cJ0_indexOf_7cf53 13 = .ok (.aload_n 0, 1) := by decide +kernel
theorem dJ0_indexOf_7cf53_14 : decode cJ0_indexOf_7cf53 14 = .ok (.invokevirtual 505, 3) := by decide +kernel
theorem dJ0_indexOf_7cf53_17 : decode cJ0_indexOf_7cf53 17 = .ok (.invokestatic 637, 3) := by decide +kernel
theorem dJ0_indexOf_7cf53_20 : decode cJ0_indexOf_7cf53 20 = .ok (.goto 16, 3) := by decide +kernel
theorem dJ0_indexOf_7cf53_23 : decode cJ0_indexOf_7cf53 23 = .ok (.aload_n 0, 1) := by decide +kernel
theorem dJ0_indexOf_7cf53_24 : decode cJ0_indexOf_7cf53 24 = .ok (.getfield 9, 3) := by decide +kernel
theorem dJ0_indexOf_7cf53_27 : decode cJ0_indexOf_7cf53 27 = .ok (.iload_n 1, 1) := by decide +kernel
theorem dJ0_indexOf_7cf53_28 : decode cJ0_indexOf_7cf53 28 = .ok (.iload_n 2, 1) := by decide +kernel
theorem dJ0_indexOf_7cf53_29 : decode cJ0_indexOf_7cf53 29 = .ok (.aload_n 0, 1) := by decide +kernel
theorem dJ0_indexOf_7cf53_30 : decode cJ0_indexOf_7cf53 30 = .ok (.invokevirtual 505, 3) := by decide +kernel
theorem dJ0_indexOf_7cf53_33 : decode cJ0_indexOf_7cf53 33 = .ok (.invokestatic 640, 3) := by decide +kernel
theorem dJ0_indexOf_7cf53_36 : decode cJ0_indexOf_7cf53 36 = .ok (.ireturn, 1) := by decide +kernel
theorem dJ0_coder_7d493_0 : decode cJ0_coder_7d493 0 = .ok (.getstatic 38, 3) := by decide +kernel
theorem dJ0_coder_7d493_3 : decode cJ0_coder_7d493 3 = .ok (.ifCond .eq 10, 3) := by decide +kernel
theorem dJ0_coder_7d493_6 : decode cJ0_coder_7d493 6 = .ok (.aload_n 0, 1) := by decide +kernel
theorem dJ0_coder_7d493_7 : decode cJ0_coder_7d493 7 = .ok (.getfield 15, 3) := by decide +kernel
theorem dJ0_coder_7d493_10 : decode cJ0_coder_7d493 10 = .ok (.goto 4, 3) := by decide +kernel
theorem dJ0_coder_7d493_13 : decode cJ0_coder_7d493 13 = .ok (.iconst 1, 1) := by decide +kernel
theorem dJ0_coder_7d493_14 : decode cJ0_coder_7d493 14 = .ok (.ireturn, 1) := by decide +kernel
theorem dJ0_isLatin1_aae02_0 : decode cJ0_isLatin1_aae02 0 = .ok (.getstatic 38, 3) := by decide +kernel
theorem dJ0_isLatin1_aae02_3 : decode cJ0_isLatin1_aae02 3 = .ok (.ifCond .eq 14, 3) := by decide +kernel
theorem dJ0_isLatin1_aae02_6 : decode cJ0_isLatin1_aae02 6 = .ok (.aload_n 0, 1) := by decide +kernel
theorem dJ0_isLatin1_aae02_7 : decode cJ0_isLatin1_aae02 7 = .ok (.getfield 15, 3) := by decide +kernel
theorem dJ0_isLatin1_aae02_10 : decode cJ0_isLatin1_aae02 10 = .ok (.ifCond .ne 7, 3) := by decide +kernel
theorem dJ0_isLatin1_aae02_13 : decode cJ0_isLatin1_aae02 13 = .ok (.iconst 1, 1) := by decide +kernel
theorem dJ0_isLatin1_aae02_14 : decode cJ0_isLatin1_aae02 14 = .ok (.goto 4, 3) := by decide +kernel
theorem dJ0_isLatin1_aae02_17 : decode cJ0_isLatin1_aae02 17 = .ok (.iconst 0, 1) := by decide +kernel
theorem dJ0_isLatin1_aae02_18 : decode cJ0_isLatin1_aae02 18 = .ok (.ireturn, 1) := by decide +kernel
theorem dJ0_checkIndex_df160_0 : decode cJ0_checkIndex_df160 0 = .ok (.iload_n 0, 1) := by decide +kernel
theorem dJ0_checkIndex_df160_1 : decode cJ0_checkIndex_df160 1 = .ok (.iload_n 1, 1) := by decide +kernel
theorem dJ0_checkIndex_df160_2 : decode cJ0_checkIndex_df160 2 = .ok (.getstatic 1053, 3) := by decide +kernel
theorem dJ0_checkIndex_df160_5 : decode cJ0_checkIndex_df160 5 = .ok (.invokestatic 1059, 3) := by decide +kernel
theorem dJ0_checkIndex_df160_8 : decode cJ0_checkIndex_df160 8 = .ok (.pop, 1) := by decide +kernel
theorem dJ0_checkIndex_df160_9 : decode cJ0_checkIndex_df160 9 = .ok (.return_, 1) := by decide +kernel
theorem dJ0_checkBoundsBeginEnd_23922_0 : decode cJ0_checkBoundsBeginEnd_23922 0 = .ok (.iload_n 0, 1) := by decide +kernel
theorem dJ0_checkBoundsBeginEnd_23922_1 : decode cJ0_checkBoundsBeginEnd_23922 1 = .ok (.iload_n 1, 1) := by decide +kernel
theorem dJ0_checkBoundsBeginEnd_23922_2 : decode cJ0_checkBoundsBeginEnd_23922 2 = .ok (.iload_n 2, 1) := by decide +kernel
theorem dJ0_checkBoundsBeginEnd_23922_3 : decode cJ0_checkBoundsBeginEnd_23922 3 = .ok (.getstatic 1053, 3) := by decide +kernel
theorem dJ0_checkBoundsBeginEnd_23922_6 : decode cJ0_checkBoundsBeginEnd_23922 6 = .ok (.invokestatic 1062, 3) := by decide +kernel
theorem dJ0_checkBoundsBeginEnd_23922_9 : decode cJ0_checkBoundsBeginEnd_23922 9 = .ok (.pop, 1) := by decide +kernel
theorem dJ0_checkBoundsBeginEnd_23922_10 : decode cJ0_checkBoundsBeginEnd_23922 10 = .ok (.return_, 1) := by decide +kernel
theorem dJ1_charAt_3b067_0 : decode cJ1_charAt_3b067 0 = .ok (.iload_n 1, 1) := by decide +kernel
theorem dJ1_charAt_3b067_1 : decode cJ1_charAt_3b067 1 = .ok (.aload_n 0, 1) := by decide +kernel
theorem dJ1_charAt_3b067_2 : decode cJ1_charAt_3b067 2 = .ok (.arraylength, 1) := by decide +kernel
theorem dJ1_charAt_3b067_3 : decode cJ1_charAt_3b067 3 = .ok (.invokestatic 9, 3) := by decide +kernel
theorem dJ1_charAt_3b067_6 : decode cJ1_charAt_3b067 6 = .ok (.aload_n 0, 1) := by decide +kernel
theorem dJ1_charAt_3b067_7 : decode cJ1_charAt_3b067 7 = .ok (.iload_n 1, 1) := by decide +kernel
theorem dJ1_charAt_3b067_8 : decode cJ1_charAt_3b067 8 = .ok (.baload, 1) := by decide +kernel
theorem dJ1_charAt_3b067_9 : decode cJ1_charAt_3b067 9 = .ok (.sipush 255, 3) := by decide +kernel
theorem dJ1_charAt_3b067_12 : decode cJ1_charAt_3b067 12 = .ok (.iand, 1) := by decide +kernel
theorem dJ1_charAt_3b067_13 : decode cJ1_charAt_3b067 13 = .ok (.i2c, 1) := by decide +kernel
theorem dJ1_charAt_3b067_14 : decode cJ1_charAt_3b067 14 = .ok (.ireturn, 1) := by decide +kernel
theorem dJ1_canEncode_9a6ad_0 : decode cJ1_canEncode_9a6ad 0 = .ok (.iload_n 0, 1) := by decide +kernel
theorem dJ1_canEncode_9a6ad_1 : decode cJ1_canEncode_9a6ad 1 = .ok (.ifCond .lt 14, 3) := by decide +kernel
theorem dJ1_canEncode_9a6ad_4 : decode cJ1_canEncode_9a6ad 4 = .ok (.iload_n 0, 1) := by decide +kernel
theorem dJ1_canEncode_9a6ad_5 : decode cJ1_canEncode_9a6ad 5 = .ok (.sipush 255, 3) := by decide +kernel
theorem dJ1_canEncode_9a6ad_8 : decode cJ1_canEncode_9a6ad 8 = .ok (.if_icmp .gt 7, 3) := by decide +kernel
theorem dJ1_canEncode_9a6ad_11 : decode cJ1_canEncode_9a6ad 11 = .ok (.iconst 1, 1) := by decide +kernel
theorem dJ1_canEncode_9a6ad_12 : decode cJ1_canEncode_9a6ad 12 = .ok (.goto 4, 3) := by decide +kernel
theorem dJ1_canEncode_9a6ad_15 : decode cJ1_canEncode_9a6ad 15 = .ok (.iconst 0, 1) := by decide +kernel
theorem dJ1_canEncode_9a6ad_16 : decode cJ1_canEncode_9a6ad 16 = .ok (.ireturn, 1) := by decide +kernel
theorem dJ1_indexOf_4cfef_0 : decode cJ1_indexOf_4cfef 0 = .ok (.iload_n 1, 1) := by decide +kernel
theorem dJ1_indexOf_4cfef_1 : decode cJ1_indexOf_4cfef 1 = .ok (.invokestatic 88, 3) := by decide +kernel
theorem dJ1_indexOf_4cfef_4 : decode cJ1_indexOf_4cfef 4 = .ok (.ifCond .ne 5, 3) := by decide +kernel
theorem dJ1_indexOf_4cfef_7 : decode cJ1_indexOf_4cfef 7 = .ok (.iconst (-1), 1) := by decide +kernel
theorem dJ1_indexOf_4cfef_8 : decode cJ1_indexOf_4cfef 8 = .ok (.ireturn, 1) := by decide +kernel
theorem dJ1_indexOf_4cfef_9 : decode cJ1_indexOf_4cfef 9 = .ok (.iload_n 2, 1) := by decide +kernel
theorem dJ1_indexOf_4cfef_10 : decode cJ1_indexOf_4cfef 10 = .ok (.iconst 0, 1) := by decide +kernel
theorem dJ1_indexOf_4cfef_11 : decode cJ1_indexOf_4cfef 11 = .ok (.invokestatic 92, 3) := by decide +kernel
theorem dJ1_indexOf_4cfef_14 : decode cJ1_indexOf_4cfef 14 = .ok (.istore_n 2, 1) := by decide +kernel
theorem dJ1_indexOf_4cfef_15 : decode cJ1_indexOf_4cfef 15 = .ok (.iload_n 3, 1) := by decide +kernel
theorem dJ1_indexOf_4cfef_16 : decode cJ1_indexOf_4cfef 16 = .ok (.aload_n 0, 1) := by decide +kernel
theorem dJ1_indexOf_4cfef_17 : decode cJ1_indexOf_4cfef 17 = .ok (.arraylength, 1) := by decide +kernel
theorem dJ1_indexOf_4cfef_18 : decode cJ1_indexOf_4cfef 18 = .ok (.invokestatic 38, 3) := by decide +kernel
theorem dJ1_indexOf_4cfef_21 : decode cJ1_indexOf_4cfef 21 = .ok (.istore_n 3, 1) := by decide +kernel
theorem dJ1_indexOf_4cfef_22 : decode cJ1_indexOf_4cfef 22 = .ok (.iload_n 2, 1) := by decide +kernel
theorem dJ1_indexOf_4cfef_23 : decode cJ1_indexOf_4cfef 23 = .ok (.iload_n 3, 1) := by decide +kernel
theorem dJ1_indexOf_4cfef_24 : decode cJ1_indexOf_4cfef 24 = .ok (.if_icmp .lt 5, 3) := by decide +kernel
theorem dJ1_indexOf_4cfef_27 : decode cJ1_indexOf_4cfef 27 = .ok (.iconst (-1), 1) := by decide +kernel
theorem dJ1_indexOf_4cfef_28 : decode cJ1_indexOf_4cfef 28 = .ok (.ireturn, 1) := by decide +kernel
theorem dJ1_indexOf_4cfef_29 : decode cJ1_indexOf_4cfef 29 = .ok (.aload_n 0, 1) := by decide +kernel
theorem dJ1_indexOf_4cfef_30 : decode cJ1_indexOf_4cfef 30 = .ok (.iload_n 1, 1) := by decide +kernel
theorem dJ1_indexOf_4cfef_31 : decode cJ1_indexOf_4cfef 31 = .ok (.iload_n 2, 1) := by decide +kernel
theorem dJ1_indexOf_4cfef_32 : decode cJ1_indexOf_4cfef 32 = .ok (.iload_n 3, 1) := by decide +kernel
theorem dJ1_indexOf_4cfef_33 : decode cJ1_indexOf_4cfef 33 = .ok (.invokestatic 95, 3) := by decide +kernel
theorem dJ1_indexOf_4cfef_36 : decode cJ1_indexOf_4cfef 36 = .ok (.ireturn, 1) := by decide +kernel
theorem dJ1_indexOfChar_4cfef_0 : decode cJ1_indexOfChar_4cfef 0 = .ok (.iload_n 1, 1) := by decide +kernel
theorem dJ1_indexOfChar_4cfef_1 : decode cJ1_indexOfChar_4cfef 1 = .ok (.i2b, 1) := by decide +kernel
theorem dJ1_indexOfChar_4cfef_2 : decode cJ1_indexOfChar_4cfef 2 = .ok (.istore 4, 2) := by decide +kernel
theorem dJ1_indexOfChar_4cfef_4 : decode cJ1_indexOfChar_4cfef 4 = .ok (.iload_n 2, 1) := by decide +kernel
theorem dJ1_indexOfChar_4cfef_5 : decode cJ1_indexOfChar_4cfef 5 = .ok (.istore 5, 2) := by decide +kernel
theorem dJ1_indexOfChar_4cfef_7 : decode cJ1_indexOfChar_4cfef 7 = .ok (.iload 5, 2) := by decide +kernel
theorem dJ1_indexOfChar_4cfef_9 : decode cJ1_indexOfChar_4cfef 9 = .ok (.iload_n 3, 1) := by decide +kernel
theorem dJ1_indexOfChar_4cfef_10 : decode cJ1_indexOfChar_4cfef 10 = .ok (.if_icmp .ge 21, 3) := by decide +kernel
theorem dJ1_indexOfChar_4cfef_13 : decode cJ1_indexOfChar_4cfef 13 = .ok (.aload_n 0, 1) := by decide +kernel
theorem dJ1_indexOfChar_4cfef_14 : decode cJ1_indexOfChar_4cfef 14 = .ok (.iload 5, 2) := by decide +kernel
theorem dJ1_indexOfChar_4cfef_16 : decode cJ1_indexOfChar_4cfef 16 = .ok (.baload, 1) := by decide +kernel
theorem dJ1_indexOfChar_4cfef_17 : decode cJ1_indexOfChar_4cfef 17 = .ok (.iload 4, 2) := by decide +kernel
theorem dJ1_indexOfChar_4cfef_19 : decode cJ1_indexOfChar_4cfef 19 = .ok (.if_icmp .ne 6, 3) := by decide +kernel
theorem dJ1_indexOfChar_4cfef_22 : decode cJ1_indexOfChar_4cfef 22 = .ok (.iload 5, 2) := by decide +kernel
theorem dJ1_indexOfChar_4cfef_24 : decode cJ1_indexOfChar_4cfef 24 = .ok (.ireturn, 1) := by decide +kernel
theorem dJ1_indexOfChar_4cfef_25 : decode cJ1_indexOfChar_4cfef 25 = .ok (.iinc 5 1, 3) := by decide +kernel
theorem dJ1_indexOfChar_4cfef_28 : decode cJ1_indexOfChar_4cfef 28 = .ok (.goto (-21), 3) := by decide +kernel
theorem dJ1_indexOfChar_4cfef_31 : decode cJ1_indexOfChar_4cfef 31 = .ok (.iconst (-1), 1) := by decide +kernel
theorem dJ1_indexOfChar_4cfef_32 : decode cJ1_indexOfChar_4cfef 32 = .ok (.ireturn, 1) := by decide +kernel
theorem dJ2_getChar_3b067_0 : decode cJ2_getChar_3b067 0 = .ok (.getstatic 44, 3) := by decide +kernel
theorem dJ2_getChar_3b067_3 : decode cJ2_getChar_3b067 3 = .ok (.ifCond .ne 25, 3) := by decide +kernel
theorem dJ2_getChar_3b067_6 : decode cJ2_getChar_3b067 6 = .ok (.iload_n 1, 1) := by decide +kernel
theorem dJ2_getChar_3b067_7 : decode cJ2_getChar_3b067 7 = .ok (.ifCond .lt 11, 3) := by decide +kernel
theorem dJ2_getChar_3b067_10 : decode cJ2_getChar_3b067 10 = .ok (.iload_n 1, 1) := by decide +kernel
theorem dJ2_getChar_3b067_11 : decode cJ2_getChar_3b067 11 = .ok (.aload_n 0, 1) := by decide +kernel
theorem dJ2_getChar_3b067_12 : decode cJ2_getChar_3b067 12 = .ok (.invokestatic 48, 3) := by decide +kernel
theorem dJ2_getChar_3b067_15 : decode cJ2_getChar_3b067 15 = .ok (.if_icmp .lt 13, 3) := by decide +kernel
theorem dJ2_getChar_3b067_18 : decode cJ2_getChar_3b067 18 = .ok (.new 52, 3) := by decide +kernel
theorem dJ2_getChar_3b067_21 : decode cJ2_getChar_3b067 21 = .ok (.dup, 1) := by decide +kernel
theorem dJ2_getChar_3b067_22 : decode cJ2_getChar_3b067 22 = .ok (.ldc 54, 2) := by decide +kernel
theorem dJ2_getChar_3b067_24 : decode cJ2_getChar_3b067 24 = .ok (.invokespecial 56, 3) := by decide +kernel
theorem dJ2_getChar_3b067_27 : decode cJ2_getChar_3b067 27 = .ok (.athrow, 1) := by decide +kernel
theorem dJ2_getChar_3b067_28 : decode cJ2_getChar_3b067 28 = .ok (.iload_n 1, 1) := by decide +kernel
theorem dJ2_getChar_3b067_29 : decode cJ2_getChar_3b067 29 = .ok (.iconst 1, 1) := by decide +kernel
theorem dJ2_getChar_3b067_30 : decode cJ2_getChar_3b067 30 = .ok (.ishl, 1) := by decide +kernel
theorem dJ2_getChar_3b067_31 : decode cJ2_getChar_3b067 31 = .ok (.istore_n 1, 1) := by decide +kernel
theorem dJ2_getChar_3b067_32 : decode cJ2_getChar_3b067 32 = .ok (.aload_n 0, 1) := by decide +kernel
theorem dJ2_getChar_3b067_33 : decode cJ2_getChar_3b067 33 = .ok (.iload_n 1, 1) := by decide +kernel
theorem dJ2_getChar_3b067_34 : decode cJ2_getChar_3b067 34 = .ok (.iinc 1 1, 3) := by decide +kernel
theorem dJ2_getChar_3b067_37 : decode cJ2_getChar_3b067 37 = .ok (.baload, 1) := by decide +kernel
theorem dJ2_getChar_3b067_38 : decode cJ2_getChar_3b067 38 = .ok (.sipush 255, 3) := by decide +kernel
theorem dJ2_getChar_3b067_41 : decode cJ2_getChar_3b067 41 = .ok (.iand, 1) := by decide +kernel
theorem dJ2_getChar_3b067_42 : decode cJ2_getChar_3b067 42 = .ok (.getstatic 59, 3) := by decide +kernel
theorem dJ2_getChar_3b067_45 : decode cJ2_getChar_3b067 45 = .ok (.ishl, 1) := by decide +kernel
theorem dJ2_getChar_3b067_46 : decode cJ2_getChar_3b067 46 = .ok (.aload_n 0, 1) := by decide +kernel
theorem dJ2_getChar_3b067_47 : decode cJ2_getChar_3b067 47 = .ok (.iload_n 1, 1) := by decide +kernel
theorem dJ2_getChar_3b067_48 : decode cJ2_getChar_3b067 48 = .ok (.baload, 1) := by decide +kernel
theorem dJ2_getChar_3b067_49 : decode cJ2_getChar_3b067 49 = .ok (.sipush 255, 3) := by decide +kernel
theorem dJ2_getChar_3b067_52 : decode cJ2_getChar_3b067 52 = .ok (.iand, 1) := by decide +kernel
theorem dJ2_getChar_3b067_53 : decode cJ2_getChar_3b067 53 = .ok (.getstatic 63, 3) := by decide +kernel
theorem dJ2_getChar_3b067_56 : decode cJ2_getChar_3b067 56 = .ok (.ishl, 1) := by decide +kernel
theorem dJ2_getChar_3b067_57 : decode cJ2_getChar_3b067 57 = .ok (.ior, 1) := by decide +kernel
theorem dJ2_getChar_3b067_58 : decode cJ2_getChar_3b067 58 = .ok (.i2c, 1) := by decide +kernel
theorem dJ2_getChar_3b067_59 : decode cJ2_getChar_3b067 59 = .ok (.ireturn, 1) := by decide +kernel
theorem dJ2_length_9d52b_0 : decode cJ2_length_9d52b 0 = .ok (.aload_n 0, 1) := by decide +kernel
theorem dJ2_length_9d52b_1 : decode cJ2_length_9d52b 1 = .ok (.arraylength, 1) := by decide +kernel
theorem dJ2_length_9d52b_2 : decode cJ2_length_9d52b 2 = .ok (.iconst 1, 1) := by decide +kernel
theorem dJ2_length_9d52b_3 : decode cJ2_length_9d52b 3 = .ok (.ishr, 1) := by decide +kernel
theorem dJ2_length_9d52b_4 : decode cJ2_length_9d52b 4 = .ok (.ireturn, 1) := by decide +kernel
theorem dJ2_indexOf_4cfef_0 : decode cJ2_indexOf_4cfef 0 = .ok (.iload_n 2, 1) := by decide +kernel
theorem dJ2_indexOf_4cfef_1 : decode cJ2_indexOf_4cfef 1 = .ok (.iconst 0, 1) := by decide +kernel
theorem dJ2_indexOf_4cfef_2 : decode cJ2_indexOf_4cfef 2 = .ok (.invokestatic 224, 3) := by decide +kernel
theorem dJ2_indexOf_4cfef_5 : decode cJ2_indexOf_4cfef 5 = .ok (.istore_n 2, 1) := by decide +kernel
theorem dJ2_indexOf_4cfef_6 : decode cJ2_indexOf_4cfef 6 = .ok (.iload_n 3, 1) := by decide +kernel
theorem dJ2_indexOf_4cfef_7 : decode cJ2_indexOf_4cfef 7 = .ok (.aload_n 0, 1) := by decide +kernel
theorem dJ2_indexOf_4cfef_8 : decode cJ2_indexOf_4cfef 8 = .ok (.arraylength, 1) := by decide +kernel
theorem dJ2_indexOf_4cfef_9 : decode cJ2_indexOf_4cfef 9 = .ok (.iconst 1, 1) := by decide +kernel
theorem dJ2_indexOf_4cfef_10 : decode cJ2_indexOf_4cfef 10 = .ok (.ishr, 1) := by decide +kernel
theorem dJ2_indexOf_4cfef_11 : decode cJ2_indexOf_4cfef 11 = .ok (.invokestatic 183, 3) := by decide +kernel
theorem dJ2_indexOf_4cfef_14 : decode cJ2_indexOf_4cfef 14 = .ok (.istore_n 3, 1) := by decide +kernel
theorem dJ2_indexOf_4cfef_15 : decode cJ2_indexOf_4cfef 15 = .ok (.iload_n 2, 1) := by decide +kernel
theorem dJ2_indexOf_4cfef_16 : decode cJ2_indexOf_4cfef 16 = .ok (.iload_n 3, 1) := by decide +kernel
theorem dJ2_indexOf_4cfef_17 : decode cJ2_indexOf_4cfef 17 = .ok (.if_icmp .lt 5, 3) := by decide +kernel
theorem dJ2_indexOf_4cfef_20 : decode cJ2_indexOf_4cfef 20 = .ok (.iconst (-1), 1) := by decide +kernel
theorem dJ2_indexOf_4cfef_21 : decode cJ2_indexOf_4cfef 21 = .ok (.ireturn, 1) := by decide +kernel
theorem dJ2_indexOf_4cfef_22 : decode cJ2_indexOf_4cfef 22 = .ok (.iload_n 1, 1) := by decide +kernel
theorem dJ2_indexOf_4cfef_23 : decode cJ2_indexOf_4cfef 23 = .ok (.ldc 227, 2) := by decide +kernel
theorem dJ2_indexOf_4cfef_25 : decode cJ2_indexOf_4cfef 25 = .ok (.if_icmp .ge 11, 3) := by decide +kernel
theorem dJ2_indexOf_4cfef_28 : decode cJ2_indexOf_4cfef 28 = .ok (.aload_n 0, 1) := by decide +kernel
theorem dJ2_indexOf_4cfef_29 : decode cJ2_indexOf_4cfef 29 = .ok (.iload_n 1, 1) := by decide +kernel
theorem dJ2_indexOf_4cfef_30 : decode cJ2_indexOf_4cfef 30 = .ok (.iload_n 2, 1) := by decide +kernel
theorem dJ2_indexOf_4cfef_31 : decode cJ2_indexOf_4cfef 31 = .ok (.iload_n 3, 1) := by decide +kernel
theorem dJ2_indexOf_4cfef_32 : decode cJ2_indexOf_4cfef 32 = .ok (.invokestatic 228, 3) := by decide +kernel
theorem dJ2_indexOf_4cfef_35 : decode cJ2_indexOf_4cfef 35 = .ok (.ireturn, 1) := by decide +kernel
theorem dJ2_indexOf_4cfef_36 : decode cJ2_indexOf_4cfef 36 = .ok (.aload_n 0, 1) := by decide +kernel
theorem dJ2_indexOf_4cfef_37 : decode cJ2_indexOf_4cfef 37 = .ok (.iload_n 1, 1) := by decide +kernel
theorem dJ2_indexOf_4cfef_38 : decode cJ2_indexOf_4cfef 38 = .ok (.iload_n 2, 1) := by decide +kernel
theorem dJ2_indexOf_4cfef_39 : decode cJ2_indexOf_4cfef 39 = .ok (.iload_n 3, 1) := by decide +kernel
theorem dJ2_indexOf_4cfef_40 : decode cJ2_indexOf_4cfef 40 = .ok (.invokestatic 232, 3) := by decide +kernel
theorem dJ2_indexOf_4cfef_43 : decode cJ2_indexOf_4cfef 43 = .ok (.ireturn, 1) := by decide +kernel
theorem dJ2_indexOfChar_4cfef_0 : decode cJ2_indexOfChar_4cfef 0 = .ok (.iload_n 2, 1) := by decide +kernel
theorem dJ2_indexOfChar_4cfef_1 : decode cJ2_indexOfChar_4cfef 1 = .ok (.iload_n 3, 1) := by decide +kernel
theorem dJ2_indexOfChar_4cfef_2 : decode cJ2_indexOfChar_4cfef 2 = .ok (.aload_n 0, 1) := by decide +kernel
theorem dJ2_indexOfChar_4cfef_3 : decode cJ2_indexOfChar_4cfef 3 = .ok (.invokestatic 96, 3) := by decide +kernel
theorem dJ2_indexOfChar_4cfef_6 : decode cJ2_indexOfChar_4cfef 6 = .ok (.aload_n 0, 1) := by decide +kernel
theorem dJ2_indexOfChar_4cfef_7 : decode cJ2_indexOfChar_4cfef 7 = .ok (.iload_n 1, 1) := by decide +kernel
theorem dJ2_indexOfChar_4cfef_8 : decode cJ2_indexOfChar_4cfef 8 = .ok (.iload_n 2, 1) := by decide +kernel
theorem dJ2_indexOfChar_4cfef_9 : decode cJ2_indexOfChar_4cfef 9 = .ok (.iload_n 3, 1) := by decide +kernel
theorem dJ2_indexOfChar_4cfef_10 : decode cJ2_indexOfChar_4cfef 10 = .ok (.invokestatic 244, 3) := by decide +kernel
theorem dJ2_indexOfChar_4cfef_13 : decode cJ2_indexOfChar_4cfef 13 = .ok (.ireturn, 1) := by decide +kernel
theorem dJ2_indexOfCharUnsafe_4cfef_0 : decode cJ2_indexOfCharUnsafe_4cfef 0 = .ok (.iload_n 2, 1) := by decide +kernel
theorem dJ2_indexOfCharUnsafe_4cfef_1 : decode cJ2_indexOfCharUnsafe_4cfef 1 = .ok (.istore 4, 2) := by decide +kernel
theorem dJ2_indexOfCharUnsafe_4cfef_3 : decode cJ2_indexOfCharUnsafe_4cfef 3 = .ok (.iload 4, 2) := by decide +kernel
theorem dJ2_indexOfCharUnsafe_4cfef_5 : decode cJ2_indexOfCharUnsafe_4cfef 5 = .ok (.iload_n 3, 1) := by decide +kernel
theorem dJ2_indexOfCharUnsafe_4cfef_6 : decode cJ2_indexOfCharUnsafe_4cfef 6 = .ok (.if_icmp .ge 22, 3) := by decide +kernel
theorem dJ2_indexOfCharUnsafe_4cfef_9 : decode cJ2_indexOfCharUnsafe_4cfef 9 = .ok (.aload_n 0, 1) := by decide +kernel
theorem dJ2_indexOfCharUnsafe_4cfef_10 : decode cJ2_indexOfCharUnsafe_4cfef 10 = .ok (.iload 4, 2) := by decide +kernel
theorem dJ2_indexOfCharUnsafe_4cfef_12 : decode cJ2_indexOfCharUnsafe_4cfef 12 = .ok (.invokestatic 71, 3) := by decide +kernel
theorem dJ2_indexOfCharUnsafe_4cfef_15 : decode cJ2_indexOfCharUnsafe_4cfef 15 = .ok (.iload_n 1, 1) := by decide +kernel
theorem dJ2_indexOfCharUnsafe_4cfef_16 : decode cJ2_indexOfCharUnsafe_4cfef 16 = .ok (.if_icmp .ne 6, 3) := by decide +kernel
theorem dJ2_indexOfCharUnsafe_4cfef_19 : decode cJ2_indexOfCharUnsafe_4cfef 19 = .ok (.iload 4, 2) := by decide +kernel
theorem dJ2_indexOfCharUnsafe_4cfef_21 : decode cJ2_indexOfCharUnsafe_4cfef 21 = .ok (.ireturn, 1) := by decide +kernel
theorem dJ2_indexOfCharUnsafe_4cfef_22 : decode cJ2_indexOfCharUnsafe_4cfef 22 = .ok (.iinc 4 1, 3) := by decide +kernel
theorem dJ2_indexOfCharUnsafe_4cfef_25 : decode cJ2_indexOfCharUnsafe_4cfef 25 = .ok (.goto (-22), 3) := by decide +kernel
theorem dJ2_indexOfCharUnsafe_4cfef_28 : decode cJ2_indexOfCharUnsafe_4cfef 28 = .ok (.iconst (-1), 1) := by decide +kernel
theorem dJ2_indexOfCharUnsafe_4cfef_29 : decode cJ2_indexOfCharUnsafe_4cfef 29 = .ok (.ireturn, 1) := by decide +kernel
theorem dJ2_indexOfSupplementary_4cfef_0 : decode cJ2_indexOfSupplementary_4cfef 0 = .ok (.iload_n 1, 1) := by decide +kernel
theorem dJ2_indexOfSupplementary_4cfef_1 : decode cJ2_indexOfSupplementary_4cfef 1 = .ok (.invokestatic 164, 3) := by decide +kernel
theorem dJ2_indexOfSupplementary_4cfef_4 : decode cJ2_indexOfSupplementary_4cfef 4 = .ok (.ifCond .eq 65, 3) := by decide +kernel
theorem dJ2_indexOfSupplementary_4cfef_7 : decode cJ2_indexOfSupplementary_4cfef 7 = .ok (.iload_n 1, 1) := by decide +kernel
theorem dJ2_indexOfSupplementary_4cfef_8 : decode cJ2_indexOfSupplementary_4cfef 8 = .ok (.invokestatic 157, 3) := by decide +kernel
theorem dJ2_indexOfSupplementary_4cfef_11 : decode cJ2_indexOfSupplementary_4cfef 11 = .ok (.istore 4, 2) := by decide +kernel
theorem dJ2_indexOfSupplementary_4cfef_13 : decode cJ2_indexOfSupplementary_4cfef 13 = .ok (.iload_n 1, 1) := by decide +kernel
theorem dJ2_indexOfSupplementary_4cfef_14 : decode cJ2_indexOfSupplementary_4cfef 14 = .ok (.invokestatic 161, 3) := by decide +kernel
theorem dJ2_indexOfSupplementary_4cfef_17 : decode cJ2_indexOfSupplementary_4cfef 17 = .ok (.istore 5, 2) := by decide +kernel
theorem dJ2_indexOfSupplementary_4cfef_19 : decode cJ2_indexOfSupplementary_4cfef 19 = .ok (.iload_n 2, 1) := by decide +kernel
theorem dJ2_indexOfSupplementary_4cfef_20 : decode cJ2_indexOfSupplementary_4cfef 20 = .ok (.iload_n 3, 1) := by decide +kernel
theorem dJ2_indexOfSupplementary_4cfef_21 : decode cJ2_indexOfSupplementary_4cfef 21 = .ok (.aload_n 0, 1) := by decide +kernel
theorem dJ2_indexOfSupplementary_4cfef_22 : decode cJ2_indexOfSupplementary_4cfef 22 = .ok (.invokestatic 96, 3) := by decide +kernel
theorem dJ2_indexOfSupplementary_4cfef_25 : decode cJ2_indexOfSupplementary_4cfef 25 = .ok (.iload_n 2, 1) := by decide +kernel
theorem dJ2_indexOfSupplementary_4cfef_26 : decode cJ2_indexOfSupplementary_4cfef 26 = .ok (.istore 6, 2) := by decide +kernel
theorem dJ2_indexOfSupplementary_4cfef_28 : decode cJ2_indexOfSupplementary_4cfef 28 = .ok (.iload 6, 2) := by decide +kernel
theorem dJ2_indexOfSupplementary_4cfef_30 : decode cJ2_indexOfSupplementary_4cfef 30 = .ok (.iload_n 3, 1) := by decide +kernel
theorem dJ2_indexOfSupplementary_4cfef_31 : decode cJ2_indexOfSupplementary_4cfef 31 = .ok (.iconst 1, 1) := by decide +kernel
theorem dJ2_indexOfSupplementary_4cfef_32 : decode cJ2_indexOfSupplementary_4cfef 32 = .ok (.isub, 1) := by decide +kernel
theorem dJ2_indexOfSupplementary_4cfef_33 : decode cJ2_indexOfSupplementary_4cfef 33 = .ok (.if_icmp .ge 36, 3) := by decide +kernel
theorem dJ2_indexOfSupplementary_4cfef_36 : decode cJ2_indexOfSupplementary_4cfef 36 = .ok (.aload_n 0, 1) := by decide +kernel
theorem dJ2_indexOfSupplementary_4cfef_37 : decode cJ2_indexOfSupplementary_4cfef 37 = .ok (.iload 6, 2) := by decide +kernel
theorem dJ2_indexOfSupplementary_4cfef_39 : decode cJ2_indexOfSupplementary_4cfef 39 = .ok (.invokestatic 71, 3) := by decide +kernel
theorem dJ2_indexOfSupplementary_4cfef_42 : decode cJ2_indexOfSupplementary_4cfef 42 = .ok (.iload 4, 2) := by decide +kernel
theorem dJ2_indexOfSupplementary_4cfef_44 : decode cJ2_indexOfSupplementary_4cfef 44 = .ok (.if_icmp .ne 19, 3) := by decide +kernel
theorem dJ2_indexOfSupplementary_4cfef_47 : decode cJ2_indexOfSupplementary_4cfef 47 = .ok (.aload_n 0, 1) := by decide +kernel
theorem dJ2_indexOfSupplementary_4cfef_48 : decode cJ2_indexOfSupplementary_4cfef 48 = .ok (.iload 6, 2) := by decide +kernel
theorem dJ2_indexOfSupplementary_4cfef_50 : decode cJ2_indexOfSupplementary_4cfef 50 = .ok (.iconst 1, 1) := by decide +kernel
theorem dJ2_indexOfSupplementary_4cfef_51 : decode cJ2_indexOfSupplementary_4cfef 51 = .ok (.iadd, 1) := by decide +kernel
theorem dJ2_indexOfSupplementary_4cfef_52 : decode cJ2_indexOfSupplementary_4cfef 52 = .ok (.invokestatic 71, 3) := by decide +kernel
theorem dJ2_indexOfSupplementary_4cfef_55 : decode cJ2_indexOfSupplementary_4cfef 55 = .ok (.iload 5, 2) := by decide +kernel
theorem dJ2_indexOfSupplementary_4cfef_57 : decode cJ2_indexOfSupplementary_4cfef 57 = .ok (.if_icmp .ne 6, 3) := by decide +kernel
theorem dJ2_indexOfSupplementary_4cfef_60 : decode cJ2_indexOfSupplementary_4cfef 60 = .ok (.iload 6, 2) := by decide +kernel
theorem dJ2_indexOfSupplementary_4cfef_62 : decode cJ2_indexOfSupplementary_4cfef 62 = .ok (.ireturn, 1) := by decide +kernel
theorem dJ2_indexOfSupplementary_4cfef_63 : decode cJ2_indexOfSupplementary_4cfef 63 = .ok (.iinc 6 1, 3) := by decide +kernel
theorem dJ2_indexOfSupplementary_4cfef_66 : decode cJ2_indexOfSupplementary_4cfef 66 = .ok (.goto (-38), 3) := by decide +kernel
theorem dJ2_indexOfSupplementary_4cfef_69 : decode cJ2_indexOfSupplementary_4cfef 69 = .ok (.iconst (-1), 1) := by decide +kernel
theorem dJ2_indexOfSupplementary_4cfef_70 : decode cJ2_indexOfSupplementary_4cfef 70 = .ok (.ireturn, 1) := by decide +kernel
theorem dJ2_charAt_3b067_0 : decode cJ2_charAt_3b067 0 = .ok (.iload_n 1, 1) := by decide +kernel
theorem dJ2_charAt_3b067_1 : decode cJ2_charAt_3b067 1 = .ok (.aload_n 0, 1) := by decide +kernel
theorem dJ2_charAt_3b067_2 : decode cJ2_charAt_3b067 2 = .ok (.invokestatic 67, 3) := by decide +kernel
theorem dJ2_charAt_3b067_5 : decode cJ2_charAt_3b067 5 = .ok (.aload_n 0, 1) := by decide +kernel
theorem dJ2_charAt_3b067_6 : decode cJ2_charAt_3b067 6 = .ok (.iload_n 1, 1) := by decide +kernel
theorem dJ2_charAt_3b067_7 : decode cJ2_charAt_3b067 7 = .ok (.invokestatic 71, 3) := by decide +kernel
theorem dJ2_charAt_3b067_10 : decode cJ2_charAt_3b067 10 = .ok (.ireturn, 1) := by decide +kernel
theorem dJ2_checkIndex_2214a_0 : decode cJ2_checkIndex_2214a 0 = .ok (.iload_n 0, 1) := by decide +kernel
theorem dJ2_checkIndex_2214a_1 : decode cJ2_checkIndex_2214a 1 = .ok (.aload_n 1, 1) := by decide +kernel
theorem dJ2_checkIndex_2214a_2 : decode cJ2_checkIndex_2214a 2 = .ok (.invokestatic 48, 3) := by decide +kernel
theorem dJ2_checkIndex_2214a_5 : decode cJ2_checkIndex_2214a 5 = .ok (.invokestatic 414, 3) := by decide +kernel
theorem dJ2_checkIndex_2214a_8 : decode cJ2_checkIndex_2214a 8 = .ok (.return_, 1) := by decide +kernel
theorem dJ2_checkBoundsBeginEnd_d044e_0 : decode cJ2_checkBoundsBeginEnd_d044e 0 = .ok (.iload_n 0, 1) := by decide +kernel
theorem dJ2_checkBoundsBeginEnd_d044e_1 : decode cJ2_checkBoundsBeginEnd_d044e 1 = .ok (.iload_n 1, 1) := by decide +kernel
theorem dJ2_checkBoundsBeginEnd_d044e_2 : decode cJ2_checkBoundsBeginEnd_d044e 2 = .ok (.aload_n 2, 1) := by decide +kernel
theorem dJ2_checkBoundsBeginEnd_d044e_3 : decode cJ2_checkBoundsBeginEnd_d044e 3 = .ok (.invokestatic 48, 3) := by decide +kernel
theorem dJ2_checkBoundsBeginEnd_d044e_6 : decode cJ2_checkBoundsBeginEnd_d044e 6 = .ok (.invokestatic 241, 3) := by decide +kernel
theorem dJ2_checkBoundsBeginEnd_d044e_9 : decode cJ2_checkBoundsBeginEnd_d044e 9 = .ok (.return_, 1) := by decide +kernel
theorem dJ7_copyOf_59c91_0 : decode cJ7_copyOf_59c91 0 = .ok (.iload_n 1, 1) := by decide +kernel
theorem dJ7_copyOf_59c91_1 : decode cJ7_copyOf_59c91 1 = .ok (.aload_n 0, 1) := by decide +kernel
theorem dJ7_copyOf_59c91_2 : decode cJ7_copyOf_59c91 2 = .ok (.arraylength, 1) := by decide +kernel
theorem dJ7_copyOf_59c91_3 : decode cJ7_copyOf_59c91 3 = .ok (.if_icmp .ne 11, 3) := by decide +kernel
theorem dJ7_copyOf_59c91_6 : decode cJ7_copyOf_59c91 6 = .ok (.aload_n 0, 1) := by decide +kernel
theorem dJ7_copyOf_59c91_7 : decode cJ7_copyOf_59c91 7 = .ok (.invokevirtual 316, 3) := by decide +kernel
theorem dJ7_copyOf_59c91_10 : decode cJ7_copyOf_59c91 10 = .ok (.checkcast 317, 3) := by decide +kernel
theorem dJ7_copyOf_59c91_13 : decode cJ7_copyOf_59c91 13 = .ok (.areturn, 1) := by decide +kernel
theorem dJ7_copyOf_59c91_14 : decode cJ7_copyOf_59c91 14 = .ok (.iload_n 1, 1) := by decide +kernel
theorem dJ7_copyOf_59c91_15 : decode cJ7_copyOf_59c91 15 = .ok (.newarray .int, 2) := by decide +kernel
theorem dJ7_copyOf_59c91_17 : decode cJ7_copyOf_59c91 17 = .ok (.astore_n 2, 1) := by decide +kernel
theorem dJ7_copyOf_59c91_18 : decode cJ7_copyOf_59c91 18 = .ok (.aload_n 0, 1) := by decide +kernel
theorem dJ7_copyOf_59c91_19 : decode cJ7_copyOf_59c91 19 = .ok (.iconst 0, 1) := by decide +kernel
theorem dJ7_copyOf_59c91_20 : decode cJ7_copyOf_59c91 20 = .ok (.aload_n 2, 1) := by decide +kernel
theorem dJ7_copyOf_59c91_21 : decode cJ7_copyOf_59c91 21 = .ok (.iconst 0, 1) := by decide +kernel
theorem dJ7_copyOf_59c91_22 : decode cJ7_copyOf_59c91 22 = .ok (.aload_n 0, 1) := by decide +kernel
theorem dJ7_copyOf_59c91_23 : decode cJ7_copyOf_59c91 23 = .ok (.arraylength, 1) := by decide +kernel
theorem dJ7_copyOf_59c91_24 : decode cJ7_copyOf_59c91 24 = .ok (.iload_n 1, 1) := by decide +kernel
theorem dJ7_copyOf_59c91_25 : decode cJ7_copyOf_59c91 25 = .ok (.invokestatic 304, 3) := by decide +kernel
theorem dJ7_copyOf_59c91_28 : decode cJ7_copyOf_59c91 28 = .ok (.invokestatic 150, 3) := by decide +kernel
theorem dJ7_copyOf_59c91_31 : decode cJ7_copyOf_59c91 31 = .ok (.aload_n 2, 1) := by decide +kernel
theorem dJ7_copyOf_59c91_32 : decode cJ7_copyOf_59c91 32 = .ok (.areturn, 1) := by decide +kernel
theorem dJ3_checkIndex_8e157_0 : decode cJ3_checkIndex_8e157 0 = .ok (.iload_n 0, 1) := by decide +kernel
theorem dJ3_checkIndex_8e157_1 : decode cJ3_checkIndex_8e157 1 = .ok (.ifCond .lt 8, 3) := by decide +kernel
theorem dJ3_checkIndex_8e157_4 : decode cJ3_checkIndex_8e157 4 = .ok (.iload_n 0, 1) := by decide +kernel
theorem dJ3_checkIndex_8e157_5 : decode cJ3_checkIndex_8e157 5 = .ok (.iload_n 1, 1) := by decide +kernel
theorem dJ3_checkIndex_8e157_6 : decode cJ3_checkIndex_8e157 6 = .ok (.if_icmp .lt 10, 3) := by decide +kernel
theorem dJ3_checkIndex_8e157_9 : decode cJ3_checkIndex_8e157 9 = .ok (.aload_n 2, 1) := by decide +kernel
theorem dJ3_checkIndex_8e157_10 : decode cJ3_checkIndex_8e157 10 = .ok (.iload_n 0, 1) := by decide +kernel
theorem dJ3_checkIndex_8e157_11 : decode cJ3_checkIndex_8e157 11 = .ok (.iload_n 1, 1) := by decide +kernel
theorem dJ3_checkIndex_8e157_12 : decode cJ3_checkIndex_8e157 12 = .ok (.invokestatic 95, 3) := by decide +kernel
theorem dJ3_checkIndex_8e157_15 : decode cJ3_checkIndex_8e157 15 = .ok (.athrow, 1) := by decide +kernel
theorem dJ3_checkIndex_8e157_16 : decode cJ3_checkIndex_8e157 16 = .ok (.iload_n 0, 1) := by decide +kernel
theorem dJ3_checkIndex_8e157_17 : decode cJ3_checkIndex_8e157 17 = .ok (.ireturn, 1) := by decide +kernel
theorem dJ3_checkFromToIndex_8c36e_0 : decode cJ3_checkFromToIndex_8c36e 0 = .ok (.iload_n 0, 1) := by decide +kernel
theorem dJ3_checkFromToIndex_8c36e_1 : decode cJ3_checkFromToIndex_8c36e 1 = .ok (.ifCond .lt 13, 3) := by decide +kernel
theorem dJ3_checkFromToIndex_8c36e_4 : decode cJ3_checkFromToIndex_8c36e 4 = .ok (.iload_n 0, 1) := by decide +kernel
theorem dJ3_checkFromToIndex_8c36e_5 : decode cJ3_checkFromToIndex_8c36e 5 = .ok (.iload_n 1, 1) := by decide +kernel
theorem dJ3_checkFromToIndex_8c36e_6 : decode cJ3_checkFromToIndex_8c36e 6 = .ok (.if_icmp .gt 8, 3) := by decide +kernel
theorem dJ3_checkFromToIndex_8c36e_9 : decode cJ3_checkFromToIndex_8c36e 9 = .ok (.iload_n 1, 1) := by decide +kernel
theorem dJ3_checkFromToIndex_8c36e_10 : decode cJ3_checkFromToIndex_8c36e 10 = .ok (.iload_n 2, 1) := by decide +kernel
theorem dJ3_checkFromToIndex_8c36e_11 : decode cJ3_checkFromToIndex_8c36e 11 = .ok (.if_icmp .le 11, 3) := by decide +kernel
theorem dJ3_checkFromToIndex_8c36e_14 : decode cJ3_checkFromToIndex_8c36e 14 = .ok (.aload_n 3, 1) := by decide +kernel
theorem dJ3_checkFromToIndex_8c36e_15 : decode cJ3_checkFromToIndex_8c36e 15 = .ok (.iload_n 0, 1) := by decide +kernel
theorem dJ3_checkFromToIndex_8c36e_16 : decode cJ3_checkFromToIndex_8c36e 16 = .ok (.iload_n 1, 1) := by decide +kernel
theorem dJ3_checkFromToIndex_8c36e_17 : decode cJ3_checkFromToIndex_8c36e 17 = .ok (.iload_n 2, 1) := by decide +kernel
theorem dJ3_checkFromToIndex_8c36e_18 : decode cJ3_checkFromToIndex_8c36e 18 = .ok (.invokestatic 99, 3) := by decide +kernel
theorem dJ3_checkFromToIndex_8c36e_21 : decode cJ3_checkFromToIndex_8c36e 21 = .ok (.athrow, 1) := by decide +kernel
theorem dJ3_checkFromToIndex_8c36e_22 : decode cJ3_checkFromToIndex_8c36e 22 = .ok (.iload_n 0, 1) := by decide +kernel
theorem dJ3_checkFromToIndex_8c36e_23 : decode cJ3_checkFromToIndex_8c36e 23 = .ok (.ireturn, 1) := by decide +kernel
theorem dL_law_0 : decode cL_law 0 = .ok (.new 7, 3) := by decide +kernel
theorem dL_law_3 : decode cL_law 3 = .ok (.dup, 1) := by decide +kernel
theorem dL_law_4 : decode cL_law 4 = .ok (.invokespecial 9, 3) := by decide +kernel
theorem dL_law_7 : decode cL_law 7 = .ok (.astore_n 1, 1) := by decide +kernel
theorem dL_law_8 : decode cL_law 8 = .ok (.new 10, 3) := by decide +kernel
theorem dL_law_11 : decode cL_law 11 = .ok (.dup, 1) := by decide +kernel
theorem dL_law_12 : decode cL_law 12 = .ok (.invokespecial 12, 3) := by decide +kernel
theorem dL_law_15 : decode cL_law 15 = .ok (.astore_n 2, 1) := by decide +kernel
theorem dL_law_16 : decode cL_law 16 = .ok (.iconst 0, 1) := by decide +kernel
theorem dL_law_17 : decode cL_law 17 = .ok (.istore_n 3, 1) := by decide +kernel
theorem dL_law_18 : decode cL_law 18 = .ok (.iload_n 3, 1) := by decide +kernel
theorem dL_law_19 : decode cL_law 19 = .ok (.aload_n 0, 1) := by decide +kernel
theorem dL_law_20 : decode cL_law 20 = .ok (.arraylength, 1) := by decide +kernel
theorem dL_law_21 : decode cL_law 21 = .ok (.bipush 6, 2) := by decide +kernel
theorem dL_law_23 : decode cL_law 23 = .ok (.isub, 1) := by decide +kernel
theorem dL_law_24 : decode cL_law 24 = .ok (.if_icmp .gt 1441, 3) := by decide +kernel
theorem dL_law_27 : decode cL_law 27 = .ok (.aload_n 0, 1) := by decide +kernel
theorem dL_law_28 : decode cL_law 28 = .ok (.iload_n 3, 1) := by decide +kernel
theorem dL_law_29 : decode cL_law 29 = .ok (.iaload, 1) := by decide +kernel
theorem dL_law_30 : decode cL_law 30 = .ok (.bipush 63, 2) := by decide +kernel
theorem dL_law_32 : decode cL_law 32 = .ok (.iand, 1) := by decide +kernel
theorem dL_law_33 : decode cL_law 33 = .ok (.tableswitch 1426 0 42 #[187, 230, 263, 296, 329, 372, 405, 428, 451, 474, 507, 530, 563, 586, 609, 622, 655, 668, 691, 714, 737, 780, 793, 836, 859, 902, 925, 938, 971, 994, 1037, 1080, 1103, 1126, 1189, 1232, 1265, 1298, 1331, 1354, 1377, 1390, 1403], 187) := by decide +kernel
theorem dL_law_220 : decode cL_law 220 = .ok (.aload_n 1, 1) := by decide +kernel
theorem dL_law_221 : decode cL_law 221 = .ok (.aload_n 0, 1) := by decide +kernel
theorem dL_law_222 : decode cL_law 222 = .ok (.iload_n 3, 1) := by decide +kernel
theorem dL_law_223 : decode cL_law 223 = .ok (.iconst 1, 1) := by decide +kernel
theorem dL_law_224 : decode cL_law 224 = .ok (.iadd, 1) := by decide +kernel
theorem dL_law_225 : decode cL_law 225 = .ok (.iaload, 1) := by decide +kernel
theorem dL_law_226 : decode cL_law 226 = .ok (.aload_n 0, 1) := by decide +kernel
theorem dL_law_227 : decode cL_law 227 = .ok (.iload_n 3, 1) := by decide +kernel
theorem dL_law_228 : decode cL_law 228 = .ok (.iconst 2, 1) := by decide +kernel
theorem dL_law_229 : decode cL_law 229 = .ok (.iadd, 1) := by decide +kernel
theorem dL_law_230 : decode cL_law 230 = .ok (.iaload, 1) := by decide +kernel
theorem dL_law_231 : decode cL_law 231 = .ok (.aload_n 0, 1) := by decide +kernel
theorem dL_law_232 : decode cL_law 232 = .ok (.iload_n 3, 1) := by decide +kernel
theorem dL_law_233 : decode cL_law 233 = .ok (.iconst 3, 1) := by decide +kernel
theorem dL_law_234 : decode cL_law 234 = .ok (.iadd, 1) := by decide +kernel
theorem dL_law_235 : decode cL_law 235 = .ok (.iaload, 1) := by decide +kernel
theorem dL_law_236 : decode cL_law 236 = .ok (.invokevirtual 13, 3) := by decide +kernel
theorem dL_law_239 : decode cL_law 239 = .ok (.aload_n 2, 1) := by decide +kernel
theorem dL_law_240 : decode cL_law 240 = .ok (.aload_n 0, 1) := by decide +kernel
theorem dL_law_241 : decode cL_law 241 = .ok (.iload_n 3, 1) := by decide +kernel
theorem dL_law_242 : decode cL_law 242 = .ok (.iconst 1, 1) := by decide +kernel
theorem dL_law_243 : decode cL_law 243 = .ok (.iadd, 1) := by decide +kernel
theorem dL_law_244 : decode cL_law 244 = .ok (.iaload, 1) := by decide +kernel
theorem dL_law_245 : decode cL_law 245 = .ok (.aload_n 0, 1) := by decide +kernel
theorem dL_law_246 : decode cL_law 246 = .ok (.iload_n 3, 1) := by decide +kernel
theorem dL_law_247 : decode cL_law 247 = .ok (.iconst 2, 1) := by decide +kernel
theorem dL_law_248 : decode cL_law 248 = .ok (.iadd, 1) := by decide +kernel
theorem dL_law_249 : decode cL_law 249 = .ok (.iaload, 1) := by decide +kernel
theorem dL_law_250 : decode cL_law 250 = .ok (.aload_n 0, 1) := by decide +kernel
theorem dL_law_251 : decode cL_law 251 = .ok (.iload_n 3, 1) := by decide +kernel
theorem dL_law_252 : decode cL_law 252 = .ok (.iconst 3, 1) := by decide +kernel
theorem dL_law_253 : decode cL_law 253 = .ok (.iadd, 1) := by decide +kernel
theorem dL_law_254 : decode cL_law 254 = .ok (.iaload, 1) := by decide +kernel
theorem dL_law_255 : decode cL_law 255 = .ok (.invokevirtual 17, 3) := by decide +kernel
theorem dL_law_258 : decode cL_law 258 = .ok (.if_icmp .eq 1201, 3) := by decide +kernel
theorem dL_law_261 : decode cL_law 261 = .ok (.iconst 0, 1) := by decide +kernel
theorem dL_law_262 : decode cL_law 262 = .ok (.ireturn, 1) := by decide +kernel
theorem dL_law_263 : decode cL_law 263 = .ok (.aload_n 1, 1) := by decide +kernel
theorem dL_law_264 : decode cL_law 264 = .ok (.aload_n 0, 1) := by decide +kernel
theorem dL_law_265 : decode cL_law 265 = .ok (.iload_n 3, 1) := by decide +kernel
theorem dL_law_266 : decode cL_law 266 = .ok (.iconst 1, 1) := by decide +kernel
theorem dL_law_267 : decode cL_law 267 = .ok (.iadd, 1) := by decide +kernel
theorem dL_law_268 : decode cL_law 268 = .ok (.iaload, 1) := by decide +kernel
theorem dL_law_269 : decode cL_law 269 = .ok (.aload_n 0, 1) := by decide +kernel
theorem dL_law_270 : decode cL_law 270 = .ok (.iload_n 3, 1) := by decide +kernel
theorem dL_law_271 : decode cL_law 271 = .ok (.iconst 2, 1) := by decide +kernel
theorem dL_law_272 : decode cL_law 272 = .ok (.iadd, 1) := by decide +kernel
theorem dL_law_273 : decode cL_law 273 = .ok (.iaload, 1) := by decide +kernel
theorem dL_law_274 : decode cL_law 274 = .ok (.invokevirtual 18, 3) := by decide +kernel
theorem dL_law_277 : decode cL_law 277 = .ok (.aload_n 2, 1) := by decide +kernel
theorem dL_law_278 : decode cL_law 278 = .ok (.aload_n 0, 1) := by decide +kernel
theorem dL_law_279 : decode cL_law 279 = .ok (.iload_n 3, 1) := by decide +kernel
theorem dL_law_280 : decode cL_law 280 = .ok (.iconst 1, 1) := by decide +kernel
theorem dL_law_281 : decode cL_law 281 = .ok (.iadd, 1) := by decide +kernel
theorem dL_law_282 : decode cL_law 282 = .ok (.iaload, 1) := by decide +kernel
theorem dL_law_283 : decode cL_law 283 = .ok (.aload_n 0, 1) := by decide +kernel
theorem dL_law_284 : decode cL_law 284 = .ok (.iload_n 3, 1) := by decide +kernel
theorem dL_law_285 : decode cL_law 285 = .ok (.iconst 2, 1) := by decide +kernel
theorem dL_law_286 : decode cL_law 286 = .ok (.iadd, 1) := by decide +kernel
theorem dL_law_287 : decode cL_law 287 = .ok (.iaload, 1) := by decide +kernel
theorem dL_law_288 : decode cL_law 288 = .ok (.invokevirtual 22, 3) := by decide +kernel
theorem dL_law_291 : decode cL_law 291 = .ok (.if_icmp .eq 1168, 3) := by decide +kernel
theorem dL_law_294 : decode cL_law 294 = .ok (.iconst 0, 1) := by decide +kernel
theorem dL_law_295 : decode cL_law 295 = .ok (.ireturn, 1) := by decide +kernel
theorem dL_law_296 : decode cL_law 296 = .ok (.aload_n 1, 1) := by decide +kernel
theorem dL_law_297 : decode cL_law 297 = .ok (.aload_n 0, 1) := by decide +kernel
theorem dL_law_298 : decode cL_law 298 = .ok (.iload_n 3, 1) := by decide +kernel
theorem dL_law_299 : decode cL_law 299 = .ok (.iconst 1, 1) := by decide +kernel
theorem dL_law_300 : decode cL_law 300 = .ok (.iadd, 1) := by decide +kernel
theorem dL_law_301 : decode cL_law 301 = .ok (.iaload, 1) := by decide +kernel
theorem dL_law_302 : decode cL_law 302 = .ok (.aload_n 0, 1) := by decide +kernel
theorem dL_law_303 : decode cL_law 303 = .ok (.iload_n 3, 1) := by decide +kernel
theorem dL_law_304 : decode cL_law 304 = .ok (.iconst 2, 1) := by decide +kernel
theorem dL_law_305 : decode cL_law 305 = .ok (.iadd, 1) := by decide +kernel
theorem dL_law_306 : decode cL_law 306 = .ok (.iaload, 1) := by decide +kernel
theorem dL_law_307 : decode cL_law 307 = .ok (.invokevirtual 23, 3) := by decide +kernel
theorem dL_law_310 : decode cL_law 310 = .ok (.aload_n 2, 1) := by decide +kernel
theorem dL_law_311 : decode cL_law 311 = .ok (.aload_n 0, 1) := by decide +kernel
theorem dL_law_312 : decode cL_law 312 = .ok (.iload_n 3, 1) := by decide +kernel
theorem dL_law_313 : decode cL_law 313 = .ok (.iconst 1, 1) := by decide +kernel
theorem dL_law_314 : decode cL_law 314 = .ok (.iadd, 1) := by decide +kernel
theorem dL_law_315 : decode cL_law 315 = .ok (.iaload, 1) := by decide +kernel
theorem dL_law_316 : decode cL_law 316 = .ok (.aload_n 0, 1) := by decide +kernel
theorem dL_law_317 : decode cL_law 317 = .ok (.iload_n 3, 1) := by decide +kernel
theorem dL_law_318 : decode cL_law 318 = .ok (.iconst 2, 1) := by decide +kernel
theorem dL_law_319 : decode cL_law 319 = .ok (.iadd, 1) := by decide +kernel
theorem dL_law_320 : decode cL_law 320 = .ok (.iaload, 1) := by decide +kernel
theorem dL_law_321 : decode cL_law 321 = .ok (.invokevirtual 26, 3) := by decide +kernel
theorem dL_law_324 : decode cL_law 324 = .ok (.if_icmp .eq 1135, 3) := by decide +kernel
theorem dL_law_327 : decode cL_law 327 = .ok (.iconst 0, 1) := by decide +kernel
theorem dL_law_328 : decode cL_law 328 = .ok (.ireturn, 1) := by decide +kernel
theorem dL_law_329 : decode cL_law 329 = .ok (.aload_n 1, 1) := by decide +kernel
theorem dL_law_330 : decode cL_law 330 = .ok (.aload_n 0, 1) := by decide +kernel
theorem dL_law_331 : decode cL_law 331 = .ok (.iload_n 3, 1) := by decide +kernel
theorem dL_law_332 : decode cL_law 332 = .ok (.iconst 1, 1) := by decide +kernel
theorem dL_law_333 : decode cL_law 333 = .ok (.iadd, 1) := by decide +kernel
theorem dL_law_334 : decode cL_law 334 = .ok (.iaload, 1) := by decide +kernel
theorem dL_law_335 : decode cL_law 335 = .ok (.aload_n 0, 1) := by decide +kernel
theorem dL_law_336 : decode cL_law 336 = .ok (.iload_n 3, 1) := by decide +kernel
theorem dL_law_337 : decode cL_law 337 = .ok (.iconst 2, 1) := by decide +kernel
theorem dL_law_338 : decode cL_law 338 = .ok (.iadd, 1) := by decide +kernel
theorem dL_law_339 : decode cL_law 339 = .ok (.iaload, 1) := by decide +kernel
theorem dL_law_340 : decode cL_law 340 = .ok (.invokevirtual 27, 3) := by decide +kernel
theorem dL_law_343 : decode cL_law 343 = .ok (.aload_n 2, 1) := by decide +kernel
theorem dL_law_344 : decode cL_law 344 = .ok (.aload_n 0, 1) := by decide +kernel
theorem dL_law_345 : decode cL_law 345 = .ok (.iload_n 3, 1) := by decide +kernel
theorem dL_law_346 : decode cL_law 346 = .ok (.iconst 1, 1) := by decide +kernel
theorem dL_law_347 : decode cL_law 347 = .ok (.iadd, 1) := by decide +kernel
theorem dL_law_348 : decode cL_law 348 = .ok (.iaload, 1) := by decide +kernel
theorem dL_law_349 : decode cL_law 349 = .ok (.aload_n 0, 1) := by decide +kernel
theorem dL_law_350 : decode cL_law 350 = .ok (.iload_n 3, 1) := by decide +kernel
theorem dL_law_351 : decode cL_law 351 = .ok (.iconst 2, 1) := by decide +kernel
theorem dL_law_352 : decode cL_law 352 = .ok (.iadd, 1) := by decide +kernel
theorem dL_law_353 : decode cL_law 353 = .ok (.iaload, 1) := by decide +kernel
theorem dL_law_354 : decode cL_law 354 = .ok (.invokevirtual 30, 3) := by decide +kernel
theorem dL_law_357 : decode cL_law 357 = .ok (.if_icmp .eq 1102, 3) := by decide +kernel
theorem dL_law_360 : decode cL_law 360 = .ok (.iconst 0, 1) := by decide +kernel
theorem dL_law_361 : decode cL_law 361 = .ok (.ireturn, 1) := by decide +kernel
theorem dL_law_362 : decode cL_law 362 = .ok (.aload_n 1, 1) := by decide +kernel
theorem dL_law_363 : decode cL_law 363 = .ok (.aload_n 0, 1) := by decide +kernel
theorem dL_law_364 : decode cL_law 364 = .ok (.iload_n 3, 1) := by decide +kernel
theorem dL_law_365 : decode cL_law 365 = .ok (.iconst 1, 1) := by decide +kernel
theorem dL_law_366 : decode cL_law 366 = .ok (.iadd, 1) := by decide +kernel
theorem dL_law_367 : decode cL_law 367 = .ok (.iaload, 1) := by decide +kernel
theorem dL_law_368 : decode cL_law 368 = .ok (.aload_n 0, 1) := by decide +kernel
theorem dL_law_369 : decode cL_law 369 = .ok (.iload_n 3, 1) := by decide +kernel
theorem dL_law_370 : decode cL_law 370 = .ok (.iconst 2, 1) := by decide +kernel
theorem dL_law_371 : decode cL_law 371 = .ok (.iadd, 1) := by decide +kernel
theorem dL_law_372 : decode cL_law 372 = .ok (.iaload, 1) := by decide +kernel
theorem dL_law_373 : decode cL_law 373 = .ok (.aload_n 0, 1) := by decide +kernel
theorem dL_law_374 : decode cL_law 374 = .ok (.iload_n 3, 1) := by decide +kernel
theorem dL_law_375 : decode cL_law 375 = .ok (.iconst 3, 1) := by decide +kernel
theorem dL_law_376 : decode cL_law 376 = .ok (.iadd, 1) := by decide +kernel
theorem dL_law_377 : decode cL_law 377 = .ok (.iaload, 1) := by decide +kernel
theorem dL_law_378 : decode cL_law 378 = .ok (.invokevirtual 31, 3) := by decide +kernel
theorem dL_law_381 : decode cL_law 381 = .ok (.aload_n 2, 1) := by decide +kernel
theorem dL_law_382 : decode cL_law 382 = .ok (.aload_n 0, 1) := by decide +kernel
theorem dL_law_383 : decode cL_law 383 = .ok (.iload_n 3, 1) := by decide +kernel
theorem dL_law_384 : decode cL_law 384 = .ok (.iconst 1, 1) := by decide +kernel
theorem dL_law_385 : decode cL_law 385 = .ok (.iadd, 1) := by decide +kernel
theorem dL_law_386 : decode cL_law 386 = .ok (.iaload, 1) := by decide +kernel
theorem dL_law_387 : decode cL_law 387 = .ok (.aload_n 0, 1) := by decide +kernel
theorem dL_law_388 : decode cL_law 388 = .ok (.iload_n 3, 1) := by decide +kernel
theorem dL_law_389 : decode cL_law 389 = .ok (.iconst 2, 1) := by decide +kernel
theorem dL_law_390 : decode cL_law 390 = .ok (.iadd, 1) := by decide +kernel
theorem dL_law_391 : decode cL_law 391 = .ok (.iaload, 1) := by decide +kernel
theorem dL_law_392 : decode cL_law 392 = .ok (.aload_n 0, 1) := by decide +kernel
theorem dL_law_393 : decode cL_law 393 = .ok (.iload_n 3, 1) := by decide +kernel
theorem dL_law_394 : decode cL_law 394 = .ok (.iconst 3, 1) := by decide +kernel
theorem dL_law_395 : decode cL_law 395 = .ok (.iadd, 1) := by decide +kernel
theorem dL_law_396 : decode cL_law 396 = .ok (.iaload, 1) := by decide +kernel
theorem dL_law_397 : decode cL_law 397 = .ok (.invokevirtual 34, 3) := by decide +kernel
theorem dL_law_400 : decode cL_law 400 = .ok (.if_icmp .eq 1059, 3) := by decide +kernel
theorem dL_law_403 : decode cL_law 403 = .ok (.iconst 0, 1) := by decide +kernel
theorem dL_law_404 : decode cL_law 404 = .ok (.ireturn, 1) := by decide +kernel
theorem dL_law_405 : decode cL_law 405 = .ok (.aload_n 1, 1) := by decide +kernel
theorem dL_law_406 : decode cL_law 406 = .ok (.aload_n 0, 1) := by decide +kernel
theorem dL_law_407 : decode cL_law 407 = .ok (.iload_n 3, 1) := by decide +kernel
theorem dL_law_408 : decode cL_law 408 = .ok (.iconst 1, 1) := by decide +kernel
theorem dL_law_409 : decode cL_law 409 = .ok (.iadd, 1) := by decide +kernel
theorem dL_law_410 : decode cL_law 410 = .ok (.iaload, 1) := by decide +kernel
theorem dL_law_411 : decode cL_law 411 = .ok (.aload_n 0, 1) := by decide +kernel
theorem dL_law_412 : decode cL_law 412 = .ok (.iload_n 3, 1) := by decide +kernel
theorem dL_law_413 : decode cL_law 413 = .ok (.iconst 2, 1) := by decide +kernel
theorem dL_law_414 : decode cL_law 414 = .ok (.iadd, 1) := by decide +kernel
theorem dL_law_415 : decode cL_law 415 = .ok (.iaload, 1) := by decide +kernel
theorem dL_law_416 : decode cL_law 416 = .ok (.invokevirtual 35, 3) := by decide +kernel
theorem dL_law_419 : decode cL_law 419 = .ok (.aload_n 2, 1) := by decide +kernel
theorem dL_law_420 : decode cL_law 420 = .ok (.aload_n 0, 1) := by decide +kernel
theorem dL_law_421 : decode cL_law 421 = .ok (.iload_n 3, 1) := by decide +kernel
theorem dL_law_422 : decode cL_law 422 = .ok (.iconst 1, 1) := by decide +kernel
theorem dL_law_423 : decode cL_law 423 = .ok (.iadd, 1) := by decide +kernel
theorem dL_law_424 : decode cL_law 424 = .ok (.iaload, 1) := by decide +kernel
theorem dL_law_425 : decode cL_law 425 = .ok (.aload_n 0, 1) := by decide +kernel
theorem dL_law_426 : decode cL_law 426 = .ok (.iload_n 3, 1) := by decide +kernel
theorem dL_law_427 : decode cL_law 427 = .ok (.iconst 2, 1) := by decide +kernel
theorem dL_law_428 : decode cL_law 428 = .ok (.iadd, 1) := by decide +kernel
theorem dL_law_429 : decode cL_law 429 = .ok (.iaload, 1) := by decide +kernel
theorem dL_law_430 : decode cL_law 430 = .ok (.invokevirtual 38, 3) := by decide +kernel
theorem dL_law_433 : decode cL_law 433 = .ok (.if_icmp .eq 1026, 3) := by decide +kernel
theorem dL_law_436 : decode cL_law 436 = .ok (.iconst 0, 1) := by decide +kernel
theorem dL_law_437 : decode cL_law 437 = .ok (.ireturn, 1) := by decide +kernel
theorem dL_law_438 : decode cL_law 438 = .ok (.aload_n 1, 1) := by decide +kernel
theorem dL_law_439 : decode cL_law 439 = .ok (.aload_n 0, 1) := by decide +kernel
theorem dL_law_440 : decode cL_law 440 = .ok (.iload_n 3, 1) := by decide +kernel
theorem dL_law_441 : decode cL_law 441 = .ok (.iconst 1, 1) := by decide +kernel
theorem dL_law_442 : decode cL_law 442 = .ok (.iadd, 1) := by decide +kernel
theorem dL_law_443 : decode cL_law 443 = .ok (.iaload, 1) := by decide +kernel
theorem dL_law_444 : decode cL_law 444 = .ok (.invokevirtual 39, 3) := by decide +kernel
theorem dL_law_447 : decode cL_law 447 = .ok (.aload_n 2, 1) := by decide +kernel
theorem dL_law_448 : decode cL_law 448 = .ok (.aload_n 0, 1) := by decide +kernel
theorem dL_law_449 : decode cL_law 449 = .ok (.iload_n 3, 1) := by decide +kernel
theorem dL_law_450 : decode cL_law 450 = .ok (.iconst 1, 1) := by decide +kernel
theorem dL_law_451 : decode cL_law 451 = .ok (.iadd, 1) := by decide +kernel
theorem dL_law_452 : decode cL_law 452 = .ok (.iaload, 1) := by decide +kernel
theorem dL_law_453 : decode cL_law 453 = .ok (.invokevirtual 43, 3) := by decide +kernel
theorem dL_law_456 : decode cL_law 456 = .ok (.if_icmp .eq 1003, 3) := by decide +kernel
theorem dL_law_459 : decode cL_law 459 = .ok (.iconst 0, 1) := by decide +kernel
theorem dL_law_460 : decode cL_law 460 = .ok (.ireturn, 1) := by decide +kernel
theorem dL_law_461 : decode cL_law 461 = .ok (.aload_n 1, 1) := by decide +kernel
theorem dL_law_462 : decode cL_law 462 = .ok (.aload_n 0, 1) := by decide +kernel
theorem dL_law_463 : decode cL_law 463 = .ok (.iload_n 3, 1) := by decide +kernel
theorem dL_law_464 : decode cL_law 464 = .ok (.iconst 1, 1) := by decide +kernel
theorem dL_law_465 : decode cL_law 465 = .ok (.iadd, 1) := by decide +kernel
theorem dL_law_466 : decode cL_law 466 = .ok (.iaload, 1) := by decide +kernel
theorem dL_law_467 : decode cL_law 467 = .ok (.invokevirtual 44, 3) := by decide +kernel
theorem dL_law_470 : decode cL_law 470 = .ok (.aload_n 2, 1) := by decide +kernel
theorem dL_law_471 : decode cL_law 471 = .ok (.aload_n 0, 1) := by decide +kernel
theorem dL_law_472 : decode cL_law 472 = .ok (.iload_n 3, 1) := by decide +kernel
theorem dL_law_473 : decode cL_law 473 = .ok (.iconst 1, 1) := by decide +kernel
theorem dL_law_474 : decode cL_law 474 = .ok (.iadd, 1) := by decide +kernel
theorem dL_law_475 : decode cL_law 475 = .ok (.iaload, 1) := by decide +kernel
theorem dL_law_476 : decode cL_law 476 = .ok (.invokevirtual 47, 3) := by decide +kernel
theorem dL_law_479 : decode cL_law 479 = .ok (.if_icmp .eq 980, 3) := by decide +kernel
theorem dL_law_482 : decode cL_law 482 = .ok (.iconst 0, 1) := by decide +kernel
theorem dL_law_483 : decode cL_law 483 = .ok (.ireturn, 1) := by decide +kernel
theorem dL_law_484 : decode cL_law 484 = .ok (.aload_n 1, 1) := by decide +kernel
theorem dL_law_485 : decode cL_law 485 = .ok (.aload_n 0, 1) := by decide +kernel
theorem dL_law_486 : decode cL_law 486 = .ok (.iload_n 3, 1) := by decide +kernel
theorem dL_law_487 : decode cL_law 487 = .ok (.iconst 1, 1) := by decide +kernel
theorem dL_law_488 : decode cL_law 488 = .ok (.iadd, 1) := by decide +kernel
theorem dL_law_489 : decode cL_law 489 = .ok (.iaload, 1) := by decide +kernel
theorem dL_law_490 : decode cL_law 490 = .ok (.invokevirtual 48, 3) := by decide +kernel
theorem dL_law_493 : decode cL_law 493 = .ok (.aload_n 2, 1) := by decide +kernel
theorem dL_law_494 : decode cL_law 494 = .ok (.aload_n 0, 1) := by decide +kernel
theorem dL_law_495 : decode cL_law 495 = .ok (.iload_n 3, 1) := by decide +kernel
theorem dL_law_496 : decode cL_law 496 = .ok (.iconst 1, 1) := by decide +kernel
theorem dL_law_497 : decode cL_law 497 = .ok (.iadd, 1) := by decide +kernel
theorem dL_law_498 : decode cL_law 498 = .ok (.iaload, 1) := by decide +kernel
theorem dL_law_499 : decode cL_law 499 = .ok (.invokevirtual 51, 3) := by decide +kernel
theorem dL_law_502 : decode cL_law 502 = .ok (.if_icmp .eq 957, 3) := by decide +kernel
theorem dL_law_505 : decode cL_law 505 = .ok (.iconst 0, 1) := by decide +kernel
theorem dL_law_506 : decode cL_law 506 = .ok (.ireturn, 1) := by decide +kernel
theorem dL_law_507 : decode cL_law 507 = .ok (.aload_n 1, 1) := by decide +kernel
theorem dL_law_508 : decode cL_law 508 = .ok (.aload_n 0, 1) := by decide +kernel
theorem dL_law_509 : decode cL_law 509 = .ok (.iload_n 3, 1) := by decide +kernel
theorem dL_law_510 : decode cL_law 510 = .ok (.iconst 1, 1) := by decide +kernel
theorem dL_law_511 : decode cL_law 511 = .ok (.iadd, 1) := by decide +kernel
theorem dL_law_512 : decode cL_law 512 = .ok (.iaload, 1) := by decide +kernel
theorem dL_law_513 : decode cL_law 513 = .ok (.aload_n 0, 1) := by decide +kernel
theorem dL_law_514 : decode cL_law 514 = .ok (.iload_n 3, 1) := by decide +kernel
theorem dL_law_515 : decode cL_law 515 = .ok (.iconst 2, 1) := by decide +kernel
theorem dL_law_516 : decode cL_law 516 = .ok (.iadd, 1) := by decide +kernel
theorem dL_law_517 : decode cL_law 517 = .ok (.iaload, 1) := by decide +kernel
theorem dL_law_518 : decode cL_law 518 = .ok (.invokevirtual 52, 3) := by decide +kernel
theorem dL_law_521 : decode cL_law 521 = .ok (.aload_n 2, 1) := by decide +kernel
theorem dL_law_522 : decode cL_law 522 = .ok (.aload_n 0, 1) := by decide +kernel
theorem dL_law_523 : decode cL_law 523 = .ok (.iload_n 3, 1) := by decide +kernel
theorem dL_law_524 : decode cL_law 524 = .ok (.iconst 1, 1) := by decide +kernel
theorem dL_law_525 : decode cL_law 525 = .ok (.iadd, 1) := by decide +kernel
theorem dL_law_526 : decode cL_law 526 = .ok (.iaload, 1) := by decide +kernel
theorem dL_law_527 : decode cL_law 527 = .ok (.aload_n 0, 1) := by decide +kernel
theorem dL_law_528 : decode cL_law 528 = .ok (.iload_n 3, 1) := by decide +kernel
theorem dL_law_529 : decode cL_law 529 = .ok (.iconst 2, 1) := by decide +kernel
theorem dL_law_530 : decode cL_law 530 = .ok (.iadd, 1) := by decide +kernel
theorem dL_law_531 : decode cL_law 531 = .ok (.iaload, 1) := by decide +kernel
theorem dL_law_532 : decode cL_law 532 = .ok (.invokevirtual 55, 3) := by decide +kernel
theorem dL_law_535 : decode cL_law 535 = .ok (.if_icmp .eq 924, 3) := by decide +kernel
theorem dL_law_538 : decode cL_law 538 = .ok (.iconst 0, 1) := by decide +kernel
theorem dL_law_539 : decode cL_law 539 = .ok (.ireturn, 1) := by decide +kernel
theorem dL_law_540 : decode cL_law 540 = .ok (.aload_n 1, 1) := by decide +kernel
theorem dL_law_541 : decode cL_law 541 = .ok (.aload_n 0, 1) := by decide +kernel
theorem dL_law_542 : decode cL_law 542 = .ok (.iload_n 3, 1) := by decide +kernel
theorem dL_law_543 : decode cL_law 543 = .ok (.iconst 1, 1) := by decide +kernel
theorem dL_law_544 : decode cL_law 544 = .ok (.iadd, 1) := by decide +kernel
theorem dL_law_545 : decode cL_law 545 = .ok (.iaload, 1) := by decide +kernel
theorem dL_law_546 : decode cL_law 546 = .ok (.invokevirtual 56, 3) := by decide +kernel
theorem dL_law_549 : decode cL_law 549 = .ok (.aload_n 2, 1) := by decide +kernel
theorem dL_law_550 : decode cL_law 550 = .ok (.aload_n 0, 1) := by decide +kernel
theorem dL_law_551 : decode cL_law 551 = .ok (.iload_n 3, 1) := by decide +kernel
theorem dL_law_552 : decode cL_law 552 = .ok (.iconst 1, 1) := by decide +kernel
theorem dL_law_553 : decode cL_law 553 = .ok (.iadd, 1) := by decide +kernel
theorem dL_law_554 : decode cL_law 554 = .ok (.iaload, 1) := by decide +kernel
theorem dL_law_555 : decode cL_law 555 = .ok (.invokevirtual 59, 3) := by decide +kernel
theorem dL_law_558 : decode cL_law 558 = .ok (.if_icmp .eq 901, 3) := by decide +kernel
theorem dL_law_561 : decode cL_law 561 = .ok (.iconst 0, 1) := by decide +kernel
theorem dL_law_562 : decode cL_law 562 = .ok (.ireturn, 1) := by decide +kernel
theorem dL_law_563 : decode cL_law 563 = .ok (.aload_n 1, 1) := by decide +kernel
theorem dL_law_564 : decode cL_law 564 = .ok (.aload_n 0, 1) := by decide +kernel
theorem dL_law_565 : decode cL_law 565 = .ok (.iload_n 3, 1) := by decide +kernel
theorem dL_law_566 : decode cL_law 566 = .ok (.iconst 1, 1) := by decide +kernel
theorem dL_law_567 : decode cL_law 567 = .ok (.iadd, 1) := by decide +kernel
theorem dL_law_568 : decode cL_law 568 = .ok (.iaload, 1) := by decide +kernel
theorem dL_law_569 : decode cL_law 569 = .ok (.aload_n 0, 1) := by decide +kernel
theorem dL_law_570 : decode cL_law 570 = .ok (.iload_n 3, 1) := by decide +kernel
theorem dL_law_571 : decode cL_law 571 = .ok (.iconst 2, 1) := by decide +kernel
theorem dL_law_572 : decode cL_law 572 = .ok (.iadd, 1) := by decide +kernel
theorem dL_law_573 : decode cL_law 573 = .ok (.iaload, 1) := by decide +kernel
theorem dL_law_574 : decode cL_law 574 = .ok (.invokevirtual 60, 3) := by decide +kernel
theorem dL_law_577 : decode cL_law 577 = .ok (.aload_n 2, 1) := by decide +kernel
theorem dL_law_578 : decode cL_law 578 = .ok (.aload_n 0, 1) := by decide +kernel
theorem dL_law_579 : decode cL_law 579 = .ok (.iload_n 3, 1) := by decide +kernel
theorem dL_law_580 : decode cL_law 580 = .ok (.iconst 1, 1) := by decide +kernel
theorem dL_law_581 : decode cL_law 581 = .ok (.iadd, 1) := by decide +kernel
theorem dL_law_582 : decode cL_law 582 = .ok (.iaload, 1) := by decide +kernel
theorem dL_law_583 : decode cL_law 583 = .ok (.aload_n 0, 1) := by decide +kernel
theorem dL_law_584 : decode cL_law 584 = .ok (.iload_n 3, 1) := by decide +kernel
theorem dL_law_585 : decode cL_law 585 = .ok (.iconst 2, 1) := by decide +kernel
theorem dL_law_586 : decode cL_law 586 = .ok (.iadd, 1) := by decide +kernel
theorem dL_law_587 : decode cL_law 587 = .ok (.iaload, 1) := by decide +kernel
theorem dL_law_588 : decode cL_law 588 = .ok (.invokevirtual 63, 3) := by decide +kernel
theorem dL_law_591 : decode cL_law 591 = .ok (.if_icmp .eq 868, 3) := by decide +kernel
theorem dL_law_594 : decode cL_law 594 = .ok (.iconst 0, 1) := by decide +kernel
theorem dL_law_595 : decode cL_law 595 = .ok (.ireturn, 1) := by decide +kernel
theorem dL_law_596 : decode cL_law 596 = .ok (.aload_n 1, 1) := by decide +kernel
theorem dL_law_597 : decode cL_law 597 = .ok (.aload_n 0, 1) := by decide +kernel
theorem dL_law_598 : decode cL_law 598 = .ok (.iload_n 3, 1) := by decide +kernel
theorem dL_law_599 : decode cL_law 599 = .ok (.iconst 1, 1) := by decide +kernel
theorem dL_law_600 : decode cL_law 600 = .ok (.iadd, 1) := by decide +kernel
theorem dL_law_601 : decode cL_law 601 = .ok (.iaload, 1) := by decide +kernel
theorem dL_law_602 : decode cL_law 602 = .ok (.invokevirtual 64, 3) := by decide +kernel
theorem dL_law_605 : decode cL_law 605 = .ok (.aload_n 2, 1) := by decide +kernel
theorem dL_law_606 : decode cL_law 606 = .ok (.aload_n 0, 1) := by decide +kernel
theorem dL_law_607 : decode cL_law 607 = .ok (.iload_n 3, 1) := by decide +kernel
theorem dL_law_608 : decode cL_law 608 = .ok (.iconst 1, 1) := by decide +kernel
theorem dL_law_609 : decode cL_law 609 = .ok (.iadd, 1) := by decide +kernel
theorem dL_law_610 : decode cL_law 610 = .ok (.iaload, 1) := by decide +kernel
theorem dL_law_611 : decode cL_law 611 = .ok (.invokevirtual 67, 3) := by decide +kernel
theorem dL_law_614 : decode cL_law 614 = .ok (.if_icmp .eq 845, 3) := by decide +kernel
theorem dL_law_617 : decode cL_law 617 = .ok (.iconst 0, 1) := by decide +kernel
theorem dL_law_618 : decode cL_law 618 = .ok (.ireturn, 1) := by decide +kernel
theorem dL_law_619 : decode cL_law 619 = .ok (.aload_n 1, 1) := by decide +kernel
theorem dL_law_620 : decode cL_law 620 = .ok (.aload_n 0, 1) := by decide +kernel
theorem dL_law_621 : decode cL_law 621 = .ok (.iload_n 3, 1) := by decide +kernel
theorem dL_law_622 : decode cL_law 622 = .ok (.iconst 1, 1) := by decide +kernel
theorem dL_law_623 : decode cL_law 623 = .ok (.iadd, 1) := by decide +kernel
theorem dL_law_624 : decode cL_law 624 = .ok (.iaload, 1) := by decide +kernel
theorem dL_law_625 : decode cL_law 625 = .ok (.invokevirtual 68, 3) := by decide +kernel
theorem dL_law_628 : decode cL_law 628 = .ok (.aload_n 2, 1) := by decide +kernel
theorem dL_law_629 : decode cL_law 629 = .ok (.aload_n 0, 1) := by decide +kernel
theorem dL_law_630 : decode cL_law 630 = .ok (.iload_n 3, 1) := by decide +kernel
theorem dL_law_631 : decode cL_law 631 = .ok (.iconst 1, 1) := by decide +kernel
theorem dL_law_632 : decode cL_law 632 = .ok (.iadd, 1) := by decide +kernel
theorem dL_law_633 : decode cL_law 633 = .ok (.iaload, 1) := by decide +kernel
theorem dL_law_634 : decode cL_law 634 = .ok (.invokevirtual 71, 3) := by decide +kernel
theorem dL_law_637 : decode cL_law 637 = .ok (.if_icmp .eq 822, 3) := by decide +kernel
theorem dL_law_640 : decode cL_law 640 = .ok (.iconst 0, 1) := by decide +kernel
theorem dL_law_641 : decode cL_law 641 = .ok (.ireturn, 1) := by decide +kernel
theorem dL_law_642 : decode cL_law 642 = .ok (.aload_n 1, 1) := by decide +kernel
theorem dL_law_643 : decode cL_law 643 = .ok (.invokevirtual 72, 3) := by decide +kernel
theorem dL_law_646 : decode cL_law 646 = .ok (.aload_n 2, 1) := by decide +kernel
theorem dL_law_647 : decode cL_law 647 = .ok (.invokevirtual 76, 3) := by decide +kernel
theorem dL_law_650 : decode cL_law 650 = .ok (.if_icmp .eq 809, 3) := by decide +kernel
theorem dL_law_653 : decode cL_law 653 = .ok (.iconst 0, 1) := by decide +kernel
theorem dL_law_654 : decode cL_law 654 = .ok (.ireturn, 1) := by decide +kernel
theorem dL_law_655 : decode cL_law 655 = .ok (.aload_n 1, 1) := by decide +kernel
theorem dL_law_656 : decode cL_law 656 = .ok (.aload_n 0, 1) := by decide +kernel
theorem dL_law_657 : decode cL_law 657 = .ok (.iload_n 3, 1) := by decide +kernel
theorem dL_law_658 : decode cL_law 658 = .ok (.iconst 1, 1) := by decide +kernel
theorem dL_law_659 : decode cL_law 659 = .ok (.iadd, 1) := by decide +kernel
theorem dL_law_660 : decode cL_law 660 = .ok (.iaload, 1) := by decide +kernel
theorem dL_law_661 : decode cL_law 661 = .ok (.aload_n 0, 1) := by decide +kernel
theorem dL_law_662 : decode cL_law 662 = .ok (.iload_n 3, 1) := by decide +kernel
theorem dL_law_663 : decode cL_law 663 = .ok (.iconst 2, 1) := by decide +kernel
theorem dL_law_664 : decode cL_law 664 = .ok (.iadd, 1) := by decide +kernel
theorem dL_law_665 : decode cL_law 665 = .ok (.iaload, 1) := by decide +kernel
theorem dL_law_666 : decode cL_law 666 = .ok (.invokevirtual 77, 3) := by decide +kernel
theorem dL_law_669 : decode cL_law 669 = .ok (.aload_n 2, 1) := by decide +kernel
theorem dL_law_670 : decode cL_law 670 = .ok (.aload_n 0, 1) := by decide +kernel
theorem dL_law_671 : decode cL_law 671 = .ok (.iload_n 3, 1) := by decide +kernel
theorem dL_law_672 : decode cL_law 672 = .ok (.iconst 1, 1) := by decide +kernel
theorem dL_law_673 : decode cL_law 673 = .ok (.iadd, 1) := by decide +kernel
theorem dL_law_674 : decode cL_law 674 = .ok (.iaload, 1) := by decide +kernel
theorem dL_law_675 : decode cL_law 675 = .ok (.aload_n 0, 1) := by decide +kernel
theorem dL_law_676 : decode cL_law 676 = .ok (.iload_n 3, 1) := by decide +kernel
theorem dL_law_677 : decode cL_law 677 = .ok (.iconst 2, 1) := by decide +kernel
theorem dL_law_678 : decode cL_law 678 = .ok (.iadd, 1) := by decide +kernel
theorem dL_law_679 : decode cL_law 679 = .ok (.iaload, 1) := by decide +kernel
theorem dL_law_680 : decode cL_law 680 = .ok (.invokevirtual 80, 3) := by decide +kernel
theorem dL_law_683 : decode cL_law 683 = .ok (.if_icmp .eq 776, 3) := by decide +kernel
theorem dL_law_686 : decode cL_law 686 = .ok (.iconst 0, 1) := by decide +kernel
theorem dL_law_687 : decode cL_law 687 = .ok (.ireturn, 1) := by decide +kernel
theorem dL_law_688 : decode cL_law 688 = .ok (.aload_n 1, 1) := by decide +kernel
theorem dL_law_689 : decode cL_law 689 = .ok (.invokevirtual 81, 3) := by decide +kernel
theorem dL_law_692 : decode cL_law 692 = .ok (.aload_n 2, 1) := by decide +kernel
theorem dL_law_693 : decode cL_law 693 = .ok (.invokevirtual 84, 3) := by decide +kernel
theorem dL_law_696 : decode cL_law 696 = .ok (.if_icmp .eq 763, 3) := by decide +kernel
theorem dL_law_699 : decode cL_law 699 = .ok (.iconst 0, 1) := by decide +kernel
theorem dL_law_700 : decode cL_law 700 = .ok (.ireturn, 1) := by decide +kernel
theorem dL_law_701 : decode cL_law 701 = .ok (.aload_n 1, 1) := by decide +kernel
theorem dL_law_702 : decode cL_law 702 = .ok (.aload_n 0, 1) := by decide +kernel
theorem dL_law_703 : decode cL_law 703 = .ok (.iload_n 3, 1) := by decide +kernel
theorem dL_law_704 : decode cL_law 704 = .ok (.iconst 1, 1) := by decide +kernel
theorem dL_law_705 : decode cL_law 705 = .ok (.iadd, 1) := by decide +kernel
theorem dL_law_706 : decode cL_law 706 = .ok (.iaload, 1) := by decide +kernel
theorem dL_law_707 : decode cL_law 707 = .ok (.invokevirtual 85, 3) := by decide +kernel
theorem dL_law_710 : decode cL_law 710 = .ok (.aload_n 2, 1) := by decide +kernel
theorem dL_law_711 : decode cL_law 711 = .ok (.aload_n 0, 1) := by decide +kernel
theorem dL_law_712 : decode cL_law 712 = .ok (.iload_n 3, 1) := by decide +kernel
theorem dL_law_713 : decode cL_law 713 = .ok (.iconst 1, 1) := by decide +kernel
theorem dL_law_714 : decode cL_law 714 = .ok (.iadd, 1) := by decide +kernel
theorem dL_law_715 : decode cL_law 715 = .ok (.iaload, 1) := by decide +kernel
theorem dL_law_716 : decode cL_law 716 = .ok (.invokevirtual 88, 3) := by decide +kernel
theorem dL_law_719 : decode cL_law 719 = .ok (.if_icmp .eq 740, 3) := by decide +kernel
theorem dL_law_722 : decode cL_law 722 = .ok (.iconst 0, 1) := by decide +kernel
theorem dL_law_723 : decode cL_law 723 = .ok (.ireturn, 1) := by decide +kernel
theorem dL_law_724 : decode cL_law 724 = .ok (.aload_n 1, 1) := by decide +kernel
theorem dL_law_725 : decode cL_law 725 = .ok (.aload_n 0, 1) := by decide +kernel
theorem dL_law_726 : decode cL_law 726 = .ok (.iload_n 3, 1) := by decide +kernel
theorem dL_law_727 : decode cL_law 727 = .ok (.iconst 1, 1) := by decide +kernel
theorem dL_law_728 : decode cL_law 728 = .ok (.iadd, 1) := by decide +kernel
theorem dL_law_729 : decode cL_law 729 = .ok (.iaload, 1) := by decide +kernel
theorem dL_law_730 : decode cL_law 730 = .ok (.invokevirtual 89, 3) := by decide +kernel
theorem dL_law_733 : decode cL_law 733 = .ok (.aload_n 2, 1) := by decide +kernel
theorem dL_law_734 : decode cL_law 734 = .ok (.aload_n 0, 1) := by decide +kernel
theorem dL_law_735 : decode cL_law 735 = .ok (.iload_n 3, 1) := by decide +kernel
theorem dL_law_736 : decode cL_law 736 = .ok (.iconst 1, 1) := by decide +kernel
theorem dL_law_737 : decode cL_law 737 = .ok (.iadd, 1) := by decide +kernel
theorem dL_law_738 : decode cL_law 738 = .ok (.iaload, 1) := by decide +kernel
theorem dL_law_739 : decode cL_law 739 = .ok (.invokevirtual 92, 3) := by decide +kernel
theorem dL_law_742 : decode cL_law 742 = .ok (.if_icmp .eq 717, 3) := by decide +kernel
theorem dL_law_745 : decode cL_law 745 = .ok (.iconst 0, 1) := by decide +kernel
theorem dL_law_746 : decode cL_law 746 = .ok (.ireturn, 1) := by decide +kernel
theorem dL_law_747 : decode cL_law 747 = .ok (.aload_n 1, 1) := by decide +kernel
theorem dL_law_748 : decode cL_law 748 = .ok (.aload_n 0, 1) := by decide +kernel
theorem dL_law_749 : decode cL_law 749 = .ok (.iload_n 3, 1) := by decide +kernel
theorem dL_law_750 : decode cL_law 750 = .ok (.iconst 1, 1) := by decide +kernel
theorem dL_law_751 : decode cL_law 751 = .ok (.iadd, 1) := by decide +kernel
theorem dL_law_752 : decode cL_law 752 = .ok (.iaload, 1) := by decide +kernel
theorem dL_law_753 : decode cL_law 753 = .ok (.invokevirtual 93, 3) := by decide +kernel
theorem dL_law_756 : decode cL_law 756 = .ok (.aload_n 2, 1) := by decide +kernel
theorem dL_law_757 : decode cL_law 757 = .ok (.aload_n 0, 1) := by decide +kernel
theorem dL_law_758 : decode cL_law 758 = .ok (.iload_n 3, 1) := by decide +kernel
theorem dL_law_759 : decode cL_law 759 = .ok (.iconst 1, 1) := by decide +kernel
theorem dL_law_760 : decode cL_law 760 = .ok (.iadd, 1) := by decide +kernel
theorem dL_law_761 : decode cL_law 761 = .ok (.iaload, 1) := by decide +kernel
theorem dL_law_762 : decode cL_law 762 = .ok (.invokevirtual 96, 3) := by decide +kernel
theorem dL_law_765 : decode cL_law 765 = .ok (.if_icmp .eq 694, 3) := by decide +kernel
theorem dL_law_768 : decode cL_law 768 = .ok (.iconst 0, 1) := by decide +kernel
theorem dL_law_769 : decode cL_law 769 = .ok (.ireturn, 1) := by decide +kernel
theorem dL_law_770 : decode cL_law 770 = .ok (.aload_n 1, 1) := by decide +kernel
theorem dL_law_771 : decode cL_law 771 = .ok (.aload_n 0, 1) := by decide +kernel
theorem dL_law_772 : decode cL_law 772 = .ok (.iload_n 3, 1) := by decide +kernel
theorem dL_law_773 : decode cL_law 773 = .ok (.iconst 1, 1) := by decide +kernel
theorem dL_law_774 : decode cL_law 774 = .ok (.iadd, 1) := by decide +kernel
theorem dL_law_775 : decode cL_law 775 = .ok (.iaload, 1) := by decide +kernel
theorem dL_law_776 : decode cL_law 776 = .ok (.aload_n 0, 1) := by decide +kernel
theorem dL_law_777 : decode cL_law 777 = .ok (.iload_n 3, 1) := by decide +kernel
theorem dL_law_778 : decode cL_law 778 = .ok (.iconst 2, 1) := by decide +kernel
theorem dL_law_779 : decode cL_law 779 = .ok (.iadd, 1) := by decide +kernel
theorem dL_law_780 : decode cL_law 780 = .ok (.iaload, 1) := by decide +kernel
theorem dL_law_781 : decode cL_law 781 = .ok (.aload_n 0, 1) := by decide +kernel
theorem dL_law_782 : decode cL_law 782 = .ok (.iload_n 3, 1) := by decide +kernel
theorem dL_law_783 : decode cL_law 783 = .ok (.iconst 3, 1) := by decide +kernel
theorem dL_law_784 : decode cL_law 784 = .ok (.iadd, 1) := by decide +kernel
theorem dL_law_785 : decode cL_law 785 = .ok (.iaload, 1) := by decide +kernel
theorem dL_law_786 : decode cL_law 786 = .ok (.invokevirtual 97, 3) := by decide +kernel
theorem dL_law_789 : decode cL_law 789 = .ok (.aload_n 2, 1) := by decide +kernel
theorem dL_law_790 : decode cL_law 790 = .ok (.aload_n 0, 1) := by decide +kernel
theorem dL_law_791 : decode cL_law 791 = .ok (.iload_n 3, 1) := by decide +kernel
theorem dL_law_792 : decode cL_law 792 = .ok (.iconst 1, 1) := by decide +kernel
theorem dL_law_793 : decode cL_law 793 = .ok (.iadd, 1) := by decide +kernel
theorem dL_law_794 : decode cL_law 794 = .ok (.iaload, 1) := by decide +kernel
theorem dL_law_795 : decode cL_law 795 = .ok (.aload_n 0, 1) := by decide +kernel
theorem dL_law_796 : decode cL_law 796 = .ok (.iload_n 3, 1) := by decide +kernel
theorem dL_law_797 : decode cL_law 797 = .ok (.iconst 2, 1) := by decide +kernel
theorem dL_law_798 : decode cL_law 798 = .ok (.iadd, 1) := by decide +kernel
theorem dL_law_799 : decode cL_law 799 = .ok (.iaload, 1) := by decide +kernel
theorem dL_law_800 : decode cL_law 800 = .ok (.aload_n 0, 1) := by decide +kernel
theorem dL_law_801 : decode cL_law 801 = .ok (.iload_n 3, 1) := by decide +kernel
theorem dL_law_802 : decode cL_law 802 = .ok (.iconst 3, 1) := by decide +kernel
theorem dL_law_803 : decode cL_law 803 = .ok (.iadd, 1) := by decide +kernel
theorem dL_law_804 : decode cL_law 804 = .ok (.iaload, 1) := by decide +kernel
theorem dL_law_805 : decode cL_law 805 = .ok (.invokevirtual 100, 3) := by decide +kernel
theorem dL_law_808 : decode cL_law 808 = .ok (.if_icmp .eq 651, 3) := by decide +kernel
theorem dL_law_811 : decode cL_law 811 = .ok (.iconst 0, 1) := by decide +kernel
theorem dL_law_812 : decode cL_law 812 = .ok (.ireturn, 1) := by decide +kernel
theorem dL_law_813 : decode cL_law 813 = .ok (.aload_n 1, 1) := by decide +kernel
theorem dL_law_814 : decode cL_law 814 = .ok (.invokevirtual 101, 3) := by decide +kernel
theorem dL_law_817 : decode cL_law 817 = .ok (.aload_n 2, 1) := by decide +kernel
theorem dL_law_818 : decode cL_law 818 = .ok (.invokevirtual 104, 3) := by decide +kernel
theorem dL_law_821 : decode cL_law 821 = .ok (.if_icmp .eq 638, 3) := by decide +kernel
theorem dL_law_824 : decode cL_law 824 = .ok (.iconst 0, 1) := by decide +kernel
theorem dL_law_825 : decode cL_law 825 = .ok (.ireturn, 1) := by decide +kernel
theorem dL_law_826 : decode cL_law 826 = .ok (.aload_n 1, 1) := by decide +kernel
theorem dL_law_827 : decode cL_law 827 = .ok (.aload_n 0, 1) := by decide +kernel
theorem dL_law_828 : decode cL_law 828 = .ok (.iload_n 3, 1) := by decide +kernel
theorem dL_law_829 : decode cL_law 829 = .ok (.iconst 1, 1) := by decide +kernel
theorem dL_law_830 : decode cL_law 830 = .ok (.iadd, 1) := by decide +kernel
theorem dL_law_831 : decode cL_law 831 = .ok (.iaload, 1) := by decide +kernel
theorem dL_law_832 : decode cL_law 832 = .ok (.aload_n 0, 1) := by decide +kernel
theorem dL_law_833 : decode cL_law 833 = .ok (.iload_n 3, 1) := by decide +kernel
theorem dL_law_834 : decode cL_law 834 = .ok (.iconst 2, 1) := by decide +kernel
theorem dL_law_835 : decode cL_law 835 = .ok (.iadd, 1) := by decide +kernel
theorem dL_law_836 : decode cL_law 836 = .ok (.iaload, 1) := by decide +kernel
theorem dL_law_837 : decode cL_law 837 = .ok (.aload_n 0, 1) := by decide +kernel
theorem dL_law_838 : decode cL_law 838 = .ok (.iload_n 3, 1) := by decide +kernel
theorem dL_law_839 : decode cL_law 839 = .ok (.iconst 3, 1) := by decide +kernel
theorem dL_law_840 : decode cL_law 840 = .ok (.iadd, 1) := by decide +kernel
theorem dL_law_841 : decode cL_law 841 = .ok (.iaload, 1) := by decide +kernel
theorem dL_law_842 : decode cL_law 842 = .ok (.invokevirtual 105, 3) := by decide +kernel
theorem dL_law_845 : decode cL_law 845 = .ok (.aload_n 2, 1) := by decide +kernel
theorem dL_law_846 : decode cL_law 846 = .ok (.aload_n 0, 1) := by decide +kernel
theorem dL_law_847 : decode cL_law 847 = .ok (.iload_n 3, 1) := by decide +kernel
theorem dL_law_848 : decode cL_law 848 = .ok (.iconst 1, 1) := by decide +kernel
theorem dL_law_849 : decode cL_law 849 = .ok (.iadd, 1) := by decide +kernel
theorem dL_law_850 : decode cL_law 850 = .ok (.iaload, 1) := by decide +kernel
theorem dL_law_851 : decode cL_law 851 = .ok (.aload_n 0, 1) := by decide +kernel
theorem dL_law_852 : decode cL_law 852 = .ok (.iload_n 3, 1) := by decide +kernel
theorem dL_law_853 : decode cL_law 853 = .ok (.iconst 2, 1) := by decide +kernel
theorem dL_law_854 : decode cL_law 854 = .ok (.iadd, 1) := by decide +kernel
theorem dL_law_855 : decode cL_law 855 = .ok (.iaload, 1) := by decide +kernel
theorem dL_law_856 : decode cL_law 856 = .ok (.aload_n 0, 1) := by decide +kernel
theorem dL_law_857 : decode cL_law 857 = .ok (.iload_n 3, 1) := by decide +kernel
theorem dL_law_858 : decode cL_law 858 = .ok (.iconst 3, 1) := by decide +kernel
theorem dL_law_859 : decode cL_law 859 = .ok (.iadd, 1) := by decide +kernel
theorem dL_law_860 : decode cL_law 860 = .ok (.iaload, 1) := by decide +kernel
theorem dL_law_861 : decode cL_law 861 = .ok (.invokevirtual 108, 3) := by decide +kernel
theorem dL_law_864 : decode cL_law 864 = .ok (.if_icmp .eq 595, 3) := by decide +kernel
theorem dL_law_867 : decode cL_law 867 = .ok (.iconst 0, 1) := by decide +kernel
theorem dL_law_868 : decode cL_law 868 = .ok (.ireturn, 1) := by decide +kernel
theorem dL_law_869 : decode cL_law 869 = .ok (.aload_n 1, 1) := by decide +kernel
theorem dL_law_870 : decode cL_law 870 = .ok (.aload_n 0, 1) := by decide +kernel
theorem dL_law_871 : decode cL_law 871 = .ok (.iload_n 3, 1) := by decide +kernel
theorem dL_law_872 : decode cL_law 872 = .ok (.iconst 1, 1) := by decide +kernel
theorem dL_law_873 : decode cL_law 873 = .ok (.iadd, 1) := by decide +kernel
theorem dL_law_874 : decode cL_law 874 = .ok (.iaload, 1) := by decide +kernel
theorem dL_law_875 : decode cL_law 875 = .ok (.invokevirtual 109, 3) := by decide +kernel
theorem dL_law_878 : decode cL_law 878 = .ok (.aload_n 2, 1) := by decide +kernel
theorem dL_law_879 : decode cL_law 879 = .ok (.aload_n 0, 1) := by decide +kernel
theorem dL_law_880 : decode cL_law 880 = .ok (.iload_n 3, 1) := by decide +kernel
theorem dL_law_881 : decode cL_law 881 = .ok (.iconst 1, 1) := by decide +kernel
theorem dL_law_882 : decode cL_law 882 = .ok (.iadd, 1) := by decide +kernel
theorem dL_law_883 : decode cL_law 883 = .ok (.iaload, 1) := by decide +kernel
theorem dL_law_884 : decode cL_law 884 = .ok (.invokevirtual 112, 3) := by decide +kernel
theorem dL_law_887 : decode cL_law 887 = .ok (.if_icmp .eq 572, 3) := by decide +kernel
theorem dL_law_890 : decode cL_law 890 = .ok (.iconst 0, 1) := by decide +kernel
theorem dL_law_891 : decode cL_law 891 = .ok (.ireturn, 1) := by decide +kernel
theorem dL_law_892 : decode cL_law 892 = .ok (.aload_n 1, 1) := by decide +kernel
theorem dL_law_893 : decode cL_law 893 = .ok (.aload_n 0, 1) := by decide +kernel
theorem dL_law_894 : decode cL_law 894 = .ok (.iload_n 3, 1) := by decide +kernel
theorem dL_law_895 : decode cL_law 895 = .ok (.iconst 1, 1) := by decide +kernel
theorem dL_law_896 : decode cL_law 896 = .ok (.iadd, 1) := by decide +kernel
theorem dL_law_897 : decode cL_law 897 = .ok (.iaload, 1) := by decide +kernel
theorem dL_law_898 : decode cL_law 898 = .ok (.aload_n 0, 1) := by decide +kernel
theorem dL_law_899 : decode cL_law 899 = .ok (.iload_n 3, 1) := by decide +kernel
theorem dL_law_900 : decode cL_law 900 = .ok (.iconst 2, 1) := by decide +kernel
theorem dL_law_901 : decode cL_law 901 = .ok (.iadd, 1) := by decide +kernel
theorem dL_law_902 : decode cL_law 902 = .ok (.iaload, 1) := by decide +kernel
theorem dL_law_903 : decode cL_law 903 = .ok (.aload_n 0, 1) := by decide +kernel
theorem dL_law_904 : decode cL_law 904 = .ok (.iload_n 3, 1) := by decide +kernel
theorem dL_law_905 : decode cL_law 905 = .ok (.iconst 3, 1) := by decide +kernel
theorem dL_law_906 : decode cL_law 906 = .ok (.iadd, 1) := by decide +kernel
theorem dL_law_907 : decode cL_law 907 = .ok (.iaload, 1) := by decide +kernel
theorem dL_law_908 : decode cL_law 908 = .ok (.invokevirtual 113, 3) := by decide +kernel
theorem dL_law_911 : decode cL_law 911 = .ok (.aload_n 2, 1) := by decide +kernel
theorem dL_law_912 : decode cL_law 912 = .ok (.aload_n 0, 1) := by decide +kernel
theorem dL_law_913 : decode cL_law 913 = .ok (.iload_n 3, 1) := by decide +kernel
theorem dL_law_914 : decode cL_law 914 = .ok (.iconst 1, 1) := by decide +kernel
theorem dL_law_915 : decode cL_law 915 = .ok (.iadd, 1) := by decide +kernel
theorem dL_law_916 : decode cL_law 916 = .ok (.iaload, 1) := by decide +kernel
theorem dL_law_917 : decode cL_law 917 = .ok (.aload_n 0, 1) := by decide +kernel
theorem dL_law_918 : decode cL_law 918 = .ok (.iload_n 3, 1) := by decide +kernel
theorem dL_law_919 : decode cL_law 919 = .ok (.iconst 2, 1) := by decide +kernel
theorem dL_law_920 : decode cL_law 920 = .ok (.iadd, 1) := by decide +kernel
theorem dL_law_921 : decode cL_law 921 = .ok (.iaload, 1) := by decide +kernel
theorem dL_law_922 : decode cL_law 922 = .ok (.aload_n 0, 1) := by decide +kernel
theorem dL_law_923 : decode cL_law 923 = .ok (.iload_n 3, 1) := by decide +kernel
theorem dL_law_924 : decode cL_law 924 = .ok (.iconst 3, 1) := by decide +kernel
theorem dL_law_925 : decode cL_law 925 = .ok (.iadd, 1) := by decide +kernel
theorem dL_law_926 : decode cL_law 926 = .ok (.iaload, 1) := by decide +kernel
theorem dL_law_927 : decode cL_law 927 = .ok (.invokevirtual 116, 3) := by decide +kernel
theorem dL_law_930 : decode cL_law 930 = .ok (.if_icmp .eq 529, 3) := by decide +kernel
theorem dL_law_933 : decode cL_law 933 = .ok (.iconst 0, 1) := by decide +kernel
theorem dL_law_934 : decode cL_law 934 = .ok (.ireturn, 1) := by decide +kernel
theorem dL_law_935 : decode cL_law 935 = .ok (.aload_n 1, 1) := by decide +kernel
theorem dL_law_936 : decode cL_law 936 = .ok (.aload_n 0, 1) := by decide +kernel
theorem dL_law_937 : decode cL_law 937 = .ok (.iload_n 3, 1) := by decide +kernel
theorem dL_law_938 : decode cL_law 938 = .ok (.iconst 1, 1) := by decide +kernel
theorem dL_law_939 : decode cL_law 939 = .ok (.iadd, 1) := by decide +kernel
theorem dL_law_940 : decode cL_law 940 = .ok (.iaload, 1) := by decide +kernel
theorem dL_law_941 : decode cL_law 941 = .ok (.invokevirtual 117, 3) := by decide +kernel
theorem dL_law_944 : decode cL_law 944 = .ok (.aload_n 2, 1) := by decide +kernel
theorem dL_law_945 : decode cL_law 945 = .ok (.aload_n 0, 1) := by decide +kernel
theorem dL_law_946 : decode cL_law 946 = .ok (.iload_n 3, 1) := by decide +kernel
theorem dL_law_947 : decode cL_law 947 = .ok (.iconst 1, 1) := by decide +kernel
theorem dL_law_948 : decode cL_law 948 = .ok (.iadd, 1) := by decide +kernel
theorem dL_law_949 : decode cL_law 949 = .ok (.iaload, 1) := by decide +kernel
theorem dL_law_950 : decode cL_law 950 = .ok (.invokevirtual 120, 3) := by decide +kernel
theorem dL_law_953 : decode cL_law 953 = .ok (.if_icmp .eq 506, 3) := by decide +kernel
theorem dL_law_956 : decode cL_law 956 = .ok (.iconst 0, 1) := by decide +kernel
theorem dL_law_957 : decode cL_law 957 = .ok (.ireturn, 1) := by decide +kernel
theorem dL_law_958 : decode cL_law 958 = .ok (.aload_n 1, 1) := by decide +kernel
theorem dL_law_959 : decode cL_law 959 = .ok (.invokevirtual 121, 3) := by decide +kernel
theorem dL_law_962 : decode cL_law 962 = .ok (.aload_n 2, 1) := by decide +kernel
theorem dL_law_963 : decode cL_law 963 = .ok (.invokevirtual 124, 3) := by decide +kernel
theorem dL_law_966 : decode cL_law 966 = .ok (.if_icmp .eq 493, 3) := by decide +kernel
theorem dL_law_969 : decode cL_law 969 = .ok (.iconst 0, 1) := by decide +kernel
theorem dL_law_970 : decode cL_law 970 = .ok (.ireturn, 1) := by decide +kernel
theorem dL_law_971 : decode cL_law 971 = .ok (.aload_n 1, 1) := by decide +kernel
theorem dL_law_972 : decode cL_law 972 = .ok (.aload_n 0, 1) := by decide +kernel
theorem dL_law_973 : decode cL_law 973 = .ok (.iload_n 3, 1) := by decide +kernel
theorem dL_law_974 : decode cL_law 974 = .ok (.iconst 1, 1) := by decide +kernel
theorem dL_law_975 : decode cL_law 975 = .ok (.iadd, 1) := by decide +kernel
theorem dL_law_976 : decode cL_law 976 = .ok (.iaload, 1) := by decide +kernel
theorem dL_law_977 : decode cL_law 977 = .ok (.aload_n 0, 1) := by decide +kernel
theorem dL_law_978 : decode cL_law 978 = .ok (.iload_n 3, 1) := by decide +kernel
theorem dL_law_979 : decode cL_law 979 = .ok (.iconst 2, 1) := by decide +kernel
theorem dL_law_980 : decode cL_law 980 = .ok (.iadd, 1) := by decide +kernel
theorem dL_law_981 : decode cL_law 981 = .ok (.iaload, 1) := by decide +kernel
theorem dL_law_982 : decode cL_law 982 = .ok (.invokevirtual 125, 3) := by decide +kernel
theorem dL_law_985 : decode cL_law 985 = .ok (.aload_n 2, 1) := by decide +kernel
theorem dL_law_986 : decode cL_law 986 = .ok (.aload_n 0, 1) := by decide +kernel
theorem dL_law_987 : decode cL_law 987 = .ok (.iload_n 3, 1) := by decide +kernel
theorem dL_law_988 : decode cL_law 988 = .ok (.iconst 1, 1) := by decide +kernel
theorem dL_law_989 : decode cL_law 989 = .ok (.iadd, 1) := by decide +kernel
theorem dL_law_990 : decode cL_law 990 = .ok (.iaload, 1) := by decide +kernel
theorem dL_law_991 : decode cL_law 991 = .ok (.aload_n 0, 1) := by decide +kernel
theorem dL_law_992 : decode cL_law 992 = .ok (.iload_n 3, 1) := by decide +kernel
theorem dL_law_993 : decode cL_law 993 = .ok (.iconst 2, 1) := by decide +kernel
theorem dL_law_994 : decode cL_law 994 = .ok (.iadd, 1) := by decide +kernel
theorem dL_law_995 : decode cL_law 995 = .ok (.iaload, 1) := by decide +kernel
theorem dL_law_996 : decode cL_law 996 = .ok (.invokevirtual 128, 3) := by decide +kernel
theorem dL_law_999 : decode cL_law 999 = .ok (.if_icmp .eq 460, 3) := by decide +kernel
theorem dL_law_1002 : decode cL_law 1002 = .ok (.iconst 0, 1) := by decide +kernel
theorem dL_law_1003 : decode cL_law 1003 = .ok (.ireturn, 1) := by decide +kernel
theorem dL_law_1004 : decode cL_law 1004 = .ok (.aload_n 1, 1) := by decide +kernel
theorem dL_law_1005 : decode cL_law 1005 = .ok (.aload_n 0, 1) := by decide +kernel
theorem dL_law_1006 : decode cL_law 1006 = .ok (.iload_n 3, 1) := by decide +kernel
theorem dL_law_1007 : decode cL_law 1007 = .ok (.iconst 1, 1) := by decide +kernel
theorem dL_law_1008 : decode cL_law 1008 = .ok (.iadd, 1) := by decide +kernel
theorem dL_law_1009 : decode cL_law 1009 = .ok (.iaload, 1) := by decide +kernel
theorem dL_law_1010 : decode cL_law 1010 = .ok (.invokevirtual 129, 3) := by decide +kernel
theorem dL_law_1013 : decode cL_law 1013 = .ok (.aload_n 2, 1) := by decide +kernel
theorem dL_law_1014 : decode cL_law 1014 = .ok (.aload_n 0, 1) := by decide +kernel
theorem dL_law_1015 : decode cL_law 1015 = .ok (.iload_n 3, 1) := by decide +kernel
theorem dL_law_1016 : decode cL_law 1016 = .ok (.iconst 1, 1) := by decide +kernel
theorem dL_law_1017 : decode cL_law 1017 = .ok (.iadd, 1) := by decide +kernel
theorem dL_law_1018 : decode cL_law 1018 = .ok (.iaload, 1) := by decide +kernel
theorem dL_law_1019 : decode cL_law 1019 = .ok (.invokevirtual 132, 3) := by decide +kernel
theorem dL_law_1022 : decode cL_law 1022 = .ok (.if_icmp .eq 437, 3) := by decide +kernel
theorem dL_law_1025 : decode cL_law 1025 = .ok (.iconst 0, 1) := by decide +kernel
theorem dL_law_1026 : decode cL_law 1026 = .ok (.ireturn, 1) := by decide +kernel
theorem dL_law_1027 : decode cL_law 1027 = .ok (.aload_n 1, 1) := by decide +kernel
theorem dL_law_1028 : decode cL_law 1028 = .ok (.aload_n 0, 1) := by decide +kernel
theorem dL_law_1029 : decode cL_law 1029 = .ok (.iload_n 3, 1) := by decide +kernel
theorem dL_law_1030 : decode cL_law 1030 = .ok (.iconst 1, 1) := by decide +kernel
theorem dL_law_1031 : decode cL_law 1031 = .ok (.iadd, 1) := by decide +kernel
theorem dL_law_1032 : decode cL_law 1032 = .ok (.iaload, 1) := by decide +kernel
theorem dL_law_1033 : decode cL_law 1033 = .ok (.aload_n 0, 1) := by decide +kernel
theorem dL_law_1034 : decode cL_law 1034 = .ok (.iload_n 3, 1) := by decide +kernel
theorem dL_law_1035 : decode cL_law 1035 = .ok (.iconst 2, 1) := by decide +kernel
theorem dL_law_1036 : decode cL_law 1036 = .ok (.iadd, 1) := by decide +kernel
theorem dL_law_1037 : decode cL_law 1037 = .ok (.iaload, 1) := by decide +kernel
theorem dL_law_1038 : decode cL_law 1038 = .ok (.aload_n 0, 1) := by decide +kernel
theorem dL_law_1039 : decode cL_law 1039 = .ok (.iload_n 3, 1) := by decide +kernel
theorem dL_law_1040 : decode cL_law 1040 = .ok (.iconst 3, 1) := by decide +kernel
theorem dL_law_1041 : decode cL_law 1041 = .ok (.iadd, 1) := by decide +kernel
theorem dL_law_1042 : decode cL_law 1042 = .ok (.iaload, 1) := by decide +kernel
theorem dL_law_1043 : decode cL_law 1043 = .ok (.invokevirtual 133, 3) := by decide +kernel
theorem dL_law_1046 : decode cL_law 1046 = .ok (.aload_n 2, 1) := by decide +kernel
theorem dL_law_1047 : decode cL_law 1047 = .ok (.aload_n 0, 1) := by decide +kernel
theorem dL_law_1048 : decode cL_law 1048 = .ok (.iload_n 3, 1) := by decide +kernel
theorem dL_law_1049 : decode cL_law 1049 = .ok (.iconst 1, 1) := by decide +kernel
theorem dL_law_1050 : decode cL_law 1050 = .ok (.iadd, 1) := by decide +kernel
theorem dL_law_1051 : decode cL_law 1051 = .ok (.iaload, 1) := by decide +kernel
theorem dL_law_1052 : decode cL_law 1052 = .ok (.aload_n 0, 1) := by decide +kernel
theorem dL_law_1053 : decode cL_law 1053 = .ok (.iload_n 3, 1) := by decide +kernel
theorem dL_law_1054 : decode cL_law 1054 = .ok (.iconst 2, 1) := by decide +kernel
theorem dL_law_1055 : decode cL_law 1055 = .ok (.iadd, 1) := by decide +kernel
theorem dL_law_1056 : decode cL_law 1056 = .ok (.iaload, 1) := by decide +kernel
theorem dL_law_1057 : decode cL_law 1057 = .ok (.aload_n 0, 1) := by decide +kernel
theorem dL_law_1058 : decode cL_law 1058 = .ok (.iload_n 3, 1) := by decide +kernel
theorem dL_law_1059 : decode cL_law 1059 = .ok (.iconst 3, 1) := by decide +kernel
theorem dL_law_1060 : decode cL_law 1060 = .ok (.iadd, 1) := by decide +kernel
theorem dL_law_1061 : decode cL_law 1061 = .ok (.iaload, 1) := by decide +kernel
theorem dL_law_1062 : decode cL_law 1062 = .ok (.invokevirtual 136, 3) := by decide +kernel
theorem dL_law_1065 : decode cL_law 1065 = .ok (.if_icmp .eq 394, 3) := by decide +kernel
theorem dL_law_1068 : decode cL_law 1068 = .ok (.iconst 0, 1) := by decide +kernel
theorem dL_law_1069 : decode cL_law 1069 = .ok (.ireturn, 1) := by decide +kernel
theorem dL_law_1070 : decode cL_law 1070 = .ok (.aload_n 1, 1) := by decide +kernel
theorem dL_law_1071 : decode cL_law 1071 = .ok (.aload_n 0, 1) := by decide +kernel
theorem dL_law_1072 : decode cL_law 1072 = .ok (.iload_n 3, 1) := by decide +kernel
theorem dL_law_1073 : decode cL_law 1073 = .ok (.iconst 1, 1) := by decide +kernel
theorem dL_law_1074 : decode cL_law 1074 = .ok (.iadd, 1) := by decide +kernel
theorem dL_law_1075 : decode cL_law 1075 = .ok (.iaload, 1) := by decide +kernel
theorem dL_law_1076 : decode cL_law 1076 = .ok (.aload_n 0, 1) := by decide +kernel
theorem dL_law_1077 : decode cL_law 1077 = .ok (.iload_n 3, 1) := by decide +kernel
theorem dL_law_1078 : decode cL_law 1078 = .ok (.iconst 2, 1) := by decide +kernel
theorem dL_law_1079 : decode cL_law 1079 = .ok (.iadd, 1) := by decide +kernel
theorem dL_law_1080 : decode cL_law 1080 = .ok (.iaload, 1) := by decide +kernel
theorem dL_law_1081 : decode cL_law 1081 = .ok (.aload_n 0, 1) := by decide +kernel
theorem dL_law_1082 : decode cL_law 1082 = .ok (.iload_n 3, 1) := by decide +kernel
theorem dL_law_1083 : decode cL_law 1083 = .ok (.iconst 3, 1) := by decide +kernel
theorem dL_law_1084 : decode cL_law 1084 = .ok (.iadd, 1) := by decide +kernel
theorem dL_law_1085 : decode cL_law 1085 = .ok (.iaload, 1) := by decide +kernel
theorem dL_law_1086 : decode cL_law 1086 = .ok (.invokevirtual 137, 3) := by decide +kernel
theorem dL_law_1089 : decode cL_law 1089 = .ok (.aload_n 2, 1) := by decide +kernel
theorem dL_law_1090 : decode cL_law 1090 = .ok (.aload_n 0, 1) := by decide +kernel
theorem dL_law_1091 : decode cL_law 1091 = .ok (.iload_n 3, 1) := by decide +kernel
theorem dL_law_1092 : decode cL_law 1092 = .ok (.iconst 1, 1) := by decide +kernel
theorem dL_law_1093 : decode cL_law 1093 = .ok (.iadd, 1) := by decide +kernel
theorem dL_law_1094 : decode cL_law 1094 = .ok (.iaload, 1) := by decide +kernel
theorem dL_law_1095 : decode cL_law 1095 = .ok (.aload_n 0, 1) := by decide +kernel
theorem dL_law_1096 : decode cL_law 1096 = .ok (.iload_n 3, 1) := by decide +kernel
theorem dL_law_1097 : decode cL_law 1097 = .ok (.iconst 2, 1) := by decide +kernel
theorem dL_law_1098 : decode cL_law 1098 = .ok (.iadd, 1) := by decide +kernel
theorem dL_law_1099 : decode cL_law 1099 = .ok (.iaload, 1) := by decide +kernel
theorem dL_law_1100 : decode cL_law 1100 = .ok (.aload_n 0, 1) := by decide +kernel
theorem dL_law_1101 : decode cL_law 1101 = .ok (.iload_n 3, 1) := by decide +kernel
theorem dL_law_1102 : decode cL_law 1102 = .ok (.iconst 3, 1) := by decide +kernel
theorem dL_law_1103 : decode cL_law 1103 = .ok (.iadd, 1) := by decide +kernel
theorem dL_law_1104 : decode cL_law 1104 = .ok (.iaload, 1) := by decide +kernel
theorem dL_law_1105 : decode cL_law 1105 = .ok (.invokevirtual 140, 3) := by decide +kernel
theorem dL_law_1108 : decode cL_law 1108 = .ok (.if_icmp .eq 351, 3) := by decide +kernel
theorem dL_law_1111 : decode cL_law 1111 = .ok (.iconst 0, 1) := by decide +kernel
theorem dL_law_1112 : decode cL_law 1112 = .ok (.ireturn, 1) := by decide +kernel
theorem dL_law_1113 : decode cL_law 1113 = .ok (.aload_n 1, 1) := by decide +kernel
theorem dL_law_1114 : decode cL_law 1114 = .ok (.aload_n 0, 1) := by decide +kernel
theorem dL_law_1115 : decode cL_law 1115 = .ok (.iload_n 3, 1) := by decide +kernel
theorem dL_law_1116 : decode cL_law 1116 = .ok (.iconst 1, 1) := by decide +kernel
theorem dL_law_1117 : decode cL_law 1117 = .ok (.iadd, 1) := by decide +kernel
theorem dL_law_1118 : decode cL_law 1118 = .ok (.iaload, 1) := by decide +kernel
theorem dL_law_1119 : decode cL_law 1119 = .ok (.invokevirtual 141, 3) := by decide +kernel
theorem dL_law_1122 : decode cL_law 1122 = .ok (.aload_n 2, 1) := by decide +kernel
theorem dL_law_1123 : decode cL_law 1123 = .ok (.aload_n 0, 1) := by decide +kernel
theorem dL_law_1124 : decode cL_law 1124 = .ok (.iload_n 3, 1) := by decide +kernel
theorem dL_law_1125 : decode cL_law 1125 = .ok (.iconst 1, 1) := by decide +kernel
theorem dL_law_1126 : decode cL_law 1126 = .ok (.iadd, 1) := by decide +kernel
theorem dL_law_1127 : decode cL_law 1127 = .ok (.iaload, 1) := by decide +kernel
theorem dL_law_1128 : decode cL_law 1128 = .ok (.invokevirtual 144, 3) := by decide +kernel
theorem dL_law_1131 : decode cL_law 1131 = .ok (.if_icmp .eq 328, 3) := by decide +kernel
theorem dL_law_1134 : decode cL_law 1134 = .ok (.iconst 0, 1) := by decide +kernel
theorem dL_law_1135 : decode cL_law 1135 = .ok (.ireturn, 1) := by decide +kernel
theorem dL_law_1136 : decode cL_law 1136 = .ok (.aload_n 1, 1) := by decide +kernel
theorem dL_law_1137 : decode cL_law 1137 = .ok (.aload_n 0, 1) := by decide +kernel
theorem dL_law_1138 : decode cL_law 1138 = .ok (.iload_n 3, 1) := by decide +kernel
theorem dL_law_1139 : decode cL_law 1139 = .ok (.iconst 1, 1) := by decide +kernel
theorem dL_law_1140 : decode cL_law 1140 = .ok (.iadd, 1) := by decide +kernel
theorem dL_law_1141 : decode cL_law 1141 = .ok (.iaload, 1) := by decide +kernel
theorem dL_law_1142 : decode cL_law 1142 = .ok (.invokevirtual 145, 3) := by decide +kernel
theorem dL_law_1145 : decode cL_law 1145 = .ok (.aload_n 2, 1) := by decide +kernel
theorem dL_law_1146 : decode cL_law 1146 = .ok (.aload_n 0, 1) := by decide +kernel
theorem dL_law_1147 : decode cL_law 1147 = .ok (.iload_n 3, 1) := by decide +kernel
theorem dL_law_1148 : decode cL_law 1148 = .ok (.iconst 1, 1) := by decide +kernel
theorem dL_law_1149 : decode cL_law 1149 = .ok (.iadd, 1) := by decide +kernel
theorem dL_law_1150 : decode cL_law 1150 = .ok (.iaload, 1) := by decide +kernel
theorem dL_law_1151 : decode cL_law 1151 = .ok (.invokevirtual 148, 3) := by decide +kernel
theorem dL_law_1154 : decode cL_law 1154 = .ok (.if_icmp .eq 305, 3) := by decide +kernel
theorem dL_law_1157 : decode cL_law 1157 = .ok (.iconst 0, 1) := by decide +kernel
theorem dL_law_1158 : decode cL_law 1158 = .ok (.ireturn, 1) := by decide +kernel
theorem dL_law_1159 : decode cL_law 1159 = .ok (.aload_n 1, 1) := by decide +kernel
theorem dL_law_1160 : decode cL_law 1160 = .ok (.aload_n 0, 1) := by decide +kernel
theorem dL_law_1161 : decode cL_law 1161 = .ok (.iload_n 3, 1) := by decide +kernel
theorem dL_law_1162 : decode cL_law 1162 = .ok (.iconst 1, 1) := by decide +kernel
theorem dL_law_1163 : decode cL_law 1163 = .ok (.iadd, 1) := by decide +kernel
theorem dL_law_1164 : decode cL_law 1164 = .ok (.iaload, 1) := by decide +kernel
theorem dL_law_1165 : decode cL_law 1165 = .ok (.aload_n 0, 1) := by decide +kernel
theorem dL_law_1166 : decode cL_law 1166 = .ok (.iload_n 3, 1) := by decide +kernel
theorem dL_law_1167 : decode cL_law 1167 = .ok (.iconst 2, 1) := by decide +kernel
theorem dL_law_1168 : decode cL_law 1168 = .ok (.iadd, 1) := by decide +kernel
theorem dL_law_1169 : decode cL_law 1169 = .ok (.iaload, 1) := by decide +kernel
theorem dL_law_1170 : decode cL_law 1170 = .ok (.aload_n 0, 1) := by decide +kernel
theorem dL_law_1171 : decode cL_law 1171 = .ok (.iload_n 3, 1) := by decide +kernel
theorem dL_law_1172 : decode cL_law 1172 = .ok (.iconst 3, 1) := by decide +kernel
theorem dL_law_1173 : decode cL_law 1173 = .ok (.iadd, 1) := by decide +kernel
theorem dL_law_1174 : decode cL_law 1174 = .ok (.iaload, 1) := by decide +kernel
theorem dL_law_1175 : decode cL_law 1175 = .ok (.aload_n 0, 1) := by decide +kernel
theorem dL_law_1176 : decode cL_law 1176 = .ok (.iload_n 3, 1) := by decide +kernel
theorem dL_law_1177 : decode cL_law 1177 = .ok (.iconst 4, 1) := by decide +kernel
theorem dL_law_1178 : decode cL_law 1178 = .ok (.iadd, 1) := by decide +kernel
theorem dL_law_1179 : decode cL_law 1179 = .ok (.iaload, 1) := by decide +kernel
theorem dL_law_1180 : decode cL_law 1180 = .ok (.aload_n 0, 1) := by decide +kernel
theorem dL_law_1181 : decode cL_law 1181 = .ok (.iload_n 3, 1) := by decide +kernel
theorem dL_law_1182 : decode cL_law 1182 = .ok (.iconst 5, 1) := by decide +kernel
theorem dL_law_1183 : decode cL_law 1183 = .ok (.iadd, 1) := by decide +kernel
theorem dL_law_1184 : decode cL_law 1184 = .ok (.iaload, 1) := by decide +kernel
theorem dL_law_1185 : decode cL_law 1185 = .ok (.invokevirtual 149, 3) := by decide +kernel
theorem dL_law_1188 : decode cL_law 1188 = .ok (.aload_n 2, 1) := by decide +kernel
theorem dL_law_1189 : decode cL_law 1189 = .ok (.aload_n 0, 1) := by decide +kernel
theorem dL_law_1190 : decode cL_law 1190 = .ok (.iload_n 3, 1) := by decide +kernel
theorem dL_law_1191 : decode cL_law 1191 = .ok (.iconst 1, 1) := by decide +kernel
theorem dL_law_1192 : decode cL_law 1192 = .ok (.iadd, 1) := by decide +kernel
theorem dL_law_1193 : decode cL_law 1193 = .ok (.iaload, 1) := by decide +kernel
theorem dL_law_1194 : decode cL_law 1194 = .ok (.aload_n 0, 1) := by decide +kernel
theorem dL_law_1195 : decode cL_law 1195 = .ok (.iload_n 3, 1) := by decide +kernel
theorem dL_law_1196 : decode cL_law 1196 = .ok (.iconst 2, 1) := by decide +kernel
theorem dL_law_1197 : decode cL_law 1197 = .ok (.iadd, 1) := by decide +kernel
theorem dL_law_1198 : decode cL_law 1198 = .ok (.iaload, 1) := by decide +kernel
theorem dL_law_1199 : decode cL_law 1199 = .ok (.aload_n 0, 1) := by decide +kernel
theorem dL_law_1200 : decode cL_law 1200 = .ok (.iload_n 3, 1) := by decide +kernel
theorem dL_law_1201 : decode cL_law 1201 = .ok (.iconst 3, 1) := by decide +kernel
theorem dL_law_1202 : decode cL_law 1202 = .ok (.iadd, 1) := by decide +kernel
theorem dL_law_1203 : decode cL_law 1203 = .ok (.iaload, 1) := by decide +kernel
theorem dL_law_1204 : decode cL_law 1204 = .ok (.aload_n 0, 1) := by decide +kernel
theorem dL_law_1205 : decode cL_law 1205 = .ok (.iload_n 3, 1) := by decide +kernel
theorem dL_law_1206 : decode cL_law 1206 = .ok (.iconst 4, 1) := by decide +kernel
theorem dL_law_1207 : decode cL_law 1207 = .ok (.iadd, 1) := by decide +kernel
theorem dL_law_1208 : decode cL_law 1208 = .ok (.iaload, 1) := by decide +kernel
theorem dL_law_1209 : decode cL_law 1209 = .ok (.aload_n 0, 1) := by decide +kernel
theorem dL_law_1210 : decode cL_law 1210 = .ok (.iload_n 3, 1) := by decide +kernel
theorem dL_law_1211 : decode cL_law 1211 = .ok (.iconst 5, 1) := by decide +kernel
theorem dL_law_1212 : decode cL_law 1212 = .ok (.iadd, 1) := by decide +kernel
theorem dL_law_1213 : decode cL_law 1213 = .ok (.iaload, 1) := by decide +kernel
theorem dL_law_1214 : decode cL_law 1214 = .ok (.invokevirtual 153, 3) := by decide +kernel
theorem dL_law_1217 : decode cL_law 1217 = .ok (.if_icmp .eq 242, 3) := by decide +kernel
theorem dL_law_1220 : decode cL_law 1220 = .ok (.iconst 0, 1) := by decide +kernel
theorem dL_law_1221 : decode cL_law 1221 = .ok (.ireturn, 1) := by decide +kernel
theorem dL_law_1222 : decode cL_law 1222 = .ok (.aload_n 1, 1) := by decide +kernel
theorem dL_law_1223 : decode cL_law 1223 = .ok (.aload_n 0, 1) := by decide +kernel
theorem dL_law_1224 : decode cL_law 1224 = .ok (.iload_n 3, 1) := by decide +kernel
theorem dL_law_1225 : decode cL_law 1225 = .ok (.iconst 1, 1) := by decide +kernel
theorem dL_law_1226 : decode cL_law 1226 = .ok (.iadd, 1) := by decide +kernel
theorem dL_law_1227 : decode cL_law 1227 = .ok (.iaload, 1) := by decide +kernel
theorem dL_law_1228 : decode cL_law 1228 = .ok (.aload_n 0, 1) := by decide +kernel
theorem dL_law_1229 : decode cL_law 1229 = .ok (.iload_n 3, 1) := by decide +kernel
theorem dL_law_1230 : decode cL_law 1230 = .ok (.iconst 2, 1) := by decide +kernel
theorem dL_law_1231 : decode cL_law 1231 = .ok (.iadd, 1) := by decide +kernel
theorem dL_law_1232 : decode cL_law 1232 = .ok (.iaload, 1) := by decide +kernel
theorem dL_law_1233 : decode cL_law 1233 = .ok (.aload_n 0, 1) := by decide +kernel
theorem dL_law_1234 : decode cL_law 1234 = .ok (.iload_n 3, 1) := by decide +kernel
theorem dL_law_1235 : decode cL_law 1235 = .ok (.iconst 3, 1) := by decide +kernel
theorem dL_law_1236 : decode cL_law 1236 = .ok (.iadd, 1) := by decide +kernel
theorem dL_law_1237 : decode cL_law 1237 = .ok (.iaload, 1) := by decide +kernel
theorem dL_law_1238 : decode cL_law 1238 = .ok (.invokevirtual 154, 3) := by decide +kernel
theorem dL_law_1241 : decode cL_law 1241 = .ok (.aload_n 2, 1) := by decide +kernel
theorem dL_law_1242 : decode cL_law 1242 = .ok (.aload_n 0, 1) := by decide +kernel
theorem dL_law_1243 : decode cL_law 1243 = .ok (.iload_n 3, 1) := by decide +kernel
theorem dL_law_1244 : decode cL_law 1244 = .ok (.iconst 1, 1) := by decide +kernel
theorem dL_law_1245 : decode cL_law 1245 = .ok (.iadd, 1) := by decide +kernel
theorem dL_law_1246 : decode cL_law 1246 = .ok (.iaload, 1) := by decide +kernel
theorem dL_law_1247 : decode cL_law 1247 = .ok (.aload_n 0, 1) := by decide +kernel
theorem dL_law_1248 : decode cL_law 1248 = .ok (.iload_n 3, 1) := by decide +kernel
theorem dL_law_1249 : decode cL_law 1249 = .ok (.iconst 2, 1) := by decide +kernel
theorem dL_law_1250 : decode cL_law 1250 = .ok (.iadd, 1) := by decide +kernel
theorem dL_law_1251 : decode cL_law 1251 = .ok (.iaload, 1) := by decide +kernel
theorem dL_law_1252 : decode cL_law 1252 = .ok (.aload_n 0, 1) := by decide +kernel
theorem dL_law_1253 : decode cL_law 1253 = .ok (.iload_n 3, 1) := by decide +kernel
theorem dL_law_1254 : decode cL_law 1254 = .ok (.iconst 3, 1) := by decide +kernel
theorem dL_law_1255 : decode cL_law 1255 = .ok (.iadd, 1) := by decide +kernel
theorem dL_law_1256 : decode cL_law 1256 = .ok (.iaload, 1) := by decide +kernel
theorem dL_law_1257 : decode cL_law 1257 = .ok (.invokevirtual 157, 3) := by decide +kernel
theorem dL_law_1260 : decode cL_law 1260 = .ok (.if_icmp .eq 199, 3) := by decide +kernel
theorem dL_law_1263 : decode cL_law 1263 = .ok (.iconst 0, 1) := by decide +kernel
theorem dL_law_1264 : decode cL_law 1264 = .ok (.ireturn, 1) := by decide +kernel
theorem dL_law_1265 : decode cL_law 1265 = .ok (.aload_n 1, 1) := by decide +kernel
theorem dL_law_1266 : decode cL_law 1266 = .ok (.aload_n 0, 1) := by decide +kernel
theorem dL_law_1267 : decode cL_law 1267 = .ok (.iload_n 3, 1) := by decide +kernel
theorem dL_law_1268 : decode cL_law 1268 = .ok (.iconst 1, 1) := by decide +kernel
theorem dL_law_1269 : decode cL_law 1269 = .ok (.iadd, 1) := by decide +kernel
theorem dL_law_1270 : decode cL_law 1270 = .ok (.iaload, 1) := by decide +kernel
theorem dL_law_1271 : decode cL_law 1271 = .ok (.aload_n 0, 1) := by decide +kernel
theorem dL_law_1272 : decode cL_law 1272 = .ok (.iload_n 3, 1) := by decide +kernel
theorem dL_law_1273 : decode cL_law 1273 = .ok (.iconst 2, 1) := by decide +kernel
theorem dL_law_1274 : decode cL_law 1274 = .ok (.iadd, 1) := by decide +kernel
theorem dL_law_1275 : decode cL_law 1275 = .ok (.iaload, 1) := by decide +kernel
theorem dL_law_1276 : decode cL_law 1276 = .ok (.invokevirtual 158, 3) := by decide +kernel
theorem dL_law_1279 : decode cL_law 1279 = .ok (.aload_n 2, 1) := by decide +kernel
theorem dL_law_1280 : decode cL_law 1280 = .ok (.aload_n 0, 1) := by decide +kernel
theorem dL_law_1281 : decode cL_law 1281 = .ok (.iload_n 3, 1) := by decide +kernel
theorem dL_law_1282 : decode cL_law 1282 = .ok (.iconst 1, 1) := by decide +kernel
theorem dL_law_1283 : decode cL_law 1283 = .ok (.iadd, 1) := by decide +kernel
theorem dL_law_1284 : decode cL_law 1284 = .ok (.iaload, 1) := by decide +kernel
theorem dL_law_1285 : decode cL_law 1285 = .ok (.aload_n 0, 1) := by decide +kernel
theorem dL_law_1286 : decode cL_law 1286 = .ok (.iload_n 3, 1) := by decide +kernel
theorem dL_law_1287 : decode cL_law 1287 = .ok (.iconst 2, 1) := by decide +kernel
theorem dL_law_1288 : decode cL_law 1288 = .ok (.iadd, 1) := by decide +kernel
theorem dL_law_1289 : decode cL_law 1289 = .ok (.iaload, 1) := by decide +kernel
theorem dL_law_1290 : decode cL_law 1290 = .ok (.invokevirtual 161, 3) := by decide +kernel
theorem dL_law_1293 : decode cL_law 1293 = .ok (.if_icmp .eq 166, 3) := by decide +kernel
theorem dL_law_1296 : decode cL_law 1296 = .ok (.iconst 0, 1) := by decide +kernel
theorem dL_law_1297 : decode cL_law 1297 = .ok (.ireturn, 1) := by decide +kernel
theorem dL_law_1298 : decode cL_law 1298 = .ok (.aload_n 1, 1) := by decide +kernel
theorem dL_law_1299 : decode cL_law 1299 = .ok (.aload_n 0, 1) := by decide +kernel
theorem dL_law_1300 : decode cL_law 1300 = .ok (.iload_n 3, 1) := by decide +kernel
theorem dL_law_1301 : decode cL_law 1301 = .ok (.iconst 1, 1) := by decide +kernel
theorem dL_law_1302 : decode cL_law 1302 = .ok (.iadd, 1) := by decide +kernel
theorem dL_law_1303 : decode cL_law 1303 = .ok (.iaload, 1) := by decide +kernel
theorem dL_law_1304 : decode cL_law 1304 = .ok (.aload_n 0, 1) := by decide +kernel
theorem dL_law_1305 : decode cL_law 1305 = .ok (.iload_n 3, 1) := by decide +kernel
theorem dL_law_1306 : decode cL_law 1306 = .ok (.iconst 2, 1) := by decide +kernel
theorem dL_law_1307 : decode cL_law 1307 = .ok (.iadd, 1) := by decide +kernel
theorem dL_law_1308 : decode cL_law 1308 = .ok (.iaload, 1) := by decide +kernel
theorem dL_law_1309 : decode cL_law 1309 = .ok (.invokevirtual 162, 3) := by decide +kernel
theorem dL_law_1312 : decode cL_law 1312 = .ok (.aload_n 2, 1) := by decide +kernel
theorem dL_law_1313 : decode cL_law 1313 = .ok (.aload_n 0, 1) := by decide +kernel
theorem dL_law_1314 : decode cL_law 1314 = .ok (.iload_n 3, 1) := by decide +kernel
theorem dL_law_1315 : decode cL_law 1315 = .ok (.iconst 1, 1) := by decide +kernel
theorem dL_law_1316 : decode cL_law 1316 = .ok (.iadd, 1) := by decide +kernel
theorem dL_law_1317 : decode cL_law 1317 = .ok (.iaload, 1) := by decide +kernel
theorem dL_law_1318 : decode cL_law 1318 = .ok (.aload_n 0, 1) := by decide +kernel
theorem dL_law_1319 : decode cL_law 1319 = .ok (.iload_n 3, 1) := by decide +kernel
theorem dL_law_1320 : decode cL_law 1320 = .ok (.iconst 2, 1) := by decide +kernel
theorem dL_law_1321 : decode cL_law 1321 = .ok (.iadd, 1) := by decide +kernel
theorem dL_law_1322 : decode cL_law 1322 = .ok (.iaload, 1) := by decide +kernel
theorem dL_law_1323 : decode cL_law 1323 = .ok (.invokevirtual 165, 3) := by decide +kernel
theorem dL_law_1326 : decode cL_law 1326 = .ok (.if_icmp .eq 133, 3) := by decide +kernel
theorem dL_law_1329 : decode cL_law 1329 = .ok (.iconst 0, 1) := by decide +kernel
theorem dL_law_1330 : decode cL_law 1330 = .ok (.ireturn, 1) := by decide +kernel
theorem dL_law_1331 : decode cL_law 1331 = .ok (.aload_n 1, 1) := by decide +kernel
theorem dL_law_1332 : decode cL_law 1332 = .ok (.aload_n 0, 1) := by decide +kernel
theorem dL_law_1333 : decode cL_law 1333 = .ok (.iload_n 3, 1) := by decide +kernel
theorem dL_law_1334 : decode cL_law 1334 = .ok (.iconst 1, 1) := by decide +kernel
theorem dL_law_1335 : decode cL_law 1335 = .ok (.iadd, 1) := by decide +kernel
theorem dL_law_1336 : decode cL_law 1336 = .ok (.iaload, 1) := by decide +kernel
theorem dL_law_1337 : decode cL_law 1337 = .ok (.aload_n 0, 1) := by decide +kernel
theorem dL_law_1338 : decode cL_law 1338 = .ok (.iload_n 3, 1) := by decide +kernel
theorem dL_law_1339 : decode cL_law 1339 = .ok (.iconst 2, 1) := by decide +kernel
theorem dL_law_1340 : decode cL_law 1340 = .ok (.iadd, 1) := by decide +kernel
theorem dL_law_1341 : decode cL_law 1341 = .ok (.iaload, 1) := by decide +kernel
theorem dL_law_1342 : decode cL_law 1342 = .ok (.invokevirtual 166, 3) := by decide +kernel
theorem dL_law_1345 : decode cL_law 1345 = .ok (.aload_n 2, 1) := by decide +kernel
theorem dL_law_1346 : decode cL_law 1346 = .ok (.aload_n 0, 1) := by decide +kernel
theorem dL_law_1347 : decode cL_law 1347 = .ok (.iload_n 3, 1) := by decide +kernel
theorem dL_law_1348 : decode cL_law 1348 = .ok (.iconst 1, 1) := by decide +kernel
theorem dL_law_1349 : decode cL_law 1349 = .ok (.iadd, 1) := by decide +kernel
theorem dL_law_1350 : decode cL_law 1350 = .ok (.iaload, 1) := by decide +kernel
theorem dL_law_1351 : decode cL_law 1351 = .ok (.aload_n 0, 1) := by decide +kernel
theorem dL_law_1352 : decode cL_law 1352 = .ok (.iload_n 3, 1) := by decide +kernel
theorem dL_law_1353 : decode cL_law 1353 = .ok (.iconst 2, 1) := by decide +kernel
theorem dL_law_1354 : decode cL_law 1354 = .ok (.iadd, 1) := by decide +kernel
theorem dL_law_1355 : decode cL_law 1355 = .ok (.iaload, 1) := by decide +kernel
theorem dL_law_1356 : decode cL_law 1356 = .ok (.invokevirtual 169, 3) := by decide +kernel
theorem dL_law_1359 : decode cL_law 1359 = .ok (.if_icmp .eq 100, 3) := by decide +kernel
theorem dL_law_1362 : decode cL_law 1362 = .ok (.iconst 0, 1) := by decide +kernel
theorem dL_law_1363 : decode cL_law 1363 = .ok (.ireturn, 1) := by decide +kernel
theorem dL_law_1364 : decode cL_law 1364 = .ok (.aload_n 1, 1) := by decide +kernel
theorem dL_law_1365 : decode cL_law 1365 = .ok (.aload_n 0, 1) := by decide +kernel
theorem dL_law_1366 : decode cL_law 1366 = .ok (.iload_n 3, 1) := by decide +kernel
theorem dL_law_1367 : decode cL_law 1367 = .ok (.iconst 1, 1) := by decide +kernel
theorem dL_law_1368 : decode cL_law 1368 = .ok (.iadd, 1) := by decide +kernel
theorem dL_law_1369 : decode cL_law 1369 = .ok (.iaload, 1) := by decide +kernel
theorem dL_law_1370 : decode cL_law 1370 = .ok (.invokevirtual 170, 3) := by decide +kernel
theorem dL_law_1373 : decode cL_law 1373 = .ok (.aload_n 2, 1) := by decide +kernel
theorem dL_law_1374 : decode cL_law 1374 = .ok (.aload_n 0, 1) := by decide +kernel
theorem dL_law_1375 : decode cL_law 1375 = .ok (.iload_n 3, 1) := by decide +kernel
theorem dL_law_1376 : decode cL_law 1376 = .ok (.iconst 1, 1) := by decide +kernel
theorem dL_law_1377 : decode cL_law 1377 = .ok (.iadd, 1) := by decide +kernel
theorem dL_law_1378 : decode cL_law 1378 = .ok (.iaload, 1) := by decide +kernel
theorem dL_law_1379 : decode cL_law 1379 = .ok (.invokevirtual 173, 3) := by decide +kernel
theorem dL_law_1382 : decode cL_law 1382 = .ok (.if_icmp .eq 77, 3) := by decide +kernel
theorem dL_law_1385 : decode cL_law 1385 = .ok (.iconst 0, 1) := by decide +kernel
theorem dL_law_1386 : decode cL_law 1386 = .ok (.ireturn, 1) := by decide +kernel
theorem dL_law_1387 : decode cL_law 1387 = .ok (.aload_n 1, 1) := by decide +kernel
theorem dL_law_1388 : decode cL_law 1388 = .ok (.aload_n 0, 1) := by decide +kernel
theorem dL_law_1389 : decode cL_law 1389 = .ok (.iload_n 3, 1) := by decide +kernel
theorem dL_law_1390 : decode cL_law 1390 = .ok (.iconst 1, 1) := by decide +kernel
theorem dL_law_1391 : decode cL_law 1391 = .ok (.iadd, 1) := by decide +kernel
theorem dL_law_1392 : decode cL_law 1392 = .ok (.iaload, 1) := by decide +kernel
theorem dL_law_1393 : decode cL_law 1393 = .ok (.invokevirtual 174, 3) := by decide +kernel
theorem dL_law_1396 : decode cL_law 1396 = .ok (.aload_n 2, 1) := by decide +kernel
theorem dL_law_1397 : decode cL_law 1397 = .ok (.aload_n 0, 1) := by decide +kernel
theorem dL_law_1398 : decode cL_law 1398 = .ok (.iload_n 3, 1) := by decide +kernel
theorem dL_law_1399 : decode cL_law 1399 = .ok (.iconst 1, 1) := by decide +kernel
theorem dL_law_1400 : decode cL_law 1400 = .ok (.iadd, 1) := by decide +kernel
theorem dL_law_1401 : decode cL_law 1401 = .ok (.iaload, 1) := by decide +kernel
theorem dL_law_1402 : decode cL_law 1402 = .ok (.invokevirtual 177, 3) := by decide +kernel
theorem dL_law_1405 : decode cL_law 1405 = .ok (.if_icmp .eq 54, 3) := by decide +kernel
theorem dL_law_1408 : decode cL_law 1408 = .ok (.iconst 0, 1) := by decide +kernel
theorem dL_law_1409 : decode cL_law 1409 = .ok (.ireturn, 1) := by decide +kernel
theorem dL_law_1410 : decode cL_law 1410 = .ok (.aload_n 1, 1) := by decide +kernel
theorem dL_law_1411 : decode cL_law 1411 = .ok (.invokevirtual 178, 3) := by decide +kernel
theorem dL_law_1414 : decode cL_law 1414 = .ok (.aload_n 2, 1) := by decide +kernel
theorem dL_law_1415 : decode cL_law 1415 = .ok (.invokevirtual 181, 3) := by decide +kernel
theorem dL_law_1418 : decode cL_law 1418 = .ok (.if_icmp .eq 41, 3) := by decide +kernel
theorem dL_law_1421 : decode cL_law 1421 = .ok (.iconst 0, 1) := by decide +kernel
theorem dL_law_1422 : decode cL_law 1422 = .ok (.ireturn, 1) := by decide +kernel
theorem dL_law_1423 : decode cL_law 1423 = .ok (.aload_n 1, 1) := by decide +kernel
theorem dL_law_1424 : decode cL_law 1424 = .ok (.invokevirtual 182, 3) := by decide +kernel
theorem dL_law_1427 : decode cL_law 1427 = .ok (.aload_n 2, 1) := by decide +kernel
theorem dL_law_1428 : decode cL_law 1428 = .ok (.invokevirtual 185, 3) := by decide +kernel
theorem dL_law_1431 : decode cL_law 1431 = .ok (.if_icmp .eq 28, 3) := by decide +kernel
theorem dL_law_1434 : decode cL_law 1434 = .ok (.iconst 0, 1) := by decide +kernel
theorem dL_law_1435 : decode cL_law 1435 = .ok (.ireturn, 1) := by decide +kernel
theorem dL_law_1436 : decode cL_law 1436 = .ok (.aload_n 1, 1) := by decide +kernel
theorem dL_law_1437 : decode cL_law 1437 = .ok (.aload_n 0, 1) := by decide +kernel
theorem dL_law_1438 : decode cL_law 1438 = .ok (.iload_n 3, 1) := by decide +kernel
theorem dL_law_1439 : decode cL_law 1439 = .ok (.iconst 1, 1) := by decide +kernel
theorem dL_law_1440 : decode cL_law 1440 = .ok (.iadd, 1) := by decide +kernel
theorem dL_law_1441 : decode cL_law 1441 = .ok (.iaload, 1) := by decide +kernel
theorem dL_law_1442 : decode cL_law 1442 = .ok (.invokevirtual 186, 3) := by decide +kernel
theorem dL_law_1445 : decode cL_law 1445 = .ok (.aload_n 2, 1) := by decide +kernel
theorem dL_law_1446 : decode cL_law 1446 = .ok (.aload_n 0, 1) := by decide +kernel
theorem dL_law_1447 : decode cL_law 1447 = .ok (.iload_n 3, 1) := by decide +kernel
theorem dL_law_1448 : decode cL_law 1448 = .ok (.iconst 1, 1) := by decide +kernel
theorem dL_law_1449 : decode cL_law 1449 = .ok (.iadd, 1) := by decide +kernel
theorem dL_law_1450 : decode cL_law 1450 = .ok (.iaload, 1) := by decide +kernel
theorem dL_law_1451 : decode cL_law 1451 = .ok (.invokevirtual 189, 3) := by decide +kernel
theorem dL_law_1454 : decode cL_law 1454 = .ok (.if_icmp .eq 5, 3) := by decide +kernel
theorem dL_law_1457 : decode cL_law 1457 = .ok (.iconst 0, 1) := by decide +kernel
theorem dL_law_1458 : decode cL_law 1458 = .ok (.ireturn, 1) := by decide +kernel
theorem dL_law_1459 : decode cL_law 1459 = .ok (.iinc 3 6, 3) := by decide +kernel
theorem dL_law_1462 : decode cL_law 1462 = .ok (.goto (-1444), 3) := by decide +kernel
theorem dL_law_1465 : decode cL_law 1465 = .ok (.iconst 1, 1) := by decide +kernel
theorem dL_law_1466 : decode cL_law 1466 = .ok (.ireturn, 1) := by decide +kernel
end
section
/-! V: a method's run told by a picture of the heap alone: shapes S, ints I, references R, size z. Cl: a call of a method, with what follows as a predicate. -/
def hc_tb : List Cond := lw_tbl.filter goodWord
theorem hc_in {w : Cond} (i : Nat) (h : lw_tbl[i]? = some w) (hg : goodWord w = true) : w ∈ hc_tb := List.mem_filter.mpr ⟨List.mem_of_getElem? h, hg⟩
theorem hc_tb_self : GoodIn hc_tb hc_tb := fun w hw => ⟨hw, good_of_word (List.mem_filter.mp hw).2⟩
theorem hc_tb_of {args : Array Value} {s : State} (h : ∀ w ∈ lw_tbl, w.before args s = true) : ∀ w ∈ hc_tb, w.before args s = true := fun w hw => h w (List.mem_filter.mp hw).1
theorem hc_ws_of {C : String} {T : u_T} {N : Nat} (is : List Nat) (h : ∀ k, k < N → lw_tbl[is.getD k 0]? = some (u_lay C T k) ∧ goodWord (u_lay C T k) = true) : ∀ w ∈ u_ws C T N, w ∈ hc_tb := by
  intro w hw
  obtain ⟨k, hk, rfl⟩ := List.mem_map.mp hw
  exact hc_in _ (h k (List.mem_range.mp hk)).1 (h k (List.mem_range.mp hk)).2
theorem hc_ws0 : ∀ w ∈ u_ws RX0 TX0 13, w ∈ hc_tb := hc_ws_of [158, 160, 162, 164, 166, 168, 170, 172, 174, 176, 178, 180, 182] (by decide +kernel)
theorem hc_ws1 : ∀ w ∈ u_ws RX1 TX1 6, w ∈ hc_tb := hc_ws_of [119, 121, 123, 125, 127, 129] (by decide +kernel)
theorem hc_ws2 : ∀ w ∈ u_ws RX2 TX2 10, w ∈ hc_tb := hc_ws_of [202, 204, 206, 208, 210, 212, 214, 216, 218, 220] (by decide +kernel)
theorem hc_ws3 : ∀ w ∈ u_ws RX3 TX3 3, w ∈ hc_tb := hc_ws_of [239, 241, 243] (by decide +kernel)
theorem hc_ws4 : ∀ w ∈ u_ws RX4 TX4 4, w ∈ hc_tb := hc_ws_of [262, 264, 266, 268] (by decide +kernel)
theorem hc_ws5 : ∀ w ∈ u_ws RX5 TX5 4, w ∈ hc_tb := hc_ws_of [808, 810, 812, 814] (by decide +kernel)
theorem hc_ws6 : ∀ w ∈ u_ws RX6 TX6 11, w ∈ hc_tb := hc_ws_of [282, 284, 286, 288, 290, 292, 294, 296, 298, 300, 302] (by decide +kernel)
theorem hc_ws7 : ∀ w ∈ u_ws RX7 TX7 33, w ∈ hc_tb := hc_ws_of [952, 954, 956, 958, 960, 962, 964, 966, 968, 970, 972, 974, 976, 978, 980, 982, 984, 986, 988, 990, 992, 994, 996, 998, 1000, 1002, 1004, 1006, 1008, 1010, 1012, 1014, 1016] (by decide +kernel)
def hc_C (t : Nat) : String := match t with
  | 0 => RX0
  | 1 => RX1
  | 2 => RX2
  | 3 => RX3
  | 4 => RX4
  | 5 => RX5
  | 6 => RX6
  | _ => RX7
def hc_T (t : Nat) : u_T := match t with
  | 0 => TX0
  | 1 => TX1
  | 2 => TX2
  | 3 => TX3
  | 4 => TX4
  | 5 => TX5
  | 6 => TX6
  | _ => TX7
def hc_N (t : Nat) : Nat := match t with
  | 0 => 13
  | 1 => 6
  | 2 => 10
  | 3 => 3
  | 4 => 4
  | 5 => 4
  | 6 => 11
  | _ => 33
def hc_y (t : Nat) : (Nat → FieldType) := match t with
  | 0 => tyX0
  | 1 => tyX1
  | 2 => tyX2
  | 3 => tyX3
  | 4 => tyX4
  | 5 => tyX5
  | 6 => tyX6
  | _ => tyX7
theorem hc_cl : ∀ t, t < 8 → vwCl[t]? = some (hc_C t, hc_T t, hc_N t)
  | 0, _ => rfl
  | 1, _ => rfl
  | 2, _ => rfl
  | 3, _ => rfl
  | 4, _ => rfl
  | 5, _ => rfl
  | 6, _ => rfl
  | 7, _ => rfl
  | k + 8, h => absurd h (by omega)
theorem hc_ws : ∀ t, t < 8 → ∀ w ∈ u_ws (hc_C t) (hc_T t) (hc_N t), w ∈ hc_tb
  | 0, _ => hc_ws0
  | 1, _ => hc_ws1
  | 2, _ => hc_ws2
  | 3, _ => hc_ws3
  | 4, _ => hc_ws4
  | 5, _ => hc_ws5
  | 6, _ => hc_ws6
  | 7, _ => hc_ws7
  | k + 8, h => absurd h (by omega)
theorem hc_yok : ∀ t, t < 8 → ∀ k, k < hc_N t → parseFieldDescriptor (hc_T t k).2.2.1 = some (hc_y t k)
  | 0, _ => tyX0_ok
  | 1, _ => tyX1_ok
  | 2, _ => tyX2_ok
  | 3, _ => tyX3_ok
  | 4, _ => tyX4_ok
  | 5, _ => tyX5_ok
  | 6, _ => tyX6_ok
  | 7, _ => tyX7_ok
  | k + 8, h => absurd h (by omega)
theorem hc_nm : ∀ t, t < 8 → ∀ a, a < hc_N t → ∀ b, b < hc_N t → a ≠ b → (hc_T t a).2.1 ≠ (hc_T t b).2.1
  | 0, _ => nmX0
  | 1, _ => nmX1
  | 2, _ => nmX2
  | 3, _ => nmX3
  | 4, _ => nmX4
  | 5, _ => nmX5
  | 6, _ => nmX6
  | 7, _ => nmX7
  | k + 8, h => absurd h (by omega)
def hc_six : List Nat := [78, 84, 86, 134, 136, 138]
def hc_stx : List String := ["itch", "harm", "fine", "adi", "nl", "ch"]
def hc_sln : List Nat := [4, 4, 4, 3, 2, 2]
def hc_sby : List (List Int32) := [[105, 116, 99, 104], [104, 97, 114, 109], [102, 105, 110, 101], [97, 100, 105], [110, 108], [99, 104]]
def hc_nst : List Cond := [.methodLinkNest "HallCoughs$Hall" 43 ⟨"HallCoughs$Person", "<init>", "()V"⟩ "HallCoughs", .methodLinkNest "HallCoughs" 24 ⟨"HallCoughs$Reader", "<init>", "()V"⟩ "HallCoughs", .methodLinkNest "HallCoughs" 49 ⟨"HallCoughs$Row", "<init>", "()V"⟩ "HallCoughs", .methodLinkNest "HallCoughs" 50 ⟨"HallCoughs$Slot", "<init>", "()V"⟩ "HallCoughs", .methodLinkNest "HallCoughs$Slot" 17 ⟨"HallCoughs$Person", "<init>", "()V"⟩ "HallCoughs", .methodLinkNest "HallCoughs$Slot" 24 ⟨"HallCoughs$Row", "<init>", "()V"⟩ "HallCoughs", .methodLinkNest "HallCoughs$Hall" 63 ⟨"HallCoughs", "within", "(II)Z"⟩ "HallCoughs", .methodLinkNest "HallCoughs$Hall" 122 ⟨"HallCoughs", "held", "(II)I"⟩ "HallCoughs", .fieldLinkNest "HallCoughs$Person" 30 "HallCoughs" "ABOVE" "[I" "HallCoughs"]
theorem hc_nst_in : ∀ w ∈ hc_nst, w ∈ lw_tbl := by
  intro w hw
  simp only [hc_nst, List.mem_cons, List.not_mem_nil, or_false] at hw
  rcases hw with rfl | rfl | rfl | rfl | rfl | rfl | rfl | rfl | rfl
  · exact List.mem_of_getElem? (i := 97) (by decide +kernel)
  · exact List.mem_of_getElem? (i := 187) (by decide +kernel)
  · exact List.mem_of_getElem? (i := 229) (by decide +kernel)
  · exact List.mem_of_getElem? (i := 247) (by decide +kernel)
  · exact List.mem_of_getElem? (i := 252) (by decide +kernel)
  · exact List.mem_of_getElem? (i := 254) (by decide +kernel)
  · exact List.mem_of_getElem? (i := 335) (by decide +kernel)
  · exact List.mem_of_getElem? (i := 354) (by decide +kernel)
  · exact List.mem_of_getElem? (i := 394) (by decide +kernel)
theorem hc_nst_kind : ∀ w ∈ hc_nst, (∃ a i x h, w = .methodLinkNest a i x h) ∨ (∃ a i b n d h, w = .fieldLinkNest a i b n d h) := by
  intro w hw
  simp only [hc_nst, List.mem_cons, List.not_mem_nil, or_false] at hw
  rcases hw with rfl | rfl | rfl | rfl | rfl | rfl | rfl | rfl | rfl
  · exact Or.inl ⟨_, _, _, _, rfl⟩
  · exact Or.inl ⟨_, _, _, _, rfl⟩
  · exact Or.inl ⟨_, _, _, _, rfl⟩
  · exact Or.inl ⟨_, _, _, _, rfl⟩
  · exact Or.inl ⟨_, _, _, _, rfl⟩
  · exact Or.inl ⟨_, _, _, _, rfl⟩
  · exact Or.inl ⟨_, _, _, _, rfl⟩
  · exact Or.inl ⟨_, _, _, _, rfl⟩
  · exact Or.inr ⟨_, _, _, _, _, _, rfl⟩
def hc_a (t : Nat) : FieldType := match t with
  | 8 => .byte
  | 9 => .char
  | 10 => .int
  | 11 => .boolean
  | 12 => .object RX1
  | 13 => .object RX3
  | 14 => .object RX4
  | _ => .object RX5
def hc_rf (t k : Nat) : Bool := match hc_y t k with
  | .object _ => true
  | .array _ => true
  | _ => false
abbrev hcS : Type := Nat → Option (Nat × Nat)
abbrev hcI : Type := Nat → Nat → Int32
abbrev hcR : Type := Nat → Nat → Option Nat
abbrev hcM : Type := MethodName × ByteArray × Nat × Option FieldType
abbrev hcG : Type := Nat × Nat × (Nat → Nat) × (Nat → Nat)
abbrev hcQ : Type := Option Value → hcS → hcI → hcR → Nat → Prop
def hc_v (t : Nat) (i : Nat → Int32) (r : Nat → Option Nat) (k : Nat) : Value := if hc_rf t k = true then va_rf (r k) else .int (i k)
/-- the cell a is of kind t (an object of class t, or an array of n places) and holds i, r -/
def hc_cell (D : va_G) (K : Nat → ClassId) (H : Heap) (a t n : Nat) (i : Nat → Int32) (r : Nat → Option Nat) : Prop :=
  (t < 8 ∧ t_OB a (D.1 t) (hc_N t) (D.2 t) H (hc_v t i r)) ∨ (8 ≤ t ∧ t < 12 ∧ H[a]? = some (arrV (K t) n (fun j => .int (i j)))) ∨ (12 ≤ t ∧ t < 16 ∧ H[a]? = some (arrV (K t) n (fun j => va_rf (r j))))
theorem hc_cell.kept {D : va_G} {K : Nat → ClassId} {H H1 : Heap} {a t n : Nat} {i : Nat → Int32} {r : Nat → Option Nat} (h : hc_cell D K H a t n i r) (hq : H1[a]? = H[a]?) : hc_cell D K H1 a t n i r := by
  rcases h with ⟨h, h1⟩ | ⟨h, h', h1⟩ | ⟨h, h', h1⟩
  · exact Or.inl ⟨h, h1.kept hq⟩
  · exact Or.inr (Or.inl ⟨h, h', hq.trans h1⟩)
  · exact Or.inr (Or.inr ⟨h, h', hq.trans h1⟩)
theorem hc_cell.lt {D : va_G} {K : Nat → ClassId} {H : Heap} {a t n : Nat} {i : Nat → Int32} {r : Nat → Option Nat} (h : hc_cell D K H a t n i r) : a < H.size := by
  rcases h with ⟨h, cell, h1, -⟩ | ⟨h, h', h1⟩ | ⟨h, h', h1⟩
  · exact (Array.getElem?_eq_some_iff.mp h1).1
  · exact (Array.getElem?_eq_some_iff.mp h1).1
  · exact (Array.getElem?_eq_some_iff.mp h1).1
theorem hc_cell.ob {D : va_G} {K : Nat → ClassId} {H : Heap} {a t n : Nat} {i : Nat → Int32} {r : Nat → Option Nat} (h : hc_cell D K H a t n i r) (ht : t < 8) : t_OB a (D.1 t) (hc_N t) (D.2 t) H (hc_v t i r) := by
  rcases h with ⟨h, h1⟩ | ⟨h, h', h1⟩ | ⟨h, h', h1⟩
  · exact h1
  · omega
  · omega
theorem hc_cell.ia {D : va_G} {K : Nat → ClassId} {H : Heap} {a t n : Nat} {i : Nat → Int32} {r : Nat → Option Nat} (h : hc_cell D K H a t n i r) (h8 : 8 ≤ t) (ht : t < 12) : H[a]? = some (arrV (K t) n (fun j => .int (i j))) := by
  rcases h with ⟨h, h1⟩ | ⟨h, h', h1⟩ | ⟨h, h', h1⟩
  · omega
  · exact h1
  · omega
theorem hc_cell.ra {D : va_G} {K : Nat → ClassId} {H : Heap} {a t n : Nat} {i : Nat → Int32} {r : Nat → Option Nat} (h : hc_cell D K H a t n i r) (h8 : 12 ≤ t) : t < 16 ∧ H[a]? = some (arrV (K t) n (fun j => va_rf (r j))) := by
  rcases h with ⟨h, h1⟩ | ⟨h, h', h1⟩ | ⟨h, h', h1⟩
  · omega
  · omega
  · exact ⟨h', h1⟩
def hc_w (D : va_G) (K : Nat → ClassId) (b : Nat) (S : hcS) (I : hcI) (R : hcR) (H : Heap) : Prop := ∀ a t n, S a = some (t, n) → b ≤ a ∧ hc_cell D K H a t n (I a) (R a)
theorem hc_w.put {D : va_G} {K : Nat → ClassId} {b : Nat} {S : hcS} {I I' : hcI} {R R' : hcR} {H H1 : Heap} {a t n : Nat} (hw : hc_w D K b S I R H) (ha : S a = some (t, n)) (he : hc_cell D K H1 a t n (I' a) (R' a)) (oq : ∀ q : Nat, q ≠ a → H1[q]? = H[q]?) (hI : ∀ q, q ≠ a → I' q = I q) (hR : ∀ q, q ≠ a → R' q = R q) : hc_w D K b S I' R' H1 := by
  intro x t' n' hx
  by_cases hxa : x = a
  · subst hxa
    rw [ha] at hx
    cases hx
    exact ⟨(hw x t n ha).1, he⟩
  · rw [hI x hxa, hR x hxa]
    exact ⟨(hw x t' n' hx).1, (hw x t' n' hx).2.kept (oq x hxa)⟩
theorem hc_w.new {D : va_G} {K : Nat → ClassId} {b : Nat} {S : hcS} {I : hcI} {R : hcR} {H H1 : Heap} {t n : Nat} {i : Nat → Int32} {r : Nat → Option Nat} (hw : hc_w D K b S I R H) (hb : b ≤ H.size) (he : hc_cell D K H1 H.size t n i r) (oq : ∀ q : Nat, q < H.size → H1[q]? = H[q]?) : hc_w D K b (fun x => if x = H.size then some (t, n) else S x) (fun x => if x = H.size then i else I x) (fun x => if x = H.size then r else R x) H1 := by
  intro x t' n' hx
  by_cases hxa : x = H.size
  · subst hxa
    simp only [if_true] at hx ⊢
    cases hx
    exact ⟨hb, he⟩
  · simp only [if_neg hxa] at hx ⊢
    exact ⟨(hw x t' n' hx).1, (hw x t' n' hx).2.kept (oq x (hw x t' n' hx).2.lt)⟩
def hc_u (I : hcI) (a k : Nat) (v : Int32) : hcI := fun x j => if x = a ∧ j = k then v else I x j
def hc_ur (R : hcR) (a k : Nat) (v : Option Nat) : hcR := fun x j => if x = a ∧ j = k then v else R x j
theorem hc_u_ne {I : hcI} {a k : Nat} {v : Int32} {x : Nat} (h : x ≠ a) : hc_u I a k v x = I x := by
  funext j
  simp [hc_u, h]
theorem hc_u_at {I : hcI} {a k : Nat} {v : Int32} : hc_u I a k v a = upd (I a) k v := by
  funext j
  simp [hc_u, upd]
theorem hc_ur_ne {I : hcR} {a k : Nat} {v : Option Nat} {x : Nat} (h : x ≠ a) : hc_ur I a k v x = I x := by
  funext j
  simp [hc_ur, h]
theorem hc_ur_at {I : hcR} {a k : Nat} {v : Option Nat} : hc_ur I a k v a = va_up (I a) k v := by
  funext j
  simp [hc_ur, va_up]
def hc_kt (K : Nat → ClassId) : List (ClassId × FieldType) := [(K 8, .byte), (K 9, .char), (K 10, .int), (K 11, .boolean), (K 12, .object RX1), (K 13, .object RX3), (K 14, .object RX4), (K 15, .object RX5)]
theorem hc_kt_at (K : Nat → ClassId) {t : Nat} (h8 : 8 ≤ t) (h : t < 16) : (hc_kt K)[t - 8]? = some (K t, hc_a t) := by
  have : t = 8 ∨ t = 9 ∨ t = 10 ∨ t = 11 ∨ t = 12 ∨ t = 13 ∨ t = 14 ∨ t = 15 := by omega
  rcases this with rfl | rfl | rfl | rfl | rfl | rfl | rfl | rfl <;> rfl
def hc_above (j : Nat) : Int32 := ([-1, 0, 0, 1, 2, 0] : List Int32).getD j 0
/-- what the tables and the cells ahead of the base say, in every state of the run -/
def hc_G (g : hcG) (D : va_G) (K : Nat → ClassId) (U : State) : Prop :=
  va_K D vwCl (hc_kt K) U ∧ (∀ w ∈ hc_nst, va_Nw w U) ∧ (va_AO RX1 U ∧ va_AO RX3 U ∧ va_AO RX4 U ∧ va_AO RX5 U) ∧
  (va_Z RX6 "ABOVE" "[I" (.ref g.2.1) (fun q => g.1 ≤ q) U U.heap ∧ va_T .int g.2.1 6 (fun j => .int (hc_above j)) (fun q => g.1 ≤ q) U U.heap) ∧
  ((∀ i, i < 6 → vk_R RX2 (hc_six.getD i 0) (hc_stx.getD i "") (g.2.2.1 i) U) ∧ vk_S 6 hc_sln hc_sby g.2.2.1 g.2.2.2 (fun q => g.1 ≤ q) U U.heap) ∧
  (va_Z "java/lang/String" "COMPACT_STRINGS" "Z" (.int 1) (fun q => g.1 ≤ q) U U.heap ∧ va_Zq "jdk/internal/util/Preconditions" "SIOOBE_FORMATTER" "Ljava/util/function/BiFunction;" (fun q => g.1 ≤ q) U U.heap)
theorem hc_G.go {g : hcG} {D : va_G} {K : Nat → ClassId} {s U : State} (h : hc_G g D K s) (hW : s.WarmedH U.vm) (hq : ∀ q : Nat, q < s.heap.size → ¬ g.1 ≤ q → U.heap[q]? = s.heap[q]?) : hc_G g D K U := by
  obtain ⟨h1, h2, ⟨a1, a2, a3, a4⟩, ⟨z1, z2⟩, ⟨k1, k2⟩, ⟨y1, y2⟩⟩ := h
  have hv := hW.alike
  refine ⟨h1.moved hv, fun w hw => ?_, ⟨a1.moved hv, a2.moved hv, a3.moved hv, a4.moved hv⟩, ⟨(z1.moved hv).kept hq, (z2.moved hv).kept hq⟩, ⟨fun i hi => vk_R.warm hW (k1 i hi), (k2.moved hv).kept hq⟩, ⟨(y1.moved hv).kept hq, (y2.moved hv).kept hq⟩⟩
  rcases hc_nst_kind w hw with ⟨a, i, x, h, rfl⟩ | ⟨a, i, b, n, d, h, rfl⟩
  · exact va_Nw.warmM hW (h2 _ hw)
  · exact va_Nw.warmF hW (h2 _ hw)
theorem hc_G.call {g : hcG} {D : va_G} {K : Nat → ClassId} {U : State} (h : hc_G g D K U) (f : JFrame) (mk : MethodId) (a : Array Value) : hc_G g D K (U.calling f mk a) := by
  obtain ⟨h1, h2, ⟨a1, a2, a3, a4⟩, ⟨z1, z2⟩, ⟨k1, k2⟩, ⟨y1, y2⟩⟩ := h
  have hv : U.vm.Alike (U.calling f mk a).vm := Vm.Alike.refl U.vm
  have hq : ∀ q : Nat, q < U.heap.size → ¬ g.1 ≤ q → (U.calling f mk a).heap[q]? = U.heap[q]? := fun _ _ _ => rfl
  refine ⟨h1.moved hv, fun w hw => ?_, ⟨a1.moved hv, a2.moved hv, a3.moved hv, a4.moved hv⟩, ⟨(z1.moved hv).kept hq, (z2.moved hv).kept hq⟩, ⟨fun i hi => vk_R.same rfl (k1 i hi), (k2.moved hv).kept hq⟩, ⟨(y1.moved hv).kept hq, (y2.moved hv).kept hq⟩⟩
  rcases hc_nst_kind w hw with ⟨a, i, x, h, rfl⟩ | ⟨a, i, b, n, d, h, rfl⟩
  · exact va_Nw.same rfl rfl (h2 _ hw)
  · exact va_Nw.same rfl rfl (h2 _ hw)
def hc_ps : Nat → List (Option Value) → List (Nat × Value)
  | _, [] => []
  | i, none :: L => hc_ps (i + 1) L
  | i, some v :: L => (i, v) :: hc_ps (i + 1) L
theorem hc_ps_mem : ∀ (L : List (Option Value)) (i j : Nat) (v : Value), (j, v) ∈ hc_ps i L ↔ i ≤ j ∧ L[j - i]? = some (some v)
  | [], i, j, v => by simp [hc_ps]
  | none :: L, i, j, v => by
    rw [hc_ps, hc_ps_mem L (i + 1) j v]
    constructor
    · rintro ⟨h1, h2⟩
      refine ⟨by omega, ?_⟩
      rw [show j - i = (j - (i + 1)) + 1 by omega, List.getElem?_cons_succ]
      exact h2
    · rintro ⟨h1, h2⟩
      rcases Nat.lt_or_ge i j with h | h
      · refine ⟨h, ?_⟩
        rw [show j - i = (j - (i + 1)) + 1 by omega, List.getElem?_cons_succ] at h2
        exact h2
      · rw [show j - i = 0 by omega, List.getElem?_cons_zero] at h2
        simp at h2
  | some w :: L, i, j, v => by
    rw [hc_ps, List.mem_cons, hc_ps_mem L (i + 1) j v]
    constructor
    · rintro (h | ⟨h1, h2⟩)
      · cases h
        simp
      · refine ⟨by omega, ?_⟩
        rw [show j - i = (j - (i + 1)) + 1 by omega, List.getElem?_cons_succ]
        exact h2
    · rintro ⟨h1, h2⟩
      rcases Nat.lt_or_ge i j with h | h
      · refine Or.inr ⟨h, ?_⟩
        rw [show j - i = (j - (i + 1)) + 1 by omega, List.getElem?_cons_succ] at h2
        exact h2
      · have e : j = i := by omega
        subst e
        rw [Nat.sub_self, List.getElem?_cons_zero] at h2
        simp only [Option.some.injEq] at h2
        subst h2
        exact Or.inl rfl
/-- the locals: what is known of each -/
def hc_L (ls : Array Slot) (nL : Nat) (L : List (Option Value)) : Prop := lv_has ls nL (hc_ps 0 L) ∧ L.length = nL ∧ ∀ v, some v ∈ L → v.category = 1
theorem hc_L.get {ls : Array Slot} {nL : Nat} {L : List (Option Value)} (h : hc_L ls nL L) {i : Nat} {v : Value} (hi : L[i]? = some (some v)) : ls[i]? = some (.val v) := h.1.2.2 (i, v) ((hc_ps_mem L 0 i v).mpr ⟨Nat.zero_le _, hi⟩)
theorem hc_L.lt {ls : Array Slot} {nL : Nat} {L : List (Option Value)} (h : hc_L ls nL L) {i : Nat} {x : Option Value} (hi : L[i]? = some x) : i < nL := by
  rw [← h.2.1]
  exact (List.getElem?_eq_some_iff.mp hi).1
theorem hc_L.put {ls ls' : Array Slot} {nL : Nat} {L : List (Option Value)} (h : hc_L ls nL L) {i : Nat} {v : Value} (hc : v.category = 1) (h' : lv_has ls' nL ((i, v) :: (hc_ps 0 L).filter (fun q => !(q.1 == i) && !(q.1 + 1 == i && q.2.category == 2)))) : hc_L ls' nL (L.set i (some v)) := by
  refine ⟨⟨h'.1, h'.2.1, fun q hq => ?_⟩, by rw [List.length_set]; exact h.2.1, fun w hw => ?_⟩
  · obtain ⟨j, w⟩ := q
    obtain ⟨-, h2⟩ := (hc_ps_mem _ 0 j w).mp hq
    rw [Nat.sub_zero] at h2
    refine h'.2.2 (j, w) ?_
    by_cases hj : j = i
    · subst hj
      have hlt : j < (L.set j (some v)).length := (List.getElem?_eq_some_iff.mp h2).1
      rw [List.length_set] at hlt
      rw [List.getElem?_set_self hlt] at h2
      simp only [Option.some.injEq] at h2
      subst h2
      exact List.mem_cons_self
    · rw [List.getElem?_set_ne (fun e => hj e.symm)] at h2
      refine List.mem_cons_of_mem _ (List.mem_filter.mpr ⟨(hc_ps_mem L 0 j w).mpr ⟨Nat.zero_le _, h2⟩, ?_⟩)
      have hw1 : w.category = 1 := h.2.2 w (List.mem_of_getElem? h2)
      simp [hj, hw1]
  · rcases List.mem_or_eq_of_mem_set hw with h1 | h1
    · exact h.2.2 w h1
    · simp only [Option.some.injEq] at h1
      subst h1
      exact hc
theorem hc_L.sub {ls : Array Slot} {nL : Nat} {L L' : List (Option Value)} (h : hc_L ls nL L) (hl : L'.length = L.length) (hs : ∀ (i : Nat) (v : Value), L'[i]? = some (some v) → L[i]? = some (some v)) : hc_L ls nL L' :=
  ⟨⟨h.1.1, h.1.2.1, fun q hq => h.get (hs q.1 q.2 (by have := ((hc_ps_mem L' 0 q.1 q.2).mp hq).2; rwa [Nat.sub_zero] at this))⟩, hl.trans h.2.1, fun v hv => by
    obtain ⟨i, hi⟩ := List.getElem?_of_mem hv
    exact h.2.2 v (List.mem_of_getElem? (hs i v hi))⟩
theorem hc_L.mk1 {ls : Array Slot} {nL : Nat} : ∀ {As : List Value} (hl : lv_has ls nL (lv_args 0 As)) (hc : ∀ v ∈ As, v.category = 1) (hn : As.length ≤ nL), hc_L ls nL (As.map some ++ List.replicate (nL - As.length) none) := by
  intro As hl hc hn
  refine ⟨⟨hl.1, hl.2.1, fun q hq => ?_⟩, by simp; omega, fun v hv => ?_⟩
  · obtain ⟨j, w⟩ := q
    obtain ⟨-, h2⟩ := (hc_ps_mem _ 0 j w).mp hq
    rw [Nat.sub_zero] at h2
    refine hl.2.2 (j, w) ?_
    have key : ∀ (As : List Value) (i : Nat), (∀ v ∈ As, v.category = 1) → ∀ j w, As[j]? = some w → (i + j, w) ∈ lv_args i As := by
      intro As
      induction As with
      | nil => intro i _ j w h; simp at h
      | cons a As ih =>
        intro i hc j w h
        have ha : ¬ a.category = 2 := by rw [hc a List.mem_cons_self]; decide
        simp only [lv_args, if_neg ha]
        cases j with
        | zero =>
          rw [List.getElem?_cons_zero] at h
          simp only [Option.some.injEq] at h
          subst h
          exact List.mem_cons_self
        | succ j =>
          rw [List.getElem?_cons_succ] at h
          have := ih (i + 1) (fun v hv => hc v (List.mem_cons_of_mem _ hv)) j w h
          rw [show i + (j + 1) = i + 1 + j by omega]
          exact List.mem_cons_of_mem _ this
    have h3 : As[j]? = some w := by
      by_cases hj : j < (As.map some).length
      · rw [List.getElem?_append_left hj, List.getElem?_map] at h2
        cases hx : As[j]? with
        | none => rw [hx] at h2; simp at h2
        | some y => rw [hx] at h2; simp at h2; rw [h2]
      · rw [List.getElem?_append_right (by omega), List.getElem?_replicate] at h2
        split at h2 <;> simp at h2
    have := key As 0 hc j w h3
    rwa [Nat.zero_add] at this
  · rcases List.mem_append.mp hv with h | h
    · obtain ⟨w, hw, e⟩ := List.mem_map.mp h
      simp only [Option.some.injEq] at e
      subst e
      exact hc _ hw
    · have := (List.mem_replicate.mp h).2
      simp at this
def hc_P (g : hcG) (D : va_G) (K : Nat → ClassId) (S : hcS) (I : hcI) (R : hcR) (z : Nat) (As : List Value) : Array Value → State → Prop := fun v U => v = As.toArray ∧ U.heap.size = z ∧ g.1 ≤ z ∧ hc_w D K g.1 S I R U.heap ∧ hc_G g D K U
def hc_Q (g : hcG) (D : va_G) (K : Nat → ClassId) (Q : hcQ) : Array Value → State → Outcome → State → Prop := fun _ st o t => ∃ (v : Option Value) (S : hcS) (I : hcI) (R : hcR), o = .returned v ∧ Q v S I R t.heap.size ∧ hc_w D K g.1 S I R t.heap ∧ va_F (fun q => g.1 ≤ q) st t
def hc_rm (d kc ks : Nat) : Room := { frames := d, cells := kc, slots := ks, locals := 60 * d }
/-- a call of method M with the arguments As, d frames, kc cells and ks slots to spend: it returns, and then Q -/
def Cl (g : hcG) (M : hcM) (d kc ks : Nat) (S : hcS) (I : hcI) (R : hcR) (z : Nat) (As : List Value) (Q : hcQ) : Prop := ∀ (l : Launch) (D : va_G) (K : Nat → ClassId), Met l M.1 (.code M.1 M.2.1 M.2.2.1 M.2.2.2 :: hc_tb) (hc_rm d kc ks) (hc_P g D K S I R z As) (hc_Q g D K Q) kc ks (fun q => g.1 ≤ q)
def hc_X (g : hcG) (M : hcM) (d kc ks : Nat) (S : hcS) (I : hcI) (R : hcR) (z : Nat) (L : List (Option Value)) (p : Program) (s : State) (m : MethodId) (args : Array Value) (meth : Method) (c : Code) (H : Heap) (locs : List Loc) (cells slots : Nat) (ls : Array Slot) (Rm : Room) (mc ms : Nat) (D : va_G) (K : Nat → ClassId) : Prop :=
  p.tables.exec = Jvm.exec ∧ c.code = M.2.1 ∧ c.maxLocals = M.2.2.1 ∧ meth.sig.returnType = M.2.2.2 ∧ meth.locks = false ∧ s.vm.findClass M.1.cls = some m.cls ∧ meth.name = M.1.name ∧ (∀ w ∈ hc_tb, w.before args s = true) ∧ hc_G g D K s ∧ g.1 ≤ s.heap.size ∧ hc_w D K g.1 S I R H ∧ H.size = z ∧ va_S (fun q => g.1 ≤ q) s.heap H locs ∧ hc_L ls M.2.2.1 L ∧ (d ≤ Rm.frames ∧ 60 * d ≤ Rm.locals ∧ cells + kc ≤ mc ∧ slots + ks ≤ ms ∧ mc ≤ Rm.cells ∧ ms ≤ Rm.slots)
/-- method M stands at pc with locals L and stack st: it comes to its end, and then Q -/
def V (g : hcG) (M : hcM) (d kc ks : Nat) (S : hcS) (I : hcI) (R : hcR) (z : Nat) (pc : Nat) (L : List (Option Value)) (st : List Value) (Q : hcQ) : Prop :=
  ∀ (p : Program) (l : Launch) (e : Env) (s : State) (m : MethodId) (args : Array Value) (below : List Frame) (meth : Method) (c : Code) (H : Heap) (locs : List Loc) (cells slots : Nat) (ls : Array Slot) (Rm : Room) (mc ms : Nat) (D : va_G) (K : Nat → ClassId),
    hc_X g M d kc ks S I R z L p s m args meth c H locs cells slots ls Rm mc ms D K → W p l e Rm s m args below meth c H locs cells slots (MQ below (hc_Q g D K Q) args s mc ms (fun q => g.1 ≤ q)) (F0 m pc ls st)
theorem Cl.mono {g : hcG} {M : hcM} {d kc ks : Nat} {S : hcS} {I : hcI} {R : hcR} {z : Nat} {As : List Value} {Q Q' : hcQ} (h : Cl g M d kc ks S I R z As Q) (hQ : ∀ v S I R z, Q v S I R z → Q' v S I R z) : Cl g M d kc ks S I R z As Q' := by
  intro l D K p e ha hc hk s m args below hf happ hP
  intro hKK
  obtain ⟨k, o, h1, h2, h3, hQ1, hQ2⟩ := h l D K p e ha hc hk s m args below hf happ hP hKK
  refine ⟨k, o, h1, h2, h3, ?_, hQ2⟩
  obtain ⟨v, S, I, R, q1, q2, q3⟩ := hQ1
  exact ⟨v, S, I, R, q1, hQ _ _ _ _ _ q2, q3⟩
theorem V.mono {g : hcG} {M : hcM} {d kc ks : Nat} {S : hcS} {I : hcI} {R : hcR} {z pc : Nat} {L : List (Option Value)} {st : List Value} {Q Q' : hcQ} (h : V g M d kc ks S I R z pc L st Q) (hQ : ∀ v S I R z, Q v S I R z → Q' v S I R z) : V g M d kc ks S I R z pc L st Q' := by
  intro p l e s m args below meth c H locs cells slots ls Rm mc ms D K C T hT X
  obtain ⟨t, a1, o, b1, b2, ⟨v, S, I, R, q1, q2, q3⟩, b4⟩ := h p l e s m args below meth c H locs cells slots ls Rm mc ms D K C T hT X
  exact ⟨t, a1, o, b1, b2, ⟨v, S, I, R, q1, hQ _ _ _ _ _ q2, q3⟩, b4⟩
theorem Cl.enter {g : hcG} {M : hcM} {d kc ks : Nat} {S : hcS} {I : hcI} {R : hcR} {z : Nat} {As : List Value} {Q : hcQ} (L : List (Option Value)) (hy : plainName M.1.cls = true) (hL : As.map some ++ List.replicate (M.2.2.1 - As.length) none = L) (hn : As.length ≤ M.2.2.1) (hc1 : ∀ v ∈ As, v.category = 1) (h : V g M d kc ks S I R z 0 L [] Q) : Cl g M d kc ks S I R z As Q := by
  intro l D K
  subst hL
  refine Met.ofW (cc := M.2.1) (maxL := M.2.2.1) (ret := M.2.2.2) hy rfl ?_
  intro p e s m args below meth c s₁ B hml hv
  obtain ⟨rfl, hsz, hgz, hw, hG⟩ := hv
  have hts := atoms_spec (ws := .code M.1 M.2.1 M.2.2.1 M.2.2.2 :: hc_tb) B.pre
  have hcs : (lg_sl As).length = As.length := by
    have : ∀ As : List Value, (∀ v ∈ As, v.category = 1) → (lg_sl As).length = As.length := by
      intro As
      induction As with
      | nil => intro _; rfl
      | cons a As ih =>
        intro hc
        have ha := hc a List.mem_cons_self
        have := ih (fun v hv => hc v (List.mem_cons_of_mem _ hv))
        cases a <;> simp_all [lg_sl, Value.category]
    exact this As hc1
  have hl := lv_entry As (n := M.2.2.1) (by rw [hcs]; exact hn)
  rw [lg_entry_eq]
  refine h p l e s m As.toArray below meth c s.heap [] 0 0 _ (hc_rm d kc ks) kc ks D K ⟨B.exec, B.bytes, hml, B.returns, B.notSynchronized, findClass_of_methodNamed B.named, (name_of_methodNamed B.named B.method).1, fun w hw => hts w (List.mem_cons_of_mem _ hw), hG, by rw [hsz]; exact hgz, hw, hsz, va_S.rf, hc_L.mk1 hl hc1 hn, Nat.le_refl _, Nat.le_refl _, by rw [Nat.zero_add]; exact Nat.le_refl _, by rw [Nat.zero_add]; exact Nat.le_refl _, Nat.le_refl _, Nat.le_refl _⟩
end
section
section VR
variable {g : hcG} {M : hcM} {d kc ks : Nat} {S : hcS} {I : hcI} {R : hcR} {z pc q : Nat} {L : List (Option Value)} {st : List Value} {Q : hcQ}
theorem v_iconst {n : Int} {v : Int32} (hd : decode M.2.1 pc = .ok (.iconst n, 1)) (hv : Int32.ofInt n = v := by rfl) (hq : pc + 1 = q := by rfl) (kk : V g M d kc ks S I R z q L (.int v :: st) Q) : V g M d kc ks S I R z pc L st Q := by
  subst hq
  intro p l e s m args below meth c H locs cells slots ls Rm mc ms D K C
  exact lv_iconst C.1 C.2.1 hd hv (kk _ _ _ _ _ _ _ _ _ _ _ _ _ _ _ _ _ _ _ C)
theorem v_bipush {n : Int} {v : Int32} (hd : decode M.2.1 pc = .ok (.bipush n, 2)) (hv : (Int8.ofInt n).toInt32 = v := by rfl) (hq : pc + 2 = q := by rfl) (kk : V g M d kc ks S I R z q L (.int v :: st) Q) : V g M d kc ks S I R z pc L st Q := by
  subst hq
  intro p l e s m args below meth c H locs cells slots ls Rm mc ms D K C
  exact lv_bipush C.1 C.2.1 hd hv (kk _ _ _ _ _ _ _ _ _ _ _ _ _ _ _ _ _ _ _ C)
theorem v_sipush {n : Int} {v : Int32} (hd : decode M.2.1 pc = .ok (.sipush n, 3)) (hv : (Int16.ofInt n).toInt32 = v := by rfl) (hq : pc + 3 = q := by rfl) (kk : V g M d kc ks S I R z q L (.int v :: st) Q) : V g M d kc ks S I R z pc L st Q := by
  subst hq
  intro p l e s m args below meth c H locs cells slots ls Rm mc ms D K C
  exact lv_sipush C.1 C.2.1 hd hv (kk _ _ _ _ _ _ _ _ _ _ _ _ _ _ _ _ _ _ _ C)
theorem v_null  (hd : decode M.2.1 pc = .ok (.aconst_null, 1))  (hq : pc + 1 = q := by rfl) (kk : V g M d kc ks S I R z q L (.null :: st) Q) : V g M d kc ks S I R z pc L st Q := by
  subst hq
  intro p l e s m args below meth c H locs cells slots ls Rm mc ms D K C
  exact lv_null C.1 C.2.1 hd  (kk _ _ _ _ _ _ _ _ _ _ _ _ _ _ _ _ _ _ _ C)
theorem v_iadd {x y : Int32} (hd : decode M.2.1 pc = .ok (.iadd, 1))  (hq : pc + 1 = q := by rfl) (kk : V g M d kc ks S I R z q L (.int (x + y) :: st) Q) : V g M d kc ks S I R z pc L (.int y :: .int x :: st) Q := by
  subst hq
  intro p l e s m args below meth c H locs cells slots ls Rm mc ms D K C
  exact lv_iadd C.1 C.2.1 hd  (kk _ _ _ _ _ _ _ _ _ _ _ _ _ _ _ _ _ _ _ C)
theorem v_isub {x y : Int32} (hd : decode M.2.1 pc = .ok (.isub, 1))  (hq : pc + 1 = q := by rfl) (kk : V g M d kc ks S I R z q L (.int (x - y) :: st) Q) : V g M d kc ks S I R z pc L (.int y :: .int x :: st) Q := by
  subst hq
  intro p l e s m args below meth c H locs cells slots ls Rm mc ms D K C
  exact lv_isub C.1 C.2.1 hd  (kk _ _ _ _ _ _ _ _ _ _ _ _ _ _ _ _ _ _ _ C)
theorem v_imul {x y : Int32} (hd : decode M.2.1 pc = .ok (.imul, 1))  (hq : pc + 1 = q := by rfl) (kk : V g M d kc ks S I R z q L (.int (x * y) :: st) Q) : V g M d kc ks S I R z pc L (.int y :: .int x :: st) Q := by
  subst hq
  intro p l e s m args below meth c H locs cells slots ls Rm mc ms D K C
  exact lv_imul C.1 C.2.1 hd  (kk _ _ _ _ _ _ _ _ _ _ _ _ _ _ _ _ _ _ _ C)
theorem v_iand {x y : Int32} (hd : decode M.2.1 pc = .ok (.iand, 1))  (hq : pc + 1 = q := by rfl) (kk : V g M d kc ks S I R z q L (.int (x &&& y) :: st) Q) : V g M d kc ks S I R z pc L (.int y :: .int x :: st) Q := by
  subst hq
  intro p l e s m args below meth c H locs cells slots ls Rm mc ms D K C
  exact lv_iand C.1 C.2.1 hd  (kk _ _ _ _ _ _ _ _ _ _ _ _ _ _ _ _ _ _ _ C)
theorem v_ior {x y : Int32} (hd : decode M.2.1 pc = .ok (.ior, 1))  (hq : pc + 1 = q := by rfl) (kk : V g M d kc ks S I R z q L (.int (x ||| y) :: st) Q) : V g M d kc ks S I R z pc L (.int y :: .int x :: st) Q := by
  subst hq
  intro p l e s m args below meth c H locs cells slots ls Rm mc ms D K C
  exact lv_ior C.1 C.2.1 hd  (kk _ _ _ _ _ _ _ _ _ _ _ _ _ _ _ _ _ _ _ C)
theorem v_ishl {x y : Int32} (hd : decode M.2.1 pc = .ok (.ishl, 1))  (hq : pc + 1 = q := by rfl) (kk : V g M d kc ks S I R z q L (.int (x <<< (y &&& 31)) :: st) Q) : V g M d kc ks S I R z pc L (.int y :: .int x :: st) Q := by
  subst hq
  intro p l e s m args below meth c H locs cells slots ls Rm mc ms D K C
  exact lv_ishl C.1 C.2.1 hd  (kk _ _ _ _ _ _ _ _ _ _ _ _ _ _ _ _ _ _ _ C)
theorem v_ishr {x y : Int32} (hd : decode M.2.1 pc = .ok (.ishr, 1))  (hq : pc + 1 = q := by rfl) (kk : V g M d kc ks S I R z q L (.int (x >>> (y &&& 31)) :: st) Q) : V g M d kc ks S I R z pc L (.int y :: .int x :: st) Q := by
  subst hq
  intro p l e s m args below meth c H locs cells slots ls Rm mc ms D K C
  exact lv_ishr C.1 C.2.1 hd  (kk _ _ _ _ _ _ _ _ _ _ _ _ _ _ _ _ _ _ _ C)
theorem v_idiv {x y : Int32} (hd : decode M.2.1 pc = .ok (.idiv, 1)) (hne : ¬ y = 0) (hq : pc + 1 = q := by rfl) (kk : V g M d kc ks S I R z q L (.int (x / y) :: st) Q) : V g M d kc ks S I R z pc L (.int y :: .int x :: st) Q := by
  subst hq
  intro p l e s m args below meth c H locs cells slots ls Rm mc ms D K C
  exact lv_idiv C.1 C.2.1 hd hne (kk _ _ _ _ _ _ _ _ _ _ _ _ _ _ _ _ _ _ _ C)
theorem v_irem {x y : Int32} (hd : decode M.2.1 pc = .ok (.irem, 1)) (hne : ¬ y = 0) (hq : pc + 1 = q := by rfl) (kk : V g M d kc ks S I R z q L (.int (x - x / y * y) :: st) Q) : V g M d kc ks S I R z pc L (.int y :: .int x :: st) Q := by
  subst hq
  intro p l e s m args below meth c H locs cells slots ls Rm mc ms D K C
  exact lv_irem C.1 C.2.1 hd hne (kk _ _ _ _ _ _ _ _ _ _ _ _ _ _ _ _ _ _ _ C)
theorem v_ineg {x : Int32} (hd : decode M.2.1 pc = .ok (.ineg, 1))  (hq : pc + 1 = q := by rfl) (kk : V g M d kc ks S I R z q L (.int (-x) :: st) Q) : V g M d kc ks S I R z pc L (.int x :: st) Q := by
  subst hq
  intro p l e s m args below meth c H locs cells slots ls Rm mc ms D K C
  exact lv_ineg C.1 C.2.1 hd  (kk _ _ _ _ _ _ _ _ _ _ _ _ _ _ _ _ _ _ _ C)
theorem v_iushr {x y v : Int32} (hd : decode M.2.1 pc = .ok (.iushr, 1)) (hv : (x.toUInt32 >>> (y.toUInt32 &&& Int32.toUInt32 31)).toInt32 = v := by rfl) (hq : pc + 1 = q := by rfl) (kk : V g M d kc ks S I R z q L (.int v :: st) Q) : V g M d kc ks S I R z pc L (.int y :: .int x :: st) Q := by
  subst hq
  intro p l e s m args below meth c H locs cells slots ls Rm mc ms D K C
  exact lv_iushr C.1 C.2.1 hd hv (kk _ _ _ _ _ _ _ _ _ _ _ _ _ _ _ _ _ _ _ C)
theorem v_i2b {x v : Int32} (hd : decode M.2.1 pc = .ok (.i2b, 1)) (hv : x.toInt8.toInt32 = v := by rfl) (hq : pc + 1 = q := by rfl) (kk : V g M d kc ks S I R z q L (.int v :: st) Q) : V g M d kc ks S I R z pc L (.int x :: st) Q := by
  subst hq
  intro p l e s m args below meth c H locs cells slots ls Rm mc ms D K C
  exact lv_i2b C.1 C.2.1 hd hv (kk _ _ _ _ _ _ _ _ _ _ _ _ _ _ _ _ _ _ _ C)
theorem v_i2s {x v : Int32} (hd : decode M.2.1 pc = .ok (.i2s, 1)) (hv : x.toInt16.toInt32 = v := by rfl) (hq : pc + 1 = q := by rfl) (kk : V g M d kc ks S I R z q L (.int v :: st) Q) : V g M d kc ks S I R z pc L (.int x :: st) Q := by
  subst hq
  intro p l e s m args below meth c H locs cells slots ls Rm mc ms D K C
  exact lv_i2s C.1 C.2.1 hd hv (kk _ _ _ _ _ _ _ _ _ _ _ _ _ _ _ _ _ _ _ C)
theorem v_i2c {x v : Int32} (hd : decode M.2.1 pc = .ok (.i2c, 1)) (hv : (x.toUInt32 % 65536).toInt32 = v := by rfl) (hq : pc + 1 = q := by rfl) (kk : V g M d kc ks S I R z q L (.int v :: st) Q) : V g M d kc ks S I R z pc L (.int x :: st) Q := by
  subst hq
  intro p l e s m args below meth c H locs cells slots ls Rm mc ms D K C
  exact lv_i2c C.1 C.2.1 hd hv (kk _ _ _ _ _ _ _ _ _ _ _ _ _ _ _ _ _ _ _ C)
theorem v_dup {x : Value} (hd : decode M.2.1 pc = .ok (.dup, 1)) (hx : x.category = 1 := by rfl) (hq : pc + 1 = q := by rfl) (kk : V g M d kc ks S I R z q L (x :: x :: st) Q) : V g M d kc ks S I R z pc L (x :: st) Q := by
  subst hq
  intro p l e s m args below meth c H locs cells slots ls Rm mc ms D K C
  exact lv_dup C.1 C.2.1 hd hx (kk _ _ _ _ _ _ _ _ _ _ _ _ _ _ _ _ _ _ _ C)
theorem v_pop {x : Value} (hd : decode M.2.1 pc = .ok (.pop, 1)) (hx : x.category = 1 := by rfl) (hq : pc + 1 = q := by rfl) (kk : V g M d kc ks S I R z q L st Q) : V g M d kc ks S I R z pc L (x :: st) Q := by
  subst hq
  intro p l e s m args below meth c H locs cells slots ls Rm mc ms D K C
  exact lv_pop C.1 C.2.1 hd hx (kk _ _ _ _ _ _ _ _ _ _ _ _ _ _ _ _ _ _ _ C)
theorem v_dup2 {x y : Value} (hd : decode M.2.1 pc = .ok (.dup2, 1)) (hx : x.category = 1 := by rfl) (hy : y.category = 1 := by rfl) (hq : pc + 1 = q := by rfl) (kk : V g M d kc ks S I R z q L (x :: y :: x :: y :: st) Q) : V g M d kc ks S I R z pc L (x :: y :: st) Q := by
  subst hq
  intro p l e s m args below meth c H locs cells slots ls Rm mc ms D K C
  exact lv_dup2_11 C.1 C.2.1 hd hx hy (kk _ _ _ _ _ _ _ _ _ _ _ _ _ _ _ _ _ _ _ C)
theorem v_iload_n {k : Fin 4} {x : Int32} (hd : decode M.2.1 pc = .ok (.iload_n k, 1)) (hl : L[k.val]? = some (some (.int x)) := by rfl) (hq : pc + 1 = q := by rfl) (kk : V g M d kc ks S I R z q L (.int x :: st) Q) : V g M d kc ks S I R z pc L st Q := by
  subst hq
  intro p l e s m args below meth c H locs cells slots ls Rm mc ms D K C
  exact lv_iload_n C.1 C.2.1 hd rfl (C.2.2.2.2.2.2.2.2.2.2.2.2.2.1.get hl) (kk _ _ _ _ _ _ _ _ _ _ _ _ _ _ _ _ _ _ _ C)
theorem v_iload {k : Nat} {x : Int32} (hd : decode M.2.1 pc = .ok (.iload k, 2)) (hl : L[k]? = some (some (.int x)) := by rfl) (hq : pc + 2 = q := by rfl) (kk : V g M d kc ks S I R z q L (.int x :: st) Q) : V g M d kc ks S I R z pc L st Q := by
  subst hq
  intro p l e s m args below meth c H locs cells slots ls Rm mc ms D K C
  exact lv_iload C.1 C.2.1 hd (C.2.2.2.2.2.2.2.2.2.2.2.2.2.1.get hl) (kk _ _ _ _ _ _ _ _ _ _ _ _ _ _ _ _ _ _ _ C)
theorem v_aload_n {k : Fin 4} {x : Nat} (hd : decode M.2.1 pc = .ok (.aload_n k, 1)) (hl : L[k.val]? = some (some (.ref x)) := by rfl) (hq : pc + 1 = q := by rfl) (kk : V g M d kc ks S I R z q L (.ref x :: st) Q) : V g M d kc ks S I R z pc L st Q := by
  subst hq
  intro p l e s m args below meth c H locs cells slots ls Rm mc ms D K C
  exact lv_aload_n C.1 C.2.1 hd rfl (C.2.2.2.2.2.2.2.2.2.2.2.2.2.1.get hl) (kk _ _ _ _ _ _ _ _ _ _ _ _ _ _ _ _ _ _ _ C)
theorem v_aload {k : Nat} {x : Nat} (hd : decode M.2.1 pc = .ok (.aload k, 2)) (hl : L[k]? = some (some (.ref x)) := by rfl) (hq : pc + 2 = q := by rfl) (kk : V g M d kc ks S I R z q L (.ref x :: st) Q) : V g M d kc ks S I R z pc L st Q := by
  subst hq
  intro p l e s m args below meth c H locs cells slots ls Rm mc ms D K C
  exact lv_aload C.1 C.2.1 hd (C.2.2.2.2.2.2.2.2.2.2.2.2.2.1.get hl) (kk _ _ _ _ _ _ _ _ _ _ _ _ _ _ _ _ _ _ _ C)
theorem v_aload_nN {k : Fin 4} (hd : decode M.2.1 pc = .ok (.aload_n k, 1)) (hl : L[k.val]? = some (some .null) := by rfl) (hq : pc + 1 = q := by rfl) (kk : V g M d kc ks S I R z q L (.null :: st) Q) : V g M d kc ks S I R z pc L st Q := by
  subst hq
  intro p l e s m args below meth c H locs cells slots ls Rm mc ms D K C
  exact lv_aload_nN C.1 C.2.1 hd rfl (C.2.2.2.2.2.2.2.2.2.2.2.2.2.1.get hl) (kk _ _ _ _ _ _ _ _ _ _ _ _ _ _ _ _ _ _ _ C)
theorem v_aloadN {k : Nat} (hd : decode M.2.1 pc = .ok (.aload k, 2)) (hl : L[k]? = some (some .null) := by rfl) (hq : pc + 2 = q := by rfl) (kk : V g M d kc ks S I R z q L (.null :: st) Q) : V g M d kc ks S I R z pc L st Q := by
  subst hq
  intro p l e s m args below meth c H locs cells slots ls Rm mc ms D K C
  exact lv_aloadN C.1 C.2.1 hd (C.2.2.2.2.2.2.2.2.2.2.2.2.2.1.get hl) (kk _ _ _ _ _ _ _ _ _ _ _ _ _ _ _ _ _ _ _ C)
theorem v_istore_n {k : Fin 4} {x : Int32} (hd : decode M.2.1 pc = .ok (.istore_n k, 1)) (hi : k.val < L.length := by decide) (hq : pc + 1 = q := by rfl) (kk : V g M d kc ks S I R z q (L.set k.val (some (.int x))) st Q) : V g M d kc ks S I R z pc L ((.int x) :: st) Q := by
  subst hq
  intro p l e s m args below meth c H locs cells slots ls Rm mc ms D K C
  obtain ⟨hx, hb, hml, hr, hlk, hown, hnm, hts, hG, hbs, hw, hz, hS, hL, hR⟩ := C
  refine lv_istore_n hx hb hd rfl hL.1 (by rw [← hL.2.1]; exact hi) rfl (fun ls' hl' => ?_)
  exact kk _ _ _ _ _ _ _ _ _ _ _ _ _ _ _ _ _ _ _ ⟨hx, hb, hml, hr, hlk, hown, hnm, hts, hG, hbs, hw, hz, hS, hL.put rfl hl', hR⟩
theorem v_istore {k : Nat} {x : Int32} (hd : decode M.2.1 pc = .ok (.istore k, 2)) (hi : k < L.length := by decide) (hq : pc + 2 = q := by rfl) (kk : V g M d kc ks S I R z q (L.set k (some (.int x))) st Q) : V g M d kc ks S I R z pc L ((.int x) :: st) Q := by
  subst hq
  intro p l e s m args below meth c H locs cells slots ls Rm mc ms D K C
  obtain ⟨hx, hb, hml, hr, hlk, hown, hnm, hts, hG, hbs, hw, hz, hS, hL, hR⟩ := C
  refine lv_istore hx hb hd hL.1 (by rw [← hL.2.1]; exact hi) rfl (fun ls' hl' => ?_)
  exact kk _ _ _ _ _ _ _ _ _ _ _ _ _ _ _ _ _ _ _ ⟨hx, hb, hml, hr, hlk, hown, hnm, hts, hG, hbs, hw, hz, hS, hL.put rfl hl', hR⟩
theorem v_astore_n {k : Fin 4} {x : Nat} (hd : decode M.2.1 pc = .ok (.astore_n k, 1)) (hi : k.val < L.length := by decide) (hq : pc + 1 = q := by rfl) (kk : V g M d kc ks S I R z q (L.set k.val (some (.ref x))) st Q) : V g M d kc ks S I R z pc L ((.ref x) :: st) Q := by
  subst hq
  intro p l e s m args below meth c H locs cells slots ls Rm mc ms D K C
  obtain ⟨hx, hb, hml, hr, hlk, hown, hnm, hts, hG, hbs, hw, hz, hS, hL, hR⟩ := C
  refine lv_astore_n hx hb hd rfl hL.1 (by rw [← hL.2.1]; exact hi) rfl (fun ls' hl' => ?_)
  exact kk _ _ _ _ _ _ _ _ _ _ _ _ _ _ _ _ _ _ _ ⟨hx, hb, hml, hr, hlk, hown, hnm, hts, hG, hbs, hw, hz, hS, hL.put rfl hl', hR⟩
theorem v_astore {k : Nat} {x : Nat} (hd : decode M.2.1 pc = .ok (.astore k, 2)) (hi : k < L.length := by decide) (hq : pc + 2 = q := by rfl) (kk : V g M d kc ks S I R z q (L.set k (some (.ref x))) st Q) : V g M d kc ks S I R z pc L ((.ref x) :: st) Q := by
  subst hq
  intro p l e s m args below meth c H locs cells slots ls Rm mc ms D K C
  obtain ⟨hx, hb, hml, hr, hlk, hown, hnm, hts, hG, hbs, hw, hz, hS, hL, hR⟩ := C
  refine lv_astore hx hb hd hL.1 (by rw [← hL.2.1]; exact hi) rfl (fun ls' hl' => ?_)
  exact kk _ _ _ _ _ _ _ _ _ _ _ _ _ _ _ _ _ _ _ ⟨hx, hb, hml, hr, hlk, hown, hnm, hts, hG, hbs, hw, hz, hS, hL.put rfl hl', hR⟩
theorem v_astore_nN {k : Fin 4} (hd : decode M.2.1 pc = .ok (.astore_n k, 1)) (hi : k.val < L.length := by decide) (hq : pc + 1 = q := by rfl) (kk : V g M d kc ks S I R z q (L.set k.val (some (.null))) st Q) : V g M d kc ks S I R z pc L ((.null) :: st) Q := by
  subst hq
  intro p l e s m args below meth c H locs cells slots ls Rm mc ms D K C
  obtain ⟨hx, hb, hml, hr, hlk, hown, hnm, hts, hG, hbs, hw, hz, hS, hL, hR⟩ := C
  refine lv_astore_nN hx hb hd rfl hL.1 (by rw [← hL.2.1]; exact hi) rfl (fun ls' hl' => ?_)
  exact kk _ _ _ _ _ _ _ _ _ _ _ _ _ _ _ _ _ _ _ ⟨hx, hb, hml, hr, hlk, hown, hnm, hts, hG, hbs, hw, hz, hS, hL.put rfl hl', hR⟩
theorem v_astoreN {k : Nat} (hd : decode M.2.1 pc = .ok (.astore k, 2)) (hi : k < L.length := by decide) (hq : pc + 2 = q := by rfl) (kk : V g M d kc ks S I R z q (L.set k (some (.null))) st Q) : V g M d kc ks S I R z pc L ((.null) :: st) Q := by
  subst hq
  intro p l e s m args below meth c H locs cells slots ls Rm mc ms D K C
  obtain ⟨hx, hb, hml, hr, hlk, hown, hnm, hts, hG, hbs, hw, hz, hS, hL, hR⟩ := C
  refine lv_astoreN hx hb hd hL.1 (by rw [← hL.2.1]; exact hi) rfl (fun ls' hl' => ?_)
  exact kk _ _ _ _ _ _ _ _ _ _ _ _ _ _ _ _ _ _ _ ⟨hx, hb, hml, hr, hlk, hown, hnm, hts, hG, hbs, hw, hz, hS, hL.put rfl hl', hR⟩
theorem v_iinc {k : Nat} {n : Int} {x v : Int32} (hd : decode M.2.1 pc = .ok (.iinc k n, 3)) (hl : L[k]? = some (some (.int x)) := by rfl) (hv : x + Int32.ofInt n = v := by rfl) (hq : pc + 3 = q := by rfl) (kk : V g M d kc ks S I R z q (L.set k (some (.int v))) st Q) : V g M d kc ks S I R z pc L st Q := by
  subst hq
  intro p l e s m args below meth c H locs cells slots ls Rm mc ms D K C
  obtain ⟨hx, hb, hml, hr, hlk, hown, hnm, hts, hG, hbs, hw, hz, hS, hL, hR⟩ := C
  obtain ⟨k2, hk2⟩ := List.getElem?_of_mem ((hc_ps_mem L 0 k (.int x)).mpr ⟨Nat.zero_le _, hl⟩)
  refine lv_iinc hx hb hd hL.1 hk2 hv (hL.lt hl) rfl (fun ls' hl' => ?_)
  exact kk _ _ _ _ _ _ _ _ _ _ _ _ _ _ _ _ _ _ _ ⟨hx, hb, hml, hr, hlk, hown, hnm, hts, hG, hbs, hw, hz, hS, hL.put rfl hl', hR⟩
theorem v_istore0 {y0 : Option Value} {r : List (Option Value)} {x : Int32} (hd : decode M.2.1 pc = .ok (.istore_n 0, 1)) (hq : pc + 1 = q := by rfl) (kk : V g M d kc ks S I R z q (some (.int x) :: r) st Q) : V g M d kc ks S I R z pc (y0 :: r) ((.int x) :: st) Q := v_istore_n hd (by show 0 < _; simp only [List.length_cons]; omega) hq kk
theorem v_astore0 {y0 : Option Value} {r : List (Option Value)} {x : Nat} (hd : decode M.2.1 pc = .ok (.astore_n 0, 1)) (hq : pc + 1 = q := by rfl) (kk : V g M d kc ks S I R z q (some (.ref x) :: r) st Q) : V g M d kc ks S I R z pc (y0 :: r) ((.ref x) :: st) Q := v_astore_n hd (by show 0 < _; simp only [List.length_cons]; omega) hq kk
theorem v_astoreN0 {y0 : Option Value} {r : List (Option Value)}  (hd : decode M.2.1 pc = .ok (.astore_n 0, 1)) (hq : pc + 1 = q := by rfl) (kk : V g M d kc ks S I R z q (some (.null) :: r) st Q) : V g M d kc ks S I R z pc (y0 :: r) ((.null) :: st) Q := v_astore_nN hd (by show 0 < _; simp only [List.length_cons]; omega) hq kk
theorem v_iinc0 {r : List (Option Value)} {n : Int} {x v : Int32} (hd : decode M.2.1 pc = .ok (.iinc 0 n, 3)) (hv : x + Int32.ofInt n = v := by rfl) (hq : pc + 3 = q := by rfl) (kk : V g M d kc ks S I R z q (some (.int v) :: r) st Q) : V g M d kc ks S I R z pc (some (.int x) :: r) st Q := v_iinc hd rfl hv hq kk
theorem v_istore1 {x0 y0 : Option Value} {r : List (Option Value)} {x : Int32} (hd : decode M.2.1 pc = .ok (.istore_n 1, 1)) (hq : pc + 1 = q := by rfl) (kk : V g M d kc ks S I R z q (x0 :: some (.int x) :: r) st Q) : V g M d kc ks S I R z pc (x0 :: y0 :: r) ((.int x) :: st) Q := v_istore_n hd (by show 1 < _; simp only [List.length_cons]; omega) hq kk
theorem v_astore1 {x0 y0 : Option Value} {r : List (Option Value)} {x : Nat} (hd : decode M.2.1 pc = .ok (.astore_n 1, 1)) (hq : pc + 1 = q := by rfl) (kk : V g M d kc ks S I R z q (x0 :: some (.ref x) :: r) st Q) : V g M d kc ks S I R z pc (x0 :: y0 :: r) ((.ref x) :: st) Q := v_astore_n hd (by show 1 < _; simp only [List.length_cons]; omega) hq kk
theorem v_astoreN1 {x0 y0 : Option Value} {r : List (Option Value)}  (hd : decode M.2.1 pc = .ok (.astore_n 1, 1)) (hq : pc + 1 = q := by rfl) (kk : V g M d kc ks S I R z q (x0 :: some (.null) :: r) st Q) : V g M d kc ks S I R z pc (x0 :: y0 :: r) ((.null) :: st) Q := v_astore_nN hd (by show 1 < _; simp only [List.length_cons]; omega) hq kk
theorem v_iinc1 {x0 : Option Value} {r : List (Option Value)} {n : Int} {x v : Int32} (hd : decode M.2.1 pc = .ok (.iinc 1 n, 3)) (hv : x + Int32.ofInt n = v := by rfl) (hq : pc + 3 = q := by rfl) (kk : V g M d kc ks S I R z q (x0 :: some (.int v) :: r) st Q) : V g M d kc ks S I R z pc (x0 :: some (.int x) :: r) st Q := v_iinc hd rfl hv hq kk
theorem v_istore2 {x0 x1 y0 : Option Value} {r : List (Option Value)} {x : Int32} (hd : decode M.2.1 pc = .ok (.istore_n 2, 1)) (hq : pc + 1 = q := by rfl) (kk : V g M d kc ks S I R z q (x0 :: x1 :: some (.int x) :: r) st Q) : V g M d kc ks S I R z pc (x0 :: x1 :: y0 :: r) ((.int x) :: st) Q := v_istore_n hd (by show 2 < _; simp only [List.length_cons]; omega) hq kk
theorem v_astore2 {x0 x1 y0 : Option Value} {r : List (Option Value)} {x : Nat} (hd : decode M.2.1 pc = .ok (.astore_n 2, 1)) (hq : pc + 1 = q := by rfl) (kk : V g M d kc ks S I R z q (x0 :: x1 :: some (.ref x) :: r) st Q) : V g M d kc ks S I R z pc (x0 :: x1 :: y0 :: r) ((.ref x) :: st) Q := v_astore_n hd (by show 2 < _; simp only [List.length_cons]; omega) hq kk
theorem v_astoreN2 {x0 x1 y0 : Option Value} {r : List (Option Value)}  (hd : decode M.2.1 pc = .ok (.astore_n 2, 1)) (hq : pc + 1 = q := by rfl) (kk : V g M d kc ks S I R z q (x0 :: x1 :: some (.null) :: r) st Q) : V g M d kc ks S I R z pc (x0 :: x1 :: y0 :: r) ((.null) :: st) Q := v_astore_nN hd (by show 2 < _; simp only [List.length_cons]; omega) hq kk
theorem v_iinc2 {x0 x1 : Option Value} {r : List (Option Value)} {n : Int} {x v : Int32} (hd : decode M.2.1 pc = .ok (.iinc 2 n, 3)) (hv : x + Int32.ofInt n = v := by rfl) (hq : pc + 3 = q := by rfl) (kk : V g M d kc ks S I R z q (x0 :: x1 :: some (.int v) :: r) st Q) : V g M d kc ks S I R z pc (x0 :: x1 :: some (.int x) :: r) st Q := v_iinc hd rfl hv hq kk
theorem v_istore3 {x0 x1 x2 y0 : Option Value} {r : List (Option Value)} {x : Int32} (hd : decode M.2.1 pc = .ok (.istore_n 3, 1)) (hq : pc + 1 = q := by rfl) (kk : V g M d kc ks S I R z q (x0 :: x1 :: x2 :: some (.int x) :: r) st Q) : V g M d kc ks S I R z pc (x0 :: x1 :: x2 :: y0 :: r) ((.int x) :: st) Q := v_istore_n hd (by show 3 < _; simp only [List.length_cons]; omega) hq kk
theorem v_astore3 {x0 x1 x2 y0 : Option Value} {r : List (Option Value)} {x : Nat} (hd : decode M.2.1 pc = .ok (.astore_n 3, 1)) (hq : pc + 1 = q := by rfl) (kk : V g M d kc ks S I R z q (x0 :: x1 :: x2 :: some (.ref x) :: r) st Q) : V g M d kc ks S I R z pc (x0 :: x1 :: x2 :: y0 :: r) ((.ref x) :: st) Q := v_astore_n hd (by show 3 < _; simp only [List.length_cons]; omega) hq kk
theorem v_astoreN3 {x0 x1 x2 y0 : Option Value} {r : List (Option Value)}  (hd : decode M.2.1 pc = .ok (.astore_n 3, 1)) (hq : pc + 1 = q := by rfl) (kk : V g M d kc ks S I R z q (x0 :: x1 :: x2 :: some (.null) :: r) st Q) : V g M d kc ks S I R z pc (x0 :: x1 :: x2 :: y0 :: r) ((.null) :: st) Q := v_astore_nN hd (by show 3 < _; simp only [List.length_cons]; omega) hq kk
theorem v_iinc3 {x0 x1 x2 : Option Value} {r : List (Option Value)} {n : Int} {x v : Int32} (hd : decode M.2.1 pc = .ok (.iinc 3 n, 3)) (hv : x + Int32.ofInt n = v := by rfl) (hq : pc + 3 = q := by rfl) (kk : V g M d kc ks S I R z q (x0 :: x1 :: x2 :: some (.int v) :: r) st Q) : V g M d kc ks S I R z pc (x0 :: x1 :: x2 :: some (.int x) :: r) st Q := v_iinc hd rfl hv hq kk
theorem v_istore4 {x0 x1 x2 x3 y0 : Option Value} {r : List (Option Value)} {x : Int32} (hd : decode M.2.1 pc = .ok (.istore 4, 2)) (hq : pc + 2 = q := by rfl) (kk : V g M d kc ks S I R z q (x0 :: x1 :: x2 :: x3 :: some (.int x) :: r) st Q) : V g M d kc ks S I R z pc (x0 :: x1 :: x2 :: x3 :: y0 :: r) ((.int x) :: st) Q := v_istore hd (by simp only [List.length_cons]; omega) hq kk
theorem v_astore4 {x0 x1 x2 x3 y0 : Option Value} {r : List (Option Value)} {x : Nat} (hd : decode M.2.1 pc = .ok (.astore 4, 2)) (hq : pc + 2 = q := by rfl) (kk : V g M d kc ks S I R z q (x0 :: x1 :: x2 :: x3 :: some (.ref x) :: r) st Q) : V g M d kc ks S I R z pc (x0 :: x1 :: x2 :: x3 :: y0 :: r) ((.ref x) :: st) Q := v_astore hd (by simp only [List.length_cons]; omega) hq kk
theorem v_astoreN4 {x0 x1 x2 x3 y0 : Option Value} {r : List (Option Value)}  (hd : decode M.2.1 pc = .ok (.astore 4, 2)) (hq : pc + 2 = q := by rfl) (kk : V g M d kc ks S I R z q (x0 :: x1 :: x2 :: x3 :: some (.null) :: r) st Q) : V g M d kc ks S I R z pc (x0 :: x1 :: x2 :: x3 :: y0 :: r) ((.null) :: st) Q := v_astoreN hd (by simp only [List.length_cons]; omega) hq kk
theorem v_iinc4 {x0 x1 x2 x3 : Option Value} {r : List (Option Value)} {n : Int} {x v : Int32} (hd : decode M.2.1 pc = .ok (.iinc 4 n, 3)) (hv : x + Int32.ofInt n = v := by rfl) (hq : pc + 3 = q := by rfl) (kk : V g M d kc ks S I R z q (x0 :: x1 :: x2 :: x3 :: some (.int v) :: r) st Q) : V g M d kc ks S I R z pc (x0 :: x1 :: x2 :: x3 :: some (.int x) :: r) st Q := v_iinc hd rfl hv hq kk
theorem v_istore5 {x0 x1 x2 x3 x4 y0 : Option Value} {r : List (Option Value)} {x : Int32} (hd : decode M.2.1 pc = .ok (.istore 5, 2)) (hq : pc + 2 = q := by rfl) (kk : V g M d kc ks S I R z q (x0 :: x1 :: x2 :: x3 :: x4 :: some (.int x) :: r) st Q) : V g M d kc ks S I R z pc (x0 :: x1 :: x2 :: x3 :: x4 :: y0 :: r) ((.int x) :: st) Q := v_istore hd (by simp only [List.length_cons]; omega) hq kk
theorem v_astore5 {x0 x1 x2 x3 x4 y0 : Option Value} {r : List (Option Value)} {x : Nat} (hd : decode M.2.1 pc = .ok (.astore 5, 2)) (hq : pc + 2 = q := by rfl) (kk : V g M d kc ks S I R z q (x0 :: x1 :: x2 :: x3 :: x4 :: some (.ref x) :: r) st Q) : V g M d kc ks S I R z pc (x0 :: x1 :: x2 :: x3 :: x4 :: y0 :: r) ((.ref x) :: st) Q := v_astore hd (by simp only [List.length_cons]; omega) hq kk
theorem v_astoreN5 {x0 x1 x2 x3 x4 y0 : Option Value} {r : List (Option Value)}  (hd : decode M.2.1 pc = .ok (.astore 5, 2)) (hq : pc + 2 = q := by rfl) (kk : V g M d kc ks S I R z q (x0 :: x1 :: x2 :: x3 :: x4 :: some (.null) :: r) st Q) : V g M d kc ks S I R z pc (x0 :: x1 :: x2 :: x3 :: x4 :: y0 :: r) ((.null) :: st) Q := v_astoreN hd (by simp only [List.length_cons]; omega) hq kk
theorem v_iinc5 {x0 x1 x2 x3 x4 : Option Value} {r : List (Option Value)} {n : Int} {x v : Int32} (hd : decode M.2.1 pc = .ok (.iinc 5 n, 3)) (hv : x + Int32.ofInt n = v := by rfl) (hq : pc + 3 = q := by rfl) (kk : V g M d kc ks S I R z q (x0 :: x1 :: x2 :: x3 :: x4 :: some (.int v) :: r) st Q) : V g M d kc ks S I R z pc (x0 :: x1 :: x2 :: x3 :: x4 :: some (.int x) :: r) st Q := v_iinc hd rfl hv hq kk
theorem v_istore6 {x0 x1 x2 x3 x4 x5 y0 : Option Value} {r : List (Option Value)} {x : Int32} (hd : decode M.2.1 pc = .ok (.istore 6, 2)) (hq : pc + 2 = q := by rfl) (kk : V g M d kc ks S I R z q (x0 :: x1 :: x2 :: x3 :: x4 :: x5 :: some (.int x) :: r) st Q) : V g M d kc ks S I R z pc (x0 :: x1 :: x2 :: x3 :: x4 :: x5 :: y0 :: r) ((.int x) :: st) Q := v_istore hd (by simp only [List.length_cons]; omega) hq kk
theorem v_astore6 {x0 x1 x2 x3 x4 x5 y0 : Option Value} {r : List (Option Value)} {x : Nat} (hd : decode M.2.1 pc = .ok (.astore 6, 2)) (hq : pc + 2 = q := by rfl) (kk : V g M d kc ks S I R z q (x0 :: x1 :: x2 :: x3 :: x4 :: x5 :: some (.ref x) :: r) st Q) : V g M d kc ks S I R z pc (x0 :: x1 :: x2 :: x3 :: x4 :: x5 :: y0 :: r) ((.ref x) :: st) Q := v_astore hd (by simp only [List.length_cons]; omega) hq kk
theorem v_astoreN6 {x0 x1 x2 x3 x4 x5 y0 : Option Value} {r : List (Option Value)}  (hd : decode M.2.1 pc = .ok (.astore 6, 2)) (hq : pc + 2 = q := by rfl) (kk : V g M d kc ks S I R z q (x0 :: x1 :: x2 :: x3 :: x4 :: x5 :: some (.null) :: r) st Q) : V g M d kc ks S I R z pc (x0 :: x1 :: x2 :: x3 :: x4 :: x5 :: y0 :: r) ((.null) :: st) Q := v_astoreN hd (by simp only [List.length_cons]; omega) hq kk
theorem v_iinc6 {x0 x1 x2 x3 x4 x5 : Option Value} {r : List (Option Value)} {n : Int} {x v : Int32} (hd : decode M.2.1 pc = .ok (.iinc 6 n, 3)) (hv : x + Int32.ofInt n = v := by rfl) (hq : pc + 3 = q := by rfl) (kk : V g M d kc ks S I R z q (x0 :: x1 :: x2 :: x3 :: x4 :: x5 :: some (.int v) :: r) st Q) : V g M d kc ks S I R z pc (x0 :: x1 :: x2 :: x3 :: x4 :: x5 :: some (.int x) :: r) st Q := v_iinc hd rfl hv hq kk
theorem v_istore7 {x0 x1 x2 x3 x4 x5 x6 y0 : Option Value} {r : List (Option Value)} {x : Int32} (hd : decode M.2.1 pc = .ok (.istore 7, 2)) (hq : pc + 2 = q := by rfl) (kk : V g M d kc ks S I R z q (x0 :: x1 :: x2 :: x3 :: x4 :: x5 :: x6 :: some (.int x) :: r) st Q) : V g M d kc ks S I R z pc (x0 :: x1 :: x2 :: x3 :: x4 :: x5 :: x6 :: y0 :: r) ((.int x) :: st) Q := v_istore hd (by simp only [List.length_cons]; omega) hq kk
theorem v_astore7 {x0 x1 x2 x3 x4 x5 x6 y0 : Option Value} {r : List (Option Value)} {x : Nat} (hd : decode M.2.1 pc = .ok (.astore 7, 2)) (hq : pc + 2 = q := by rfl) (kk : V g M d kc ks S I R z q (x0 :: x1 :: x2 :: x3 :: x4 :: x5 :: x6 :: some (.ref x) :: r) st Q) : V g M d kc ks S I R z pc (x0 :: x1 :: x2 :: x3 :: x4 :: x5 :: x6 :: y0 :: r) ((.ref x) :: st) Q := v_astore hd (by simp only [List.length_cons]; omega) hq kk
theorem v_astoreN7 {x0 x1 x2 x3 x4 x5 x6 y0 : Option Value} {r : List (Option Value)}  (hd : decode M.2.1 pc = .ok (.astore 7, 2)) (hq : pc + 2 = q := by rfl) (kk : V g M d kc ks S I R z q (x0 :: x1 :: x2 :: x3 :: x4 :: x5 :: x6 :: some (.null) :: r) st Q) : V g M d kc ks S I R z pc (x0 :: x1 :: x2 :: x3 :: x4 :: x5 :: x6 :: y0 :: r) ((.null) :: st) Q := v_astoreN hd (by simp only [List.length_cons]; omega) hq kk
theorem v_iinc7 {x0 x1 x2 x3 x4 x5 x6 : Option Value} {r : List (Option Value)} {n : Int} {x v : Int32} (hd : decode M.2.1 pc = .ok (.iinc 7 n, 3)) (hv : x + Int32.ofInt n = v := by rfl) (hq : pc + 3 = q := by rfl) (kk : V g M d kc ks S I R z q (x0 :: x1 :: x2 :: x3 :: x4 :: x5 :: x6 :: some (.int v) :: r) st Q) : V g M d kc ks S I R z pc (x0 :: x1 :: x2 :: x3 :: x4 :: x5 :: x6 :: some (.int x) :: r) st Q := v_iinc hd rfl hv hq kk
theorem v_istore8 {x0 x1 x2 x3 x4 x5 x6 x7 y0 : Option Value} {r : List (Option Value)} {x : Int32} (hd : decode M.2.1 pc = .ok (.istore 8, 2)) (hq : pc + 2 = q := by rfl) (kk : V g M d kc ks S I R z q (x0 :: x1 :: x2 :: x3 :: x4 :: x5 :: x6 :: x7 :: some (.int x) :: r) st Q) : V g M d kc ks S I R z pc (x0 :: x1 :: x2 :: x3 :: x4 :: x5 :: x6 :: x7 :: y0 :: r) ((.int x) :: st) Q := v_istore hd (by simp only [List.length_cons]; omega) hq kk
theorem v_astore8 {x0 x1 x2 x3 x4 x5 x6 x7 y0 : Option Value} {r : List (Option Value)} {x : Nat} (hd : decode M.2.1 pc = .ok (.astore 8, 2)) (hq : pc + 2 = q := by rfl) (kk : V g M d kc ks S I R z q (x0 :: x1 :: x2 :: x3 :: x4 :: x5 :: x6 :: x7 :: some (.ref x) :: r) st Q) : V g M d kc ks S I R z pc (x0 :: x1 :: x2 :: x3 :: x4 :: x5 :: x6 :: x7 :: y0 :: r) ((.ref x) :: st) Q := v_astore hd (by simp only [List.length_cons]; omega) hq kk
theorem v_astoreN8 {x0 x1 x2 x3 x4 x5 x6 x7 y0 : Option Value} {r : List (Option Value)}  (hd : decode M.2.1 pc = .ok (.astore 8, 2)) (hq : pc + 2 = q := by rfl) (kk : V g M d kc ks S I R z q (x0 :: x1 :: x2 :: x3 :: x4 :: x5 :: x6 :: x7 :: some (.null) :: r) st Q) : V g M d kc ks S I R z pc (x0 :: x1 :: x2 :: x3 :: x4 :: x5 :: x6 :: x7 :: y0 :: r) ((.null) :: st) Q := v_astoreN hd (by simp only [List.length_cons]; omega) hq kk
theorem v_iinc8 {x0 x1 x2 x3 x4 x5 x6 x7 : Option Value} {r : List (Option Value)} {n : Int} {x v : Int32} (hd : decode M.2.1 pc = .ok (.iinc 8 n, 3)) (hv : x + Int32.ofInt n = v := by rfl) (hq : pc + 3 = q := by rfl) (kk : V g M d kc ks S I R z q (x0 :: x1 :: x2 :: x3 :: x4 :: x5 :: x6 :: x7 :: some (.int v) :: r) st Q) : V g M d kc ks S I R z pc (x0 :: x1 :: x2 :: x3 :: x4 :: x5 :: x6 :: x7 :: some (.int x) :: r) st Q := v_iinc hd rfl hv hq kk
theorem v_istore9 {x0 x1 x2 x3 x4 x5 x6 x7 x8 y0 : Option Value} {r : List (Option Value)} {x : Int32} (hd : decode M.2.1 pc = .ok (.istore 9, 2)) (hq : pc + 2 = q := by rfl) (kk : V g M d kc ks S I R z q (x0 :: x1 :: x2 :: x3 :: x4 :: x5 :: x6 :: x7 :: x8 :: some (.int x) :: r) st Q) : V g M d kc ks S I R z pc (x0 :: x1 :: x2 :: x3 :: x4 :: x5 :: x6 :: x7 :: x8 :: y0 :: r) ((.int x) :: st) Q := v_istore hd (by simp only [List.length_cons]; omega) hq kk
theorem v_astore9 {x0 x1 x2 x3 x4 x5 x6 x7 x8 y0 : Option Value} {r : List (Option Value)} {x : Nat} (hd : decode M.2.1 pc = .ok (.astore 9, 2)) (hq : pc + 2 = q := by rfl) (kk : V g M d kc ks S I R z q (x0 :: x1 :: x2 :: x3 :: x4 :: x5 :: x6 :: x7 :: x8 :: some (.ref x) :: r) st Q) : V g M d kc ks S I R z pc (x0 :: x1 :: x2 :: x3 :: x4 :: x5 :: x6 :: x7 :: x8 :: y0 :: r) ((.ref x) :: st) Q := v_astore hd (by simp only [List.length_cons]; omega) hq kk
theorem v_astoreN9 {x0 x1 x2 x3 x4 x5 x6 x7 x8 y0 : Option Value} {r : List (Option Value)}  (hd : decode M.2.1 pc = .ok (.astore 9, 2)) (hq : pc + 2 = q := by rfl) (kk : V g M d kc ks S I R z q (x0 :: x1 :: x2 :: x3 :: x4 :: x5 :: x6 :: x7 :: x8 :: some (.null) :: r) st Q) : V g M d kc ks S I R z pc (x0 :: x1 :: x2 :: x3 :: x4 :: x5 :: x6 :: x7 :: x8 :: y0 :: r) ((.null) :: st) Q := v_astoreN hd (by simp only [List.length_cons]; omega) hq kk
theorem v_iinc9 {x0 x1 x2 x3 x4 x5 x6 x7 x8 : Option Value} {r : List (Option Value)} {n : Int} {x v : Int32} (hd : decode M.2.1 pc = .ok (.iinc 9 n, 3)) (hv : x + Int32.ofInt n = v := by rfl) (hq : pc + 3 = q := by rfl) (kk : V g M d kc ks S I R z q (x0 :: x1 :: x2 :: x3 :: x4 :: x5 :: x6 :: x7 :: x8 :: some (.int v) :: r) st Q) : V g M d kc ks S I R z pc (x0 :: x1 :: x2 :: x3 :: x4 :: x5 :: x6 :: x7 :: x8 :: some (.int x) :: r) st Q := v_iinc hd rfl hv hq kk
theorem v_if_eq {x : Int32} {off : Int} (t : Nat) (hd : decode M.2.1 pc = .ok (.ifCond .eq off, 3)) (ht : (pc : Int) + off = (t : Int) := by decide) (hq : pc + 3 = q := by rfl) (kt : x = 0 → V g M d kc ks S I R z t L st Q) (kf : ¬ (x = 0) → V g M d kc ks S I R z q L st Q) : V g M d kc ks S I R z pc L (.int x :: st) Q := by
  subst hq
  intro p l e s m args below meth c H locs cells slots ls Rm mc ms D K C
  exact lv_if_eq C.1 C.2.1 hd ht (fun h => kt h _ _ _ _ _ _ _ _ _ _ _ _ _ _ _ _ _ _ _ C) (fun h => kf h _ _ _ _ _ _ _ _ _ _ _ _ _ _ _ _ _ _ _ C)
theorem v_if_eqT {x : Int32} {off : Int} (t : Nat) (hd : decode M.2.1 pc = .ok (.ifCond .eq off, 3)) (h : x = 0) (ht : (pc : Int) + off = (t : Int) := by decide) (kt : V g M d kc ks S I R z t L st Q) : V g M d kc ks S I R z pc L (.int x :: st) Q := v_if_eq t hd ht rfl (fun _ => kt) (fun n => absurd h n)
theorem v_if_eqF {x : Int32} {off : Int} {t : Nat} (hd : decode M.2.1 pc = .ok (.ifCond .eq off, 3)) (h : ¬ (x = 0)) (ht : (pc : Int) + off = (t : Int) := by decide) (hq : pc + 3 = q := by rfl) (kf : V g M d kc ks S I R z q L st Q) : V g M d kc ks S I R z pc L (.int x :: st) Q := v_if_eq t hd ht hq (fun n => absurd n h) (fun _ => kf)
theorem v_icmp_eq {x y : Int32} {off : Int} (t : Nat) (hd : decode M.2.1 pc = .ok (.if_icmp .eq off, 3)) (ht : (pc : Int) + off = (t : Int) := by decide) (hq : pc + 3 = q := by rfl) (kt : x = y → V g M d kc ks S I R z t L st Q) (kf : ¬ (x = y) → V g M d kc ks S I R z q L st Q) : V g M d kc ks S I R z pc L (.int y :: .int x :: st) Q := by
  subst hq
  intro p l e s m args below meth c H locs cells slots ls Rm mc ms D K C
  exact lv_icmp_eq C.1 C.2.1 hd ht (fun h => kt h _ _ _ _ _ _ _ _ _ _ _ _ _ _ _ _ _ _ _ C) (fun h => kf h _ _ _ _ _ _ _ _ _ _ _ _ _ _ _ _ _ _ _ C)
theorem v_icmp_eqT {x y : Int32} {off : Int} (t : Nat) (hd : decode M.2.1 pc = .ok (.if_icmp .eq off, 3)) (h : x = y) (ht : (pc : Int) + off = (t : Int) := by decide) (kt : V g M d kc ks S I R z t L st Q) : V g M d kc ks S I R z pc L (.int y :: .int x :: st) Q := v_icmp_eq t hd ht rfl (fun _ => kt) (fun n => absurd h n)
theorem v_icmp_eqF {x y : Int32} {off : Int} {t : Nat} (hd : decode M.2.1 pc = .ok (.if_icmp .eq off, 3)) (h : ¬ (x = y)) (ht : (pc : Int) + off = (t : Int) := by decide) (hq : pc + 3 = q := by rfl) (kf : V g M d kc ks S I R z q L st Q) : V g M d kc ks S I R z pc L (.int y :: .int x :: st) Q := v_icmp_eq t hd ht hq (fun n => absurd n h) (fun _ => kf)
theorem v_if_ne {x : Int32} {off : Int} (t : Nat) (hd : decode M.2.1 pc = .ok (.ifCond .ne off, 3)) (ht : (pc : Int) + off = (t : Int) := by decide) (hq : pc + 3 = q := by rfl) (kt : ¬ x = 0 → V g M d kc ks S I R z t L st Q) (kf : x = 0 → V g M d kc ks S I R z q L st Q) : V g M d kc ks S I R z pc L (.int x :: st) Q := by
  subst hq
  intro p l e s m args below meth c H locs cells slots ls Rm mc ms D K C
  exact lv_if_ne C.1 C.2.1 hd ht (fun h => kt h _ _ _ _ _ _ _ _ _ _ _ _ _ _ _ _ _ _ _ C) (fun h => kf h _ _ _ _ _ _ _ _ _ _ _ _ _ _ _ _ _ _ _ C)
theorem v_if_neT {x : Int32} {off : Int} (t : Nat) (hd : decode M.2.1 pc = .ok (.ifCond .ne off, 3)) (h : ¬ x = 0) (ht : (pc : Int) + off = (t : Int) := by decide) (kt : V g M d kc ks S I R z t L st Q) : V g M d kc ks S I R z pc L (.int x :: st) Q := v_if_ne t hd ht rfl (fun _ => kt) (fun n => absurd n h)
theorem v_if_neF {x : Int32} {off : Int} {t : Nat} (hd : decode M.2.1 pc = .ok (.ifCond .ne off, 3)) (h : x = 0) (ht : (pc : Int) + off = (t : Int) := by decide) (hq : pc + 3 = q := by rfl) (kf : V g M d kc ks S I R z q L st Q) : V g M d kc ks S I R z pc L (.int x :: st) Q := v_if_ne t hd ht hq (fun n => absurd h n) (fun _ => kf)
theorem v_icmp_ne {x y : Int32} {off : Int} (t : Nat) (hd : decode M.2.1 pc = .ok (.if_icmp .ne off, 3)) (ht : (pc : Int) + off = (t : Int) := by decide) (hq : pc + 3 = q := by rfl) (kt : ¬ x = y → V g M d kc ks S I R z t L st Q) (kf : x = y → V g M d kc ks S I R z q L st Q) : V g M d kc ks S I R z pc L (.int y :: .int x :: st) Q := by
  subst hq
  intro p l e s m args below meth c H locs cells slots ls Rm mc ms D K C
  exact lv_icmp_ne C.1 C.2.1 hd ht (fun h => kt h _ _ _ _ _ _ _ _ _ _ _ _ _ _ _ _ _ _ _ C) (fun h => kf h _ _ _ _ _ _ _ _ _ _ _ _ _ _ _ _ _ _ _ C)
theorem v_icmp_neT {x y : Int32} {off : Int} (t : Nat) (hd : decode M.2.1 pc = .ok (.if_icmp .ne off, 3)) (h : ¬ x = y) (ht : (pc : Int) + off = (t : Int) := by decide) (kt : V g M d kc ks S I R z t L st Q) : V g M d kc ks S I R z pc L (.int y :: .int x :: st) Q := v_icmp_ne t hd ht rfl (fun _ => kt) (fun n => absurd n h)
theorem v_icmp_neF {x y : Int32} {off : Int} {t : Nat} (hd : decode M.2.1 pc = .ok (.if_icmp .ne off, 3)) (h : x = y) (ht : (pc : Int) + off = (t : Int) := by decide) (hq : pc + 3 = q := by rfl) (kf : V g M d kc ks S I R z q L st Q) : V g M d kc ks S I R z pc L (.int y :: .int x :: st) Q := v_icmp_ne t hd ht hq (fun n => absurd h n) (fun _ => kf)
theorem v_if_lt {x : Int32} {off : Int} (t : Nat) (hd : decode M.2.1 pc = .ok (.ifCond .lt off, 3)) (ht : (pc : Int) + off = (t : Int) := by decide) (hq : pc + 3 = q := by rfl) (kt : x < 0 → V g M d kc ks S I R z t L st Q) (kf : ¬ (x < 0) → V g M d kc ks S I R z q L st Q) : V g M d kc ks S I R z pc L (.int x :: st) Q := by
  subst hq
  intro p l e s m args below meth c H locs cells slots ls Rm mc ms D K C
  exact lv_if_lt C.1 C.2.1 hd ht (fun h => kt h _ _ _ _ _ _ _ _ _ _ _ _ _ _ _ _ _ _ _ C) (fun h => kf h _ _ _ _ _ _ _ _ _ _ _ _ _ _ _ _ _ _ _ C)
theorem v_if_ltT {x : Int32} {off : Int} (t : Nat) (hd : decode M.2.1 pc = .ok (.ifCond .lt off, 3)) (h : x < 0) (ht : (pc : Int) + off = (t : Int) := by decide) (kt : V g M d kc ks S I R z t L st Q) : V g M d kc ks S I R z pc L (.int x :: st) Q := v_if_lt t hd ht rfl (fun _ => kt) (fun n => absurd h n)
theorem v_if_ltF {x : Int32} {off : Int} {t : Nat} (hd : decode M.2.1 pc = .ok (.ifCond .lt off, 3)) (h : ¬ (x < 0)) (ht : (pc : Int) + off = (t : Int) := by decide) (hq : pc + 3 = q := by rfl) (kf : V g M d kc ks S I R z q L st Q) : V g M d kc ks S I R z pc L (.int x :: st) Q := v_if_lt t hd ht hq (fun n => absurd n h) (fun _ => kf)
theorem v_icmp_lt {x y : Int32} {off : Int} (t : Nat) (hd : decode M.2.1 pc = .ok (.if_icmp .lt off, 3)) (ht : (pc : Int) + off = (t : Int) := by decide) (hq : pc + 3 = q := by rfl) (kt : x < y → V g M d kc ks S I R z t L st Q) (kf : ¬ (x < y) → V g M d kc ks S I R z q L st Q) : V g M d kc ks S I R z pc L (.int y :: .int x :: st) Q := by
  subst hq
  intro p l e s m args below meth c H locs cells slots ls Rm mc ms D K C
  exact lv_icmp_lt C.1 C.2.1 hd ht (fun h => kt h _ _ _ _ _ _ _ _ _ _ _ _ _ _ _ _ _ _ _ C) (fun h => kf h _ _ _ _ _ _ _ _ _ _ _ _ _ _ _ _ _ _ _ C)
theorem v_icmp_ltT {x y : Int32} {off : Int} (t : Nat) (hd : decode M.2.1 pc = .ok (.if_icmp .lt off, 3)) (h : x < y) (ht : (pc : Int) + off = (t : Int) := by decide) (kt : V g M d kc ks S I R z t L st Q) : V g M d kc ks S I R z pc L (.int y :: .int x :: st) Q := v_icmp_lt t hd ht rfl (fun _ => kt) (fun n => absurd h n)
theorem v_icmp_ltF {x y : Int32} {off : Int} {t : Nat} (hd : decode M.2.1 pc = .ok (.if_icmp .lt off, 3)) (h : ¬ (x < y)) (ht : (pc : Int) + off = (t : Int) := by decide) (hq : pc + 3 = q := by rfl) (kf : V g M d kc ks S I R z q L st Q) : V g M d kc ks S I R z pc L (.int y :: .int x :: st) Q := v_icmp_lt t hd ht hq (fun n => absurd n h) (fun _ => kf)
theorem v_if_ge {x : Int32} {off : Int} (t : Nat) (hd : decode M.2.1 pc = .ok (.ifCond .ge off, 3)) (ht : (pc : Int) + off = (t : Int) := by decide) (hq : pc + 3 = q := by rfl) (kt : 0 ≤ x → V g M d kc ks S I R z t L st Q) (kf : ¬ (0 ≤ x) → V g M d kc ks S I R z q L st Q) : V g M d kc ks S I R z pc L (.int x :: st) Q := by
  subst hq
  intro p l e s m args below meth c H locs cells slots ls Rm mc ms D K C
  exact lv_if_ge C.1 C.2.1 hd ht (fun h => kt h _ _ _ _ _ _ _ _ _ _ _ _ _ _ _ _ _ _ _ C) (fun h => kf h _ _ _ _ _ _ _ _ _ _ _ _ _ _ _ _ _ _ _ C)
theorem v_if_geT {x : Int32} {off : Int} (t : Nat) (hd : decode M.2.1 pc = .ok (.ifCond .ge off, 3)) (h : 0 ≤ x) (ht : (pc : Int) + off = (t : Int) := by decide) (kt : V g M d kc ks S I R z t L st Q) : V g M d kc ks S I R z pc L (.int x :: st) Q := v_if_ge t hd ht rfl (fun _ => kt) (fun n => absurd h n)
theorem v_if_geF {x : Int32} {off : Int} {t : Nat} (hd : decode M.2.1 pc = .ok (.ifCond .ge off, 3)) (h : ¬ (0 ≤ x)) (ht : (pc : Int) + off = (t : Int) := by decide) (hq : pc + 3 = q := by rfl) (kf : V g M d kc ks S I R z q L st Q) : V g M d kc ks S I R z pc L (.int x :: st) Q := v_if_ge t hd ht hq (fun n => absurd n h) (fun _ => kf)
theorem v_icmp_ge {x y : Int32} {off : Int} (t : Nat) (hd : decode M.2.1 pc = .ok (.if_icmp .ge off, 3)) (ht : (pc : Int) + off = (t : Int) := by decide) (hq : pc + 3 = q := by rfl) (kt : y ≤ x → V g M d kc ks S I R z t L st Q) (kf : ¬ (y ≤ x) → V g M d kc ks S I R z q L st Q) : V g M d kc ks S I R z pc L (.int y :: .int x :: st) Q := by
  subst hq
  intro p l e s m args below meth c H locs cells slots ls Rm mc ms D K C
  exact lv_icmp_ge C.1 C.2.1 hd ht (fun h => kt h _ _ _ _ _ _ _ _ _ _ _ _ _ _ _ _ _ _ _ C) (fun h => kf h _ _ _ _ _ _ _ _ _ _ _ _ _ _ _ _ _ _ _ C)
theorem v_icmp_geT {x y : Int32} {off : Int} (t : Nat) (hd : decode M.2.1 pc = .ok (.if_icmp .ge off, 3)) (h : y ≤ x) (ht : (pc : Int) + off = (t : Int) := by decide) (kt : V g M d kc ks S I R z t L st Q) : V g M d kc ks S I R z pc L (.int y :: .int x :: st) Q := v_icmp_ge t hd ht rfl (fun _ => kt) (fun n => absurd h n)
theorem v_icmp_geF {x y : Int32} {off : Int} {t : Nat} (hd : decode M.2.1 pc = .ok (.if_icmp .ge off, 3)) (h : ¬ (y ≤ x)) (ht : (pc : Int) + off = (t : Int) := by decide) (hq : pc + 3 = q := by rfl) (kf : V g M d kc ks S I R z q L st Q) : V g M d kc ks S I R z pc L (.int y :: .int x :: st) Q := v_icmp_ge t hd ht hq (fun n => absurd n h) (fun _ => kf)
theorem v_if_gt {x : Int32} {off : Int} (t : Nat) (hd : decode M.2.1 pc = .ok (.ifCond .gt off, 3)) (ht : (pc : Int) + off = (t : Int) := by decide) (hq : pc + 3 = q := by rfl) (kt : 0 < x → V g M d kc ks S I R z t L st Q) (kf : ¬ (0 < x) → V g M d kc ks S I R z q L st Q) : V g M d kc ks S I R z pc L (.int x :: st) Q := by
  subst hq
  intro p l e s m args below meth c H locs cells slots ls Rm mc ms D K C
  exact lv_if_gt C.1 C.2.1 hd ht (fun h => kt h _ _ _ _ _ _ _ _ _ _ _ _ _ _ _ _ _ _ _ C) (fun h => kf h _ _ _ _ _ _ _ _ _ _ _ _ _ _ _ _ _ _ _ C)
theorem v_if_gtT {x : Int32} {off : Int} (t : Nat) (hd : decode M.2.1 pc = .ok (.ifCond .gt off, 3)) (h : 0 < x) (ht : (pc : Int) + off = (t : Int) := by decide) (kt : V g M d kc ks S I R z t L st Q) : V g M d kc ks S I R z pc L (.int x :: st) Q := v_if_gt t hd ht rfl (fun _ => kt) (fun n => absurd h n)
theorem v_if_gtF {x : Int32} {off : Int} {t : Nat} (hd : decode M.2.1 pc = .ok (.ifCond .gt off, 3)) (h : ¬ (0 < x)) (ht : (pc : Int) + off = (t : Int) := by decide) (hq : pc + 3 = q := by rfl) (kf : V g M d kc ks S I R z q L st Q) : V g M d kc ks S I R z pc L (.int x :: st) Q := v_if_gt t hd ht hq (fun n => absurd n h) (fun _ => kf)
theorem v_icmp_gt {x y : Int32} {off : Int} (t : Nat) (hd : decode M.2.1 pc = .ok (.if_icmp .gt off, 3)) (ht : (pc : Int) + off = (t : Int) := by decide) (hq : pc + 3 = q := by rfl) (kt : y < x → V g M d kc ks S I R z t L st Q) (kf : ¬ (y < x) → V g M d kc ks S I R z q L st Q) : V g M d kc ks S I R z pc L (.int y :: .int x :: st) Q := by
  subst hq
  intro p l e s m args below meth c H locs cells slots ls Rm mc ms D K C
  exact lv_icmp_gt C.1 C.2.1 hd ht (fun h => kt h _ _ _ _ _ _ _ _ _ _ _ _ _ _ _ _ _ _ _ C) (fun h => kf h _ _ _ _ _ _ _ _ _ _ _ _ _ _ _ _ _ _ _ C)
theorem v_icmp_gtT {x y : Int32} {off : Int} (t : Nat) (hd : decode M.2.1 pc = .ok (.if_icmp .gt off, 3)) (h : y < x) (ht : (pc : Int) + off = (t : Int) := by decide) (kt : V g M d kc ks S I R z t L st Q) : V g M d kc ks S I R z pc L (.int y :: .int x :: st) Q := v_icmp_gt t hd ht rfl (fun _ => kt) (fun n => absurd h n)
theorem v_icmp_gtF {x y : Int32} {off : Int} {t : Nat} (hd : decode M.2.1 pc = .ok (.if_icmp .gt off, 3)) (h : ¬ (y < x)) (ht : (pc : Int) + off = (t : Int) := by decide) (hq : pc + 3 = q := by rfl) (kf : V g M d kc ks S I R z q L st Q) : V g M d kc ks S I R z pc L (.int y :: .int x :: st) Q := v_icmp_gt t hd ht hq (fun n => absurd n h) (fun _ => kf)
theorem v_if_le {x : Int32} {off : Int} (t : Nat) (hd : decode M.2.1 pc = .ok (.ifCond .le off, 3)) (ht : (pc : Int) + off = (t : Int) := by decide) (hq : pc + 3 = q := by rfl) (kt : x ≤ 0 → V g M d kc ks S I R z t L st Q) (kf : ¬ (x ≤ 0) → V g M d kc ks S I R z q L st Q) : V g M d kc ks S I R z pc L (.int x :: st) Q := by
  subst hq
  intro p l e s m args below meth c H locs cells slots ls Rm mc ms D K C
  exact lv_if_le C.1 C.2.1 hd ht (fun h => kt h _ _ _ _ _ _ _ _ _ _ _ _ _ _ _ _ _ _ _ C) (fun h => kf h _ _ _ _ _ _ _ _ _ _ _ _ _ _ _ _ _ _ _ C)
theorem v_if_leT {x : Int32} {off : Int} (t : Nat) (hd : decode M.2.1 pc = .ok (.ifCond .le off, 3)) (h : x ≤ 0) (ht : (pc : Int) + off = (t : Int) := by decide) (kt : V g M d kc ks S I R z t L st Q) : V g M d kc ks S I R z pc L (.int x :: st) Q := v_if_le t hd ht rfl (fun _ => kt) (fun n => absurd h n)
theorem v_if_leF {x : Int32} {off : Int} {t : Nat} (hd : decode M.2.1 pc = .ok (.ifCond .le off, 3)) (h : ¬ (x ≤ 0)) (ht : (pc : Int) + off = (t : Int) := by decide) (hq : pc + 3 = q := by rfl) (kf : V g M d kc ks S I R z q L st Q) : V g M d kc ks S I R z pc L (.int x :: st) Q := v_if_le t hd ht hq (fun n => absurd n h) (fun _ => kf)
theorem v_icmp_le {x y : Int32} {off : Int} (t : Nat) (hd : decode M.2.1 pc = .ok (.if_icmp .le off, 3)) (ht : (pc : Int) + off = (t : Int) := by decide) (hq : pc + 3 = q := by rfl) (kt : x ≤ y → V g M d kc ks S I R z t L st Q) (kf : ¬ (x ≤ y) → V g M d kc ks S I R z q L st Q) : V g M d kc ks S I R z pc L (.int y :: .int x :: st) Q := by
  subst hq
  intro p l e s m args below meth c H locs cells slots ls Rm mc ms D K C
  exact lv_icmp_le C.1 C.2.1 hd ht (fun h => kt h _ _ _ _ _ _ _ _ _ _ _ _ _ _ _ _ _ _ _ C) (fun h => kf h _ _ _ _ _ _ _ _ _ _ _ _ _ _ _ _ _ _ _ C)
theorem v_icmp_leT {x y : Int32} {off : Int} (t : Nat) (hd : decode M.2.1 pc = .ok (.if_icmp .le off, 3)) (h : x ≤ y) (ht : (pc : Int) + off = (t : Int) := by decide) (kt : V g M d kc ks S I R z t L st Q) : V g M d kc ks S I R z pc L (.int y :: .int x :: st) Q := v_icmp_le t hd ht rfl (fun _ => kt) (fun n => absurd h n)
theorem v_icmp_leF {x y : Int32} {off : Int} {t : Nat} (hd : decode M.2.1 pc = .ok (.if_icmp .le off, 3)) (h : ¬ (x ≤ y)) (ht : (pc : Int) + off = (t : Int) := by decide) (hq : pc + 3 = q := by rfl) (kf : V g M d kc ks S I R z q L st Q) : V g M d kc ks S I R z pc L (.int y :: .int x :: st) Q := v_icmp_le t hd ht hq (fun n => absurd n h) (fun _ => kf)
theorem v_goto {off : Int} (t : Nat) (hd : decode M.2.1 pc = .ok (.goto off, 3)) (ht : (pc : Int) + off = (t : Int) := by decide) (kt : V g M d kc ks S I R z t L st Q) : V g M d kc ks S I R z pc L st Q := by
  intro p l e s m args below meth c H locs cells slots ls Rm mc ms D K C
  exact lv_goto C.1 C.2.1 hd ht (kt _ _ _ _ _ _ _ _ _ _ _ _ _ _ _ _ _ _ _ C)
theorem v_ifnull {x : Nat} {off : Int} (hd : decode M.2.1 pc = .ok (.ifnull off, 3)) (hq : pc + 3 = q := by rfl) (kt : V g M d kc ks S I R z q L st Q) : V g M d kc ks S I R z pc L (.ref x :: st) Q := by
  subst hq
  intro p l e s m args below meth c H locs cells slots ls Rm mc ms D K C
  exact lv_ifnull C.1 C.2.1 hd (kt _ _ _ _ _ _ _ _ _ _ _ _ _ _ _ _ _ _ _ C)
theorem v_ifnullN {off : Int} (t : Nat) (hd : decode M.2.1 pc = .ok (.ifnull off, 3)) (ht : (pc : Int) + off = (t : Int) := by decide) (kt : V g M d kc ks S I R z t L st Q) : V g M d kc ks S I R z pc L (.null :: st) Q := by
  intro p l e s m args below meth c H locs cells slots ls Rm mc ms D K C
  exact lv_ifnullN C.1 C.2.1 hd ht (kt _ _ _ _ _ _ _ _ _ _ _ _ _ _ _ _ _ _ _ C)
theorem v_ifnonnullN {off : Int} (hd : decode M.2.1 pc = .ok (.ifnonnull off, 3)) (hq : pc + 3 = q := by rfl) (kt : V g M d kc ks S I R z q L st Q) : V g M d kc ks S I R z pc L (.null :: st) Q := by
  subst hq
  intro p l e s m args below meth c H locs cells slots ls Rm mc ms D K C
  exact lv_ifnonnullN C.1 C.2.1 hd (kt _ _ _ _ _ _ _ _ _ _ _ _ _ _ _ _ _ _ _ C)
theorem v_ifnonnull {x : Nat} {off : Int} (t : Nat) (hd : decode M.2.1 pc = .ok (.ifnonnull off, 3)) (ht : (pc : Int) + off = (t : Int) := by decide) (kt : V g M d kc ks S I R z t L st Q) : V g M d kc ks S I R z pc L (.ref x :: st) Q := by
  intro p l e s m args below meth c H locs cells slots ls Rm mc ms D K C
  exact lv_ifnonnull C.1 C.2.1 hd ht (kt _ _ _ _ _ _ _ _ _ _ _ _ _ _ _ _ _ _ _ C)
theorem v_tsIn {dflt lo hi : Int} {offs : Array Int} {len : Nat} {x : Int32} {off : Int} (t : Nat) (hd : decode M.2.1 pc = .ok (.tableswitch dflt lo hi offs, len)) (h1 : ¬ x.toInt < lo) (h2 : ¬ hi < x.toInt) (ho : offs[(x.toInt - lo).toNat]? = some off) (ht : (pc : Int) + off = (t : Int) := by decide) (kt : V g M d kc ks S I R z t L st Q) : V g M d kc ks S I R z pc L (.int x :: st) Q := by
  intro p l e s m args below meth c H locs cells slots ls Rm mc ms D K C
  exact lv_tableIn C.1 C.2.1 hd h1 h2 ho ht (kt _ _ _ _ _ _ _ _ _ _ _ _ _ _ _ _ _ _ _ C)
theorem v_tsOut {dflt lo hi : Int} {offs : Array Int} {len : Nat} {x : Int32} (t : Nat) (hd : decode M.2.1 pc = .ok (.tableswitch dflt lo hi offs, len)) (h : x.toInt < lo ∨ hi < x.toInt) (ht : (pc : Int) + dflt = (t : Int) := by decide) (kt : V g M d kc ks S I R z t L st Q) : V g M d kc ks S I R z pc L (.int x :: st) Q := by
  intro p l e s m args below meth c H locs cells slots ls Rm mc ms D K C
  exact lv_tableOut C.1 C.2.1 hd h ht (kt _ _ _ _ _ _ _ _ _ _ _ _ _ _ _ _ _ _ _ C)
theorem v_ls {dflt : Int} {ps : Array (Int × Int)} {len : Nat} {x : Int32} {off : Int} (t : Nat) (hd : decode M.2.1 pc = .ok (.lookupswitch dflt ps, len)) (ho : Op.lookupswitch.offset ps.toList dflt x.toInt = off) (ht : (pc : Int) + off = (t : Int) := by decide) (hp : (ps.toList.zip (ps.toList.drop 1)).all (fun (a, next) => a.1 < next.1) = true := by decide) (kt : V g M d kc ks S I R z t L st Q) : V g M d kc ks S I R z pc L (.int x :: st) Q := by
  intro p l e s m args below meth c H locs cells slots ls Rm mc ms D K C
  exact lv_lookup C.1 C.2.1 hd hp ho ht (kt _ _ _ _ _ _ _ _ _ _ _ _ _ _ _ _ _ _ _ C)
theorem v_loc (L' : List (Option Value)) (hl : L'.length = L.length) (hs : ∀ (i : Nat) (v : Value), L'[i]? = some (some v) → L[i]? = some (some v)) (kk : V g M d kc ks S I R z pc L' st Q) : V g M d kc ks S I R z pc L st Q := by
  intro p l e s m args below meth c H locs cells slots ls Rm mc ms D K C
  obtain ⟨hx, hb, hml, hr, hlk, hown, hnm, hts, hG, hbs, hw, hz, hS, hL, hR⟩ := C
  exact kk _ _ _ _ _ _ _ _ _ _ _ _ _ _ _ _ _ _ _ ⟨hx, hb, hml, hr, hlk, hown, hnm, hts, hG, hbs, hw, hz, hS, hL.sub hl hs, hR⟩
theorem v_ldc {idx : Nat} {v : Int32} (hc : Cond.constant M.1.cls idx v ∈ hc_tb) (hd : decode M.2.1 pc = .ok (.ldc idx, 2)) (hq : pc + 2 = q := by rfl) (kk : V g M d kc ks S I R z q L (.int v :: st) Q) : V g M d kc ks S I R z pc L st Q := by
  subst hq
  intro p l e s m args below meth c H locs cells slots ls Rm mc ms D K C
  exact lv_ldc C.1 C.2.1 C.2.2.2.2.2.1 (C.2.2.2.2.2.2.2.1 _ hc) hd (kk _ _ _ _ _ _ _ _ _ _ _ _ _ _ _ _ _ _ _ C)
theorem v_ldcw {idx : Nat} {v : Int32} (hc : Cond.constant M.1.cls idx v ∈ hc_tb) (hd : decode M.2.1 pc = .ok (.ldc_w idx, 3)) (hq : pc + 3 = q := by rfl) (kk : V g M d kc ks S I R z q L (.int v :: st) Q) : V g M d kc ks S I R z pc L st Q := by
  subst hq
  intro p l e s m args below meth c H locs cells slots ls Rm mc ms D K C
  exact lv_ldcw C.1 C.2.1 C.2.2.2.2.2.1 (C.2.2.2.2.2.2.2.1 _ hc) hd (kk _ _ _ _ _ _ _ _ _ _ _ _ _ _ _ _ _ _ _ C)
theorem hc_end {g : hcG} {D : va_G} {K : Nat → ClassId} {Q : hcQ} {S : hcS} {I : hcI} {R : hcR} {z : Nat} {args : Array Value} {s t : State} {H : Heap} {locs : List Loc} {v : Option Value} (hQ : Q v S I R z) (hw : hc_w D K g.1 S I R H) (hz : H.size = z) (hS : va_S (fun q => g.1 ≤ q) s.heap H locs) (ht : t.heap = H) : hc_Q g D K Q args s (.returned v) t :=
  ⟨v, S, I, R, rfl, by rw [ht, hz]; exact hQ, by rw [ht]; exact hw, hS.F ht⟩
theorem v_iret {x : Int32} (hd : decode M.2.1 pc = .ok (.ireturn, 1)) (hr' : M.2.2.2 = some .int := by rfl) (hQ : Q (some (.int x)) S I R z) : V g M d kc ks S I R z pc L [.int x] Q := by
  intro p l e s m args below meth c H locs cells slots ls Rm mc ms D K C
  obtain ⟨hx, hb, hml, hr, hlk, hown, hnm, hts, hG, hbs, hw, hz, hS, hL, hR⟩ := C
  refine W.widen (k := mc) (n := ms) (by omega) (by omega) ?_
  exact W.iret (v := x) hx hb (by rw [hr, hr']) (fun t ht hW => hc_end hQ hw hz hS ht) hS.2.2 hd hlk
theorem v_zret {x : Int32} {ty : FieldType} (hd : decode M.2.1 pc = .ok (.ireturn, 1)) (hn : narrow ty (.int x) = .int x) (hr' : M.2.2.2 = some ty := by rfl) (hQ : Q (some (.int x)) S I R z) : V g M d kc ks S I R z pc L [.int x] Q := by
  intro p l e s m args below meth c H locs cells slots ls Rm mc ms D K C
  obtain ⟨hx, hb, hml, hr, hlk, hown, hnm, hts, hG, hbs, hw, hz, hS, hL, hR⟩ := C
  refine W.widen (k := mc) (n := ms) (by omega) (by omega) ?_
  exact W.zret (v := x) (ty := ty) hx hb (by rw [hr, hr']) hn (fun t ht hW => hc_end hQ hw hz hS ht) hS.2.2 hd hlk
theorem v_vret  (hd : decode M.2.1 pc = .ok (.return_, 1)) (hr' : M.2.2.2 = none := by rfl) (hQ : Q none S I R z) : V g M d kc ks S I R z pc L [] Q := by
  intro p l e s m args below meth c H locs cells slots ls Rm mc ms D K C
  obtain ⟨hx, hb, hml, hr, hlk, hown, hnm, hts, hG, hbs, hw, hz, hS, hL, hR⟩ := C
  refine W.widen (k := mc) (n := ms) (by omega) (by omega) ?_
  exact W.vret hx hb (by rw [hr, hr']) (fun t ht hW => hc_end hQ hw hz hS ht) hS.2.2 hd hlk
theorem v_aret {x : Value} {rt : FieldType} (hd : decode M.2.1 pc = .ok (.areturn, 1)) (hv : x = .null ∨ ∃ a, x = .ref a) (hrt : (∃ n, rt = .object n) ∨ ∃ t, rt = .array t) (hr' : M.2.2.2 = some rt := by rfl) (hQ : Q (some x) S I R z) : V g M d kc ks S I R z pc L [x] Q := by
  intro p l e s m args below meth c H locs cells slots ls Rm mc ms D K C
  obtain ⟨hx, hb, hml, hr, hlk, hown, hnm, hts, hG, hbs, hw, hz, hS, hL, hR⟩ := C
  refine W.widen (k := mc) (n := ms) (by omega) (by omega) ?_
  exact W.aret (v := x) (rt := rt) hx hb (by rw [hr, hr']) hrt hv (fun t ht hW => hc_end hQ hw hz hS ht) hS.2.2 hd hlk
end VR
end
section
def hc_fl (own : String) (idx t k : Nat) : Prop := Cond.fieldLink own idx (hc_T t k).1 (hc_T t k).2.1 (hc_T t k).2.2.1 ∈ hc_tb
theorem hc_vi {t : Nat} {i : Nat → Int32} {r : Nat → Option Nat} {k : Nat} (h : hc_rf t k = false) : hc_v t i r k = .int (i k) := by simp [hc_v, h]
theorem hc_vr {t : Nat} {i : Nat → Int32} {r : Nat → Option Nat} {k : Nat} (h : hc_rf t k = true) : hc_v t i r k = va_rf (r k) := by simp [hc_v, h]
theorem hc_v_u {t : Nat} {I : hcI} {R : hcR} {a k : Nat} {x : Int32} (h : hc_rf t k = false) (j : Nat) : updV (hc_v t (I a) (R a)) k (.int x) j = hc_v t (hc_u I a k x a) (R a) j := by
  by_cases hj : j = k
  · subst hj
    simp [updV, hc_v, h, hc_u]
  · simp [updV, hc_v, hc_u, hj]
theorem hc_v_ur {t : Nat} {I : hcI} {R : hcR} {a k : Nat} {x : Option Nat} (h : hc_rf t k = true) (j : Nat) : updV (hc_v t (I a) (R a)) k (va_rf x) j = hc_v t (I a) (hc_ur R a k x a) j := by
  by_cases hj : j = k
  · subst hj
    simp [updV, hc_v, h, hc_ur]
  · simp [updV, hc_v, hc_ur, hj]
theorem hc_def0 {t : Nat} {k : Nat} (h : hc_y t k = .int ∨ hc_y t k = .boolean ∨ (∃ c, hc_y t k = .object c) ∨ (∃ c, hc_y t k = .array c)) : defaultValue (hc_y t k) = hc_v t (fun _ => 0) (fun _ => none) k := by
  unfold hc_v hc_rf
  rcases h with h | h | ⟨c, h⟩ | ⟨c, h⟩ <;> rw [h] <;> rfl
theorem hc_kinds : ∀ t, t < 8 → ∀ k, k < hc_N t → (match hc_y t k with | .int => true | .boolean => true | .object _ => true | .array _ => true | _ => false) = true := by decide +kernel
theorem hc_def {t k : Nat} (ht : t < 8) (hk : k < hc_N t) : defaultValue (hc_y t k) = hc_v t (fun _ => 0) (fun _ => none) k := by
  have h := hc_kinds t ht k hk
  refine hc_def0 ?_
  split at h
  next e => exact Or.inl e
  next e => exact Or.inr (Or.inl e)
  next c e => exact Or.inr (Or.inr (Or.inl ⟨c, e⟩))
  next c e => exact Or.inr (Or.inr (Or.inr ⟨c, e⟩))
  next => cases h
section VH
variable {g : hcG} {M : hcM} {d kc ks : Nat} {S : hcS} {I : hcI} {R : hcR} {z pc q : Nat} {L : List (Option Value)} {st : List Value} {Q : hcQ}
theorem v_getI {a t n k idx : Nat} (hl : hc_fl M.1.cls idx t k) (ha : S a = some (t, n)) (hr' : hc_rf t k = false := by rfl) (hd : decode M.2.1 pc = .ok (.getfield idx, 3)) (ht : t < 8 := by decide) (hk : k < hc_N t := by decide) (hq : pc + 3 = q := by rfl) (kk : V g M d kc ks S I R z q L (.int (I a k) :: st) Q) : V g M d kc ks S I R z pc L (.ref a :: st) Q := by
  subst hq
  intro p l e s m args below meth c H locs cells slots ls Rm mc ms D K C
  obtain ⟨hx, hb, hml, hr, hlk, hown, hnm, hts, hG, hbs, hw, hz, hS, hL, hR⟩ := C
  obtain ⟨cell, q1, q2, q3, q4⟩ := (hw a t n ha).2.ob ht
  obtain ⟨hS', hfc, kC, hkC, hkind⟩ := hG.1.1 t _ (hc_cl t ht)
  obtain ⟨cf, kf, fi, f, hi, hsl⟩ := hS' k hk
  refine W.getf hx hb hown (hts _ hl) hi (u_facts hfc hkC (u_lays hts (hc_ws t ht) hk) hi).1 q1 (by rw [q3]; exact fun h => by cases h) (v := .int (I a k)) ?_ rfl rfl hd (kk _ _ _ _ _ _ _ _ _ _ _ _ _ _ _ _ _ _ _ ⟨hx, hb, hml, hr, hlk, hown, hnm, hts, hG, hbs, hw, hz, hS, hL, hR⟩)
  rw [hsl, q4 k hk, hc_vi hr']
theorem v_getR {a t n k idx : Nat} (hl : hc_fl M.1.cls idx t k) (ha : S a = some (t, n)) {x : Nat} (hv : R a k = some x) (hr' : hc_rf t k = true := by rfl) (hd : decode M.2.1 pc = .ok (.getfield idx, 3)) (ht : t < 8 := by decide) (hk : k < hc_N t := by decide) (hq : pc + 3 = q := by rfl) (kk : V g M d kc ks S I R z q L (.ref x :: st) Q) : V g M d kc ks S I R z pc L (.ref a :: st) Q := by
  subst hq
  intro p l e s m args below meth c H locs cells slots ls Rm mc ms D K C
  obtain ⟨hx, hb, hml, hr, hlk, hown, hnm, hts, hG, hbs, hw, hz, hS, hL, hR⟩ := C
  obtain ⟨cell, q1, q2, q3, q4⟩ := (hw a t n ha).2.ob ht
  obtain ⟨hS', hfc, kC, hkC, hkind⟩ := hG.1.1 t _ (hc_cl t ht)
  obtain ⟨cf, kf, fi, f, hi, hsl⟩ := hS' k hk
  refine W.getf hx hb hown (hts _ hl) hi (u_facts hfc hkC (u_lays hts (hc_ws t ht) hk) hi).1 q1 (by rw [q3]; exact fun h => by cases h) (v := .ref x) ?_ rfl rfl hd (kk _ _ _ _ _ _ _ _ _ _ _ _ _ _ _ _ _ _ _ ⟨hx, hb, hml, hr, hlk, hown, hnm, hts, hG, hbs, hw, hz, hS, hL, hR⟩)
  rw [hsl, q4 k hk, hc_vr hr', hv]; rfl
theorem v_getRN {a t n k idx : Nat} (hl : hc_fl M.1.cls idx t k) (ha : S a = some (t, n)) (hv : R a k = none) (hr' : hc_rf t k = true := by rfl) (hd : decode M.2.1 pc = .ok (.getfield idx, 3)) (ht : t < 8 := by decide) (hk : k < hc_N t := by decide) (hq : pc + 3 = q := by rfl) (kk : V g M d kc ks S I R z q L (.null :: st) Q) : V g M d kc ks S I R z pc L (.ref a :: st) Q := by
  subst hq
  intro p l e s m args below meth c H locs cells slots ls Rm mc ms D K C
  obtain ⟨hx, hb, hml, hr, hlk, hown, hnm, hts, hG, hbs, hw, hz, hS, hL, hR⟩ := C
  obtain ⟨cell, q1, q2, q3, q4⟩ := (hw a t n ha).2.ob ht
  obtain ⟨hS', hfc, kC, hkC, hkind⟩ := hG.1.1 t _ (hc_cl t ht)
  obtain ⟨cf, kf, fi, f, hi, hsl⟩ := hS' k hk
  refine W.getf hx hb hown (hts _ hl) hi (u_facts hfc hkC (u_lays hts (hc_ws t ht) hk) hi).1 q1 (by rw [q3]; exact fun h => by cases h) (v := .null) ?_ rfl rfl hd (kk _ _ _ _ _ _ _ _ _ _ _ _ _ _ _ _ _ _ _ ⟨hx, hb, hml, hr, hlk, hown, hnm, hts, hG, hbs, hw, hz, hS, hL, hR⟩)
  rw [hsl, q4 k hk, hc_vr hr', hv]; rfl
theorem v_putI {a t n k idx : Nat} {x : Int32} (hl : hc_fl M.1.cls idx t k) (ha : S a = some (t, n)) (hd : decode M.2.1 pc = .ok (.putfield idx, 3)) (hr' : hc_rf t k = false := by rfl) (hfin : (hc_T t k).2.2.2 = false := by rfl)  (hn : narrow (hc_y t k) (.int x) = (.int x) := by rfl) (hfit : fits (hc_y t k) (.int x) = true := by rfl) (ht : t < 8 := by decide) (hk : k < hc_N t := by decide) (hq : pc + 3 = q := by rfl) (kk : V g M d kc ks S (hc_u I a k x) R z q L st Q) : V g M d kc ks S I R z pc L (.int x :: .ref a :: st) Q := by
  subst hq
  intro p l e s m args below meth c H locs cells slots ls Rm mc ms D K C
  obtain ⟨hx, hb, hml, hr, hlk, hown, hnm, hts, hG, hbs, hw, hz, hS, hL, hR⟩ := C
  obtain ⟨cell, q1, q2, q3, q4⟩ := (hw a t n ha).2.ob ht
  obtain ⟨hS', hfc, kC, hkC, hkind⟩ := hG.1.1 t _ (hc_cl t ht)
  obtain ⟨cf, kf, fi, f, hi, hsl⟩ := hS' k hk
  have hap := va_apart (own := M.1.cls) hts (hc_ws t ht) (hc_y t) (hc_yok t ht) (hc_nm t ht) hG.1 (hc_cl t ht)
  have hlay := hts _ (hc_ws t ht _ (u_in_lay hk))
  unfold u_lay at hlay
  have hst := (u_facts hfc hkC (u_lays hts (hc_ws t ht) hk) hi).1
  rw [if_neg (by rw [hfin]; decide)] at hlay
  have h6 := u_store hfc hkC hkind hlay hi (hc_yok t ht k hk) hn hfit
  refine W.putK hx hb (f := f) ⟨hown, hts _ hl, ⟨_, _, _, hi⟩, hst⟩ (by rw [q2]; exact h6) q1 q3 (by rw [hsl]; exact k2_hasslot (q4 k hk)) rfl rfl hd fun H' e1 e2 e3 => ?_
  rw [hsl] at e1 ⊢
  exact kk _ _ _ _ _ _ _ _ _ _ _ _ _ _ _ _ _ _ _ ⟨hx, hb, hml, hr, hlk, hown, hnm, hts, hG, hbs, hw.put ha (Or.inl ⟨ht, t_OB.to (V := updV (hc_v t (I a) (R a)) k (.int x)) ⟨_, e1, q2, q3, t_set q4 hap hk _⟩ (fun j _ => hc_v_u hr' j)⟩) e3 (fun _ h => hc_u_ne h) (fun _ _ => rfl), e2.trans hz, hS.put e2 e3 (hw a t n ha).1, hL, hR⟩
theorem v_putR {a t n k idx : Nat} {x : Nat} (hl : hc_fl M.1.cls idx t k) (ha : S a = some (t, n)) (hd : decode M.2.1 pc = .ok (.putfield idx, 3)) (hr' : hc_rf t k = true := by rfl) (hfin : (hc_T t k).2.2.2 = false := by rfl)  (hn : narrow (hc_y t k) (.ref x) = (.ref x) := by rfl) (hfit : fits (hc_y t k) (.ref x) = true := by rfl) (ht : t < 8 := by decide) (hk : k < hc_N t := by decide) (hq : pc + 3 = q := by rfl) (kk : V g M d kc ks S I (hc_ur R a k (some x)) z q L st Q) : V g M d kc ks S I R z pc L (.ref x :: .ref a :: st) Q := by
  subst hq
  intro p l e s m args below meth c H locs cells slots ls Rm mc ms D K C
  obtain ⟨hx, hb, hml, hr, hlk, hown, hnm, hts, hG, hbs, hw, hz, hS, hL, hR⟩ := C
  obtain ⟨cell, q1, q2, q3, q4⟩ := (hw a t n ha).2.ob ht
  obtain ⟨hS', hfc, kC, hkC, hkind⟩ := hG.1.1 t _ (hc_cl t ht)
  obtain ⟨cf, kf, fi, f, hi, hsl⟩ := hS' k hk
  have hap := va_apart (own := M.1.cls) hts (hc_ws t ht) (hc_y t) (hc_yok t ht) (hc_nm t ht) hG.1 (hc_cl t ht)
  have hlay := hts _ (hc_ws t ht _ (u_in_lay hk))
  unfold u_lay at hlay
  have hst := (u_facts hfc hkC (u_lays hts (hc_ws t ht) hk) hi).1
  rw [if_neg (by rw [hfin]; decide)] at hlay
  have h6 := u_store hfc hkC hkind hlay hi (hc_yok t ht k hk) hn hfit
  refine W.putK hx hb (f := f) ⟨hown, hts _ hl, ⟨_, _, _, hi⟩, hst⟩ (by rw [q2]; exact h6) q1 q3 (by rw [hsl]; exact k2_hasslot (q4 k hk)) rfl rfl hd fun H' e1 e2 e3 => ?_
  rw [hsl] at e1 ⊢
  exact kk _ _ _ _ _ _ _ _ _ _ _ _ _ _ _ _ _ _ _ ⟨hx, hb, hml, hr, hlk, hown, hnm, hts, hG, hbs, hw.put ha (Or.inl ⟨ht, t_OB.to (V := updV (hc_v t (I a) (R a)) k (.ref x)) ⟨_, e1, q2, q3, t_set q4 hap hk _⟩ (fun j _ => hc_v_ur (x := some x) hr' j)⟩) e3 (fun _ _ => rfl) (fun _ h => hc_ur_ne h), e2.trans hz, hS.put e2 e3 (hw a t n ha).1, hL, hR⟩
theorem v_putRN {a t n k idx : Nat}  (hl : hc_fl M.1.cls idx t k) (ha : S a = some (t, n)) (hd : decode M.2.1 pc = .ok (.putfield idx, 3)) (hr' : hc_rf t k = true := by rfl) (hfin : (hc_T t k).2.2.2 = false := by rfl)  (hn : narrow (hc_y t k) (.null) = (.null) := by rfl) (hfit : fits (hc_y t k) (.null) = true := by rfl) (ht : t < 8 := by decide) (hk : k < hc_N t := by decide) (hq : pc + 3 = q := by rfl) (kk : V g M d kc ks S I (hc_ur R a k none) z q L st Q) : V g M d kc ks S I R z pc L (.null :: .ref a :: st) Q := by
  subst hq
  intro p l e s m args below meth c H locs cells slots ls Rm mc ms D K C
  obtain ⟨hx, hb, hml, hr, hlk, hown, hnm, hts, hG, hbs, hw, hz, hS, hL, hR⟩ := C
  obtain ⟨cell, q1, q2, q3, q4⟩ := (hw a t n ha).2.ob ht
  obtain ⟨hS', hfc, kC, hkC, hkind⟩ := hG.1.1 t _ (hc_cl t ht)
  obtain ⟨cf, kf, fi, f, hi, hsl⟩ := hS' k hk
  have hap := va_apart (own := M.1.cls) hts (hc_ws t ht) (hc_y t) (hc_yok t ht) (hc_nm t ht) hG.1 (hc_cl t ht)
  have hlay := hts _ (hc_ws t ht _ (u_in_lay hk))
  unfold u_lay at hlay
  have hst := (u_facts hfc hkC (u_lays hts (hc_ws t ht) hk) hi).1
  rw [if_neg (by rw [hfin]; decide)] at hlay
  have h6 := u_store hfc hkC hkind hlay hi (hc_yok t ht k hk) hn hfit
  refine W.putK hx hb (f := f) ⟨hown, hts _ hl, ⟨_, _, _, hi⟩, hst⟩ (by rw [q2]; exact h6) q1 q3 (by rw [hsl]; exact k2_hasslot (q4 k hk)) rfl rfl hd fun H' e1 e2 e3 => ?_
  rw [hsl] at e1 ⊢
  exact kk _ _ _ _ _ _ _ _ _ _ _ _ _ _ _ _ _ _ _ ⟨hx, hb, hml, hr, hlk, hown, hnm, hts, hG, hbs, hw.put ha (Or.inl ⟨ht, t_OB.to (V := updV (hc_v t (I a) (R a)) k (.null)) ⟨_, e1, q2, q3, t_set q4 hap hk _⟩ (fun j _ => hc_v_ur (x := none) hr' j)⟩) e3 (fun _ _ => rfl) (fun _ h => hc_ur_ne h), e2.trans hz, hS.put e2 e3 (hw a t n ha).1, hL, hR⟩
theorem v_putFI {a t n k idx : Nat} {x : Int32} (hl : hc_fl M.1.cls idx t k) (ha : S a = some (t, n)) (hd : decode M.2.1 pc = .ok (.putfield idx, 3)) (hr' : hc_rf t k = false := by rfl) (hfin : (hc_T t k).2.2.2 = true := by rfl) (hini : M.1.name = "<init>" := by rfl) (hdecl : (hc_T t k).1 = M.1.cls := by rfl) (hn : narrow (hc_y t k) (.int x) = (.int x) := by rfl) (hfit : fits (hc_y t k) (.int x) = true := by rfl) (ht : t < 8 := by decide) (hk : k < hc_N t := by decide) (hq : pc + 3 = q := by rfl) (kk : V g M d kc ks S (hc_u I a k x) R z q L st Q) : V g M d kc ks S I R z pc L (.int x :: .ref a :: st) Q := by
  subst hq
  intro p l e s m args below meth c H locs cells slots ls Rm mc ms D K C
  obtain ⟨hx, hb, hml, hr, hlk, hown, hnm, hts, hG, hbs, hw, hz, hS, hL, hR⟩ := C
  obtain ⟨cell, q1, q2, q3, q4⟩ := (hw a t n ha).2.ob ht
  obtain ⟨hS', hfc, kC, hkC, hkind⟩ := hG.1.1 t _ (hc_cl t ht)
  obtain ⟨cf, kf, fi, f, hi, hsl⟩ := hS' k hk
  have hap := va_apart (own := M.1.cls) hts (hc_ws t ht) (hc_y t) (hc_yok t ht) (hc_nm t ht) hG.1 (hc_cl t ht)
  have hlay := hts _ (hc_ws t ht _ (u_in_lay hk))
  unfold u_lay at hlay
  have hst := (u_facts hfc hkC (u_lays hts (hc_ws t ht) hk) hi).1
  rw [if_pos hfin] at hlay
  have hcf : m.cls = cf := by
    obtain ⟨_, _, c', _, _, _, -, -, hf', -, -, -, hown2, -⟩ := Cond.laysFinal_spec hlay
    have e1 : c' = cf := by have := hi.symm.trans hf'; simp at this; exact this.1.symm
    rw [hdecl] at hown2
    rw [← e1]; exact Option.some.inj (hown.symm.trans hown2)
  have h6 := u_fits hfc hkC hkind (Or.inr hlay) hi (hc_yok t ht k hk) hn hfit
  refine W.putFinK hx hb hown (hts _ hl) hi hst hcf (hnm.trans hini) (by rw [q2]; exact h6) q1 q3 (by rw [hsl]; exact k2_hasslot (q4 k hk)) rfl rfl hd fun H' e1 e2 e3 => ?_
  rw [hsl] at e1 ⊢
  exact kk _ _ _ _ _ _ _ _ _ _ _ _ _ _ _ _ _ _ _ ⟨hx, hb, hml, hr, hlk, hown, hnm, hts, hG, hbs, hw.put ha (Or.inl ⟨ht, t_OB.to (V := updV (hc_v t (I a) (R a)) k (.int x)) ⟨_, e1, q2, q3, t_set q4 hap hk _⟩ (fun j _ => hc_v_u hr' j)⟩) e3 (fun _ h => hc_u_ne h) (fun _ _ => rfl), e2.trans hz, hS.put e2 e3 (hw a t n ha).1, hL, hR⟩
theorem v_putFR {a t n k idx : Nat} {x : Nat} (hl : hc_fl M.1.cls idx t k) (ha : S a = some (t, n)) (hd : decode M.2.1 pc = .ok (.putfield idx, 3)) (hr' : hc_rf t k = true := by rfl) (hfin : (hc_T t k).2.2.2 = true := by rfl) (hini : M.1.name = "<init>" := by rfl) (hdecl : (hc_T t k).1 = M.1.cls := by rfl) (hn : narrow (hc_y t k) (.ref x) = (.ref x) := by rfl) (hfit : fits (hc_y t k) (.ref x) = true := by rfl) (ht : t < 8 := by decide) (hk : k < hc_N t := by decide) (hq : pc + 3 = q := by rfl) (kk : V g M d kc ks S I (hc_ur R a k (some x)) z q L st Q) : V g M d kc ks S I R z pc L (.ref x :: .ref a :: st) Q := by
  subst hq
  intro p l e s m args below meth c H locs cells slots ls Rm mc ms D K C
  obtain ⟨hx, hb, hml, hr, hlk, hown, hnm, hts, hG, hbs, hw, hz, hS, hL, hR⟩ := C
  obtain ⟨cell, q1, q2, q3, q4⟩ := (hw a t n ha).2.ob ht
  obtain ⟨hS', hfc, kC, hkC, hkind⟩ := hG.1.1 t _ (hc_cl t ht)
  obtain ⟨cf, kf, fi, f, hi, hsl⟩ := hS' k hk
  have hap := va_apart (own := M.1.cls) hts (hc_ws t ht) (hc_y t) (hc_yok t ht) (hc_nm t ht) hG.1 (hc_cl t ht)
  have hlay := hts _ (hc_ws t ht _ (u_in_lay hk))
  unfold u_lay at hlay
  have hst := (u_facts hfc hkC (u_lays hts (hc_ws t ht) hk) hi).1
  rw [if_pos hfin] at hlay
  have hcf : m.cls = cf := by
    obtain ⟨_, _, c', _, _, _, -, -, hf', -, -, -, hown2, -⟩ := Cond.laysFinal_spec hlay
    have e1 : c' = cf := by have := hi.symm.trans hf'; simp at this; exact this.1.symm
    rw [hdecl] at hown2
    rw [← e1]; exact Option.some.inj (hown.symm.trans hown2)
  have h6 := u_fits hfc hkC hkind (Or.inr hlay) hi (hc_yok t ht k hk) hn hfit
  refine W.putFinK hx hb hown (hts _ hl) hi hst hcf (hnm.trans hini) (by rw [q2]; exact h6) q1 q3 (by rw [hsl]; exact k2_hasslot (q4 k hk)) rfl rfl hd fun H' e1 e2 e3 => ?_
  rw [hsl] at e1 ⊢
  exact kk _ _ _ _ _ _ _ _ _ _ _ _ _ _ _ _ _ _ _ ⟨hx, hb, hml, hr, hlk, hown, hnm, hts, hG, hbs, hw.put ha (Or.inl ⟨ht, t_OB.to (V := updV (hc_v t (I a) (R a)) k (.ref x)) ⟨_, e1, q2, q3, t_set q4 hap hk _⟩ (fun j _ => hc_v_ur (x := some x) hr' j)⟩) e3 (fun _ _ => rfl) (fun _ h => hc_ur_ne h), e2.trans hz, hS.put e2 e3 (hw a t n ha).1, hL, hR⟩
theorem v_iald {a n : Nat} {i : Int32} (ha : S a = some (10, n)) (hin : vp_in i n) (hd : decode M.2.1 pc = .ok (.iaload, 1)) (hq : pc + 1 = q := by rfl) (kk : V g M d kc ks S I R z q L (.int (I a i.toNatClampNeg) :: st) Q) : V g M d kc ks S I R z pc L (.int i :: .ref a :: st) Q := by
  subst hq
  intro p l e s m args below meth c H locs cells slots ls Rm mc ms D K C
  obtain ⟨hx, hb, hml, hr, hlk, hown, hnm, hts, hG, hbs, hw, hz, hS, hL, hR⟩ := C
  have hlt : i.toNatClampNeg < n := Nat.not_le.mp fun q => hin (Or.inr q)
  have hcell := (hw a 10 n ha).2.ia (by decide) (by decide)
  exact W.iald (v := .int (I a i.toNatClampNeg)) hx hb hcell ((hG.1.2 _ _ (hc_kt_at K (t := 10) (by decide) (by decide))).1 n (fun j => .int (I a j))) (fun q => by cases q) (by rw [arrV_size]; exact hin) (by rw [arrV_read _ _ hlt]) rfl rfl hd (kk _ _ _ _ _ _ _ _ _ _ _ _ _ _ _ _ _ _ _ ⟨hx, hb, hml, hr, hlk, hown, hnm, hts, hG, hbs, hw, hz, hS, hL, hR⟩)
theorem v_ialdN {a n j : Nat} (ha : S a = some (10, n)) (hj : j < n) (hn : n < 2 ^ 31) (hd : decode M.2.1 pc = .ok (.iaload, 1)) (hq : pc + 1 = q := by rfl) (kk : V g M d kc ks S I R z q L (.int (I a j) :: st) Q) : V g M d kc ks S I R z pc L (.int (nI j) :: .ref a :: st) Q := v_iald ha (vp_in_nI hj hn) hd hq (by rw [nI_clamp (by omega)]; exact kk)
theorem v_bald {a n : Nat} {i : Int32} (ha : S a = some (8, n)) (hin : vp_in i n) (hd : decode M.2.1 pc = .ok (.baload, 1)) (hq : pc + 1 = q := by rfl) (kk : V g M d kc ks S I R z q L (.int (I a i.toNatClampNeg) :: st) Q) : V g M d kc ks S I R z pc L (.int i :: .ref a :: st) Q := by
  subst hq
  intro p l e s m args below meth c H locs cells slots ls Rm mc ms D K C
  obtain ⟨hx, hb, hml, hr, hlk, hown, hnm, hts, hG, hbs, hw, hz, hS, hL, hR⟩ := C
  have hlt : i.toNatClampNeg < n := Nat.not_le.mp fun q => hin (Or.inr q)
  have hcell := (hw a 8 n ha).2.ia (by decide) (by decide)
  exact W.bald (v := .int (I a i.toNatClampNeg)) hx hb hcell ((hG.1.2 _ _ (hc_kt_at K (t := 8) (by decide) (by decide))).1 n (fun j => .int (I a j))) (fun q => by cases q) (by rw [arrV_size]; exact hin) (by rw [arrV_read _ _ hlt]) rfl rfl hd (kk _ _ _ _ _ _ _ _ _ _ _ _ _ _ _ _ _ _ _ ⟨hx, hb, hml, hr, hlk, hown, hnm, hts, hG, hbs, hw, hz, hS, hL, hR⟩)
theorem v_baldN {a n j : Nat} (ha : S a = some (8, n)) (hj : j < n) (hn : n < 2 ^ 31) (hd : decode M.2.1 pc = .ok (.baload, 1)) (hq : pc + 1 = q := by rfl) (kk : V g M d kc ks S I R z q L (.int (I a j) :: st) Q) : V g M d kc ks S I R z pc L (.int (nI j) :: .ref a :: st) Q := v_bald ha (vp_in_nI hj hn) hd hq (by rw [nI_clamp (by omega)]; exact kk)
theorem v_cald {a n : Nat} {i : Int32} (ha : S a = some (9, n)) (hin : vp_in i n) (hd : decode M.2.1 pc = .ok (.caload, 1)) (hq : pc + 1 = q := by rfl) (kk : V g M d kc ks S I R z q L (.int (I a i.toNatClampNeg) :: st) Q) : V g M d kc ks S I R z pc L (.int i :: .ref a :: st) Q := by
  subst hq
  intro p l e s m args below meth c H locs cells slots ls Rm mc ms D K C
  obtain ⟨hx, hb, hml, hr, hlk, hown, hnm, hts, hG, hbs, hw, hz, hS, hL, hR⟩ := C
  have hlt : i.toNatClampNeg < n := Nat.not_le.mp fun q => hin (Or.inr q)
  have hcell := (hw a 9 n ha).2.ia (by decide) (by decide)
  exact W.cald (v := .int (I a i.toNatClampNeg)) hx hb hcell ((hG.1.2 _ _ (hc_kt_at K (t := 9) (by decide) (by decide))).1 n (fun j => .int (I a j))) (fun q => by cases q) (by rw [arrV_size]; exact hin) (by rw [arrV_read _ _ hlt]) rfl rfl hd (kk _ _ _ _ _ _ _ _ _ _ _ _ _ _ _ _ _ _ _ ⟨hx, hb, hml, hr, hlk, hown, hnm, hts, hG, hbs, hw, hz, hS, hL, hR⟩)
theorem v_caldN {a n j : Nat} (ha : S a = some (9, n)) (hj : j < n) (hn : n < 2 ^ 31) (hd : decode M.2.1 pc = .ok (.caload, 1)) (hq : pc + 1 = q := by rfl) (kk : V g M d kc ks S I R z q L (.int (I a j) :: st) Q) : V g M d kc ks S I R z pc L (.int (nI j) :: .ref a :: st) Q := v_cald ha (vp_in_nI hj hn) hd hq (by rw [nI_clamp (by omega)]; exact kk)
theorem v_zald {a n : Nat} {i : Int32} (ha : S a = some (11, n)) (hin : vp_in i n) (hd : decode M.2.1 pc = .ok (.baload, 1)) (hq : pc + 1 = q := by rfl) (kk : V g M d kc ks S I R z q L (.int (I a i.toNatClampNeg) :: st) Q) : V g M d kc ks S I R z pc L (.int i :: .ref a :: st) Q := by
  subst hq
  intro p l e s m args below meth c H locs cells slots ls Rm mc ms D K C
  obtain ⟨hx, hb, hml, hr, hlk, hown, hnm, hts, hG, hbs, hw, hz, hS, hL, hR⟩ := C
  have hlt : i.toNatClampNeg < n := Nat.not_le.mp fun q => hin (Or.inr q)
  have hcell := (hw a 11 n ha).2.ia (by decide) (by decide)
  exact W.zald (v := .int (I a i.toNatClampNeg)) hx hb hcell ((hG.1.2 _ _ (hc_kt_at K (t := 11) (by decide) (by decide))).1 n (fun j => .int (I a j))) (fun q => by cases q) (by rw [arrV_size]; exact hin) (by rw [arrV_read _ _ hlt]) rfl rfl hd (kk _ _ _ _ _ _ _ _ _ _ _ _ _ _ _ _ _ _ _ ⟨hx, hb, hml, hr, hlk, hown, hnm, hts, hG, hbs, hw, hz, hS, hL, hR⟩)
theorem v_zaldN {a n j : Nat} (ha : S a = some (11, n)) (hj : j < n) (hn : n < 2 ^ 31) (hd : decode M.2.1 pc = .ok (.baload, 1)) (hq : pc + 1 = q := by rfl) (kk : V g M d kc ks S I R z q L (.int (I a j) :: st) Q) : V g M d kc ks S I R z pc L (.int (nI j) :: .ref a :: st) Q := v_zald ha (vp_in_nI hj hn) hd hq (by rw [nI_clamp (by omega)]; exact kk)
theorem v_aald {a n t : Nat} {i : Int32} (ha : S a = some (t, n)) {x : Nat} (hv : R a i.toNatClampNeg = some x) (hin : vp_in i n) (hd : decode M.2.1 pc = .ok (.aaload, 1)) (ht : 12 ≤ t := by decide) (hq : pc + 1 = q := by rfl) (kk : V g M d kc ks S I R z q L (.ref x :: st) Q) : V g M d kc ks S I R z pc L (.int i :: .ref a :: st) Q := by
  subst hq
  intro p l e s m args below meth c H locs cells slots ls Rm mc ms D K C
  obtain ⟨hx, hb, hml, hr, hlk, hown, hnm, hts, hG, hbs, hw, hz, hS, hL, hR⟩ := C
  have hlt : i.toNatClampNeg < n := Nat.not_le.mp fun q => hin (Or.inr q)
  obtain ⟨ht2, hcell⟩ := (hw a t n ha).2.ra ht
  have hty : (hc_a t).isReference = true := by
    have : t = 12 ∨ t = 13 ∨ t = 14 ∨ t = 15 := by omega
    rcases this with rfl | rfl | rfl | rfl <;> rfl
  exact W.aald (v := .ref x) (ty := hc_a t) hx hb hcell ((hG.1.2 _ _ (hc_kt_at K (by omega) ht2)).1 n (fun j => va_rf (R a j))) hty (fun q => by cases q) (by rw [arrV_size]; exact hin) (by rw [arrV_read _ _ hlt, hv]; rfl) rfl rfl hd (kk _ _ _ _ _ _ _ _ _ _ _ _ _ _ _ _ _ _ _ ⟨hx, hb, hml, hr, hlk, hown, hnm, hts, hG, hbs, hw, hz, hS, hL, hR⟩)
theorem v_aaldN {a n t : Nat} {i : Int32} (ha : S a = some (t, n)) (hv : R a i.toNatClampNeg = none) (hin : vp_in i n) (hd : decode M.2.1 pc = .ok (.aaload, 1)) (ht : 12 ≤ t := by decide) (hq : pc + 1 = q := by rfl) (kk : V g M d kc ks S I R z q L (.null :: st) Q) : V g M d kc ks S I R z pc L (.int i :: .ref a :: st) Q := by
  subst hq
  intro p l e s m args below meth c H locs cells slots ls Rm mc ms D K C
  obtain ⟨hx, hb, hml, hr, hlk, hown, hnm, hts, hG, hbs, hw, hz, hS, hL, hR⟩ := C
  have hlt : i.toNatClampNeg < n := Nat.not_le.mp fun q => hin (Or.inr q)
  obtain ⟨ht2, hcell⟩ := (hw a t n ha).2.ra ht
  have hty : (hc_a t).isReference = true := by
    have : t = 12 ∨ t = 13 ∨ t = 14 ∨ t = 15 := by omega
    rcases this with rfl | rfl | rfl | rfl <;> rfl
  exact W.aald (v := .null) (ty := hc_a t) hx hb hcell ((hG.1.2 _ _ (hc_kt_at K (by omega) ht2)).1 n (fun j => va_rf (R a j))) hty (fun q => by cases q) (by rw [arrV_size]; exact hin) (by rw [arrV_read _ _ hlt, hv]; rfl) rfl rfl hd (kk _ _ _ _ _ _ _ _ _ _ _ _ _ _ _ _ _ _ _ ⟨hx, hb, hml, hr, hlk, hown, hnm, hts, hG, hbs, hw, hz, hS, hL, hR⟩)
theorem v_aaldn {a n t j x : Nat} (ha : S a = some (t, n)) (hv : R a j = some x) (hj : j < n) (hn : n < 2 ^ 31) (hd : decode M.2.1 pc = .ok (.aaload, 1)) (ht : 12 ≤ t := by decide) (hq : pc + 1 = q := by rfl) (kk : V g M d kc ks S I R z q L (.ref x :: st) Q) : V g M d kc ks S I R z pc L (.int (nI j) :: .ref a :: st) Q := v_aald ha (by rw [nI_clamp (by omega)]; exact hv) (vp_in_nI hj hn) hd ht hq kk
theorem hc_arr_u {I : hcI} {a k : Nat} {x : Int32} {cA : ClassId} {n : Nat} : (arrV cA n (fun j => Value.int (I a j))).setSlot k (.int x) = arrV cA n (fun j => .int (hc_u I a k x a j)) := by
  rw [arrV_store]
  congr 1
  funext j
  by_cases hj : j = k
  · subst hj
    simp [updV, hc_u]
  · simp [updV, hc_u, hj]
theorem hc_arr_ur {R : hcR} {a k : Nat} {x : Option Nat} {cA : ClassId} {n : Nat} : (arrV cA n (fun j => va_rf (R a j))).setSlot k (va_rf x) = arrV cA n (fun j => va_rf (hc_ur R a k x a j)) := by
  rw [arrV_store]
  congr 1
  funext j
  by_cases hj : j = k
  · subst hj
    simp [updV, hc_ur]
  · simp [updV, hc_ur, hj]
theorem v_iast {a n : Nat} {i x : Int32} (ha : S a = some (10, n)) (hin : vp_in i n)  (hd : decode M.2.1 pc = .ok (.iastore, 1)) (hq : pc + 1 = q := by rfl) (kk : V g M d kc ks S (hc_u I a i.toNatClampNeg x) R z q L st Q) : V g M d kc ks S I R z pc L (.int x :: .int i :: .ref a :: st) Q := by
  subst hq
  intro p l e s m args below meth c H locs cells slots ls Rm mc ms D K C
  obtain ⟨hx, hb, hml, hr, hlk, hown, hnm, hts, hG, hbs, hw, hz, hS, hL, hR⟩ := C
  have hcell := (hw a 10 n ha).2.ia (by decide) (by decide)
  refine W.iast hx hb hcell ((hG.1.2 _ _ (hc_kt_at K (t := 10) (by decide) (by decide))).1 n (fun j => .int (I a j))) (fun q => by cases q) (by rw [arrV_size]; exact hin) rfl rfl hd fun H1 e z2 oq => ?_
  rw [hc_arr_u] at e
  exact kk _ _ _ _ _ _ _ _ _ _ _ _ _ _ _ _ _ _ _ ⟨hx, hb, hml, hr, hlk, hown, hnm, hts, hG, hbs, hw.put ha (Or.inr (Or.inl ⟨by decide, by decide, e⟩)) oq (fun _ h => hc_u_ne h) (fun _ _ => rfl), z2.trans hz, hS.put z2 oq (hw a 10 n ha).1, hL, hR⟩
theorem v_iastN {a n j : Nat} {x : Int32} (ha : S a = some (10, n)) (hj : j < n) (hb : n < 2 ^ 31)  (hd : decode M.2.1 pc = .ok (.iastore, 1)) (hq : pc + 1 = q := by rfl) (kk : V g M d kc ks S (hc_u I a j x) R z q L st Q) : V g M d kc ks S I R z pc L (.int x :: .int (nI j) :: .ref a :: st) Q := v_iast ha (vp_in_nI hj hb)  hd hq (by rw [nI_clamp (by omega)]; exact kk)
theorem v_bast {a n : Nat} {i x : Int32} (ha : S a = some (8, n)) (hin : vp_in i n) (hn : narrow .byte (.int x) = .int x) (hd : decode M.2.1 pc = .ok (.bastore, 1)) (hq : pc + 1 = q := by rfl) (kk : V g M d kc ks S (hc_u I a i.toNatClampNeg x) R z q L st Q) : V g M d kc ks S I R z pc L (.int x :: .int i :: .ref a :: st) Q := by
  subst hq
  intro p l e s m args below meth c H locs cells slots ls Rm mc ms D K C
  obtain ⟨hx, hb, hml, hr, hlk, hown, hnm, hts, hG, hbs, hw, hz, hS, hL, hR⟩ := C
  have hcell := (hw a 8 n ha).2.ia (by decide) (by decide)
  refine W.bast hx hb hcell ((hG.1.2 _ _ (hc_kt_at K (t := 8) (by decide) (by decide))).1 n (fun j => .int (I a j))) (fun q => by cases q) (by rw [arrV_size]; exact hin) rfl rfl hd fun H1 e z2 oq => ?_
  rw [hn] at e
  rw [hc_arr_u] at e
  exact kk _ _ _ _ _ _ _ _ _ _ _ _ _ _ _ _ _ _ _ ⟨hx, hb, hml, hr, hlk, hown, hnm, hts, hG, hbs, hw.put ha (Or.inr (Or.inl ⟨by decide, by decide, e⟩)) oq (fun _ h => hc_u_ne h) (fun _ _ => rfl), z2.trans hz, hS.put z2 oq (hw a 8 n ha).1, hL, hR⟩
theorem v_bastN {a n j : Nat} {x : Int32} (ha : S a = some (8, n)) (hj : j < n) (hb : n < 2 ^ 31) (hn : narrow .byte (.int x) = .int x) (hd : decode M.2.1 pc = .ok (.bastore, 1)) (hq : pc + 1 = q := by rfl) (kk : V g M d kc ks S (hc_u I a j x) R z q L st Q) : V g M d kc ks S I R z pc L (.int x :: .int (nI j) :: .ref a :: st) Q := v_bast ha (vp_in_nI hj hb) hn hd hq (by rw [nI_clamp (by omega)]; exact kk)
theorem v_cast {a n : Nat} {i x : Int32} (ha : S a = some (9, n)) (hin : vp_in i n) (hn : narrow .char (.int x) = .int x) (hd : decode M.2.1 pc = .ok (.castore, 1)) (hq : pc + 1 = q := by rfl) (kk : V g M d kc ks S (hc_u I a i.toNatClampNeg x) R z q L st Q) : V g M d kc ks S I R z pc L (.int x :: .int i :: .ref a :: st) Q := by
  subst hq
  intro p l e s m args below meth c H locs cells slots ls Rm mc ms D K C
  obtain ⟨hx, hb, hml, hr, hlk, hown, hnm, hts, hG, hbs, hw, hz, hS, hL, hR⟩ := C
  have hcell := (hw a 9 n ha).2.ia (by decide) (by decide)
  refine W.cast hx hb hcell ((hG.1.2 _ _ (hc_kt_at K (t := 9) (by decide) (by decide))).1 n (fun j => .int (I a j))) (fun q => by cases q) (by rw [arrV_size]; exact hin) rfl rfl hd fun H1 e z2 oq => ?_
  rw [hn] at e
  rw [hc_arr_u] at e
  exact kk _ _ _ _ _ _ _ _ _ _ _ _ _ _ _ _ _ _ _ ⟨hx, hb, hml, hr, hlk, hown, hnm, hts, hG, hbs, hw.put ha (Or.inr (Or.inl ⟨by decide, by decide, e⟩)) oq (fun _ h => hc_u_ne h) (fun _ _ => rfl), z2.trans hz, hS.put z2 oq (hw a 9 n ha).1, hL, hR⟩
theorem v_castN {a n j : Nat} {x : Int32} (ha : S a = some (9, n)) (hj : j < n) (hb : n < 2 ^ 31) (hn : narrow .char (.int x) = .int x) (hd : decode M.2.1 pc = .ok (.castore, 1)) (hq : pc + 1 = q := by rfl) (kk : V g M d kc ks S (hc_u I a j x) R z q L st Q) : V g M d kc ks S I R z pc L (.int x :: .int (nI j) :: .ref a :: st) Q := v_cast ha (vp_in_nI hj hb) hn hd hq (by rw [nI_clamp (by omega)]; exact kk)
theorem v_zast {a n : Nat} {i x : Int32} (ha : S a = some (11, n)) (hin : vp_in i n) (hn : narrow .boolean (.int x) = .int x) (hd : decode M.2.1 pc = .ok (.bastore, 1)) (hq : pc + 1 = q := by rfl) (kk : V g M d kc ks S (hc_u I a i.toNatClampNeg x) R z q L st Q) : V g M d kc ks S I R z pc L (.int x :: .int i :: .ref a :: st) Q := by
  subst hq
  intro p l e s m args below meth c H locs cells slots ls Rm mc ms D K C
  obtain ⟨hx, hb, hml, hr, hlk, hown, hnm, hts, hG, hbs, hw, hz, hS, hL, hR⟩ := C
  have hcell := (hw a 11 n ha).2.ia (by decide) (by decide)
  refine W.zast hx hb hcell ((hG.1.2 _ _ (hc_kt_at K (t := 11) (by decide) (by decide))).1 n (fun j => .int (I a j))) (fun q => by cases q) (by rw [arrV_size]; exact hin) rfl rfl hd fun H1 e z2 oq => ?_
  rw [hn] at e
  rw [hc_arr_u] at e
  exact kk _ _ _ _ _ _ _ _ _ _ _ _ _ _ _ _ _ _ _ ⟨hx, hb, hml, hr, hlk, hown, hnm, hts, hG, hbs, hw.put ha (Or.inr (Or.inl ⟨by decide, by decide, e⟩)) oq (fun _ h => hc_u_ne h) (fun _ _ => rfl), z2.trans hz, hS.put z2 oq (hw a 11 n ha).1, hL, hR⟩
theorem v_zastN {a n j : Nat} {x : Int32} (ha : S a = some (11, n)) (hj : j < n) (hb : n < 2 ^ 31) (hn : narrow .boolean (.int x) = .int x) (hd : decode M.2.1 pc = .ok (.bastore, 1)) (hq : pc + 1 = q := by rfl) (kk : V g M d kc ks S (hc_u I a j x) R z q L st Q) : V g M d kc ks S I R z pc L (.int x :: .int (nI j) :: .ref a :: st) Q := v_zast ha (vp_in_nI hj hb) hn hd hq (by rw [nI_clamp (by omega)]; exact kk)
theorem v_aast {a n t v tv nv : Nat} {i : Int32} (ha : S a = some (t, n)) (hv : S v = some (tv, nv)) (hin : vp_in i n) (hd : decode M.2.1 pc = .ok (.aastore, 1)) (hty : hc_a t = .object (hc_C tv) := by rfl) (ht : 12 ≤ t := by decide) (htv : tv < 8 := by decide) (hq : pc + 1 = q := by rfl) (kk : V g M d kc ks S I (hc_ur R a i.toNatClampNeg (some v)) z q L st Q) : V g M d kc ks S I R z pc L (.ref v :: .int i :: .ref a :: st) Q := by
  subst hq
  intro p l e s m args below meth c H locs cells slots ls Rm mc ms D K C
  obtain ⟨hx, hb, hml, hr, hlk, hown, hnm, hts, hG, hbs, hw, hz, hS, hL, hR⟩ := C
  have hlt : i.toNatClampNeg < n := Nat.not_le.mp fun q => hin (Or.inr q)
  have h0 : ¬ i < 0 := fun q => hin (Or.inl q)
  obtain ⟨ht2, hcell⟩ := (hw a t n ha).2.ra ht
  obtain ⟨cellV, g1, g2, g3, -⟩ := (hw v tv nv hv).2.ob htv
  have hcls := (hG.1.1 tv _ (hc_cl tv htv)).2
  have hRA := (hG.1.2 _ _ (hc_kt_at K (t := t) (by omega) ht2)).2
  simp only [hty] at hRA
  obtain ⟨kA, comp, k1, k2, k3, -⟩ := hRA
  have hcomp : comp = D.1 tv := Option.some.inj (k3.symm.trans hcls.1)
  subst hcomp
  obtain ⟨kC, hkC, -⟩ := id hcls.2
  refine W.aast hx hb hcell (fun q h => by cases h) (fun h => by cases h) k1 k2 rfl hkC ⟨h0, by rw [arrV_size]; exact hlt⟩ g1 (fun q h => by rw [g3] at h; cases h) (by rw [g2]; exact hkC) (by rw [g2]; exact va_assign hcls) rfl rfl hd fun H1 e z2 oq => ?_
  have e2 : H1[a]? = some (arrV (K t) n (fun j => va_rf (hc_ur R a i.toNatClampNeg (some v) a j))) := by
    rw [e, ← hc_arr_ur]
    rfl
  exact kk _ _ _ _ _ _ _ _ _ _ _ _ _ _ _ _ _ _ _ ⟨hx, hb, hml, hr, hlk, hown, hnm, hts, hG, hbs, hw.put ha (Or.inr (Or.inr ⟨ht, ht2, e2⟩)) oq (fun _ _ => rfl) (fun _ h => hc_ur_ne h), z2.trans hz, hS.put z2 oq (hw a t n ha).1, hL, hR⟩
theorem v_alen {a n t : Nat} (ha : S a = some (t, n)) (hd : decode M.2.1 pc = .ok (.arraylength, 1)) (ht : 8 ≤ t := by decide) (hq : pc + 1 = q := by rfl) (kk : V g M d kc ks S I R z q L (.int (nI n) :: st) Q) : V g M d kc ks S I R z pc L (.ref a :: st) Q := by
  subst hq
  intro p l e s m args below meth c H locs cells slots ls Rm mc ms D K C
  obtain ⟨hx, hb, hml, hr, hlk, hown, hnm, hts, hG, hbs, hw, hz, hS, hL, hR⟩ := C
  rcases (hw a t n ha).2 with ⟨h, -⟩ | ⟨h1, h2, hcell⟩ | ⟨h1, h2, hcell⟩
  · omega
  · exact W.alen (n := nI n) hx hb hcell ((hG.1.2 _ _ (hc_kt_at K (t := t) ht (by omega))).1 n (fun j => .int (I a j))) (by rw [arrV_size]; rfl) rfl rfl hd (kk _ _ _ _ _ _ _ _ _ _ _ _ _ _ _ _ _ _ _ ⟨hx, hb, hml, hr, hlk, hown, hnm, hts, hG, hbs, hw, hz, hS, hL, hR⟩)
  · exact W.alen (n := nI n) hx hb hcell ((hG.1.2 _ _ (hc_kt_at K (t := t) ht (by omega))).1 n (fun j => va_rf (R a j))) (by rw [arrV_size]; rfl) rfl rfl hd (kk _ _ _ _ _ _ _ _ _ _ _ _ _ _ _ _ _ _ _ ⟨hx, hb, hml, hr, hlk, hown, hnm, hts, hG, hbs, hw, hz, hS, hL, hR⟩)
theorem v_new {t idx : Nat} (hl : Cond.classLink M.1.cls idx (hc_C t) ∈ hc_tb) (hi : Cond.instantiable (hc_C t) (hc_N t) ∈ hc_tb) (hn : Cond.initialized (hc_C t) ∈ hc_tb) (hd : decode M.2.1 pc = .ok (.new idx, 3)) (ht : t < 8 := by decide) (hq : pc + 3 = q := by rfl) (kk : V g M d kc ks (fun x => if x = z then some (t, 0) else S x) (fun x => if x = z then (fun _ => 0) else I x) (fun x => if x = z then (fun _ => none) else R x) (z + 1) q L (.ref z :: st) Q) : V g M d (kc + 1) (ks + hc_N t) S I R z pc L st Q := by
  subst hq
  intro p l e s m args below meth c H locs cells slots ls Rm mc ms D K C
  obtain ⟨hx, hb, hml, hr, hlk, hown, hnm, hts, hG, hbs, hw, hz, hS, hL, hR⟩ := C
  obtain ⟨r1, r2, r3, r4, r5, r6⟩ := hR
  have hKn := hG.1.1 t _ (hc_cl t ht)
  subst hz
  refine W.newcK hx hb hown (hts _ hl) (hts _ hi) (hts _ hn) rfl hd (by omega) (by omega) hKn.2.1 rfl fun H1 kC hkC e1 z1 o1 => ?_
  have hcell := (u_born (hc_y t) hts (hc_ws t ht) hKn hkC e1 (hc_yok t ht)).to (V' := hc_v t (fun _ => 0) (fun _ => none)) (fun k hk => hc_def ht hk)
  exact kk _ _ _ _ _ _ _ _ _ _ _ _ _ _ _ _ _ _ _ ⟨hx, hb, hml, hr, hlk, hown, hnm, hts, hG, hbs, hw.new (Nat.le_trans hbs hS.1) (Or.inl ⟨ht, hcell⟩) o1, z1, ⟨Nat.le_trans hS.1 (by omega), fun x h1 h2 => (o1 x (Nat.lt_of_lt_of_le h1 hS.1)).trans (hS.2.1 x h1 h2), hS.2.2⟩, hL, r1, r2, by omega, by omega, r5, r6⟩
theorem v_newa {t : Nat} {atype : ArrayType} {n : Int32} (N : Nat) (hac : Cond.arrayClass (hc_a t) ∈ hc_tb) (hd : decode M.2.1 pc = .ok (.newarray atype, 2)) (hn : ¬ n < 0) (hN : n.toNatClampNeg = N) (hty : newarray.typeOf atype = hc_a t := by rfl) (hsm : N ≤ 4096 := by decide) (h8 : 8 ≤ t := by decide) (ht : t < 12 := by decide) (hq : pc + 2 = q := by rfl) (kk : V g M d kc ks (fun x => if x = z then some (t, N) else S x) (fun x => if x = z then (fun _ => 0) else I x) (fun x => if x = z then (fun _ => none) else R x) (z + 1) q L (.ref z :: st) Q) : V g M d (kc + 1) (ks + N) S I R z pc L (.int n :: st) Q := by
  subst hq
  intro p l e s m args below meth c H locs cells slots ls Rm mc ms D K C
  obtain ⟨hx, hb, hml, hr, hlk, hown, hnm, hts, hG, hbs, hw, hz, hS, hL, hR⟩ := C
  obtain ⟨r1, r2, r3, r4, r5, r6⟩ := hR
  subst hz
  have hcb : componentBytes (hc_a t) ≤ 8 := by
    have : t = 8 ∨ t = 9 ∨ t = 10 ∨ t = 11 := by omega
    rcases this with rfl | rfl | rfl | rfl <;> decide
  refine va_newaK hx hb (by rw [hty]; exact hts _ hac) rfl hd rfl hn hN (by rw [hty]; exact Nat.le_trans (Nat.mul_le_mul hsm hcb) (by decide)) (by omega) (by omega) rfl fun H1 cA e1 z1 o1 hAr hNm => ?_
  have hKt : s.vm.findClass ("[" ++ (hc_a t).toString) = some (K t) := by
    have h2 := (hG.1.2 _ _ (hc_kt_at K (t := t) h8 (by omega))).2
    have : t = 8 ∨ t = 9 ∨ t = 10 ∨ t = 11 := by omega
    rcases this with rfl | rfl | rfl | rfl <;> exact h2
  rw [hty] at hNm e1
  have hcA : cA = K t := Option.some.inj (hNm.symm.trans hKt)
  subst hcA
  have e2 : H1[H.size]? = some (arrV (K t) N (fun j => .int ((fun _ => (0 : Int32)) j))) := by
    rw [e1]
    have : t = 8 ∨ t = 9 ∨ t = 10 ∨ t = 11 := by omega
    rcases this with rfl | rfl | rfl | rfl <;> rfl
  exact kk _ _ _ _ _ _ _ _ _ _ _ _ _ _ _ _ _ _ _ ⟨hx, hb, hml, hr, hlk, hown, hnm, hts, hG, hbs, hw.new (Nat.le_trans hbs hS.1) (Or.inr (Or.inl ⟨h8, ht, e2⟩)) o1, z1, ⟨Nat.le_trans hS.1 (by omega), fun x h1 h2 => (o1 x (Nat.lt_of_lt_of_le h1 hS.1)).trans (hS.2.1 x h1 h2), hS.2.2⟩, hL, r1, r2, by omega, by omega, r5, r6⟩
theorem v_anew {t tc idx : Nat} {n : Int32} (N : Nat) (hl : Cond.classLink M.1.cls idx (hc_C tc) ∈ hc_tb) (hd : decode M.2.1 pc = .ok (.anewarray idx, 3)) (hn : ¬ n < 0) (hN : n.toNatClampNeg = N) (hty : hc_a t = .object (hc_C tc) := by rfl) (hsm : N ≤ 4096 := by decide) (h8 : 12 ≤ t := by decide) (ht : t < 16 := by decide) (hq : pc + 3 = q := by rfl) (kk : V g M d kc ks (fun x => if x = z then some (t, N) else S x) (fun x => if x = z then (fun _ => 0) else I x) (fun x => if x = z then (fun _ => none) else R x) (z + 1) q L (.ref z :: st) Q) : V g M d (kc + 1) (ks + N) S I R z pc L (.int n :: st) Q := by
  subst hq
  intro p l e s m args below meth c H locs cells slots ls Rm mc ms D K C
  obtain ⟨hx, hb, hml, hr, hlk, hown, hnm, hts, hG, hbs, hw, hz, hS, hL, hR⟩ := C
  obtain ⟨r1, r2, r3, r4, r5, r6⟩ := hR
  subst hz
  subst hN
  have hover : va_AO (hc_C tc) s := by
    obtain ⟨a1, a2, a3, a4⟩ := hG.2.2.1
    have : t = 12 ∨ t = 13 ∨ t = 14 ∨ t = 15 := by omega
    rcases this with rfl | rfl | rfl | rfl <;> (have e := FieldType.object.inj hty; rw [← e]; assumption)
  refine W.anew hx hb hown (hts _ hl) (va_AO.use hover) rfl hd rfl hn (Nat.le_trans (Nat.mul_le_mul hsm (Nat.le_refl 4)) (by decide)) (by omega) (by omega) fun cA kA comp f1 f2 f3 f4 => ?_
  generalize hH1 : H.push ({ cls := cA, slots := Array.replicate n.toNatClampNeg .null, vm := .none } : Cell) = H1
  have z1 : H1.size = H.size + 1 := by rw [← hH1, Array.size_push]
  have e1 : H1[H.size]? = some (arrV cA n.toNatClampNeg (fun _ => .null)) := by rw [← hH1, Array.getElem?_push_size, ← arrV_new]
  have o1 : ∀ q : Nat, q < H.size → H1[q]? = H[q]? := fun q hq => by rw [← hH1, Array.getElem?_push, if_neg (Nat.ne_of_lt hq)]
  have hRA := (hG.1.2 _ _ (hc_kt_at K (t := t) (by omega) ht)).2
  simp only [hty] at hRA
  obtain ⟨kA', comp', k1, k2, k3, k4⟩ := hRA
  have hcA : cA = K t := Option.some.inj (f1.symm.trans k4)
  subst hcA
  have e2 : H1[H.size]? = some (arrV (K t) n.toNatClampNeg (fun j => va_rf ((fun _ => none) j))) := e1
  exact kk _ _ _ _ _ _ _ _ _ _ _ _ _ _ _ _ _ _ _ ⟨hx, hb, hml, hr, hlk, hown, hnm, hts, hG, hbs, hw.new (Nat.le_trans hbs hS.1) (Or.inr (Or.inr ⟨h8, ht, e2⟩)) o1, z1, ⟨Nat.le_trans hS.1 (by omega), fun x h1 h2 => (o1 x (Nat.lt_of_lt_of_le h1 hS.1)).trans (hS.2.1 x h1 h2), hS.2.2⟩, hL, r1, r2, by omega, by omega, r5, r6⟩
end VH
end
section
abbrev hc_push (v : Option Value) (r : List Value) : List Value := match v with
  | none => r
  | some x => x :: r
def hc_mt (N : hcM) (k : Nat) : Prop := Cond.code N.1 N.2.1 N.2.2.1 N.2.2.2 ∈ hc_tb ∧ Cond.initialized N.1.cls ∈ hc_tb ∧ (N.1.cls ≠ "java/lang/invoke/MethodHandle" ∧ N.1.cls ≠ "java/lang/invoke/VarHandle" ∧ (parseMethodDescriptor N.1.desc).map (fun d => d.parameters.length) = some k) ∧ N.2.2.1 ≤ 41
theorem hc_good {N : hcM} {k : Nat} (h : hc_mt N k) : GoodIn hc_tb (.code N.1 N.2.1 N.2.2.1 N.2.2.2 :: hc_tb) := fun w hw => (List.mem_cons.mp hw).elim (fun e => by rw [e]; exact hc_tb_self _ h.1) (hc_tb_self w)
theorem hc_blind {g : hcG} {D : va_G} {K : Nat → ClassId} {S : hcS} {I : hcI} {R : hcR} {z : Nat} {As : List Value} : FrameBlind (hc_P g D K S I R z As) := fun a U f mk ⟨q0, q1, q2, q3, q4⟩ => ⟨q0, q1, q2, q3, q4.call f mk a⟩
theorem hc_pre {g : hcG} {M : hcM} {d kc ks : Nat} {S : hcS} {I : hcI} {R : hcR} {z : Nat} {L : List (Option Value)} {p : Program} {s : State} {m : MethodId} {args : Array Value} {meth : Method} {c : Code} {H : Heap} {locs : List Loc} {cells slots : Nat} {ls : Array Slot} {Rm : Room} {mc ms : Nat} {D : va_G} {K : Nat → ClassId} (C : hc_X g M d kc ks S I R z L p s m args meth c H locs cells slots ls Rm mc ms D K) (As : List Value) : ∀ U : State, U.heap = H → s.WarmedH U.vm → hc_P g D K S I R z As As.toArray U := by
  obtain ⟨hx, hb, hml, hr, hlk, hown, hnm, hts, hG, hbs, hw, hz, hS, hL, hR⟩ := C
  intro U hU hW
  refine ⟨rfl, by rw [hU]; exact hz, ?_, by rw [hU]; exact hw, hG.go hW (fun q h1 h2 => by rw [hU]; exact hS.2.1 q h1 h2)⟩
  rw [← hz]
  exact Nat.le_trans hbs hS.1
theorem hc_after {g : hcG} {M : hcM} {d kc ks kc' ks' : Nat} {S : hcS} {I : hcI} {R : hcR} {z pc : Nat} {L : List (Option Value)} {Q Q' : hcQ} {p : Program} {l : Launch} {e : Env} {s : State} {m : MethodId} {args a : Array Value} {below : List Frame} {meth : Method} {c : Code} {H : Heap} {locs : List Loc} {cells slots : Nat} {ls : Array Slot} {Rm : Room} {mc ms : Nat} {D : va_G} {K : Nat → ClassId} {st0 rest : List Value}
    (C : hc_X g M d (kc + kc') (ks + ks') S I R z L p s m args meth c H locs cells slots ls Rm mc ms D K) (hr : va_Run p l e Rm s m args below meth c H locs cells slots kc' ks' (F0 m pc ls st0) rest (hc_Q g D K Q' a) (fun q => g.1 ≤ q))
    (kk : ∀ v S' I' R' z', Q' v S' I' R' z' → V g M d kc ks S' I' R' z' (pc + 3) L (hc_push v rest) Q) : W p l e Rm s m args below meth c H locs cells slots (MQ below (hc_Q g D K Q) args s mc ms (fun q => g.1 ≤ q)) (F0 m pc ls st0) := by
  obtain ⟨hx, hb, hml, hrt, hlk, hown, hnm, hts, hG, hbs, hw, hz, hS, hL, r1, r2, r3, r4, r5, r6⟩ := C
  intro T hT X
  obtain ⟨v, st₀, t, T', L', h0, X', hL', e1, e2, ⟨v', S', I', R', ho, hQ', hw', hz', hk'⟩, st⟩ := hr T hT X
  cases ho
  rw [h0] at hz' hk'
  have hz2 : H.size ≤ T'.heap.size := by rw [e1]; exact hz'
  have hS2 : va_S (fun q => g.1 ≤ q) s.heap T'.heap (locs ++ L') := by
    refine ⟨Nat.le_trans hS.1 hz2, fun q h1 h2 => ?_, fun q hq => ?_⟩
    · rw [e1, hk' q (Nat.lt_of_lt_of_le h1 hS.1) h2]
      exact hS.2.1 q h1 h2
    · rcases List.mem_append.mp hq with h | h
      · exact hS.2.2 q h
      · exact hL' q h
  obtain ⟨t2, a1, b1⟩ := kk v S' I' R' _ hQ' p l e s m args below meth c T'.heap (locs ++ L') (cells + kc') (slots + ks') ls Rm mc ms D K ⟨hx, hb, hml, hrt, hlk, hown, hnm, hts, hG, hbs, by rw [e1]; exact hw', by rw [e1], hS2, hL, r1, r2, by omega, by omega, r5, r6⟩ T' rfl X'
  refine ⟨t2, st t2 ?_, b1⟩
  have e3 : v.toList ++ rest = hc_push v rest := by cases v <;> rfl
  show Steps p.tables e below (T'.setTop (F0 m (pc + 3) ls (v.toList ++ rest))) t2
  rw [e3]
  exact a1
section VC
variable {g : hcG} {M : hcM} {d kc ks : Nat} {S : hcS} {I : hcI} {R : hcR} {z pc q : Nat} {L : List (Option Value)} {st : List Value} {Q : hcQ}
theorem v_callS {N : hcM} {k idx d' kc' ks' : Nat}  (As : List Value) (hl : Cond.methodLink M.1.cls idx N.1 ∈ hc_tb) (hs : Cond.static N.1 ∈ hc_tb) (hm : hc_mt N k) (hd : decode M.2.1 pc = .ok (.invokestatic idx, 3)) (hn : As.length = k) (hrest : (st.map fun v => v.category).sum ≤ 8) (hdd : d' + 1 ≤ d) (hq : pc + 3 = q) (hcl : Cl g N d' kc' ks' S I R z As (fun v S' I' R' z' => V g M d kc ks S' I' R' z' q L (hc_push v st) Q)) : V g M d (kc + kc') (ks + ks') S I R z pc L (As.reverse ++ st) Q := by
  subst hq
  intro p l e s m args below meth c H locs cells slots ls Rm mc ms D K C
  obtain ⟨hx, hb, hml, hr, hlk, hown, hnm, hts, hG, hbs, hw, hz, hS, hL, hR⟩ := id C
  obtain ⟨r1, r2, r3, r4, r5, r6⟩ := hR
  obtain ⟨m1, m2, m3, m4⟩ := id hm
  refine hc_after C (va_runS (As := As) (rest := st) ⟨hx, hb, hml, hown, hts⟩ (hcl l D K) ⟨(callB_of (Ts := hc_tb) k hts (hc_good hm) rfl rfl rfl (hts _ m2) (hts _ hl) m3 ⟨by show d' + 1 ≤ _; omega, by show 8 + (N.2.2.1 + 11) + 60 * d' ≤ _; omega⟩), hts _ hs⟩ ⟨hc_blind, hc_pre C As⟩ rfl hn hL.1.1 rfl (lv_room hrest) hd ⟨by omega, by omega⟩) (fun v S' I' R' z' h => h)
theorem v_callSN {N : hcM} {k idx d' kc' ks' : Nat} {host : String} (As : List Value) (hl : Cond.methodLinkNest M.1.cls idx N.1 host ∈ hc_nst) (hs : Cond.static N.1 ∈ hc_tb) (hm : hc_mt N k) (hd : decode M.2.1 pc = .ok (.invokestatic idx, 3)) (hn : As.length = k) (hrest : (st.map fun v => v.category).sum ≤ 8) (hdd : d' + 1 ≤ d) (hq : pc + 3 = q) (hcl : Cl g N d' kc' ks' S I R z As (fun v S' I' R' z' => V g M d kc ks S' I' R' z' q L (hc_push v st) Q)) : V g M d (kc + kc') (ks + ks') S I R z pc L (As.reverse ++ st) Q := by
  subst hq
  intro p l e s m args below meth c H locs cells slots ls Rm mc ms D K C
  obtain ⟨hx, hb, hml, hr, hlk, hown, hnm, hts, hG, hbs, hw, hz, hS, hL, hR⟩ := id C
  obtain ⟨r1, r2, r3, r4, r5, r6⟩ := hR
  obtain ⟨m1, m2, m3, m4⟩ := id hm
  refine hc_after C (va_runSN (As := As) (rest := st) ⟨hx, hb, hml, hown, hts⟩ (hcl l D K) ⟨(va_cnB (Ts := hc_tb) k hts (hc_good hm) rfl rfl rfl (hG.2.1 _ hl) (hts _ m2) m3 ⟨by show d' + 1 ≤ _; omega, by show 8 + (N.2.2.1 + 11) + 60 * d' ≤ _; omega⟩), hts _ hs, trivial⟩ ⟨hc_blind, hc_pre C As⟩ rfl hn hL.1.1 rfl (lv_room hrest) hd ⟨by omega, by omega⟩) (fun v S' I' R' z' h => h)
theorem v_callV {N : hcM} {k idx d' kc' ks' : Nat} {a t n : Nat} (As : List Value) (hl : Cond.methodLink M.1.cls idx N.1 ∈ hc_tb) (hi : Cond.instanceMethod N.1 ∈ hc_tb ∧ Cond.selects N.1.cls N.1 N.1 ∈ hc_tb) (ha : S a = some (t, n)) (hC : hc_C t = N.1.cls) (ht : t < 8) (hm : hc_mt N k) (hd : decode M.2.1 pc = .ok (.invokevirtual idx, 3)) (hn : As.length = k) (hrest : (st.map fun v => v.category).sum ≤ 8) (hdd : d' + 1 ≤ d) (hq : pc + 3 = q) (hcl : Cl g N d' kc' ks' S I R z (.ref a :: As) (fun v S' I' R' z' => V g M d kc ks S' I' R' z' q L (hc_push v st) Q)) : V g M d (kc + kc') (ks + ks') S I R z pc L (As.reverse ++ .ref a :: st) Q := by
  subst hq
  intro p l e s m args below meth c H locs cells slots ls Rm mc ms D K C
  obtain ⟨hx, hb, hml, hr, hlk, hown, hnm, hts, hG, hbs, hw, hz, hS, hL, hR⟩ := id C
  obtain ⟨r1, r2, r3, r4, r5, r6⟩ := hR
  obtain ⟨m1, m2, m3, m4⟩ := id hm
  refine hc_after C (va_runV (C := N.1.cls) (As := As) (rest := st) ⟨hx, hb, hml, hown, hts⟩ (hcl l D K) ⟨(callB_of (Ts := hc_tb) k hts (hc_good hm) rfl rfl rfl (hts _ m2) (hts _ hl) m3 ⟨by show d' + 1 ≤ _; omega, by show 8 + (N.2.2.1 + 11) + 60 * d' ≤ _; omega⟩), hts _ hi.1, hts _ hi.2⟩ ⟨hc_blind, (by obtain ⟨cell, q1, q2, q3, -⟩ := (hw a t n ha).2.ob ht; exact ⟨cell, q1, by rw [q3]; rfl, by rw [q2, ← hC]; exact (hG.1.1 t _ (hc_cl t ht)).2.1⟩), hc_pre C (.ref a :: As)⟩ rfl hn hL.1.1 rfl (lv_room hrest) hd ⟨by omega, by omega⟩) (fun v S' I' R' z' h => h)
theorem v_callT {N : hcM} {k idx d' kc' ks' : Nat} {i : Nat} (As : List Value) (hl : Cond.methodLink M.1.cls idx N.1 ∈ hc_tb) (hi : Cond.instanceMethod N.1 ∈ hc_tb ∧ Cond.selects N.1.cls N.1 N.1 ∈ hc_tb) (hi6 : i < 6) (hC : N.1.cls = "java/lang/String") (hm : hc_mt N k) (hd : decode M.2.1 pc = .ok (.invokevirtual idx, 3)) (hn : As.length = k) (hrest : (st.map fun v => v.category).sum ≤ 8) (hdd : d' + 1 ≤ d) (hq : pc + 3 = q) (hcl : Cl g N d' kc' ks' S I R z (.ref (g.2.2.1 i) :: As) (fun v S' I' R' z' => V g M d kc ks S' I' R' z' q L (hc_push v st) Q)) : V g M d (kc + kc') (ks + ks') S I R z pc L (As.reverse ++ .ref (g.2.2.1 i) :: st) Q := by
  subst hq
  intro p l e s m args below meth c H locs cells slots ls Rm mc ms D K C
  obtain ⟨hx, hb, hml, hr, hlk, hown, hnm, hts, hG, hbs, hw, hz, hS, hL, hR⟩ := id C
  obtain ⟨r1, r2, r3, r4, r5, r6⟩ := hR
  obtain ⟨m1, m2, m3, m4⟩ := id hm
  refine hc_after C (va_runV (C := N.1.cls) (As := As) (rest := st) ⟨hx, hb, hml, hown, hts⟩ (hcl l D K) ⟨(callB_of (Ts := hc_tb) k hts (hc_good hm) rfl rfl rfl (hts _ m2) (hts _ hl) m3 ⟨by show d' + 1 ≤ _; omega, by show 8 + (N.2.2.1 + 11) + 60 * d' ≤ _; omega⟩), hts _ hi.1, hts _ hi.2⟩ ⟨hc_blind, (by rw [hC]; exact vk_recv hG.2.2.2.2.1.2 hi6 hS), hc_pre C (.ref (g.2.2.1 i) :: As)⟩ rfl hn hL.1.1 rfl (lv_room hrest) hd ⟨by omega, by omega⟩) (fun v S' I' R' z' h => h)
theorem v_callI {N : hcM} {k idx d' kc' ks' : Nat} {a : Nat} (As : List Value) (hl : Cond.methodLink M.1.cls idx N.1 ∈ hc_tb) (hi : Cond.instanceMethod N.1 ∈ hc_tb) (hini : N.1.name = "<init>") (hret : N.2.2.2 = none) (hm : hc_mt N k) (hd : decode M.2.1 pc = .ok (.invokespecial idx, 3)) (hn : As.length = k) (hrest : (st.map fun v => v.category).sum ≤ 8) (hdd : d' + 1 ≤ d) (hq : pc + 3 = q) (hcl : Cl g N d' kc' ks' S I R z (.ref a :: As) (fun v S' I' R' z' => V g M d kc ks S' I' R' z' q L (hc_push v st) Q)) : V g M d (kc + kc') (ks + ks') S I R z pc L (As.reverse ++ .ref a :: st) Q := by
  subst hq
  intro p l e s m args below meth c H locs cells slots ls Rm mc ms D K C
  obtain ⟨hx, hb, hml, hr, hlk, hown, hnm, hts, hG, hbs, hw, hz, hS, hL, hR⟩ := id C
  obtain ⟨r1, r2, r3, r4, r5, r6⟩ := hR
  obtain ⟨ny, nc, nn, nr⟩ := N
  have hret2 : nr = none := hret
  subst hret2
  obtain ⟨m1, m2, m3, m4⟩ := id hm
  have m5 : nn ≤ 41 := m4
  refine hc_after C (va_runI (As := As) (rest := st) ⟨hx, hb, hml, hown, hts⟩ (hcl l D K) ⟨(callB_of (Ts := hc_tb) k hts (hc_good hm) rfl rfl rfl (hts _ m2) (hts _ hl) m3 ⟨by show d' + 1 ≤ _; omega, by show 8 + (nn + 11) + 60 * d' ≤ _; omega⟩), hini, hts _ hi⟩ ⟨hc_blind, hc_pre C (.ref a :: As)⟩ rfl hn hL.1.1 rfl (lv_room hrest) hd ⟨by omega, by omega⟩) (fun v S' I' R' z' h => h)
theorem v_callIN {N : hcM} {k idx d' kc' ks' : Nat} {a : Nat} {host : String} (As : List Value) (hl : Cond.methodLinkNest M.1.cls idx N.1 host ∈ hc_nst) (hi : Cond.instanceMethod N.1 ∈ hc_tb) (hini : N.1.name = "<init>") (hret : N.2.2.2 = none) (hm : hc_mt N k) (hd : decode M.2.1 pc = .ok (.invokespecial idx, 3)) (hn : As.length = k) (hrest : (st.map fun v => v.category).sum ≤ 8) (hdd : d' + 1 ≤ d) (hq : pc + 3 = q) (hcl : Cl g N d' kc' ks' S I R z (.ref a :: As) (fun v S' I' R' z' => V g M d kc ks S' I' R' z' q L (hc_push v st) Q)) : V g M d (kc + kc') (ks + ks') S I R z pc L (As.reverse ++ .ref a :: st) Q := by
  subst hq
  intro p l e s m args below meth c H locs cells slots ls Rm mc ms D K C
  obtain ⟨hx, hb, hml, hr, hlk, hown, hnm, hts, hG, hbs, hw, hz, hS, hL, hR⟩ := id C
  obtain ⟨r1, r2, r3, r4, r5, r6⟩ := hR
  obtain ⟨ny, nc, nn, nr⟩ := N
  have hret2 : nr = none := hret
  subst hret2
  obtain ⟨m1, m2, m3, m4⟩ := id hm
  have m5 : nn ≤ 41 := m4
  refine hc_after C (va_runIN (As := As) (rest := st) ⟨hx, hb, hml, hown, hts⟩ (hcl l D K) ⟨(va_cnB (Ts := hc_tb) k hts (hc_good hm) rfl rfl rfl (hG.2.1 _ hl) (hts _ m2) m3 ⟨by show d' + 1 ≤ _; omega, by show 8 + (nn + 11) + 60 * d' ≤ _; omega⟩), hini, hts _ hi⟩ ⟨hc_blind, hc_pre C (.ref a :: As)⟩ rfl hn hL.1.1 rfl (lv_room hrest) hd ⟨by omega, by omega⟩) (fun v S' I' R' z' h => h)
theorem v_obj {idx a : Nat} (hl : Cond.methodLink M.1.cls idx Lib.objectInit ∈ hc_tb) (h1 : Cond.instanceMethod Lib.objectInit ∈ hc_tb) (h2 : Cond.code Lib.objectInit ⟨#[0xb1]⟩ 1 none ∈ hc_tb) (hd : decode M.2.1 pc = .ok (.invokespecial idx, 3)) (hdd : 1 ≤ d := by decide) (hst : (st.map fun v => v.category).sum ≤ 8 := by decide) (hq : pc + 3 = q := by rfl) (kk : V g M d kc ks S I R z q L st Q) : V g M d kc ks S I R z pc L (.ref a :: st) Q := by
  subst hq
  intro p l e s m args below meth c H locs cells slots ls Rm mc ms D K C
  obtain ⟨hx, hb, hml, hr, hlk, hown, hnm, hts, hG, hbs, hw, hz, hS, hL, hR⟩ := id C
  obtain ⟨r1, r2, r3, r4, r5, r6⟩ := hR
  refine W.objInit hx hb hown (hts _ hl) (hts _ h1) (hts _ h2) rfl (hL.1.1.trans hml.symm) rfl hd (by omega) ?_ (kk _ _ _ _ _ _ _ _ _ _ _ _ _ _ _ _ _ _ _ C)
  have := lv_room (m := m) (pc := pc) (ls := ls) (rest := .ref a :: st) hst
  omega
theorem v_above {idx : Nat} (hl : Cond.fieldLinkNest M.1.cls idx RX6 "ABOVE" "[I" RX6 ∈ hc_nst) (hd : decode M.2.1 pc = .ok (.getstatic idx, 3)) (hq : pc + 3 = q := by rfl) (kk : V g M d kc ks S I R z q L (.ref g.2.1 :: st) Q) : V g M d kc ks S I R z pc L st Q := by
  subst hq
  intro p l e s m args below meth c H locs cells slots ls Rm mc ms D K C
  obtain ⟨hx, hb, hml, hr, hlk, hown, hnm, hts, hG, hbs, hw, hz, hS, hL, hR⟩ := id C
  exact va_getsN hx hb hG.2.2.2.1.1 hS hown (va_Nw.use rfl (hG.2.1 _ hl)) (fun _ h => h) hd (kk _ _ _ _ _ _ _ _ _ _ _ _ _ _ _ _ _ _ _ C)
theorem v_aboveld {i : Int32} (hin : vp_in i 6) (hd : decode M.2.1 pc = .ok (.iaload, 1)) (hq : pc + 1 = q := by rfl) (kk : V g M d kc ks S I R z q L (.int (hc_above i.toNatClampNeg) :: st) Q) : V g M d kc ks S I R z pc L (.int i :: .ref g.2.1 :: st) Q := by
  subst hq
  intro p l e s m args below meth c H locs cells slots ls Rm mc ms D K C
  obtain ⟨hx, hb, hml, hr, hlk, hown, hnm, hts, hG, hbs, hw, hz, hS, hL, hR⟩ := id C
  exact va_ti hx hb hG.2.2.2.1.2 hS hin rfl hd (kk _ _ _ _ _ _ _ _ _ _ _ _ _ _ _ _ _ _ _ C)
theorem v_ldcS (i : Nat) {idx : Nat} (hi : i < 6) (hd : decode M.2.1 pc = .ok (.ldc idx, 2)) (hx' : hc_six.getD i 0 = idx := by rfl) (hC : M.1.cls = RX2 := by rfl) (hq : pc + 2 = q := by rfl) (kk : V g M d kc ks S I R z q L (.ref (g.2.2.1 i) :: st) Q) : V g M d kc ks S I R z pc L st Q := by
  subst hq
  subst hx'
  intro p l e s m args below meth c H locs cells slots ls Rm mc ms D K C
  obtain ⟨hx, hb, hml, hr, hlk, hown, hnm, hts, hG, hbs, hw, hz, hS, hL, hR⟩ := id C
  exact va_ldcS (own := RX2) hx hb (by rw [← hC]; exact hown) (hG.2.2.2.2.1.1 i hi) hd (kk _ _ _ _ _ _ _ _ _ _ _ _ _ _ _ _ _ _ _ C)
theorem v_strval {i idx : Nat} (hi : i < 6) (hl : Cond.fieldLink M.1.cls idx "java/lang/String" "value" "[B" ∈ hc_tb) (hd : decode M.2.1 pc = .ok (.getfield idx, 3)) (hq : pc + 3 = q := by rfl) (kk : V g M d kc ks S I R z q L (.ref (g.2.2.2 i) :: st) Q) : V g M d kc ks S I R z pc L (.ref (g.2.2.1 i) :: st) Q := by
  subst hq
  intro p l e s m args below meth c H locs cells slots ls Rm mc ms D K C
  obtain ⟨hx, hb, hml, hr, hlk, hown, hnm, hts, hG, hbs, hw, hz, hS, hL, hR⟩ := id C
  exact vk_getf hx hb (hG.2.2.2.2.1.2.1 i hi).2.2.1 hS hown (hts _ hl) (fun _ h => h) hd (kk _ _ _ _ _ _ _ _ _ _ _ _ _ _ _ _ _ _ _ C)
theorem v_strcod {i idx : Nat} (hi : i < 6) (hl : Cond.fieldLink M.1.cls idx "java/lang/String" "coder" "B" ∈ hc_tb) (hd : decode M.2.1 pc = .ok (.getfield idx, 3)) (hq : pc + 3 = q := by rfl) (kk : V g M d kc ks S I R z q L (.int 0 :: st) Q) : V g M d kc ks S I R z pc L (.ref (g.2.2.1 i) :: st) Q := by
  subst hq
  intro p l e s m args below meth c H locs cells slots ls Rm mc ms D K C
  obtain ⟨hx, hb, hml, hr, hlk, hown, hnm, hts, hG, hbs, hw, hz, hS, hL, hR⟩ := id C
  exact vk_getf hx hb (hG.2.2.2.2.1.2.1 i hi).2.1 hS hown (hts _ hl) (fun _ h => h) hd (kk _ _ _ _ _ _ _ _ _ _ _ _ _ _ _ _ _ _ _ C)
theorem v_strbyte {i : Nat} {j : Int32} (hi : i < 6) (hin : vp_in j (hc_sln.getD i 0)) (hd : decode M.2.1 pc = .ok (.baload, 1)) (hq : pc + 1 = q := by rfl) (kk : V g M d kc ks S I R z q L (.int ((hc_sby.getD i []).getD j.toNatClampNeg 0) :: st) Q) : V g M d kc ks S I R z pc L (.int j :: .ref (g.2.2.2 i) :: st) Q := by
  subst hq
  intro p l e s m args below meth c H locs cells slots ls Rm mc ms D K C
  obtain ⟨hx, hb, hml, hr, hlk, hown, hnm, hts, hG, hbs, hw, hz, hS, hL, hR⟩ := id C
  exact va_tb hx hb (hG.2.2.2.2.1.2.1 i hi).2.2.2 hS hin rfl hd (kk _ _ _ _ _ _ _ _ _ _ _ _ _ _ _ _ _ _ _ C)
theorem v_strlen {i : Nat} (hi : i < 6) (hd : decode M.2.1 pc = .ok (.arraylength, 1)) (hq : pc + 1 = q := by rfl) (kk : V g M d kc ks S I R z q L (.int (nI (hc_sln.getD i 0)) :: st) Q) : V g M d kc ks S I R z pc L (.ref (g.2.2.2 i) :: st) Q := by
  subst hq
  intro p l e s m args below meth c H locs cells slots ls Rm mc ms D K C
  obtain ⟨hx, hb, hml, hr, hlk, hown, hnm, hts, hG, hbs, hw, hz, hS, hL, hR⟩ := id C
  exact va_tlen hx hb (hG.2.2.2.2.1.2.1 i hi).2.2.2 hS rfl hd (kk _ _ _ _ _ _ _ _ _ _ _ _ _ _ _ _ _ _ _ C)
theorem v_compact {idx : Nat} (hl : Cond.fieldLink M.1.cls idx "java/lang/String" "COMPACT_STRINGS" "Z" ∈ hc_tb) (hd : decode M.2.1 pc = .ok (.getstatic idx, 3)) (hq : pc + 3 = q := by rfl) (kk : V g M d kc ks S I R z q L (.int 1 :: st) Q) : V g M d kc ks S I R z pc L st Q := by
  subst hq
  intro p l e s m args below meth c H locs cells slots ls Rm mc ms D K C
  obtain ⟨hx, hb, hml, hr, hlk, hown, hnm, hts, hG, hbs, hw, hz, hS, hL, hR⟩ := id C
  exact va_gets hx hb hG.2.2.2.2.2.1 hS hown (hts _ hl) (fun _ h => h) hd (kk _ _ _ _ _ _ _ _ _ _ _ _ _ _ _ _ _ _ _ C)
theorem v_sioobe {idx : Nat} (hl : Cond.fieldLink M.1.cls idx "jdk/internal/util/Preconditions" "SIOOBE_FORMATTER" "Ljava/util/function/BiFunction;" ∈ hc_tb) (hd : decode M.2.1 pc = .ok (.getstatic idx, 3)) (hq : pc + 3 = q := by rfl) (kn : V g M d kc ks S I R z q L (.null :: st) Q) (kk : ∀ x : Nat, V g M d kc ks S I R z q L (.ref x :: st) Q) : V g M d kc ks S I R z pc L st Q := by
  subst hq
  intro p l e s m args below meth c H locs cells slots ls Rm mc ms D K C
  obtain ⟨hx, hb, hml, hr, hlk, hown, hnm, hts, hG, hbs, hw, hz, hS, hL, hR⟩ := id C
  rcases hG.2.2.2.2.2.2 with hZ | ⟨t, hZ⟩
  · exact va_gets hx hb hZ hS hown (hts _ hl) (fun _ h => h) hd (kn _ _ _ _ _ _ _ _ _ _ _ _ _ _ _ _ _ _ _ C)
  · exact va_gets hx hb hZ hS hown (hts _ hl) (fun _ h => h) hd (kk t _ _ _ _ _ _ _ _ _ _ _ _ _ _ _ _ _ _ _ C)
theorem v_acopy {idx a0 n0 a n1 : Nat} {sp dp n : Int32} (hl : Cond.methodLink M.1.cls idx arraycopyName ∈ hc_tb) (hnat : Cond.native arraycopyName ∈ hc_tb) (hstat : Cond.static arraycopyName ∈ hc_tb) (hini : Cond.initialized "java/lang/System" ∈ hc_tb) (ha0 : S a0 = some (10, n0)) (ha : S a = some (10, n1)) (h1 : ¬ sp < 0) (h2 : ¬ dp < 0) (h3 : ¬ n < 0) (h4 : sp.toNatClampNeg + n.toNatClampNeg ≤ n0) (h5 : dp.toNatClampNeg + n.toNatClampNeg ≤ n1) (hd : decode M.2.1 pc = .ok (.invokestatic idx, 3)) (hdd : 1 ≤ d := by decide) (hst : (st.map fun v => v.category).sum ≤ 8 := by decide) (hq : pc + 3 = q := by rfl) (kk : V g M d kc ks S (fun x => if x = a then va_cpy (I a0) (I a) sp.toNatClampNeg dp.toNatClampNeg n.toNatClampNeg else I x) R z q L st Q) : V g M d kc ks S I R z pc L (.int n :: .int dp :: .ref a :: .int sp :: .ref a0 :: st) Q := by
  subst hq
  intro p l e s m args below meth c H locs cells slots ls Rm mc ms D K C
  obtain ⟨hx, hb, hml, hr, hlk, hown, hnm, hts, hG, hbs, hw, hz, hS, hL, hR⟩ := id C
  obtain ⟨r1, r2, r3, r4, r5, r6⟩ := hR
  have nn : ∀ z : Int32, ¬ z < 0 → z.toInt = (z.toNatClampNeg : Int) := by
    intro z hz
    have hz0 : (0 : Int) ≤ z.toInt := by
      have := Int32.not_lt.mp hz
      simpa using Int32.le_iff_toInt_le.mp this
    show z.toInt = ((z.toInt.toNat : Nat) : Int)
    omega
  have hc0 : H[a0]? = some (arrV (K 10) n0 (fun j => .int (I a0 j))) := (hw a0 10 n0 ha0).2.ia (by decide) (by decide)
  have hc1 : H[a]? = some (arrV (K 10) n1 (fun j => .int (I a j))) := (hw a 10 n1 ha).2.ia (by decide) (by decide)
  have hAr := (hG.1.2 _ _ (hc_kt_at K (t := 10) (by decide) (by decide))).1
  obtain ⟨-, k0, hk0, cm0, hkk0⟩ := hAr n0 (fun j => .int (I a0 j))
  obtain ⟨-, k1, hk1, cm1, hkk1⟩ := hAr n1 (fun j => .int (I a j))
  have hnw : nativeFrameWords "java/lang/System" "arraycopy" 5 ≤ 40 := by decide +kernel
  intro T hT X
  obtain ⟨vm', X', step⟩ := X.arraycopy hx hown (hts _ hl) (hts _ hnat) (hts _ hstat) (hts _ hini) (src := a0) (dst := a) (cs := arrV (K 10) n0 (fun j => .int (I a0 j))) (cd := arrV (K 10) n1 (fun j => .int (I a j))) (srcPos := sp) (destPos := dp) (n := n) (by rw [hT]; exact hc0) (by rw [hT]; exact hc1)
    (fun _ h => by cases h) (fun _ h => by cases h) (fun h => by cases h) (fun h => by cases h) hk0 hk1 hkk0 hkk1 (by simp [hc_a, refKind]) h1 h2 h3
    (by rw [nn sp h1, nn n h3, arrV_size]; omega)
    (by rw [nn dp h2, nn n h3, arrV_size]; omega)
    (fun vm₁ _ i hi => by
      have e : (arrV (K 10) n0 (fun j => Value.int (I a0 j))).slots.getD (sp.toNatClampNeg + i) .null = .int (I a0 (sp.toNatClampNeg + i)) := by
        rw [Array.getD_eq_getD_getElem?, arrV_read _ _ (by omega)]
        rfl
      refine ⟨?_, ?_⟩
      · rw [e]
        rfl
      · rw [e]
        exact trivial)
    (g := F0 m pc ls (.int n :: .int dp :: .ref a :: .int sp :: .ref a0 :: st)) rfl (hL.1.1.trans hml.symm) (rest := st) rfl (by rw [hb]; exact hd) (by omega) (by show 2 * 0 + _ + _ ≤ _; omega)
  have e1 : copied (arrV (K 10) n0 (fun j => .int (I a0 j))) (arrV (K 10) n1 (fun j => .int (I a j))) sp dp n = arrV (K 10) n1 (fun j => .int (va_cpy (I a0) (I a) sp.toNatClampNeg dp.toNatClampNeg n.toNatClampNeg j)) := va_copied (fun z => .int z) (K 10) (K 10) (I a0) (I a) h4
  rw [e1] at X' step
  have hl2 : a < H.size := (Array.getElem?_eq_some_iff.mp hc1).1
  generalize hcN : arrV (K 10) n1 (fun j => Value.int (va_cpy (I a0) (I a) sp.toNatClampNeg dp.toNatClampNeg n.toNatClampNeg j)) = cN at X' step
  have hheap : ((T.setVm vm').setCell a cN).heap = H.setIfInBounds a cN := by rw [← hT]; rfl
  have oq : ∀ q : Nat, q ≠ a → (H.setIfInBounds a cN)[q]? = H[q]? := fun q hq => by simp [Array.getElem?_setIfInBounds, Ne.symm hq]
  have hat : (H.setIfInBounds a cN)[a]? = some cN := by simp [Array.getElem?_setIfInBounds, hl2]
  have hw2 : hc_w D K g.1 S (fun x => if x = a then va_cpy (I a0) (I a) sp.toNatClampNeg dp.toNatClampNeg n.toNatClampNeg else I x) R (H.setIfInBounds a cN) := by
    refine hw.put ha (Or.inr (Or.inl ⟨by decide, by decide, ?_⟩)) oq (fun q h => by simp only [if_neg h]) (fun _ _ => rfl)
    rw [hat, ← hcN]
    simp only [if_true]
  obtain ⟨t, a1, b1⟩ := kk _ _ _ _ _ _ _ _ _ _ _ _ _ _ _ _ _ _ _ ⟨hx, hb, hml, hr, hlk, hown, hnm, hts, hG, hbs, hw2, (by simp; exact hz), ⟨by simp; exact hS.1, fun q g1 g2 => by
      rw [oq q (fun e => g2 (by rw [e]; exact (hw a 10 n1 ha).1))]
      exact hS.2.1 q g1 g2, fun q hq => by
      rcases List.mem_append.mp hq with h | h
      · exact hS.2.2 q h
      · obtain ⟨z, -, hz⟩ := List.mem_map.mp h
        rw [← hz]
        exact (hw a 10 n1 ha).1⟩, hL, r1, r2, r3, r4, r5, r6⟩ _ hheap X'
  exact ⟨t, step t a1, b1⟩
end VC
end
