section
-- ===== PART A: goes FIRST, ahead of the names: the tables' words, and 'selects' of the private methods out of them =====
/-- a private method of a class that the tables say can be made, by its rows of tables_1 -/
def lw_okq (q : MethodName × Nat) : Prop := (q.1.cls ≠ "java/lang/invoke/MethodHandle" ∧ q.1.cls ≠ "java/lang/invoke/VarHandle") ∧ Cond.instantiable q.1.cls q.2 ∈ tables_1 ∧ Cond.privateMethod q.1 ∈ tables_1 ∧ Cond.instanceMethod q.1 ∈ tables_1
theorem lw_p0 : lw_okq (⟨"LoadsUnseen$Routes", "measure", "(LLoadsUnseen$Net;II)V"⟩, 4) := ⟨⟨by decide +kernel, by decide +kernel⟩, List.mem_of_getElem? (i := 108) (by decide +kernel), List.mem_of_getElem? (i := 288) (by decide +kernel), List.mem_of_getElem? (i := 289) (by decide +kernel)⟩
theorem lw_p1 : lw_okq (⟨"LoadsUnseen$Routes", "walk", "(LLoadsUnseen$Net;III)V"⟩, 4) := ⟨⟨by decide +kernel, by decide +kernel⟩, List.mem_of_getElem? (i := 108) (by decide +kernel), List.mem_of_getElem? (i := 303) (by decide +kernel), List.mem_of_getElem? (i := 304) (by decide +kernel)⟩
theorem lw_p2 : lw_okq (⟨"LoadsUnseen", "found", "(I)I"⟩, 15) := ⟨⟨by decide +kernel, by decide +kernel⟩, List.mem_of_getElem? (i := 20) (by decide +kernel), List.mem_of_getElem? (i := 394) (by decide +kernel), List.mem_of_getElem? (i := 395) (by decide +kernel)⟩
theorem lw_p3 : lw_okq (⟨"LoadsUnseen$Line", "cutToCounter", "(I)I"⟩, 7) := ⟨⟨by decide +kernel, by decide +kernel⟩, List.mem_of_getElem? (i := 35) (by decide +kernel), List.mem_of_getElem? (i := 439) (by decide +kernel), List.mem_of_getElem? (i := 440) (by decide +kernel)⟩
theorem lw_p4 : lw_okq (⟨"LoadsUnseen", "seekAll", "(LLoadsUnseen$Goal;I)Z"⟩, 15) := ⟨⟨by decide +kernel, by decide +kernel⟩, List.mem_of_getElem? (i := 20) (by decide +kernel), List.mem_of_getElem? (i := 493) (by decide +kernel), List.mem_of_getElem? (i := 494) (by decide +kernel)⟩
theorem lw_p5 : lw_okq (⟨"LoadsUnseen$Seeker", "isSought", "(I)Z"⟩, 12) := ⟨⟨by decide +kernel, by decide +kernel⟩, List.mem_of_getElem? (i := 132) (by decide +kernel), List.mem_of_getElem? (i := 505) (by decide +kernel), List.mem_of_getElem? (i := 506) (by decide +kernel)⟩
theorem lw_p6 : lw_okq (⟨"LoadsUnseen$Seeker", "addSought", "(I)V"⟩, 12) := ⟨⟨by decide +kernel, by decide +kernel⟩, List.mem_of_getElem? (i := 132) (by decide +kernel), List.mem_of_getElem? (i := 514) (by decide +kernel), List.mem_of_getElem? (i := 515) (by decide +kernel)⟩
theorem lw_p7 : lw_okq (⟨"LoadsUnseen$Seeker", "goesOn", "(ILLoadsUnseen$Goal;)Z"⟩, 12) := ⟨⟨by decide +kernel, by decide +kernel⟩, List.mem_of_getElem? (i := 132) (by decide +kernel), List.mem_of_getElem? (i := 522) (by decide +kernel), List.mem_of_getElem? (i := 523) (by decide +kernel)⟩
theorem lw_p8 : lw_okq (⟨"LoadsUnseen$Seeker", "isNothingLeft", "()Z"⟩, 12) := ⟨⟨by decide +kernel, by decide +kernel⟩, List.mem_of_getElem? (i := 132) (by decide +kernel), List.mem_of_getElem? (i := 526) (by decide +kernel), List.mem_of_getElem? (i := 527) (by decide +kernel)⟩
theorem lw_p9 : lw_okq (⟨"LoadsUnseen$Seeker", "leastNumber", "(II)I"⟩, 12) := ⟨⟨by decide +kernel, by decide +kernel⟩, List.mem_of_getElem? (i := 132) (by decide +kernel), List.mem_of_getElem? (i := 558) (by decide +kernel), List.mem_of_getElem? (i := 559) (by decide +kernel)⟩
theorem lw_p10 : lw_okq (⟨"LoadsUnseen$Seeker", "mostNumber", "(I)I"⟩, 12) := ⟨⟨by decide +kernel, by decide +kernel⟩, List.mem_of_getElem? (i := 132) (by decide +kernel), List.mem_of_getElem? (i := 563) (by decide +kernel), List.mem_of_getElem? (i := 564) (by decide +kernel)⟩
theorem lw_p11 : lw_okq (⟨"LoadsUnseen$Seeker", "take", "(II)V"⟩, 12) := ⟨⟨by decide +kernel, by decide +kernel⟩, List.mem_of_getElem? (i := 132) (by decide +kernel), List.mem_of_getElem? (i := 568) (by decide +kernel), List.mem_of_getElem? (i := 569) (by decide +kernel)⟩
theorem lw_p12 : lw_okq (⟨"LoadsUnseen", "keepFit", "([I)V"⟩, 15) := ⟨⟨by decide +kernel, by decide +kernel⟩, List.mem_of_getElem? (i := 20) (by decide +kernel), List.mem_of_getElem? (i := 572) (by decide +kernel), List.mem_of_getElem? (i := 573) (by decide +kernel)⟩
theorem lw_p13 : lw_okq (⟨"LoadsUnseen", "surePairs", "()I"⟩, 15) := ⟨⟨by decide +kernel, by decide +kernel⟩, List.mem_of_getElem? (i := 20) (by decide +kernel), List.mem_of_getElem? (i := 599) (by decide +kernel), List.mem_of_getElem? (i := 600) (by decide +kernel)⟩
theorem lw_p14 : lw_okq (⟨"LoadsUnseen", "seekBest", "(LLoadsUnseen$Best;I)Z"⟩, 15) := ⟨⟨by decide +kernel, by decide +kernel⟩, List.mem_of_getElem? (i := 20) (by decide +kernel), List.mem_of_getElem? (i := 639) (by decide +kernel), List.mem_of_getElem? (i := 640) (by decide +kernel)⟩
theorem lw_p15 : lw_okq (⟨"LoadsUnseen$Seeker", "findFree", "()I"⟩, 12) := ⟨⟨by decide +kernel, by decide +kernel⟩, List.mem_of_getElem? (i := 132) (by decide +kernel), List.mem_of_getElem? (i := 663) (by decide +kernel), List.mem_of_getElem? (i := 664) (by decide +kernel)⟩
def lw_privs_1 : List (MethodName × Nat) := [(⟨"LoadsUnseen$Routes", "measure", "(LLoadsUnseen$Net;II)V"⟩, 4), (⟨"LoadsUnseen$Routes", "walk", "(LLoadsUnseen$Net;III)V"⟩, 4), (⟨"LoadsUnseen", "found", "(I)I"⟩, 15), (⟨"LoadsUnseen$Line", "cutToCounter", "(I)I"⟩, 7), (⟨"LoadsUnseen", "seekAll", "(LLoadsUnseen$Goal;I)Z"⟩, 15), (⟨"LoadsUnseen$Seeker", "isSought", "(I)Z"⟩, 12), (⟨"LoadsUnseen$Seeker", "addSought", "(I)V"⟩, 12), (⟨"LoadsUnseen$Seeker", "goesOn", "(ILLoadsUnseen$Goal;)Z"⟩, 12), (⟨"LoadsUnseen$Seeker", "isNothingLeft", "()Z"⟩, 12), (⟨"LoadsUnseen$Seeker", "leastNumber", "(II)I"⟩, 12), (⟨"LoadsUnseen$Seeker", "mostNumber", "(I)I"⟩, 12), (⟨"LoadsUnseen$Seeker", "take", "(II)V"⟩, 12), (⟨"LoadsUnseen", "keepFit", "([I)V"⟩, 15), (⟨"LoadsUnseen", "surePairs", "()I"⟩, 15), (⟨"LoadsUnseen", "seekBest", "(LLoadsUnseen$Best;I)Z"⟩, 15), (⟨"LoadsUnseen$Seeker", "findFree", "()I"⟩, 12)]
theorem lw_r1 : ∀ q ∈ lw_privs_1, lw_okq q := List.forall_mem_cons.mpr ⟨lw_p0, List.forall_mem_cons.mpr ⟨lw_p1, List.forall_mem_cons.mpr ⟨lw_p2, List.forall_mem_cons.mpr ⟨lw_p3, List.forall_mem_cons.mpr ⟨lw_p4, List.forall_mem_cons.mpr ⟨lw_p5, List.forall_mem_cons.mpr ⟨lw_p6, List.forall_mem_cons.mpr ⟨lw_p7, List.forall_mem_cons.mpr ⟨lw_p8, List.forall_mem_cons.mpr ⟨lw_p9, List.forall_mem_cons.mpr ⟨lw_p10, List.forall_mem_cons.mpr ⟨lw_p11, List.forall_mem_cons.mpr ⟨lw_p12, List.forall_mem_cons.mpr ⟨lw_p13, List.forall_mem_cons.mpr ⟨lw_p14, List.forall_mem_cons.mpr ⟨lw_p15, fun _ h => absurd h List.not_mem_nil⟩⟩⟩⟩⟩⟩⟩⟩⟩⟩⟩⟩⟩⟩⟩⟩
theorem lw_p16 : lw_okq (⟨"LoadsUnseen$Seeker", "fix", "(JI[I)V"⟩, 12) := ⟨⟨by decide +kernel, by decide +kernel⟩, List.mem_of_getElem? (i := 132) (by decide +kernel), List.mem_of_getElem? (i := 667) (by decide +kernel), List.mem_of_getElem? (i := 668) (by decide +kernel)⟩
theorem lw_p17 : lw_okq (⟨"LoadsUnseen$Seeker", "bitsOf", "(JI)J"⟩, 12) := ⟨⟨by decide +kernel, by decide +kernel⟩, List.mem_of_getElem? (i := 132) (by decide +kernel), List.mem_of_getElem? (i := 673) (by decide +kernel), List.mem_of_getElem? (i := 674) (by decide +kernel)⟩
theorem lw_p18 : lw_okq (⟨"LoadsUnseen", "digestLine", "(JI)J"⟩, 15) := ⟨⟨by decide +kernel, by decide +kernel⟩, List.mem_of_getElem? (i := 20) (by decide +kernel), List.mem_of_getElem? (i := 763) (by decide +kernel), List.mem_of_getElem? (i := 764) (by decide +kernel)⟩
theorem lw_p19 : lw_okq (⟨"LoadsUnseen", "digestSheet", "(JI)J"⟩, 15) := ⟨⟨by decide +kernel, by decide +kernel⟩, List.mem_of_getElem? (i := 20) (by decide +kernel), List.mem_of_getElem? (i := 768) (by decide +kernel), List.mem_of_getElem? (i := 769) (by decide +kernel)⟩
theorem lw_p20 : lw_okq (⟨"LoadsUnseenModel", "forget", "()V"⟩, 41) := ⟨⟨by decide +kernel, by decide +kernel⟩, List.mem_of_getElem? (i := 772) (by decide +kernel), List.mem_of_getElem? (i := 778) (by decide +kernel), List.mem_of_getElem? (i := 779) (by decide +kernel)⟩
theorem lw_p21 : lw_okq (⟨"LoadsUnseenModel", "isKnot", "(I)Z"⟩, 41) := ⟨⟨by decide +kernel, by decide +kernel⟩, List.mem_of_getElem? (i := 772) (by decide +kernel), List.mem_of_getElem? (i := 917) (by decide +kernel), List.mem_of_getElem? (i := 918) (by decide +kernel)⟩
theorem lw_p22 : lw_okq (⟨"LoadsUnseenModel", "isLine", "(I)Z"⟩, 41) := ⟨⟨by decide +kernel, by decide +kernel⟩, List.mem_of_getElem? (i := 772) (by decide +kernel), List.mem_of_getElem? (i := 925) (by decide +kernel), List.mem_of_getElem? (i := 926) (by decide +kernel)⟩
theorem lw_p23 : lw_okq (⟨"LoadsUnseenModel", "tells", "(II)I"⟩, 41) := ⟨⟨by decide +kernel, by decide +kernel⟩, List.mem_of_getElem? (i := 772) (by decide +kernel), List.mem_of_getElem? (i := 929) (by decide +kernel), List.mem_of_getElem? (i := 930) (by decide +kernel)⟩
theorem lw_p24 : lw_okq (⟨"LoadsUnseenModel", "meets", "(I)I"⟩, 41) := ⟨⟨by decide +kernel, by decide +kernel⟩, List.mem_of_getElem? (i := 772) (by decide +kernel), List.mem_of_getElem? (i := 937) (by decide +kernel), List.mem_of_getElem? (i := 938) (by decide +kernel)⟩
theorem lw_p25 : lw_okq (⟨"LoadsUnseenModel", "counterOf", "(I)I"⟩, 41) := ⟨⟨by decide +kernel, by decide +kernel⟩, List.mem_of_getElem? (i := 772) (by decide +kernel), List.mem_of_getElem? (i := 941) (by decide +kernel), List.mem_of_getElem? (i := 942) (by decide +kernel)⟩
theorem lw_p26 : lw_okq (⟨"LoadsUnseenModel", "had", "(I)I"⟩, 41) := ⟨⟨by decide +kernel, by decide +kernel⟩, List.mem_of_getElem? (i := 772) (by decide +kernel), List.mem_of_getElem? (i := 946) (by decide +kernel), List.mem_of_getElem? (i := 947) (by decide +kernel)⟩
theorem lw_p27 : lw_okq (⟨"LoadsUnseenModel", "setRoutes", "(I)V"⟩, 41) := ⟨⟨by decide +kernel, by decide +kernel⟩, List.mem_of_getElem? (i := 772) (by decide +kernel), List.mem_of_getElem? (i := 950) (by decide +kernel), List.mem_of_getElem? (i := 951) (by decide +kernel)⟩
theorem lw_p28 : lw_okq (⟨"LoadsUnseenModel", "routeOf", "(IIII)I"⟩, 41) := ⟨⟨by decide +kernel, by decide +kernel⟩, List.mem_of_getElem? (i := 772) (by decide +kernel), List.mem_of_getElem? (i := 954) (by decide +kernel), List.mem_of_getElem? (i := 955) (by decide +kernel)⟩
theorem lw_p29 : lw_okq (⟨"LoadsUnseenModel", "counts", "(I)Z"⟩, 41) := ⟨⟨by decide +kernel, by decide +kernel⟩, List.mem_of_getElem? (i := 772) (by decide +kernel), List.mem_of_getElem? (i := 971) (by decide +kernel), List.mem_of_getElem? (i := 972) (by decide +kernel)⟩
theorem lw_p30 : lw_okq (⟨"LoadsUnseenModel", "loadOf", "(III)I"⟩, 41) := ⟨⟨by decide +kernel, by decide +kernel⟩, List.mem_of_getElem? (i := 772) (by decide +kernel), List.mem_of_getElem? (i := 979) (by decide +kernel), List.mem_of_getElem? (i := 980) (by decide +kernel)⟩
theorem lw_p31 : lw_okq (⟨"LoadsUnseenModel", "tell", "(JI)I"⟩, 41) := ⟨⟨by decide +kernel, by decide +kernel⟩, List.mem_of_getElem? (i := 772) (by decide +kernel), List.mem_of_getElem? (i := 983) (by decide +kernel), List.mem_of_getElem? (i := 984) (by decide +kernel)⟩
def lw_privs_2 : List (MethodName × Nat) := [(⟨"LoadsUnseen$Seeker", "fix", "(JI[I)V"⟩, 12), (⟨"LoadsUnseen$Seeker", "bitsOf", "(JI)J"⟩, 12), (⟨"LoadsUnseen", "digestLine", "(JI)J"⟩, 15), (⟨"LoadsUnseen", "digestSheet", "(JI)J"⟩, 15), (⟨"LoadsUnseenModel", "forget", "()V"⟩, 41), (⟨"LoadsUnseenModel", "isKnot", "(I)Z"⟩, 41), (⟨"LoadsUnseenModel", "isLine", "(I)Z"⟩, 41), (⟨"LoadsUnseenModel", "tells", "(II)I"⟩, 41), (⟨"LoadsUnseenModel", "meets", "(I)I"⟩, 41), (⟨"LoadsUnseenModel", "counterOf", "(I)I"⟩, 41), (⟨"LoadsUnseenModel", "had", "(I)I"⟩, 41), (⟨"LoadsUnseenModel", "setRoutes", "(I)V"⟩, 41), (⟨"LoadsUnseenModel", "routeOf", "(IIII)I"⟩, 41), (⟨"LoadsUnseenModel", "counts", "(I)Z"⟩, 41), (⟨"LoadsUnseenModel", "loadOf", "(III)I"⟩, 41), (⟨"LoadsUnseenModel", "tell", "(JI)I"⟩, 41)]
theorem lw_r2 : ∀ q ∈ lw_privs_2, lw_okq q := List.forall_mem_cons.mpr ⟨lw_p16, List.forall_mem_cons.mpr ⟨lw_p17, List.forall_mem_cons.mpr ⟨lw_p18, List.forall_mem_cons.mpr ⟨lw_p19, List.forall_mem_cons.mpr ⟨lw_p20, List.forall_mem_cons.mpr ⟨lw_p21, List.forall_mem_cons.mpr ⟨lw_p22, List.forall_mem_cons.mpr ⟨lw_p23, List.forall_mem_cons.mpr ⟨lw_p24, List.forall_mem_cons.mpr ⟨lw_p25, List.forall_mem_cons.mpr ⟨lw_p26, List.forall_mem_cons.mpr ⟨lw_p27, List.forall_mem_cons.mpr ⟨lw_p28, List.forall_mem_cons.mpr ⟨lw_p29, List.forall_mem_cons.mpr ⟨lw_p30, List.forall_mem_cons.mpr ⟨lw_p31, fun _ h => absurd h List.not_mem_nil⟩⟩⟩⟩⟩⟩⟩⟩⟩⟩⟩⟩⟩⟩⟩⟩
theorem lw_p32 : lw_okq (⟨"LoadsUnseenModel", "isPair", "(II)Z"⟩, 41) := ⟨⟨by decide +kernel, by decide +kernel⟩, List.mem_of_getElem? (i := 772) (by decide +kernel), List.mem_of_getElem? (i := 995) (by decide +kernel), List.mem_of_getElem? (i := 996) (by decide +kernel)⟩
theorem lw_p33 : lw_okq (⟨"LoadsUnseenModel", "open", "(I)V"⟩, 41) := ⟨⟨by decide +kernel, by decide +kernel⟩, List.mem_of_getElem? (i := 772) (by decide +kernel), List.mem_of_getElem? (i := 1022) (by decide +kernel), List.mem_of_getElem? (i := 1023) (by decide +kernel)⟩
theorem lw_p34 : lw_okq (⟨"LoadsUnseenModel", "setSeeking", "()V"⟩, 41) := ⟨⟨by decide +kernel, by decide +kernel⟩, List.mem_of_getElem? (i := 772) (by decide +kernel), List.mem_of_getElem? (i := 1026) (by decide +kernel), List.mem_of_getElem? (i := 1027) (by decide +kernel)⟩
theorem lw_p35 : lw_okq (⟨"LoadsUnseenModel", "next", "(Z)I"⟩, 41) := ⟨⟨by decide +kernel, by decide +kernel⟩, List.mem_of_getElem? (i := 772) (by decide +kernel), List.mem_of_getElem? (i := 1030) (by decide +kernel), List.mem_of_getElem? (i := 1031) (by decide +kernel)⟩
theorem lw_p36 : lw_okq (⟨"LoadsUnseenModel", "beginSeeking", "()V"⟩, 41) := ⟨⟨by decide +kernel, by decide +kernel⟩, List.mem_of_getElem? (i := 772) (by decide +kernel), List.mem_of_getElem? (i := 1034) (by decide +kernel), List.mem_of_getElem? (i := 1035) (by decide +kernel)⟩
theorem lw_p37 : lw_okq (⟨"LoadsUnseenModel", "begin", "()V"⟩, 41) := ⟨⟨by decide +kernel, by decide +kernel⟩, List.mem_of_getElem? (i := 772) (by decide +kernel), List.mem_of_getElem? (i := 1038) (by decide +kernel), List.mem_of_getElem? (i := 1039) (by decide +kernel)⟩
theorem lw_p38 : lw_okq (⟨"LoadsUnseenModel", "isNothingLeft", "()Z"⟩, 41) := ⟨⟨by decide +kernel, by decide +kernel⟩, List.mem_of_getElem? (i := 772) (by decide +kernel), List.mem_of_getElem? (i := 1042) (by decide +kernel), List.mem_of_getElem? (i := 1043) (by decide +kernel)⟩
theorem lw_p39 : lw_okq (⟨"LoadsUnseenModel", "take", "(I)V"⟩, 41) := ⟨⟨by decide +kernel, by decide +kernel⟩, List.mem_of_getElem? (i := 772) (by decide +kernel), List.mem_of_getElem? (i := 1046) (by decide +kernel), List.mem_of_getElem? (i := 1047) (by decide +kernel)⟩
theorem lw_p40 : lw_okq (⟨"LoadsUnseenModel", "keep", "()V"⟩, 41) := ⟨⟨by decide +kernel, by decide +kernel⟩, List.mem_of_getElem? (i := 772) (by decide +kernel), List.mem_of_getElem? (i := 1050) (by decide +kernel), List.mem_of_getElem? (i := 1051) (by decide +kernel)⟩
theorem lw_p41 : lw_okq (⟨"LoadsUnseenModel", "setBounds", "(I)I"⟩, 41) := ⟨⟨by decide +kernel, by decide +kernel⟩, List.mem_of_getElem? (i := 772) (by decide +kernel), List.mem_of_getElem? (i := 1066) (by decide +kernel), List.mem_of_getElem? (i := 1067) (by decide +kernel)⟩
theorem lw_p42 : lw_okq (⟨"LoadsUnseenModel", "changes", "()I"⟩, 41) := ⟨⟨by decide +kernel, by decide +kernel⟩, List.mem_of_getElem? (i := 772) (by decide +kernel), List.mem_of_getElem? (i := 1082) (by decide +kernel), List.mem_of_getElem? (i := 1083) (by decide +kernel)⟩
theorem lw_p43 : lw_okq (⟨"LoadsUnseenModel", "isAlone", "(JI)I"⟩, 41) := ⟨⟨by decide +kernel, by decide +kernel⟩, List.mem_of_getElem? (i := 772) (by decide +kernel), List.mem_of_getElem? (i := 1094) (by decide +kernel), List.mem_of_getElem? (i := 1095) (by decide +kernel)⟩
theorem lw_p44 : lw_okq (⟨"LoadsUnseenModel", "looked", "(I)I"⟩, 41) := ⟨⟨by decide +kernel, by decide +kernel⟩, List.mem_of_getElem? (i := 772) (by decide +kernel), List.mem_of_getElem? (i := 1112) (by decide +kernel), List.mem_of_getElem? (i := 1113) (by decide +kernel)⟩
theorem lw_p45 : lw_okq (⟨"LoadsUnseenModel", "tellsCount", "(I)I"⟩, 41) := ⟨⟨by decide +kernel, by decide +kernel⟩, List.mem_of_getElem? (i := 772) (by decide +kernel), List.mem_of_getElem? (i := 1136) (by decide +kernel), List.mem_of_getElem? (i := 1137) (by decide +kernel)⟩
def lw_privs_3 : List (MethodName × Nat) := [(⟨"LoadsUnseenModel", "isPair", "(II)Z"⟩, 41), (⟨"LoadsUnseenModel", "open", "(I)V"⟩, 41), (⟨"LoadsUnseenModel", "setSeeking", "()V"⟩, 41), (⟨"LoadsUnseenModel", "next", "(Z)I"⟩, 41), (⟨"LoadsUnseenModel", "beginSeeking", "()V"⟩, 41), (⟨"LoadsUnseenModel", "begin", "()V"⟩, 41), (⟨"LoadsUnseenModel", "isNothingLeft", "()Z"⟩, 41), (⟨"LoadsUnseenModel", "take", "(I)V"⟩, 41), (⟨"LoadsUnseenModel", "keep", "()V"⟩, 41), (⟨"LoadsUnseenModel", "setBounds", "(I)I"⟩, 41), (⟨"LoadsUnseenModel", "changes", "()I"⟩, 41), (⟨"LoadsUnseenModel", "isAlone", "(JI)I"⟩, 41), (⟨"LoadsUnseenModel", "looked", "(I)I"⟩, 41), (⟨"LoadsUnseenModel", "tellsCount", "(I)I"⟩, 41)]
theorem lw_r3 : ∀ q ∈ lw_privs_3, lw_okq q := List.forall_mem_cons.mpr ⟨lw_p32, List.forall_mem_cons.mpr ⟨lw_p33, List.forall_mem_cons.mpr ⟨lw_p34, List.forall_mem_cons.mpr ⟨lw_p35, List.forall_mem_cons.mpr ⟨lw_p36, List.forall_mem_cons.mpr ⟨lw_p37, List.forall_mem_cons.mpr ⟨lw_p38, List.forall_mem_cons.mpr ⟨lw_p39, List.forall_mem_cons.mpr ⟨lw_p40, List.forall_mem_cons.mpr ⟨lw_p41, List.forall_mem_cons.mpr ⟨lw_p42, List.forall_mem_cons.mpr ⟨lw_p43, List.forall_mem_cons.mpr ⟨lw_p44, List.forall_mem_cons.mpr ⟨lw_p45, fun _ h => absurd h List.not_mem_nil⟩⟩⟩⟩⟩⟩⟩⟩⟩⟩⟩⟩⟩⟩
def lw_privs : List (MethodName × Nat) := lw_privs_1 ++ (lw_privs_2 ++ (lw_privs_3))
def lw_tbl : List Cond := k2_sels lw_privs ++ tables_1
theorem lw_privs_ok : ∀ q ∈ lw_privs, lw_okq q := by
  show ∀ q ∈ lw_privs_1 ++ (lw_privs_2 ++ (lw_privs_3)), lw_okq q
  exact List.forall_mem_append.mpr ⟨lw_r1, List.forall_mem_append.mpr ⟨lw_r2, lw_r3⟩⟩
-- ===== end of PART A; then your names; then what follows =====
end
section
/-! ===== BEGIN words of one list among another's, by their places ===== -/
theorem goodIn_r {big : List Cond} (ws : List Cond) (ps : List Nat) (hp : ws = ps.filterMap (fun i => big[i]?)) (h : ws.all goodWord = true) : GoodIn big ws := by
  intro w hw
  have h1 := List.all_eq_true.mp h w hw
  rw [hp] at hw
  obtain ⟨i, -, hi⟩ := List.mem_filterMap.mp hw
  have hm : w ∈ big := by first | exact List.mem_of_getElem? hi | exact List.getElem?_mem hi
  exact ⟨hm, good_of_word h1⟩
theorem goodIn_app {big a b : List Cond} (ha : GoodIn big a) (hb : GoodIn big b) : GoodIn big (a ++ b) := fun w h => (List.mem_append.mp h).elim (ha w) (hb w)
theorem goodIn_ca {big a b : List Cond} {c : Cond} (ha : GoodIn big (c :: a)) (hb : GoodIn big b) : GoodIn big (c :: (a ++ b)) := fun w h => (List.mem_cons.mp h).elim (fun e => ha w (List.mem_cons.mpr (Or.inl e))) (fun h => (List.mem_append.mp h).elim (fun h => ha w (List.mem_cons.mpr (Or.inr h))) (hb w))
theorem goodIn_sub {big ws : List Cond} (hm : ∀ w ∈ ws, w ∈ big) (h : ws.all goodWord = true) : GoodIn big ws := fun w hw => ⟨hm w hw, good_of_word (List.all_eq_true.mp h w hw)⟩
/-! ===== END ===== -/
def RX0 : String := "LoadsUnseen$Best"
def TX0 : u_T := fun k => match k with
  | _ => ("", "", "", false)
def tyX0 : Nat → FieldType := fun k => match k with
  | _ => .int
abbrev wsX00 : List Cond := u_ws RX0 TX0 0
theorem nmX0 : ∀ a, a < 0 → ∀ b, b < 0 → a ≠ b → (TX0 a).2.1 ≠ (TX0 b).2.1 := by decide +kernel
theorem tyX0_ok : ∀ k, k < 0 → parseFieldDescriptor (TX0 k).2.2.1 = some (tyX0 k) := by decide +kernel
abbrev cX0_init : ByteArray := prog_2_method_1_code
def yX0_init : MethodName := ⟨RX0, "<init>", "()V"⟩
abbrev cX0_begin : ByteArray := prog_2_method_3_code
def yX0_begin : MethodName := ⟨RX0, "begin", "()V"⟩
abbrev cX0_hasEnough : ByteArray := prog_2_method_4_code
def yX0_hasEnough : MethodName := ⟨RX0, "hasEnough", "([I)Z"⟩
def RX1 : String := "LoadsUnseen$Fewest"
def TX1 : u_T := fun k => match k with
  | 0 => ("LoadsUnseen$Best", "kept", "[I", true)
  | 1 => ("LoadsUnseen$Best", "any", "Z", false)
  | 2 => ("LoadsUnseen$Best", "cost", "I", false)
  | _ => ("LoadsUnseen$Fewest", "bases", "[I", true)
def tyX1 : Nat → FieldType := fun k => match k with
  | 0 => .array .int
  | 1 => .boolean
  | 2 => .int
  | _ => .array .int
abbrev wsX10 : List Cond := u_ws RX1 TX1 4
theorem nmX1 : ∀ a, a < 4 → ∀ b, b < 4 → a ≠ b → (TX1 a).2.1 ≠ (TX1 b).2.1 := by decide +kernel
theorem tyX1_ok : ∀ k, k < 4 → parseFieldDescriptor (TX1 k).2.2.1 = some (tyX1 k) := by decide +kernel
abbrev cX1_init : ByteArray := prog_3_method_1_code
def yX1_init : MethodName := ⟨RX1, "<init>", "([I)V"⟩
abbrev cX1_costOf : ByteArray := prog_3_method_2_code
def yX1_costOf : MethodName := ⟨RX1, "costOf", "([I)I"⟩
def RX2 : String := "LoadsUnseen$Goal"
def TX2 : u_T := fun k => match k with
  | _ => ("", "", "", false)
def tyX2 : Nat → FieldType := fun k => match k with
  | _ => .int
abbrev wsX20 : List Cond := u_ws RX2 TX2 0
theorem nmX2 : ∀ a, a < 0 → ∀ b, b < 0 → a ≠ b → (TX2 a).2.1 ≠ (TX2 b).2.1 := by decide +kernel
theorem tyX2_ok : ∀ k, k < 0 → parseFieldDescriptor (TX2 k).2.2.1 = some (tyX2 k) := by decide +kernel
abbrev cX2_init : ByteArray := prog_4_method_1_code
def yX2_init : MethodName := ⟨RX2, "<init>", "()V"⟩
def RX3 : String := "LoadsUnseen$Heaviest"
def TX3 : u_T := fun k => match k with
  | 0 => ("LoadsUnseen$Best", "kept", "[I", true)
  | 1 => ("LoadsUnseen$Best", "any", "Z", false)
  | 2 => ("LoadsUnseen$Best", "cost", "I", false)
  | _ => ("LoadsUnseen$Heaviest", "goesThere", "[Z", true)
def tyX3 : Nat → FieldType := fun k => match k with
  | 0 => .array .int
  | 1 => .boolean
  | 2 => .int
  | _ => .array .boolean
abbrev wsX30 : List Cond := u_ws RX3 TX3 4
theorem nmX3 : ∀ a, a < 4 → ∀ b, b < 4 → a ≠ b → (TX3 a).2.1 ≠ (TX3 b).2.1 := by decide +kernel
theorem tyX3_ok : ∀ k, k < 4 → parseFieldDescriptor (TX3 k).2.2.1 = some (tyX3 k) := by decide +kernel
abbrev cX3_init : ByteArray := prog_5_method_1_code
def yX3_init : MethodName := ⟨RX3, "<init>", "()V"⟩
abbrev cX3_beginOn : ByteArray := prog_5_method_2_code
def yX3_beginOn : MethodName := ⟨RX3, "beginOn", "(ILLoadsUnseen$Routes;)V"⟩
abbrev cX3_costOf : ByteArray := prog_5_method_3_code
def yX3_costOf : MethodName := ⟨RX3, "costOf", "([I)I"⟩
def RX4 : String := "LoadsUnseen$Line"
def TX4 : u_T := fun k => match k with
  | 0 => ("LoadsUnseen$Line", "kind", "I", false)
  | 1 => ("LoadsUnseen$Line", "from", "I", false)
  | 2 => ("LoadsUnseen$Line", "to", "I", false)
  | 3 => ("LoadsUnseen$Line", "isDown", "Z", false)
  | 4 => ("LoadsUnseen$Line", "most", "I", false)
  | 5 => ("LoadsUnseen$Line", "load", "I", false)
  | _ => ("LoadsUnseen$Line", "readings", "[I", true)
def tyX4 : Nat → FieldType := fun k => match k with
  | 0 => .int
  | 1 => .int
  | 2 => .int
  | 3 => .boolean
  | 4 => .int
  | 5 => .int
  | _ => .array .int
abbrev wsX40 : List Cond := u_ws RX4 TX4 7
theorem nmX4 : ∀ a, a < 7 → ∀ b, b < 7 → a ≠ b → (TX4 a).2.1 ≠ (TX4 b).2.1 := by decide +kernel
theorem tyX4_ok : ∀ k, k < 7 → parseFieldDescriptor (TX4 k).2.2.1 = some (tyX4 k) := by decide +kernel
abbrev cX4_init : ByteArray := prog_6_method_1_code
def yX4_init : MethodName := ⟨RX4, "<init>", "()V"⟩
abbrev cX4_begin : ByteArray := prog_6_method_2_code
def yX4_begin : MethodName := ⟨RX4, "begin", "(III)V"⟩
abbrev cX4_isOf : ByteArray := prog_6_method_3_code
def yX4_isOf : MethodName := ⟨RX4, "isOf", "(I)Z"⟩
abbrev cX4_counterSize : ByteArray := prog_6_method_4_code
def yX4_counterSize : MethodName := ⟨RX4, "counterSize", "()I"⟩
abbrev cX4_keepReading : ByteArray := prog_6_method_5_code
def yX4_keepReading : MethodName := ⟨RX4, "keepReading", "(II)V"⟩
abbrev cX4_cutToCounter : ByteArray := prog_6_method_6_code
def yX4_cutToCounter : MethodName := ⟨RX4, "cutToCounter", "(I)I"⟩
abbrev cX4_readingsKept : ByteArray := prog_6_method_7_code
def yX4_readingsKept : MethodName := ⟨RX4, "readingsKept", "()I"⟩
abbrev cX4_loadBetween : ByteArray := prog_6_method_8_code
def yX4_loadBetween : MethodName := ⟨RX4, "loadBetween", "(II)I"⟩
abbrev cX4_isSureBetween : ByteArray := prog_6_method_9_code
def yX4_isSureBetween : MethodName := ⟨RX4, "isSureBetween", "(II)Z"⟩
abbrev cX4_meanLoad : ByteArray := prog_6_method_10_code
def yX4_meanLoad : MethodName := ⟨RX4, "meanLoad", "()I"⟩
def RX5 : String := "LoadsUnseen$Net"
def TX5 : u_T := fun k => match k with
  | 0 => ("LoadsUnseen$Net", "knots", "I", false)
  | 1 => ("LoadsUnseen$Net", "lineCount", "I", false)
  | 2 => ("LoadsUnseen$Net", "lines", "[LLoadsUnseen$Line;", true)
  | 3 => ("LoadsUnseen$Net", "meters", "[I", true)
  | _ => ("LoadsUnseen$Net", "bases", "[I", true)
def tyX5 : Nat → FieldType := fun k => match k with
  | 0 => .int
  | 1 => .int
  | 2 => .array (.object "LoadsUnseen$Line")
  | 3 => .array .int
  | _ => .array .int
abbrev wsX50 : List Cond := u_ws RX5 TX5 5
theorem nmX5 : ∀ a, a < 5 → ∀ b, b < 5 → a ≠ b → (TX5 a).2.1 ≠ (TX5 b).2.1 := by decide +kernel
theorem tyX5_ok : ∀ k, k < 5 → parseFieldDescriptor (TX5 k).2.2.1 = some (tyX5 k) := by decide +kernel
abbrev cX5_init : ByteArray := prog_7_method_1_code
def yX5_init : MethodName := ⟨RX5, "<init>", "()V"⟩
abbrev cX5_begin : ByteArray := prog_7_method_2_code
def yX5_begin : MethodName := ⟨RX5, "begin", "(I)V"⟩
abbrev cX5_addLine : ByteArray := prog_7_method_3_code
def yX5_addLine : MethodName := ⟨RX5, "addLine", "(III)I"⟩
abbrev cX5_isLine : ByteArray := prog_7_method_4_code
def yX5_isLine : MethodName := ⟨RX5, "isLine", "(I)Z"⟩
abbrev cX5_isPair : ByteArray := prog_7_method_5_code
def yX5_isPair : MethodName := ⟨RX5, "isPair", "(II)Z"⟩
abbrev cX5_pairNumber : ByteArray := prog_7_method_6_code
def yX5_pairNumber : MethodName := ⟨RX5, "pairNumber", "(II)I"⟩
abbrev cX5_linesTold : ByteArray := prog_7_method_7_code
def yX5_linesTold : MethodName := ⟨RX5, "linesTold", "()I"⟩
abbrev cX5_pairsMetered : ByteArray := prog_7_method_8_code
def yX5_pairsMetered : MethodName := ⟨RX5, "pairsMetered", "()I"⟩
abbrev cX5_carriedFrom : ByteArray := prog_7_method_9_code
def yX5_carriedFrom : MethodName := ⟨RX5, "carriedFrom", "(I)I"⟩
abbrev cX5_carriedTo : ByteArray := prog_7_method_10_code
def yX5_carriedTo : MethodName := ⟨RX5, "carriedTo", "(I)I"⟩
abbrev cX5_allCarried : ByteArray := prog_7_method_11_code
def yX5_allCarried : MethodName := ⟨RX5, "allCarried", "()I"⟩
def RX6 : String := "LoadsUnseen$Range"
def TX6 : u_T := fun k => match k with
  | 0 => ("LoadsUnseen$Range", "least", "[I", true)
  | 1 => ("LoadsUnseen$Range", "most", "[I", true)
  | _ => ("LoadsUnseen$Range", "any", "Z", false)
def tyX6 : Nat → FieldType := fun k => match k with
  | 0 => .array .int
  | 1 => .array .int
  | _ => .boolean
abbrev wsX60 : List Cond := u_ws RX6 TX6 3
theorem nmX6 : ∀ a, a < 3 → ∀ b, b < 3 → a ≠ b → (TX6 a).2.1 ≠ (TX6 b).2.1 := by decide +kernel
theorem tyX6_ok : ∀ k, k < 3 → parseFieldDescriptor (TX6 k).2.2.1 = some (tyX6 k) := by decide +kernel
abbrev cX6_init : ByteArray := prog_8_method_1_code
def yX6_init : MethodName := ⟨RX6, "<init>", "()V"⟩
abbrev cX6_begin : ByteArray := prog_8_method_2_code
def yX6_begin : MethodName := ⟨RX6, "begin", "()V"⟩
abbrev cX6_hasEnough : ByteArray := prog_8_method_3_code
def yX6_hasEnough : MethodName := ⟨RX6, "hasEnough", "([I)Z"⟩
def RX7 : String := "LoadsUnseen$Routes"
def TX7 : u_T := fun k => match k with
  | 0 => ("LoadsUnseen$Routes", "places", "I", false)
  | 1 => ("LoadsUnseen$Routes", "lengths", "[I", true)
  | 2 => ("LoadsUnseen$Routes", "steps", "[I", true)
  | _ => ("LoadsUnseen$Routes", "away", "[I", true)
def tyX7 : Nat → FieldType := fun k => match k with
  | 0 => .int
  | 1 => .array .int
  | 2 => .array .int
  | _ => .array .int
abbrev wsX70 : List Cond := u_ws RX7 TX7 4
theorem nmX7 : ∀ a, a < 4 → ∀ b, b < 4 → a ≠ b → (TX7 a).2.1 ≠ (TX7 b).2.1 := by decide +kernel
theorem tyX7_ok : ∀ k, k < 4 → parseFieldDescriptor (TX7 k).2.2.1 = some (tyX7 k) := by decide +kernel
abbrev cX7_init : ByteArray := prog_9_method_1_code
def yX7_init : MethodName := ⟨RX7, "<init>", "()V"⟩
abbrev cX7_find : ByteArray := prog_9_method_2_code
def yX7_find : MethodName := ⟨RX7, "find", "(LLoadsUnseen$Net;I)V"⟩
abbrev cX7_isRouted : ByteArray := prog_9_method_3_code
def yX7_isRouted : MethodName := ⟨RX7, "isRouted", "(I)Z"⟩
abbrev cX7_lineAt : ByteArray := prog_9_method_4_code
def yX7_lineAt : MethodName := ⟨RX7, "lineAt", "(II)I"⟩
abbrev cX7_goesBy : ByteArray := prog_9_method_5_code
def yX7_goesBy : MethodName := ⟨RX7, "goesBy", "(II)Z"⟩
abbrev cX7_pairsOn : ByteArray := prog_9_method_6_code
def yX7_pairsOn : MethodName := ⟨RX7, "pairsOn", "(I)I"⟩
abbrev cX7_pairsCut : ByteArray := prog_9_method_7_code
def yX7_pairsCut : MethodName := ⟨RX7, "pairsCut", "()I"⟩
abbrev cX7_measure : ByteArray := prog_9_method_8_code
def yX7_measure : MethodName := ⟨RX7, "measure", "(LLoadsUnseen$Net;II)V"⟩
abbrev cX7_isShut : ByteArray := prog_9_method_9_code
def yX7_isShut : MethodName := ⟨RX7, "isShut", "(LLoadsUnseen$Net;II)Z"⟩
abbrev cX7_walk : ByteArray := prog_9_method_10_code
def yX7_walk : MethodName := ⟨RX7, "walk", "(LLoadsUnseen$Net;III)V"⟩
def RX8 : String := "LoadsUnseen$Seeker"
def TX8 : u_T := fun k => match k with
  | 0 => ("LoadsUnseen$Seeker", "net", "LLoadsUnseen$Net;", true)
  | 1 => ("LoadsUnseen$Seeker", "routes", "LLoadsUnseen$Routes;", true)
  | 2 => ("LoadsUnseen$Seeker", "order", "[I", true)
  | 3 => ("LoadsUnseen$Seeker", "free", "[I", true)
  | 4 => ("LoadsUnseen$Seeker", "lastPlace", "[I", true)
  | 5 => ("LoadsUnseen$Seeker", "left", "[I", true)
  | 6 => ("LoadsUnseen$Seeker", "fixed", "[I", true)
  | 7 => ("LoadsUnseen$Seeker", "numbers", "[I", true)
  | 8 => ("LoadsUnseen$Seeker", "sought", "I", false)
  | 9 => ("LoadsUnseen$Seeker", "limit", "I", false)
  | 10 => ("LoadsUnseen$Seeker", "tries", "I", false)
  | _ => ("LoadsUnseen$Seeker", "spent", "Z", false)
def tyX8 : Nat → FieldType := fun k => match k with
  | 0 => .object "LoadsUnseen$Net"
  | 1 => .object "LoadsUnseen$Routes"
  | 2 => .array .int
  | 3 => .array .int
  | 4 => .array .int
  | 5 => .array .int
  | 6 => .array .int
  | 7 => .array .int
  | 8 => .int
  | 9 => .int
  | 10 => .int
  | _ => .boolean
abbrev wsX80 : List Cond := u_ws RX8 TX8 12
theorem nmX8 : ∀ a, a < 12 → ∀ b, b < 12 → a ≠ b → (TX8 a).2.1 ≠ (TX8 b).2.1 := by decide +kernel
theorem tyX8_ok : ∀ k, k < 12 → parseFieldDescriptor (TX8 k).2.2.1 = some (tyX8 k) := by decide +kernel
abbrev cX8_init : ByteArray := prog_10_method_1_code
def yX8_init : MethodName := ⟨RX8, "<init>", "(LLoadsUnseen$Net;LLoadsUnseen$Routes;)V"⟩
abbrev cX8_begin : ByteArray := prog_10_method_2_code
def yX8_begin : MethodName := ⟨RX8, "begin", "(I)V"⟩
abbrev cX8_seek : ByteArray := prog_10_method_3_code
def yX8_seek : MethodName := ⟨RX8, "seek", "(LLoadsUnseen$Goal;)V"⟩
abbrev cX8_fewestMeters : ByteArray := prog_10_method_4_code
def yX8_fewestMeters : MethodName := ⟨RX8, "fewestMeters", "(LLoadsUnseen$Tally;)J"⟩
abbrev cX8_isSought : ByteArray := prog_10_method_5_code
def yX8_isSought : MethodName := ⟨RX8, "isSought", "(I)Z"⟩
abbrev cX8_addSought : ByteArray := prog_10_method_6_code
def yX8_addSought : MethodName := ⟨RX8, "addSought", "(I)V"⟩
abbrev cX8_goesOn : ByteArray := prog_10_method_7_code
def yX8_goesOn : MethodName := ⟨RX8, "goesOn", "(ILLoadsUnseen$Goal;)Z"⟩
abbrev cX8_leastNumber : ByteArray := prog_10_method_8_code
def yX8_leastNumber : MethodName := ⟨RX8, "leastNumber", "(II)I"⟩
abbrev cX8_mostNumber : ByteArray := prog_10_method_9_code
def yX8_mostNumber : MethodName := ⟨RX8, "mostNumber", "(I)I"⟩
abbrev cX8_take : ByteArray := prog_10_method_10_code
def yX8_take : MethodName := ⟨RX8, "take", "(II)V"⟩
abbrev cX8_isNothingLeft : ByteArray := prog_10_method_11_code
def yX8_isNothingLeft : MethodName := ⟨RX8, "isNothingLeft", "()Z"⟩
abbrev cX8_findFree : ByteArray := prog_10_method_12_code
def yX8_findFree : MethodName := ⟨RX8, "findFree", "()I"⟩
abbrev cX8_fix : ByteArray := prog_10_method_13_code
def yX8_fix : MethodName := ⟨RX8, "fix", "(JI[I)V"⟩
abbrev cX8_bitsOf : ByteArray := prog_10_method_14_code
def yX8_bitsOf : MethodName := ⟨RX8, "bitsOf", "(JI)J"⟩
abbrev cX8_nextSet : ByteArray := prog_10_method_15_code
def yX8_nextSet : MethodName := ⟨RX8, "nextSet", "(J)J"⟩
def RX9 : String := "LoadsUnseen$Sheets"
def TX9 : u_T := fun k => match k with
  | 0 => ("LoadsUnseen$Sheets", "bytes", "[[B", true)
  | _ => ("LoadsUnseen$Sheets", "sizes", "[I", true)
def tyX9 : Nat → FieldType := fun k => match k with
  | 0 => .array (.array .byte)
  | _ => .array .int
abbrev wsX90 : List Cond := u_ws RX9 TX9 2
theorem nmX9 : ∀ a, a < 2 → ∀ b, b < 2 → a ≠ b → (TX9 a).2.1 ≠ (TX9 b).2.1 := by decide +kernel
theorem tyX9_ok : ∀ k, k < 2 → parseFieldDescriptor (TX9 k).2.2.1 = some (tyX9 k) := by decide +kernel
abbrev cX9_init : ByteArray := prog_11_method_1_code
def yX9_init : MethodName := ⟨RX9, "<init>", "()V"⟩
abbrev cX9_put : ByteArray := prog_11_method_2_code
def yX9_put : MethodName := ⟨RX9, "put", "(II)V"⟩
abbrev cX9_hasRun : ByteArray := prog_11_method_3_code
def yX9_hasRun : MethodName := ⟨RX9, "hasRun", "(III)Z"⟩
def RX10 : String := "LoadsUnseen$Tally"
def TX10 : u_T := fun k => match k with
  | 0 => ("LoadsUnseen$Tally", "first", "[I", true)
  | 1 => ("LoadsUnseen$Tally", "fits", "I", false)
  | _ => ("LoadsUnseen$Tally", "enough", "I", false)
def tyX10 : Nat → FieldType := fun k => match k with
  | 0 => .array .int
  | 1 => .int
  | _ => .int
abbrev wsX100 : List Cond := u_ws RX10 TX10 3
theorem nmX10 : ∀ a, a < 3 → ∀ b, b < 3 → a ≠ b → (TX10 a).2.1 ≠ (TX10 b).2.1 := by decide +kernel
theorem tyX10_ok : ∀ k, k < 3 → parseFieldDescriptor (TX10 k).2.2.1 = some (tyX10 k) := by decide +kernel
abbrev cX10_init : ByteArray := prog_12_method_1_code
def yX10_init : MethodName := ⟨RX10, "<init>", "()V"⟩
abbrev cX10_begin : ByteArray := prog_12_method_2_code
def yX10_begin : MethodName := ⟨RX10, "begin", "(I)V"⟩
abbrev cX10_hasEnough : ByteArray := prog_12_method_3_code
def yX10_hasEnough : MethodName := ⟨RX10, "hasEnough", "([I)Z"⟩
def RX11 : String := "LoadsUnseen"
def TX11 : u_T := fun k => match k with
  | 0 => ("LoadsUnseen", "net", "LLoadsUnseen$Net;", true)
  | 1 => ("LoadsUnseen", "now", "LLoadsUnseen$Routes;", true)
  | 2 => ("LoadsUnseen", "then", "LLoadsUnseen$Routes;", true)
  | 3 => ("LoadsUnseen", "seeker", "LLoadsUnseen$Seeker;", true)
  | 4 => ("LoadsUnseen", "tally", "LLoadsUnseen$Tally;", true)
  | 5 => ("LoadsUnseen", "range", "LLoadsUnseen$Range;", true)
  | 6 => ("LoadsUnseen", "fewest", "LLoadsUnseen$Fewest;", true)
  | 7 => ("LoadsUnseen", "heaviest", "LLoadsUnseen$Heaviest;", true)
  | 8 => ("LoadsUnseen", "sheets", "LLoadsUnseen$Sheets;", true)
  | 9 => ("LoadsUnseen", "latestFit", "[I", true)
  | 10 => ("LoadsUnseen", "hasFit", "Z", false)
  | 11 => ("LoadsUnseen", "latestTries", "I", false)
  | 12 => ("LoadsUnseen", "latestAsked", "J", false)
  | 13 => ("LoadsUnseen", "latestFinding", "I", false)
  | _ => ("LoadsUnseen", "timesFound", "[I", true)
def tyX11 : Nat → FieldType := fun k => match k with
  | 0 => .object "LoadsUnseen$Net"
  | 1 => .object "LoadsUnseen$Routes"
  | 2 => .object "LoadsUnseen$Routes"
  | 3 => .object "LoadsUnseen$Seeker"
  | 4 => .object "LoadsUnseen$Tally"
  | 5 => .object "LoadsUnseen$Range"
  | 6 => .object "LoadsUnseen$Fewest"
  | 7 => .object "LoadsUnseen$Heaviest"
  | 8 => .object "LoadsUnseen$Sheets"
  | 9 => .array .int
  | 10 => .boolean
  | 11 => .int
  | 12 => .long
  | 13 => .int
  | _ => .array .int
abbrev wsX110 : List Cond := u_ws RX11 TX11 15
theorem nmX11 : ∀ a, a < 15 → ∀ b, b < 15 → a ≠ b → (TX11 a).2.1 ≠ (TX11 b).2.1 := by decide +kernel
theorem tyX11_ok : ∀ k, k < 15 → parseFieldDescriptor (TX11 k).2.2.1 = some (tyX11 k) := by decide +kernel
abbrev cX11_init : ByteArray := prog_1_method_1_code
def yX11_init : MethodName := ⟨RX11, "<init>", "()V"⟩
abbrev cX11_net : ByteArray := prog_1_method_2_code
def yX11_net : MethodName := ⟨RX11, "net", "(I)I"⟩
abbrev cX11_line : ByteArray := prog_1_method_3_code
def yX11_line : MethodName := ⟨RX11, "line", "(III)I"⟩
abbrev cX11_told : ByteArray := prog_1_method_4_code
def yX11_told : MethodName := ⟨RX11, "told", "(II)I"⟩
abbrev cX11_mark : ByteArray := prog_1_method_5_code
def yX11_mark : MethodName := ⟨RX11, "mark", "(II)I"⟩
abbrev cX11_down : ByteArray := prog_1_method_6_code
def yX11_down : MethodName := ⟨RX11, "down", "(IZ)I"⟩
abbrev cX11_rate : ByteArray := prog_1_method_7_code
def yX11_rate : MethodName := ⟨RX11, "rate", "(II)I"⟩
abbrev cX11_reading : ByteArray := prog_1_method_8_code
def yX11_reading : MethodName := ⟨RX11, "reading", "(III)I"⟩
abbrev cX11_load : ByteArray := prog_1_method_9_code
def yX11_load : MethodName := ⟨RX11, "load", "(III)I"⟩
abbrev cX11_mean : ByteArray := prog_1_method_10_code
def yX11_mean : MethodName := ⟨RX11, "mean", "(I)I"⟩
abbrev cX11_route : ByteArray := prog_1_method_11_code
def yX11_route : MethodName := ⟨RX11, "route", "(III)I"⟩
abbrev cX11_carried : ByteArray := prog_1_method_12_code
def yX11_carried : MethodName := ⟨RX11, "carried", "(II)I"⟩
abbrev cX11_meter : ByteArray := prog_1_method_13_code
def yX11_meter : MethodName := ⟨RX11, "meter", "(III)I"⟩
abbrev cX11_fits : ByteArray := prog_1_method_14_code
def yX11_fits : MethodName := ⟨RX11, "fits", "(I)I"⟩
abbrev cX11_fit : ByteArray := prog_1_method_15_code
def yX11_fit : MethodName := ⟨RX11, "fit", "(II)I"⟩
abbrev cX11_many : ByteArray := prog_1_method_16_code
def yX11_many : MethodName := ⟨RX11, "many", "(I)I"⟩
abbrev cX11_bound : ByteArray := prog_1_method_17_code
def yX11_bound : MethodName := ⟨RX11, "bound", "(IIZI)I"⟩
abbrev cX11_sure : ByteArray := prog_1_method_18_code
def yX11_sure : MethodName := ⟨RX11, "sure", "(I)I"⟩
abbrev cX11_tries : ByteArray := prog_1_method_19_code
def yX11_tries : MethodName := ⟨RX11, "tries", "()I"⟩
abbrev cX11_guess : ByteArray := prog_1_method_20_code
def yX11_guess : MethodName := ⟨RX11, "guess", "(II)I"⟩
abbrev cX11_base : ByteArray := prog_1_method_21_code
def yX11_base : MethodName := ⟨RX11, "base", "(III)I"⟩
abbrev cX11_changed : ByteArray := prog_1_method_22_code
def yX11_changed : MethodName := ⟨RX11, "changed", "(I)I"⟩
abbrev cX11_worst : ByteArray := prog_1_method_23_code
def yX11_worst : MethodName := ⟨RX11, "worst", "(III)I"⟩
abbrev cX11_meters : ByteArray := prog_1_method_24_code
def yX11_meters : MethodName := ⟨RX11, "meters", "(I)I"⟩
abbrev cX11_sheet : ByteArray := prog_1_method_25_code
def yX11_sheet : MethodName := ⟨RX11, "sheet", "(II)I"⟩
abbrev cX11_lay : ByteArray := prog_1_method_26_code
def yX11_lay : MethodName := ⟨RX11, "lay", "(III)I"⟩
abbrev cX11_play : ByteArray := prog_1_method_27_code
def yX11_play : MethodName := ⟨RX11, "play", "(II)I"⟩
abbrev cX11_tear : ByteArray := prog_1_method_28_code
def yX11_tear : MethodName := ⟨RX11, "tear", "(I)I"⟩
abbrev cX11_copy : ByteArray := prog_1_method_29_code
def yX11_copy : MethodName := ⟨RX11, "copy", "(IIIII)I"⟩
abbrev cX11_asked : ByteArray := prog_1_method_30_code
def yX11_asked : MethodName := ⟨RX11, "asked", "()J"⟩
abbrev cX11_count : ByteArray := prog_1_method_31_code
def yX11_count : MethodName := ⟨RX11, "count", "(I)I"⟩
abbrev cX11_finding : ByteArray := prog_1_method_32_code
def yX11_finding : MethodName := ⟨RX11, "finding", "()I"⟩
abbrev cX11_findings : ByteArray := prog_1_method_33_code
def yX11_findings : MethodName := ⟨RX11, "findings", "(I)I"⟩
abbrev cX11_digest : ByteArray := prog_1_method_34_code
def yX11_digest : MethodName := ⟨RX11, "digest", "()J"⟩
abbrev cX11_isHour : ByteArray := prog_1_method_35_code
def yX11_isHour : MethodName := ⟨RX11, "isHour", "(I)Z"⟩
abbrev cX11_isLoadOrNone : ByteArray := prog_1_method_36_code
def yX11_isLoadOrNone : MethodName := ⟨RX11, "isLoadOrNone", "(I)Z"⟩
abbrev cX11_isTries : ByteArray := prog_1_method_37_code
def yX11_isTries : MethodName := ⟨RX11, "isTries", "(I)Z"⟩
abbrev cX11_isSheet : ByteArray := prog_1_method_38_code
def yX11_isSheet : MethodName := ⟨RX11, "isSheet", "(I)Z"⟩
abbrev cX11_found : ByteArray := prog_1_method_39_code
def yX11_found : MethodName := ⟨RX11, "found", "(I)I"⟩
abbrev cX11_seekAll : ByteArray := prog_1_method_40_code
def yX11_seekAll : MethodName := ⟨RX11, "seekAll", "(LLoadsUnseen$Goal;I)Z"⟩
abbrev cX11_seekBest : ByteArray := prog_1_method_41_code
def yX11_seekBest : MethodName := ⟨RX11, "seekBest", "(LLoadsUnseen$Best;I)Z"⟩
abbrev cX11_keepFit : ByteArray := prog_1_method_42_code
def yX11_keepFit : MethodName := ⟨RX11, "keepFit", "([I)V"⟩
abbrev cX11_surePairs : ByteArray := prog_1_method_43_code
def yX11_surePairs : MethodName := ⟨RX11, "surePairs", "()I"⟩
abbrev cX11_digestLine : ByteArray := prog_1_method_44_code
def yX11_digestLine : MethodName := ⟨RX11, "digestLine", "(JI)J"⟩
abbrev cX11_digestSheet : ByteArray := prog_1_method_45_code
def yX11_digestSheet : MethodName := ⟨RX11, "digestSheet", "(JI)J"⟩
def RX12 : String := "LoadsUnseenModel"
def TX12 : u_T := fun k => match k with
  | 0 => ("LoadsUnseenModel", "finding", "I", false)
  | 1 => ("LoadsUnseenModel", "findings", "[I", true)
  | 2 => ("LoadsUnseenModel", "asked", "J", false)
  | 3 => ("LoadsUnseenModel", "knots", "I", false)
  | 4 => ("LoadsUnseenModel", "lines", "I", false)
  | 5 => ("LoadsUnseenModel", "kinds", "[I", true)
  | 6 => ("LoadsUnseenModel", "froms", "[I", true)
  | 7 => ("LoadsUnseenModel", "tos", "[I", true)
  | 8 => ("LoadsUnseenModel", "isDown", "[Z", true)
  | 9 => ("LoadsUnseenModel", "rates", "[I", true)
  | 10 => ("LoadsUnseenModel", "carried", "[I", true)
  | 11 => ("LoadsUnseenModel", "readings", "[I", true)
  | 12 => ("LoadsUnseenModel", "meters", "[I", true)
  | 13 => ("LoadsUnseenModel", "bases", "[I", true)
  | 14 => ("LoadsUnseenModel", "fit", "[I", true)
  | 15 => ("LoadsUnseenModel", "isFit", "Z", false)
  | 16 => ("LoadsUnseenModel", "routes", "[I", true)
  | 17 => ("LoadsUnseenModel", "ways", "[I", true)
  | 18 => ("LoadsUnseenModel", "linesOn", "I", false)
  | 19 => ("LoadsUnseenModel", "lineAt", "I", false)
  | 20 => ("LoadsUnseenModel", "many", "I", false)
  | 21 => ("LoadsUnseenModel", "sought", "[I", true)
  | 22 => ("LoadsUnseenModel", "gone", "[I", true)
  | 23 => ("LoadsUnseenModel", "goes", "[I", true)
  | 24 => ("LoadsUnseenModel", "lasts", "[I", true)
  | 25 => ("LoadsUnseenModel", "fixed", "[I", true)
  | 26 => ("LoadsUnseenModel", "left", "[I", true)
  | 27 => ("LoadsUnseenModel", "now", "[I", true)
  | 28 => ("LoadsUnseenModel", "tops", "[I", true)
  | 29 => ("LoadsUnseenModel", "tries", "I", false)
  | 30 => ("LoadsUnseenModel", "limit", "I", false)
  | 31 => ("LoadsUnseenModel", "level", "I", false)
  | 32 => ("LoadsUnseenModel", "isTaken", "[Z", true)
  | 33 => ("LoadsUnseenModel", "leasts", "[I", true)
  | 34 => ("LoadsUnseenModel", "mosts", "[I", true)
  | 35 => ("LoadsUnseenModel", "then", "[I", true)
  | 36 => ("LoadsUnseenModel", "firstFit", "[I", true)
  | 37 => ("LoadsUnseenModel", "frees", "[I", true)
  | 38 => ("LoadsUnseenModel", "sizes", "[I", true)
  | 39 => ("LoadsUnseenModel", "sheets", "[I", true)
  | _ => ("LoadsUnseenModel", "moving", "[I", true)
def tyX12 : Nat → FieldType := fun k => match k with
  | 0 => .int
  | 1 => .array .int
  | 2 => .long
  | 3 => .int
  | 4 => .int
  | 5 => .array .int
  | 6 => .array .int
  | 7 => .array .int
  | 8 => .array .boolean
  | 9 => .array .int
  | 10 => .array .int
  | 11 => .array .int
  | 12 => .array .int
  | 13 => .array .int
  | 14 => .array .int
  | 15 => .boolean
  | 16 => .array .int
  | 17 => .array .int
  | 18 => .int
  | 19 => .int
  | 20 => .int
  | 21 => .array .int
  | 22 => .array .int
  | 23 => .array .int
  | 24 => .array .int
  | 25 => .array .int
  | 26 => .array .int
  | 27 => .array .int
  | 28 => .array .int
  | 29 => .int
  | 30 => .int
  | 31 => .int
  | 32 => .array .boolean
  | 33 => .array .int
  | 34 => .array .int
  | 35 => .array .int
  | 36 => .array .int
  | 37 => .array .int
  | 38 => .array .int
  | 39 => .array .int
  | _ => .array .int
abbrev wsX120 : List Cond := u_ws RX12 TX12 41
theorem nmX12 : ∀ a, a < 41 → ∀ b, b < 41 → a ≠ b → (TX12 a).2.1 ≠ (TX12 b).2.1 := by decide +kernel
theorem tyX12_ok : ∀ k, k < 41 → parseFieldDescriptor (TX12 k).2.2.1 = some (tyX12 k) := by decide +kernel
abbrev cX12_init : ByteArray := prog_14_method_1_code
def yX12_init : MethodName := ⟨RX12, "<init>", "()V"⟩
abbrev cX12_in : ByteArray := prog_14_method_3_code
def yX12_in : MethodName := ⟨RX12, "in", "(III)Z"⟩
abbrev cX12_meets : ByteArray := prog_14_method_4_code
def yX12_meets : MethodName := ⟨RX12, "meets", "(I)I"⟩
abbrev cX12_tell : ByteArray := prog_14_method_5_code
def yX12_tell : MethodName := ⟨RX12, "tell", "(JI)I"⟩
abbrev cX12_forget : ByteArray := prog_14_method_6_code
def yX12_forget : MethodName := ⟨RX12, "forget", "()V"⟩
abbrev cX12_net : ByteArray := prog_14_method_7_code
def yX12_net : MethodName := ⟨RX12, "net", "(I)I"⟩
abbrev cX12_isKnot : ByteArray := prog_14_method_8_code
def yX12_isKnot : MethodName := ⟨RX12, "isKnot", "(I)Z"⟩
abbrev cX12_isLine : ByteArray := prog_14_method_9_code
def yX12_isLine : MethodName := ⟨RX12, "isLine", "(I)Z"⟩
abbrev cX12_line : ByteArray := prog_14_method_10_code
def yX12_line : MethodName := ⟨RX12, "line", "(III)I"⟩
abbrev cX12_tells : ByteArray := prog_14_method_11_code
def yX12_tells : MethodName := ⟨RX12, "tells", "(II)I"⟩
abbrev cX12_told : ByteArray := prog_14_method_12_code
def yX12_told : MethodName := ⟨RX12, "told", "(II)I"⟩
abbrev cX12_counts : ByteArray := prog_14_method_13_code
def yX12_counts : MethodName := ⟨RX12, "counts", "(I)Z"⟩
abbrev cX12_counterOf : ByteArray := prog_14_method_14_code
def yX12_counterOf : MethodName := ⟨RX12, "counterOf", "(I)I"⟩
abbrev cX12_had : ByteArray := prog_14_method_15_code
def yX12_had : MethodName := ⟨RX12, "had", "(I)I"⟩
abbrev cX12_mark : ByteArray := prog_14_method_16_code
def yX12_mark : MethodName := ⟨RX12, "mark", "(II)I"⟩
abbrev cX12_down : ByteArray := prog_14_method_17_code
def yX12_down : MethodName := ⟨RX12, "down", "(IZ)I"⟩
abbrev cX12_rate : ByteArray := prog_14_method_18_code
def yX12_rate : MethodName := ⟨RX12, "rate", "(II)I"⟩
abbrev cX12_reading : ByteArray := prog_14_method_19_code
def yX12_reading : MethodName := ⟨RX12, "reading", "(III)I"⟩
abbrev cX12_loadOf : ByteArray := prog_14_method_20_code
def yX12_loadOf : MethodName := ⟨RX12, "loadOf", "(III)I"⟩
abbrev cX12_load : ByteArray := prog_14_method_21_code
def yX12_load : MethodName := ⟨RX12, "load", "(III)I"⟩
abbrev cX12_mean : ByteArray := prog_14_method_22_code
def yX12_mean : MethodName := ⟨RX12, "mean", "(I)I"⟩
abbrev cX12_setRoutes : ByteArray := prog_14_method_23_code
def yX12_setRoutes : MethodName := ⟨RX12, "setRoutes", "(I)V"⟩
abbrev cX12_routeOf : ByteArray := prog_14_method_24_code
def yX12_routeOf : MethodName := ⟨RX12, "routeOf", "(IIII)I"⟩
abbrev cX12_isPair : ByteArray := prog_14_method_25_code
def yX12_isPair : MethodName := ⟨RX12, "isPair", "(II)Z"⟩
abbrev cX12_route : ByteArray := prog_14_method_26_code
def yX12_route : MethodName := ⟨RX12, "route", "(III)I"⟩
abbrev cX12_carried : ByteArray := prog_14_method_27_code
def yX12_carried : MethodName := ⟨RX12, "carried", "(II)I"⟩
abbrev cX12_meter : ByteArray := prog_14_method_28_code
def yX12_meter : MethodName := ⟨RX12, "meter", "(III)I"⟩
abbrev cX12_base : ByteArray := prog_14_method_29_code
def yX12_base : MethodName := ⟨RX12, "base", "(III)I"⟩
abbrev cX12_guess : ByteArray := prog_14_method_30_code
def yX12_guess : MethodName := ⟨RX12, "guess", "(II)I"⟩
abbrev cX12_setSeeking : ByteArray := prog_14_method_31_code
def yX12_setSeeking : MethodName := ⟨RX12, "setSeeking", "()V"⟩
abbrev cX12_beginSeeking : ByteArray := prog_14_method_32_code
def yX12_beginSeeking : MethodName := ⟨RX12, "beginSeeking", "()V"⟩
abbrev cX12_begin : ByteArray := prog_14_method_33_code
def yX12_begin : MethodName := ⟨RX12, "begin", "()V"⟩
abbrev cX12_take : ByteArray := prog_14_method_34_code
def yX12_take : MethodName := ⟨RX12, "take", "(I)V"⟩
abbrev cX12_next : ByteArray := prog_14_method_35_code
def yX12_next : MethodName := ⟨RX12, "next", "(Z)I"⟩
abbrev cX12_isNothingLeft : ByteArray := prog_14_method_36_code
def yX12_isNothingLeft : MethodName := ⟨RX12, "isNothingLeft", "()Z"⟩
abbrev cX12_open : ByteArray := prog_14_method_37_code
def yX12_open : MethodName := ⟨RX12, "open", "(I)V"⟩
abbrev cX12_areTries : ByteArray := prog_14_method_38_code
def yX12_areTries : MethodName := ⟨RX12, "areTries", "(I)Z"⟩
abbrev cX12_keep : ByteArray := prog_14_method_39_code
def yX12_keep : MethodName := ⟨RX12, "keep", "()V"⟩
abbrev cX12_fits : ByteArray := prog_14_method_40_code
def yX12_fits : MethodName := ⟨RX12, "fits", "(I)I"⟩
abbrev cX12_fit : ByteArray := prog_14_method_41_code
def yX12_fit : MethodName := ⟨RX12, "fit", "(II)I"⟩
abbrev cX12_many : ByteArray := prog_14_method_42_code
def yX12_many : MethodName := ⟨RX12, "many", "(I)I"⟩
abbrev cX12_setBounds : ByteArray := prog_14_method_43_code
def yX12_setBounds : MethodName := ⟨RX12, "setBounds", "(I)I"⟩
abbrev cX12_bound : ByteArray := prog_14_method_44_code
def yX12_bound : MethodName := ⟨RX12, "bound", "(IIZI)I"⟩
abbrev cX12_sure : ByteArray := prog_14_method_45_code
def yX12_sure : MethodName := ⟨RX12, "sure", "(I)I"⟩
abbrev cX12_tries : ByteArray := prog_14_method_46_code
def yX12_tries : MethodName := ⟨RX12, "tries", "()I"⟩
abbrev cX12_changes : ByteArray := prog_14_method_47_code
def yX12_changes : MethodName := ⟨RX12, "changes", "()I"⟩
abbrev cX12_changed : ByteArray := prog_14_method_48_code
def yX12_changed : MethodName := ⟨RX12, "changed", "(I)I"⟩
abbrev cX12_worst : ByteArray := prog_14_method_49_code
def yX12_worst : MethodName := ⟨RX12, "worst", "(III)I"⟩
abbrev cX12_meters : ByteArray := prog_14_method_50_code
def yX12_meters : MethodName := ⟨RX12, "meters", "(I)I"⟩
abbrev cX12_later : ByteArray := prog_14_method_51_code
def yX12_later : MethodName := ⟨RX12, "later", "(J)J"⟩
abbrev cX12_isAlone : ByteArray := prog_14_method_52_code
def yX12_isAlone : MethodName := ⟨RX12, "isAlone", "(JI)I"⟩
abbrev cX12_isSheet : ByteArray := prog_14_method_53_code
def yX12_isSheet : MethodName := ⟨RX12, "isSheet", "(I)Z"⟩
abbrev cX12_looked : ByteArray := prog_14_method_54_code
def yX12_looked : MethodName := ⟨RX12, "looked", "(I)I"⟩
abbrev cX12_sheet : ByteArray := prog_14_method_55_code
def yX12_sheet : MethodName := ⟨RX12, "sheet", "(II)I"⟩
abbrev cX12_lay : ByteArray := prog_14_method_56_code
def yX12_lay : MethodName := ⟨RX12, "lay", "(III)I"⟩
abbrev cX12_play : ByteArray := prog_14_method_57_code
def yX12_play : MethodName := ⟨RX12, "play", "(II)I"⟩
abbrev cX12_tear : ByteArray := prog_14_method_58_code
def yX12_tear : MethodName := ⟨RX12, "tear", "(I)I"⟩
abbrev cX12_copy : ByteArray := prog_14_method_59_code
def yX12_copy : MethodName := ⟨RX12, "copy", "(IIIII)I"⟩
abbrev cX12_asked : ByteArray := prog_14_method_60_code
def yX12_asked : MethodName := ⟨RX12, "asked", "()J"⟩
abbrev cX12_tellsCount : ByteArray := prog_14_method_61_code
def yX12_tellsCount : MethodName := ⟨RX12, "tellsCount", "(I)I"⟩
abbrev cX12_count : ByteArray := prog_14_method_62_code
def yX12_count : MethodName := ⟨RX12, "count", "(I)I"⟩
abbrev cX12_finding : ByteArray := prog_14_method_63_code
def yX12_finding : MethodName := ⟨RX12, "finding", "()I"⟩
abbrev cX12_findings : ByteArray := prog_14_method_64_code
def yX12_findings : MethodName := ⟨RX12, "findings", "(I)I"⟩
abbrev cX12_digest : ByteArray := prog_14_method_65_code
def yX12_digest : MethodName := ⟨RX12, "digest", "()J"⟩
def RJ6 : String := "java/lang/Integer"
def TJ6 : u_T := fun k => match k with
  | _ => ("", "", "", false)
def tyJ6 : Nat → FieldType := fun k => match k with
  | _ => .int
abbrev wsJ60 : List Cond := u_ws RJ6 TJ6 0
theorem nmJ6 : ∀ a, a < 0 → ∀ b, b < 0 → a ≠ b → (TJ6 a).2.1 ≠ (TJ6 b).2.1 := by decide +kernel
theorem tyJ6_ok : ∀ k, k < 0 → parseFieldDescriptor (TJ6 k).2.2.1 = some (tyJ6 k) := by decide +kernel
abbrev cJ6_numberOfTrailingZeros_0f7a4 : ByteArray := prog_15_method_48_code
def yJ6_numberOfTrailingZeros_0f7a4 : MethodName := ⟨RJ6, "numberOfTrailingZeros", "(I)I"⟩
def RJ13 : String := "java/lang/Long"
def TJ13 : u_T := fun k => match k with
  | _ => ("", "", "", false)
def tyJ13 : Nat → FieldType := fun k => match k with
  | _ => .int
abbrev wsJ130 : List Cond := u_ws RJ13 TJ13 0
theorem nmJ13 : ∀ a, a < 0 → ∀ b, b < 0 → a ≠ b → (TJ13 a).2.1 ≠ (TJ13 b).2.1 := by decide +kernel
theorem tyJ13_ok : ∀ k, k < 0 → parseFieldDescriptor (TJ13 k).2.2.1 = some (tyJ13 k) := by decide +kernel
abbrev cJ13_numberOfTrailingZeros_95d88 : ByteArray := prog_16_method_49_code
def yJ13_numberOfTrailingZeros_95d88 : MethodName := ⟨RJ13, "numberOfTrailingZeros", "(J)I"⟩
abbrev cJ13_bitCount_95d88 : ByteArray := prog_16_method_50_code
def yJ13_bitCount_95d88 : MethodName := ⟨RJ13, "bitCount", "(J)I"⟩
def RJ9 : String := "java/lang/Math"
def TJ9 : u_T := fun k => match k with
  | _ => ("", "", "", false)
def tyJ9 : Nat → FieldType := fun k => match k with
  | _ => .int
abbrev wsJ90 : List Cond := u_ws RJ9 TJ9 0
theorem nmJ9 : ∀ a, a < 0 → ∀ b, b < 0 → a ≠ b → (TJ9 a).2.1 ≠ (TJ9 b).2.1 := by decide +kernel
theorem tyJ9_ok : ∀ k, k < 0 → parseFieldDescriptor (TJ9 k).2.2.1 = some (tyJ9 k) := by decide +kernel
abbrev cJ9_max_7cf53 : ByteArray := prog_17_method_65_code
def yJ9_max_7cf53 : MethodName := ⟨RJ9, "max", "(II)I"⟩
abbrev cJ9_min_7cf53 : ByteArray := prog_17_method_69_code
def yJ9_min_7cf53 : MethodName := ⟨RJ9, "min", "(II)I"⟩
def RJ10 : String := "java/lang/System"
def TJ10 : u_T := fun k => match k with
  | _ => ("", "", "", false)
def tyJ10 : Nat → FieldType := fun k => match k with
  | _ => .int
abbrev wsJ100 : List Cond := u_ws RJ10 TJ10 0
theorem nmJ10 : ∀ a, a < 0 → ∀ b, b < 0 → a ≠ b → (TJ10 a).2.1 ≠ (TJ10 b).2.1 := by decide +kernel
theorem tyJ10_ok : ∀ k, k < 0 → parseFieldDescriptor (TJ10 k).2.2.1 = some (tyJ10 k) := by decide +kernel
def RJ7 : String := "java/util/Arrays"
def TJ7 : u_T := fun k => match k with
  | _ => ("", "", "", false)
def tyJ7 : Nat → FieldType := fun k => match k with
  | _ => .int
abbrev wsJ70 : List Cond := u_ws RJ7 TJ7 0
theorem nmJ7 : ∀ a, a < 0 → ∀ b, b < 0 → a ≠ b → (TJ7 a).2.1 ≠ (TJ7 b).2.1 := by decide +kernel
theorem tyJ7_ok : ∀ k, k < 0 → parseFieldDescriptor (TJ7 k).2.2.1 = some (tyJ7 k) := by decide +kernel
abbrev cJ7_fill_53178 : ByteArray := prog_19_method_103_code
def yJ7_fill_53178 : MethodName := ⟨RJ7, "fill", "([II)V"⟩
abbrev cJ7_fill_031fb : ByteArray := prog_19_method_109_code
def yJ7_fill_031fb : MethodName := ⟨RJ7, "fill", "([BB)V"⟩
def RL : String := "LoadsUnseenLaw"
abbrev cL_law : ByteArray := code
def yL_law : MethodName := ⟨RL, "law", "([I)Z"⟩
abbrev vwCl : List vw_C := [(RX1, TX1, 4), (RX3, TX3, 4), (RX4, TX4, 7), (RX5, TX5, 5), (RX6, TX6, 3), (RX7, TX7, 4), (RX8, TX8, 12), (RX9, TX9, 2), (RX10, TX10, 3), (RX11, TX11, 15), (RX12, TX12, 41)]
end
section
/-! ===== the abstract machine: places 0 .. 93, each with a fixed shape; what changes is I (ints, by place and slot) and J (longs) ===== -/
abbrev am_F : Type := Option (Option Nat)
abbrev am_Sh : Type := (Nat × List am_F) ⊕ (Nat × Nat × Option (Nat → Nat))
abbrev am_I : Type := Nat → Nat → Int32
abbrev am_J : Type := Nat → Nat → Int64
def am_N : Nat := 94
def am_tab : List am_Sh := [
  .inl (9, [some (some 1), some (some 2), some (some 3), some (some 4), some (some 5), some (some 6), some (some 7), some (some 8), some (some 9), some (some 10), none, none, some none, none, some (some 11)]),
  .inl (3, [none, none, some (some 12), some (some 13), some (some 14)]),
  .inl (5, [none, some (some 44), some (some 45), some (some 46)]),
  .inl (5, [none, some (some 47), some (some 48), some (some 49)]),
  .inl (6, [some (some 1), some (some 2), some (some 50), some (some 51), some (some 52), some (some 53), some (some 54), some (some 55), none, none, none, none]),
  .inl (8, [some (some 56), none, none]),
  .inl (4, [some (some 57), some (some 58), none]),
  .inl (0, [some (some 59), none, none, some (some 14)]),
  .inl (1, [some (some 60), none, none, some (some 61)]),
  .inl (7, [some (some 15), some (some 62)]),
  .inr (0, 36, none),
  .inr (0, 6, none),
  .inr (4, 12, some (fun i => 20 + i)),
  .inr (0, 36, none),
  .inr (0, 36, none),
  .inr (3, 4, some (fun i => 16 + i)),
  .inr (2, 24, none),
  .inr (2, 24, none),
  .inr (2, 24, none),
  .inr (2, 24, none),
  .inl (2, [none, none, none, none, none, none, some (some 32)]),
  .inl (2, [none, none, none, none, none, none, some (some 33)]),
  .inl (2, [none, none, none, none, none, none, some (some 34)]),
  .inl (2, [none, none, none, none, none, none, some (some 35)]),
  .inl (2, [none, none, none, none, none, none, some (some 36)]),
  .inl (2, [none, none, none, none, none, none, some (some 37)]),
  .inl (2, [none, none, none, none, none, none, some (some 38)]),
  .inl (2, [none, none, none, none, none, none, some (some 39)]),
  .inl (2, [none, none, none, none, none, none, some (some 40)]),
  .inl (2, [none, none, none, none, none, none, some (some 41)]),
  .inl (2, [none, none, none, none, none, none, some (some 42)]),
  .inl (2, [none, none, none, none, none, none, some (some 43)]),
  .inr (0, 24, none),
  .inr (0, 24, none),
  .inr (0, 24, none),
  .inr (0, 24, none),
  .inr (0, 24, none),
  .inr (0, 24, none),
  .inr (0, 24, none),
  .inr (0, 24, none),
  .inr (0, 24, none),
  .inr (0, 24, none),
  .inr (0, 24, none),
  .inr (0, 24, none),
  .inr (0, 36, none),
  .inr (0, 180, none),
  .inr (0, 6, none),
  .inr (0, 36, none),
  .inr (0, 180, none),
  .inr (0, 6, none),
  .inr (0, 36, none),
  .inr (0, 36, none),
  .inr (0, 12, none),
  .inr (0, 12, none),
  .inr (0, 36, none),
  .inr (0, 36, none),
  .inr (0, 36, none),
  .inr (0, 36, none),
  .inr (0, 36, none),
  .inr (0, 36, none),
  .inr (0, 36, none),
  .inr (1, 36, none),
  .inr (0, 4, none),
  .inl (10, [none, some (some 64), some none, none, none, some (some 65), some (some 66), some (some 67), some (some 68), some (some 69), some (some 70), some (some 71), some (some 72), some (some 73), some (some 74), none, some (some 75), some (some 76), none, none, none, some (some 77), some (some 78), some (some 79), some (some 80), some (some 81), some (some 82), some (some 83), some (some 84), none, none, none, some (some 85), some (some 86), some (some 87), some (some 88), some (some 89), some (some 90), some (some 91), some (some 92), some (some 93)]),
  .inr (0, 6, none),
  .inr (0, 12, none),
  .inr (0, 12, none),
  .inr (0, 12, none),
  .inr (1, 12, none),
  .inr (0, 12, none),
  .inr (0, 12, none),
  .inr (0, 288, none),
  .inr (0, 36, none),
  .inr (0, 36, none),
  .inr (0, 36, none),
  .inr (0, 36, none),
  .inr (0, 36, none),
  .inr (0, 36, none),
  .inr (0, 36, none),
  .inr (0, 36, none),
  .inr (0, 36, none),
  .inr (0, 36, none),
  .inr (0, 12, none),
  .inr (0, 36, none),
  .inr (0, 36, none),
  .inr (1, 36, none),
  .inr (0, 36, none),
  .inr (0, 36, none),
  .inr (0, 36, none),
  .inr (0, 36, none),
  .inr (0, 36, none),
  .inr (0, 4, none),
  .inr (0, 96, none),
  .inr (0, 24, none)]
def am_sh (k : Nat) : am_Sh := am_tab.getD k (.inr (0, 0, none))
def am_v (ad : Nat → Nat) (v : Value) : Value := match v with
  | .ref k => .ref (ad k)
  | v => v
def am_fv (ad : Nat → Nat) (I : am_I) (J : am_J) (k : Nat) (q : am_F) (j : Nat) : Value := match q with
  | none => .int (I k j)
  | some none => .long (J k j)
  | some (some r) => .ref (ad r)
def am_fs (ad : Nat → Nat) (I : am_I) (J : am_J) (k : Nat) : Nat → List am_F → List Value
  | _, [] => []
  | j, q :: qs => am_fv ad I J k q j :: am_fs ad I J k (j + 1) qs
def am_E (cI : Nat → ClassId) (ad : Nat → Nat) (I : am_I) (J : am_J) (k : Nat) (s : am_Sh) : va_E := match s with
  | .inl o => .inr (o.1, am_fs ad I J k 0 o.2)
  | .inr (t, n, none) => .inl (cI t, n, .inl (I k))
  | .inr (t, n, some f) => .inl (cI t, n, .inr (.inr (.inr (.inr (fun i => some (ad (f i)))))))
def am_W (cI : Nat → ClassId) (ad : Nat → Nat) (I : am_I) (J : am_J) : va_W := (List.range am_N).map fun k => (ad k, am_E cI ad I J k (am_sh k))
def am_up (I : am_I) (k j : Nat) (x : Int32) : am_I := fun a b => if a = k then (if b = j then x else I a b) else I a b
def am_upJ (J : am_J) (k j : Nat) (x : Int64) : am_J := fun a b => if a = k then (if b = j then x else J a b) else J a b
theorem am_up_ne {I : am_I} {k j a : Nat} {x : Int32} (h : a ≠ k) : am_up I k j x a = I a := by
  funext b; simp [am_up, h]
theorem am_up_row {I : am_I} {k j : Nat} {x : Int32} : am_up I k j x k = upd (I k) j x := by
  funext b; simp [am_up, upd]
theorem am_up_same {I : am_I} {k j : Nat} {x : Int32} : am_up I k j x k j = x := by simp [am_up]
theorem am_up_slot {I : am_I} {k j b : Nat} {x : Int32} (h : b ≠ j) : am_up I k j x k b = I k b := by simp [am_up, h]
theorem am_upJ_ne {J : am_J} {k j a : Nat} {x : Int64} (h : a ≠ k) : am_upJ J k j x a = J a := by
  funext b; simp [am_upJ, h]
theorem am_fs_get (ad : Nat → Nat) (I : am_I) (J : am_J) (k : Nat) : ∀ (fs : List am_F) (j0 j : Nat), (am_fs ad I J k j0 fs)[j]? = fs[j]?.map (fun q => am_fv ad I J k q (j0 + j))
  | [], j0, j => by simp [am_fs]
  | q :: qs, j0, 0 => by simp [am_fs]
  | q :: qs, j0, j + 1 => by
    have h := am_fs_get ad I J k qs (j0 + 1) j
    simp only [am_fs, List.getElem?_cons_succ, h]
    congr 1
    funext q
    congr 1
    omega
theorem am_fs_len (ad : Nat → Nat) (I : am_I) (J : am_J) (k : Nat) : ∀ (fs : List am_F) (j0 : Nat), (am_fs ad I J k j0 fs).length = fs.length
  | [], _ => rfl
  | _ :: qs, j0 => by simp [am_fs, am_fs_len ad I J k qs (j0 + 1)]
theorem am_fs_congr {ad : Nat → Nat} {I I' : am_I} {J J' : am_J} {k : Nat} (hI : I' k = I k) (hJ : J' k = J k) (fs : List am_F) (j0 : Nat) : am_fs ad I' J' k j0 fs = am_fs ad I J k j0 fs := by
  apply List.ext_getElem?
  intro j
  rw [am_fs_get, am_fs_get]
  congr 1
  funext q
  match q with
  | none => simp [am_fv, hI]
  | some none => simp [am_fv, hJ]
  | some (some r) => rfl
theorem am_fs_set {ad : Nat → Nat} {I : am_I} {J : am_J} {k j : Nat} {x : Int32} {fs : List am_F} (h : fs[j]? = some none) : (am_fs ad I J k 0 fs).set j (.int x) = am_fs ad (am_up I k j x) J k 0 fs := by
  have hl : j < fs.length := (List.getElem?_eq_some_iff.mp h).1
  apply List.ext_getElem?
  intro b
  rw [am_fs_get, List.getElem?_set, am_fs_get]
  by_cases hb : j = b
  · subst hb
    rw [if_pos rfl, if_pos (by rw [am_fs_len]; exact hl), h]
    simp [am_fv, am_up]
  · rw [if_neg hb]
    congr 1
    funext q
    match q with
    | none => simp [am_fv, am_up, show ¬ b = j from fun e => hb e.symm]
    | some none => rfl
    | some (some r) => rfl
theorem am_fs_setJ {ad : Nat → Nat} {I : am_I} {J : am_J} {k j : Nat} {x : Int64} {fs : List am_F} (h : fs[j]? = some (some none)) : (am_fs ad I J k 0 fs).set j (.long x) = am_fs ad I (am_upJ J k j x) k 0 fs := by
  have hl : j < fs.length := (List.getElem?_eq_some_iff.mp h).1
  apply List.ext_getElem?
  intro b
  rw [am_fs_get, List.getElem?_set, am_fs_get]
  by_cases hb : j = b
  · subst hb
    rw [if_pos rfl, if_pos (by rw [am_fs_len]; exact hl), h]
    simp [am_fv, am_upJ]
  · rw [if_neg hb]
    congr 1
    funext q
    match q with
    | none => rfl
    | some none => simp [am_fv, am_upJ, show ¬ b = j from fun e => hb e.symm]
    | some (some r) => rfl
theorem am_E_congr {cI : Nat → ClassId} {ad : Nat → Nat} {I I' : am_I} {J J' : am_J} {k : Nat} (hI : I' k = I k) (hJ : J' k = J k) (s : am_Sh) : am_E cI ad I' J' k s = am_E cI ad I J k s := by
  match s with
  | .inl o => simp only [am_E, am_fs_congr hI hJ]
  | .inr (t, n, none) => simp only [am_E, hI]
  | .inr (t, n, some f) => rfl
theorem am_W_get {cI : Nat → ClassId} {ad : Nat → Nat} {I : am_I} {J : am_J} {k : Nat} (hk : k < am_N) : (am_W cI ad I J)[k]? = some (ad k, am_E cI ad I J k (am_sh k)) := by
  simp [am_W, hk]
theorem am_W_lt {cI : Nat → ClassId} {ad : Nat → Nat} {I : am_I} {J : am_J} {k : Nat} {q : Nat × va_E} (h : (am_W cI ad I J)[k]? = some q) : k < am_N ∧ q = (ad k, am_E cI ad I J k (am_sh k)) := by
  have hl : k < (am_W cI ad I J).length := (List.getElem?_eq_some_iff.mp h).1
  have hk : k < am_N := by simpa [am_W] using hl
  rw [am_W_get hk] at h
  exact ⟨hk, (Option.some.inj h).symm⟩
theorem am_W_set {cI : Nat → ClassId} {ad : Nat → Nat} {I I' : am_I} {J J' : am_J} {k : Nat} (hI : ∀ a, a ≠ k → I' a = I a) (hJ : ∀ a, a ≠ k → J' a = J a) {E : va_E} (hE : E = am_E cI ad I' J' k (am_sh k)) : (am_W cI ad I J).set k (ad k, E) = am_W cI ad I' J' := by
  apply List.ext_getElem?
  intro b
  rw [List.getElem?_set]
  by_cases hb : k = b
  · subst hb
    by_cases hk : k < am_N
    · rw [am_W_get hk]
      simp [am_W, hk, hE]
    · have h1 : ¬ k < (am_W cI ad I J).length := by simpa [am_W] using hk
      have h2 : ¬ k < (am_W cI ad I' J').length := by simpa [am_W] using hk
      simp [List.getElem?_eq_none (Nat.not_lt.mp h2), h1]
  · rw [if_neg hb]
    by_cases hk : b < am_N
    · rw [am_W_get hk, am_W_get hk, am_E_congr (hI b (fun e => hb e.symm)) (hJ b (fun e => hb e.symm))]
    · have h1 : ¬ b < (am_W cI ad I J).length := by simpa [am_W] using hk
      have h2 : ¬ b < (am_W cI ad I' J').length := by simpa [am_W] using hk
      rw [List.getElem?_eq_none (Nat.not_lt.mp h2), List.getElem?_eq_none (Nat.not_lt.mp h1)]
theorem am_cat (ad : Nat → Nat) (v : Value) : (am_v ad v).category = v.category := by cases v <;> rfl
theorem am_cats (ad : Nat → Nat) (st : List Value) : ((st.map (am_v ad)).map fun v => v.category) = st.map fun v => v.category := by
  rw [List.map_map]
  congr 1
  funext v
  exact am_cat ad v
/-! locals -/
def am_L (ad : Nat → Nat) (ls : Array Slot) (n : Nat) (L : List (Option Value)) : Prop := ls.size = n ∧ L.length = n ∧ lv_wf ls ∧ ∀ (i : Nat) (v : Value), L[i]? = some (some v) → ls[i]? = some (.val (am_v ad v))
def am_kill (L : List (Option Value)) (i : Nat) : List (Option Value) := match i with
  | 0 => L
  | i + 1 => match L[i]? with
    | some (some (.long _)) => L.set i none
    | some (some (.double _)) => L.set i none
    | _ => L
def am_set (L : List (Option Value)) (i : Nat) (v : Value) : List (Option Value) := (am_kill L i).set i (some v)
def am_set2 (L : List (Option Value)) (i : Nat) (v : Value) : List (Option Value) := ((am_kill L i).set (i + 1) none).set i (some v)
def am_lv (ad : Nat → Nat) (L : List (Option Value)) : List (Nat × Value) := (List.range L.length).filterMap fun i => (L[i]?.join).map fun v => (i, am_v ad v)
theorem am_lv_mem {ad : Nat → Nat} {L : List (Option Value)} {q : Nat × Value} : q ∈ am_lv ad L ↔ ∃ v, L[q.1]? = some (some v) ∧ q.2 = am_v ad v := by
  unfold am_lv
  rw [List.mem_filterMap]
  constructor
  · rintro ⟨i, hi, h⟩
    rw [Option.map_eq_some_iff] at h
    obtain ⟨v, h1, h2⟩ := h
    subst h2
    exact ⟨v, by rw [Option.join_eq_some_iff] at h1; exact h1, rfl⟩
  · rintro ⟨v, h1, h2⟩
    refine ⟨q.1, List.mem_range.mpr (List.getElem?_eq_some_iff.mp h1).1, ?_⟩
    rw [h1]
    obtain ⟨a, b⟩ := q
    simp only at h2
    subst h2
    rfl
theorem am_L_has {ad : Nat → Nat} {ls : Array Slot} {n : Nat} {L : List (Option Value)} (h : am_L ad ls n L) : lv_has ls n (am_lv ad L) := by
  refine ⟨h.1, h.2.2.1, fun q hq => ?_⟩
  obtain ⟨v, h1, h2⟩ := am_lv_mem.mp hq
  rw [h2]
  exact h.2.2.2 _ _ h1
theorem am_kill_len (L : List (Option Value)) (i : Nat) : (am_kill L i).length = L.length := by
  unfold am_kill
  split
  · rfl
  · split <;> simp
theorem am_kill_get {L : List (Option Value)} {i b : Nat} {v : Value} (h : (am_kill L i)[b]? = some (some v)) : L[b]? = some (some v) ∧ ¬ (b + 1 = i ∧ v.category = 2) := by
  unfold am_kill at h
  split at h
  · exact ⟨h, fun q => by omega⟩
  · rename_i j
    split at h
    · rename_i x hx
      rw [List.getElem?_set] at h
      by_cases hb : j = b
      · subst hb
        simp at h
      · rw [if_neg hb] at h
        exact ⟨h, fun q => hb (by omega)⟩
    · rename_i x hx
      rw [List.getElem?_set] at h
      by_cases hb : j = b
      · subst hb
        simp at h
      · rw [if_neg hb] at h
        exact ⟨h, fun q => hb (by omega)⟩
    · rename_i h1 h2
      refine ⟨h, fun q => ?_⟩
      obtain ⟨q1, q2⟩ := q
      have hb : b = j := by omega
      subst hb
      cases v with
      | long x => exact h1 x h
      | double x => exact h2 x h
      | _ => simp [Value.category] at q2
theorem am_L_set {ad : Nat → Nat} {ls ls' : Array Slot} {n : Nat} {L : List (Option Value)} {i : Nat} {v : Value} (h : am_L ad ls n L) (hi : i < L.length) (h1 : lv_has ls' n ((i, am_v ad v) :: (am_lv ad L).filter (fun q => !(q.1 == i) && !(q.1 + 1 == i && q.2.category == 2)))) : am_L ad ls' n (am_set L i v) := by
  refine ⟨h1.1, ?_, h1.2.1, fun b x hb => ?_⟩
  · rw [am_set, List.length_set, am_kill_len]; exact h.2.1
  · refine h1.2.2 (b, am_v ad x) ?_
    unfold am_set at hb
    rw [List.getElem?_set] at hb
    by_cases he : i = b
    · subst he
      simp [am_kill_len, hi] at hb
      subst hb
      exact List.mem_cons_self
    · rw [if_neg he] at hb
      obtain ⟨g1, g2⟩ := am_kill_get hb
      refine List.mem_cons_of_mem _ (List.mem_filter.mpr ⟨am_lv_mem.mpr ⟨x, g1, rfl⟩, ?_⟩)
      have h3 : ¬ b = i := fun e => he e.symm
      by_cases h4 : b + 1 = i
      · have h5 : ¬ x.category = 2 := fun e => g2 ⟨h4, e⟩
        simp [h3, am_cat, h5]
      · simp [h3, h4]
theorem am_L_set2 {ad : Nat → Nat} {ls ls' : Array Slot} {n : Nat} {L : List (Option Value)} {i : Nat} {v : Value} (h : am_L ad ls n L) (hi : i + 1 < L.length) (h1 : lv_has ls' n ((i, am_v ad v) :: (am_lv ad L).filter (fun q => !(q.1 == i) && (!(q.1 == i + 1) && !(q.1 + 1 == i && q.2.category == 2))))) : am_L ad ls' n (am_set2 L i v) := by
  refine ⟨h1.1, ?_, h1.2.1, fun b x hb => ?_⟩
  · rw [am_set2, List.length_set, List.length_set, am_kill_len]; exact h.2.1
  · refine h1.2.2 (b, am_v ad x) ?_
    unfold am_set2 at hb
    rw [List.getElem?_set] at hb
    by_cases he : i = b
    · subst he
      simp [am_kill_len, show i < L.length by omega] at hb
      subst hb
      exact List.mem_cons_self
    · rw [if_neg he, List.getElem?_set] at hb
      by_cases he2 : i + 1 = b
      · subst he2
        simp at hb
      · rw [if_neg he2] at hb
        obtain ⟨g1, g2⟩ := am_kill_get hb
        refine List.mem_cons_of_mem _ (List.mem_filter.mpr ⟨am_lv_mem.mpr ⟨x, g1, rfl⟩, ?_⟩)
        have h3 : ¬ b = i := fun e => he e.symm
        have h3' : ¬ b = i + 1 := fun e => he2 e.symm
        by_cases h4 : b + 1 = i
        · have h5 : ¬ x.category = 2 := fun e => g2 ⟨h4, e⟩
          simp [h3, h3', am_cat, h5]
        · simp [h3, h3', h4]
end
section
/-! ===== AW: the machine at a pc, with abstract locals, stack and memory, comes to its end ===== -/
def am_ws : List Cond := lw_tbl.filter goodWord
theorem am_in {w : Cond} (i : Nat) (h : lw_tbl[i]? = some w) (hg : goodWord w = true) : w ∈ am_ws := List.mem_filter.mpr ⟨List.mem_of_getElem? h, hg⟩
theorem am_gd : ∀ w ∈ am_ws, (w.onTables && w.keeps) = true ∨ ∃ ty, w = .arrayClass ty := fun _ h => good_of_word (List.mem_filter.mp h).2
theorem am_GoodIn {ws : List Cond} (h : ∀ w ∈ ws, w ∈ am_ws) : GoodIn am_ws ws := fun w hw => ⟨h w hw, am_gd w (h w hw)⟩
theorem am_uws {C : String} {T : u_T} {N : Nat} (h : ∀ k, k < N → u_lay C T k ∈ am_ws) : ∀ w ∈ u_ws C T N, w ∈ am_ws := by
  intro w hw
  obtain ⟨k, hk, rfl⟩ := List.mem_map.mp hw
  exact h k (List.mem_range.mp hk)
abbrev am_G : Type := Launch × va_G × (Nat → ClassId) × (Nat → Nat)
abbrev am_Ex : Type := Program → Env → State → MethodId → Array Value → List Frame → Method → Code → (Nat → Prop) → Room → Nat → Nat → (State → Prop) → Prop
def am_tys (cI : Nat → ClassId) : List (ClassId × FieldType) := [(cI 0, .int), (cI 1, .boolean), (cI 2, .byte), (cI 3, .array .byte), (cI 4, .object RX4)]
def am_yGoal : MethodName := ⟨"LoadsUnseen$Goal", "hasEnough", "([I)Z"⟩
def am_yBest : MethodName := ⟨"LoadsUnseen$Best", "costOf", "([I)I"⟩
/-- what the tables say that is no word of am_ws, too -/
def am_K (G : am_G) (U : State) : Prop := va_K G.2.1 vwCl (am_tys G.2.2.1) U ∧ va_Nw (.declares am_yGoal) U ∧ va_Nw (.declares am_yBest) U
def am_inj (G : am_G) : Prop := ∀ i j, i < am_N → j < am_N → G.2.2.2 i = G.2.2.2 j → i = j
def am_P (G : am_G) (I : am_I) (J : am_J) (H : Heap) : Prop := va_P G.2.1 vwCl (am_W G.2.2.1 G.2.2.2 I J) H
theorem am_K.warm {G : am_G} {u U : State} (h : am_K G u) (hW : u.WarmedH U.vm) : am_K G U := ⟨va_K.moved hW.alike h.1, h.2.1.warmD hW, h.2.2.warmD hW⟩
def am_B (G : am_G) (cc : ByteArray) (nL : Nat) (own : String) (d : Nat) (p : Program) (s : State) (m : MethodId) (args : Array Value) (c : Code) (A : Nat → Prop) (R : Room) (ce sl : Nat) : Prop :=
  p.tables.exec = Jvm.exec ∧ c.code = cc ∧ c.maxLocals = nL ∧ s.vm.findClass own = some m.cls ∧ (∀ w ∈ am_ws, w.before args s = true) ∧ am_K G s ∧ am_inj G ∧ (∀ k, k < am_N → A (G.2.2.2 k)) ∧ (d ≤ R.frames ∧ 40 * d ≤ R.locals) ∧ ce ≤ R.cells ∧ sl ≤ R.slots
theorem am_D {G : am_G} {A : Nat → Prop} {I : am_I} {J : am_J} (hi : am_inj G) (hA : ∀ k, k < am_N → A (G.2.2.2 k)) : va_D A (am_W G.2.2.1 G.2.2.2 I J) := by
  refine ⟨fun i j p q h1 h2 h3 => ?_, fun k q h => ?_⟩
  · obtain ⟨a1, rfl⟩ := am_W_lt h1
    obtain ⟨a2, rfl⟩ := am_W_lt h2
    exact hi i j a1 a2 h3
  · obtain ⟨a1, rfl⟩ := am_W_lt h
    exact hA k a1
def AW (G : am_G) (cc : ByteArray) (nL : Nat) (own : String) (d : Nat) (Ex : am_Ex) (pc : Nat) (L : List (Option Value)) (st : List Value) (I : am_I) (J : am_J) : Prop :=
  ∀ (p : Program) (e : Env) (s : State) (m : MethodId) (args : Array Value) (below : List Frame) (meth : Method) (c : Code) (A : Nat → Prop) (R : Room) (ce sl : Nat) (Q : State → Prop) (H : Heap) (locs : List Loc) (ls : Array Slot),
    am_B G cc nL own d p s m args c A R ce sl → Ex p e s m args below meth c A R ce sl Q → am_P G I J H → va_S A s.heap H locs → am_L G.2.2.2 ls nL L →
    W p G.1 e R s m args below meth c H locs ce sl Q (F0 m pc ls (st.map (am_v G.2.2.2)))
section AWR
variable {G : am_G} {cc : ByteArray} {nL : Nat} {own : String} {d : Nat} {Ex : am_Ex} {pc : Nat} {L L' : List (Option Value)} {st : List Value} {I : am_I} {J : am_J}
theorem a_iconst {n : Int} {v : Int32} (hd : decode cc pc = .ok (.iconst n, 1)) (hv : Int32.ofInt n = v) (k : AW G cc nL own d Ex (pc + 1) L (.int v :: st) I J) : AW G cc nL own d Ex pc L st I J := by
  intro p e s m args below meth c A R ce sl Q H locs ls B hE hP hS hL
  exact lv_iconst B.1 B.2.1 hd hv (k _ _ _ _ _ _ _ _ _ _ _ _ _ _ _ _ B hE hP hS hL)
theorem a_bipush {n : Int} {v : Int32} (hd : decode cc pc = .ok (.bipush n, 2)) (hv : (Int8.ofInt n).toInt32 = v) (k : AW G cc nL own d Ex (pc + 2) L (.int v :: st) I J) : AW G cc nL own d Ex pc L st I J := by
  intro p e s m args below meth c A R ce sl Q H locs ls B hE hP hS hL
  exact lv_bipush B.1 B.2.1 hd hv (k _ _ _ _ _ _ _ _ _ _ _ _ _ _ _ _ B hE hP hS hL)
theorem a_sipush {n : Int} {v : Int32} (hd : decode cc pc = .ok (.sipush n, 3)) (hv : (Int16.ofInt n).toInt32 = v) (k : AW G cc nL own d Ex (pc + 3) L (.int v :: st) I J) : AW G cc nL own d Ex pc L st I J := by
  intro p e s m args below meth c A R ce sl Q H locs ls B hE hP hS hL
  exact lv_sipush B.1 B.2.1 hd hv (k _ _ _ _ _ _ _ _ _ _ _ _ _ _ _ _ B hE hP hS hL)
theorem a_lconst {n : Fin 2} {v : Int64} (hd : decode cc pc = .ok (.lconst n, 1)) (hv : Int64.ofNat (n : Nat) = v) (k : AW G cc nL own d Ex (pc + 1) L (.long v :: st) I J) : AW G cc nL own d Ex pc L st I J := by
  intro p e s m args below meth c A R ce sl Q H locs ls B hE hP hS hL
  exact lv_lconst B.1 B.2.1 hd hv (k _ _ _ _ _ _ _ _ _ _ _ _ _ _ _ _ B hE hP hS hL)
theorem a_ldc {index : Nat} {v v0 : Int32} (hd : decode cc pc = .ok (.ldc index, 2)) (hc : Cond.constant own index v0 ∈ am_ws) (hv : v0 = v) (k : AW G cc nL own d Ex (pc + 2) L (.int v :: st) I J) : AW G cc nL own d Ex pc L st I J := by
  intro p e s m args below meth c A R ce sl Q H locs ls B hE hP hS hL
  subst hv
  exact lv_ldc B.1 B.2.1 B.2.2.2.1 (B.2.2.2.2.1 _ hc) hd (k _ _ _ _ _ _ _ _ _ _ _ _ _ _ _ _ B hE hP hS hL)
theorem a_ldcw {index : Nat} {v v0 : Int32} (hd : decode cc pc = .ok (.ldc_w index, 3)) (hc : Cond.constant own index v0 ∈ am_ws) (hv : v0 = v) (k : AW G cc nL own d Ex (pc + 3) L (.int v :: st) I J) : AW G cc nL own d Ex pc L st I J := by
  intro p e s m args below meth c A R ce sl Q H locs ls B hE hP hS hL
  subst hv
  exact lv_ldcw B.1 B.2.1 B.2.2.2.1 (B.2.2.2.2.1 _ hc) hd (k _ _ _ _ _ _ _ _ _ _ _ _ _ _ _ _ B hE hP hS hL)
theorem a_ldc2 {index : Nat} {v v0 : Int64} (hd : decode cc pc = .ok (.ldc2_w index, 3)) (hc : Cond.constantLong own index v0 ∈ am_ws) (hv : v0 = v) (k : AW G cc nL own d Ex (pc + 3) L (.long v :: st) I J) : AW G cc nL own d Ex pc L st I J := by
  intro p e s m args below meth c A R ce sl Q H locs ls B hE hP hS hL
  subst hv
  exact lv_ldc2 B.1 B.2.1 B.2.2.2.1 (B.2.2.2.2.1 _ hc) hd (k _ _ _ _ _ _ _ _ _ _ _ _ _ _ _ _ B hE hP hS hL)
theorem a_iload_n {q : Fin 4} {x : Int32} (hd : decode cc pc = .ok (.iload_n q, 1)) (hl : L[(q : Nat)]? = some (some (.int x))) (k : AW G cc nL own d Ex (pc + 1) L (.int x :: st) I J) : AW G cc nL own d Ex pc L st I J := by
  intro p e s m args below meth c A R ce sl Q H locs ls B hE hP hS hL
  exact lv_iload_n B.1 B.2.1 hd rfl (hL.2.2.2 _ _ hl) (k _ _ _ _ _ _ _ _ _ _ _ _ _ _ _ _ B hE hP hS hL)
theorem a_iload {q : Nat} {x : Int32} (hd : decode cc pc = .ok (.iload q, 2)) (hl : L[q]? = some (some (.int x))) (k : AW G cc nL own d Ex (pc + 2) L (.int x :: st) I J) : AW G cc nL own d Ex pc L st I J := by
  intro p e s m args below meth c A R ce sl Q H locs ls B hE hP hS hL
  exact lv_iload B.1 B.2.1 hd (hL.2.2.2 _ _ hl) (k _ _ _ _ _ _ _ _ _ _ _ _ _ _ _ _ B hE hP hS hL)
theorem a_lload_n {q : Fin 4} {x : Int64} (hd : decode cc pc = .ok (.lload_n q, 1)) (hl : L[(q : Nat)]? = some (some (.long x))) (k : AW G cc nL own d Ex (pc + 1) L (.long x :: st) I J) : AW G cc nL own d Ex pc L st I J := by
  intro p e s m args below meth c A R ce sl Q H locs ls B hE hP hS hL
  exact lv_lload_n B.1 B.2.1 hd rfl (hL.2.2.2 _ _ hl) (k _ _ _ _ _ _ _ _ _ _ _ _ _ _ _ _ B hE hP hS hL)
theorem a_lload {q : Nat} {x : Int64} (hd : decode cc pc = .ok (.lload q, 2)) (hl : L[q]? = some (some (.long x))) (k : AW G cc nL own d Ex (pc + 2) L (.long x :: st) I J) : AW G cc nL own d Ex pc L st I J := by
  intro p e s m args below meth c A R ce sl Q H locs ls B hE hP hS hL
  exact lv_lload B.1 B.2.1 hd (hL.2.2.2 _ _ hl) (k _ _ _ _ _ _ _ _ _ _ _ _ _ _ _ _ B hE hP hS hL)
theorem a_aload_n {q : Fin 4} {x : Nat} (hd : decode cc pc = .ok (.aload_n q, 1)) (hl : L[(q : Nat)]? = some (some (.ref x))) (k : AW G cc nL own d Ex (pc + 1) L (.ref x :: st) I J) : AW G cc nL own d Ex pc L st I J := by
  intro p e s m args below meth c A R ce sl Q H locs ls B hE hP hS hL
  exact lv_aload_n B.1 B.2.1 hd rfl (hL.2.2.2 _ _ hl) (k _ _ _ _ _ _ _ _ _ _ _ _ _ _ _ _ B hE hP hS hL)
theorem a_aload {q : Nat} {x : Nat} (hd : decode cc pc = .ok (.aload q, 2)) (hl : L[q]? = some (some (.ref x))) (k : AW G cc nL own d Ex (pc + 2) L (.ref x :: st) I J) : AW G cc nL own d Ex pc L st I J := by
  intro p e s m args below meth c A R ce sl Q H locs ls B hE hP hS hL
  exact lv_aload B.1 B.2.1 hd (hL.2.2.2 _ _ hl) (k _ _ _ _ _ _ _ _ _ _ _ _ _ _ _ _ B hE hP hS hL)
theorem a_istore_n {q : Fin 4} {x : Int32} (hd : decode cc pc = .ok (.istore_n q, 1)) (hn : (q : Nat) < L.length) (hl : am_set L (q : Nat) (.int x) = L') (k : AW G cc nL own d Ex (pc + 1) L' st I J) : AW G cc nL own d Ex pc L (.int x :: st) I J := by
  intro p e s m args below meth c A R ce sl Q H locs ls B hE hP hS hL
  subst hl
  exact lv_istore_n B.1 B.2.1 hd rfl (am_L_has hL) (by rw [← hL.2.1]; exact hn) rfl (fun ls' h' => k _ _ _ _ _ _ _ _ _ _ _ _ _ _ _ _ B hE hP hS (am_L_set (v := .int x) hL hn h'))
theorem a_istore {q : Nat} {x : Int32} (hd : decode cc pc = .ok (.istore q, 2)) (hn : (q : Nat) < L.length) (hl : am_set L (q : Nat) (.int x) = L') (k : AW G cc nL own d Ex (pc + 2) L' st I J) : AW G cc nL own d Ex pc L (.int x :: st) I J := by
  intro p e s m args below meth c A R ce sl Q H locs ls B hE hP hS hL
  subst hl
  exact lv_istore B.1 B.2.1 hd (am_L_has hL) (by rw [← hL.2.1]; exact hn) rfl (fun ls' h' => k _ _ _ _ _ _ _ _ _ _ _ _ _ _ _ _ B hE hP hS (am_L_set (v := .int x) hL hn h'))
theorem a_lstore_n {q : Fin 4} {x : Int64} (hd : decode cc pc = .ok (.lstore_n q, 1)) (hn : (q : Nat) + 1 < L.length) (hl : am_set2 L (q : Nat) (.long x) = L') (k : AW G cc nL own d Ex (pc + 1) L' st I J) : AW G cc nL own d Ex pc L (.long x :: st) I J := by
  intro p e s m args below meth c A R ce sl Q H locs ls B hE hP hS hL
  subst hl
  exact lv_lstore_n B.1 B.2.1 hd rfl (am_L_has hL) (by rw [← hL.2.1]; exact hn) rfl (fun ls' h' => k _ _ _ _ _ _ _ _ _ _ _ _ _ _ _ _ B hE hP hS (am_L_set2 (v := .long x) hL hn h'))
theorem a_lstore {q : Nat} {x : Int64} (hd : decode cc pc = .ok (.lstore q, 2)) (hn : (q : Nat) + 1 < L.length) (hl : am_set2 L (q : Nat) (.long x) = L') (k : AW G cc nL own d Ex (pc + 2) L' st I J) : AW G cc nL own d Ex pc L (.long x :: st) I J := by
  intro p e s m args below meth c A R ce sl Q H locs ls B hE hP hS hL
  subst hl
  exact lv_lstore B.1 B.2.1 hd (am_L_has hL) (by rw [← hL.2.1]; exact hn) rfl (fun ls' h' => k _ _ _ _ _ _ _ _ _ _ _ _ _ _ _ _ B hE hP hS (am_L_set2 (v := .long x) hL hn h'))
theorem a_astore_n {q : Fin 4} {x : Nat} (hd : decode cc pc = .ok (.astore_n q, 1)) (hn : (q : Nat) < L.length) (hl : am_set L (q : Nat) (.ref x) = L') (k : AW G cc nL own d Ex (pc + 1) L' st I J) : AW G cc nL own d Ex pc L (.ref x :: st) I J := by
  intro p e s m args below meth c A R ce sl Q H locs ls B hE hP hS hL
  subst hl
  exact lv_astore_n B.1 B.2.1 hd rfl (am_L_has hL) (by rw [← hL.2.1]; exact hn) rfl (fun ls' h' => k _ _ _ _ _ _ _ _ _ _ _ _ _ _ _ _ B hE hP hS (am_L_set (v := .ref x) hL hn h'))
theorem a_astore {q : Nat} {x : Nat} (hd : decode cc pc = .ok (.astore q, 2)) (hn : (q : Nat) < L.length) (hl : am_set L (q : Nat) (.ref x) = L') (k : AW G cc nL own d Ex (pc + 2) L' st I J) : AW G cc nL own d Ex pc L (.ref x :: st) I J := by
  intro p e s m args below meth c A R ce sl Q H locs ls B hE hP hS hL
  subst hl
  exact lv_astore B.1 B.2.1 hd (am_L_has hL) (by rw [← hL.2.1]; exact hn) rfl (fun ls' h' => k _ _ _ _ _ _ _ _ _ _ _ _ _ _ _ _ B hE hP hS (am_L_set (v := .ref x) hL hn h'))
theorem a_iinc {q : Nat} {n : Int} {x v : Int32} (hd : decode cc pc = .ok (.iinc q n, 3)) (hx : L[q]? = some (some (.int x))) (hv : x + Int32.ofInt n = v) (hl : am_set L q (.int v) = L') (k : AW G cc nL own d Ex (pc + 3) L' st I J) : AW G cc nL own d Ex pc L st I J := by
  intro p e s m args below meth c A R ce sl Q H locs ls B hE hP hS hL
  subst hl
  have hn : q < L.length := (List.getElem?_eq_some_iff.mp hx).1
  obtain ⟨k0, hk0⟩ := List.getElem?_of_mem (am_lv_mem (ad := G.2.2.2) (L := L) (q := (q, .int x)).mpr ⟨.int x, hx, rfl⟩)
  exact lv_iinc B.1 B.2.1 hd (am_L_has hL) hk0 hv (by rw [← hL.2.1]; exact hn) rfl (fun ls' h' => k _ _ _ _ _ _ _ _ _ _ _ _ _ _ _ _ B hE hP hS (am_L_set (v := .int v) hL hn h'))
theorem a_iadd {x y v : Int32} (hd : decode cc pc = .ok (.iadd, 1)) (hv : x + y = v) (k : AW G cc nL own d Ex (pc + 1) L (.int v :: st) I J) : AW G cc nL own d Ex pc L (.int y :: .int x :: st) I J := by
  intro p e s m args below meth c A R ce sl Q H locs ls B hE hP hS hL
  subst hv
  exact lv_iadd B.1 B.2.1 hd (k _ _ _ _ _ _ _ _ _ _ _ _ _ _ _ _ B hE hP hS hL)
theorem a_isub {x y v : Int32} (hd : decode cc pc = .ok (.isub, 1)) (hv : x - y = v) (k : AW G cc nL own d Ex (pc + 1) L (.int v :: st) I J) : AW G cc nL own d Ex pc L (.int y :: .int x :: st) I J := by
  intro p e s m args below meth c A R ce sl Q H locs ls B hE hP hS hL
  subst hv
  exact lv_isub B.1 B.2.1 hd (k _ _ _ _ _ _ _ _ _ _ _ _ _ _ _ _ B hE hP hS hL)
theorem a_imul {x y v : Int32} (hd : decode cc pc = .ok (.imul, 1)) (hv : x * y = v) (k : AW G cc nL own d Ex (pc + 1) L (.int v :: st) I J) : AW G cc nL own d Ex pc L (.int y :: .int x :: st) I J := by
  intro p e s m args below meth c A R ce sl Q H locs ls B hE hP hS hL
  subst hv
  exact lv_imul B.1 B.2.1 hd (k _ _ _ _ _ _ _ _ _ _ _ _ _ _ _ _ B hE hP hS hL)
theorem a_iand {x y v : Int32} (hd : decode cc pc = .ok (.iand, 1)) (hv : x &&& y = v) (k : AW G cc nL own d Ex (pc + 1) L (.int v :: st) I J) : AW G cc nL own d Ex pc L (.int y :: .int x :: st) I J := by
  intro p e s m args below meth c A R ce sl Q H locs ls B hE hP hS hL
  subst hv
  exact lv_iand B.1 B.2.1 hd (k _ _ _ _ _ _ _ _ _ _ _ _ _ _ _ _ B hE hP hS hL)
theorem a_ior {x y v : Int32} (hd : decode cc pc = .ok (.ior, 1)) (hv : x ||| y = v) (k : AW G cc nL own d Ex (pc + 1) L (.int v :: st) I J) : AW G cc nL own d Ex pc L (.int y :: .int x :: st) I J := by
  intro p e s m args below meth c A R ce sl Q H locs ls B hE hP hS hL
  subst hv
  exact lv_ior B.1 B.2.1 hd (k _ _ _ _ _ _ _ _ _ _ _ _ _ _ _ _ B hE hP hS hL)
theorem a_ixor {x y v : Int32} (hd : decode cc pc = .ok (.ixor, 1)) (hv : x ^^^ y = v) (k : AW G cc nL own d Ex (pc + 1) L (.int v :: st) I J) : AW G cc nL own d Ex pc L (.int y :: .int x :: st) I J := by
  intro p e s m args below meth c A R ce sl Q H locs ls B hE hP hS hL
  subst hv
  exact lv_ixor B.1 B.2.1 hd (k _ _ _ _ _ _ _ _ _ _ _ _ _ _ _ _ B hE hP hS hL)
theorem a_ishl {x y v : Int32} (hd : decode cc pc = .ok (.ishl, 1)) (hv : x <<< (y &&& 31) = v) (k : AW G cc nL own d Ex (pc + 1) L (.int v :: st) I J) : AW G cc nL own d Ex pc L (.int y :: .int x :: st) I J := by
  intro p e s m args below meth c A R ce sl Q H locs ls B hE hP hS hL
  subst hv
  exact lv_ishl B.1 B.2.1 hd (k _ _ _ _ _ _ _ _ _ _ _ _ _ _ _ _ B hE hP hS hL)
theorem a_ishr {x y v : Int32} (hd : decode cc pc = .ok (.ishr, 1)) (hv : x >>> (y &&& 31) = v) (k : AW G cc nL own d Ex (pc + 1) L (.int v :: st) I J) : AW G cc nL own d Ex pc L (.int y :: .int x :: st) I J := by
  intro p e s m args below meth c A R ce sl Q H locs ls B hE hP hS hL
  subst hv
  exact lv_ishr B.1 B.2.1 hd (k _ _ _ _ _ _ _ _ _ _ _ _ _ _ _ _ B hE hP hS hL)
theorem a_idiv {x y v : Int32} (hd : decode cc pc = .ok (.idiv, 1)) (hne : ¬ y = 0) (hv : x / y = v) (k : AW G cc nL own d Ex (pc + 1) L (.int v :: st) I J) : AW G cc nL own d Ex pc L (.int y :: .int x :: st) I J := by
  intro p e s m args below meth c A R ce sl Q H locs ls B hE hP hS hL
  subst hv
  exact lv_idiv B.1 B.2.1 hd hne (k _ _ _ _ _ _ _ _ _ _ _ _ _ _ _ _ B hE hP hS hL)
theorem a_irem {x y v : Int32} (hd : decode cc pc = .ok (.irem, 1)) (hne : ¬ y = 0) (hv : x - x / y * y = v) (k : AW G cc nL own d Ex (pc + 1) L (.int v :: st) I J) : AW G cc nL own d Ex pc L (.int y :: .int x :: st) I J := by
  intro p e s m args below meth c A R ce sl Q H locs ls B hE hP hS hL
  subst hv
  exact lv_irem B.1 B.2.1 hd hne (k _ _ _ _ _ _ _ _ _ _ _ _ _ _ _ _ B hE hP hS hL)
theorem a_ldiv {x y v : Int64} (hd : decode cc pc = .ok (.ldiv, 1)) (hne : ¬ y = 0) (hv : x / y = v) (k : AW G cc nL own d Ex (pc + 1) L (.long v :: st) I J) : AW G cc nL own d Ex pc L (.long y :: .long x :: st) I J := by
  intro p e s m args below meth c A R ce sl Q H locs ls B hE hP hS hL
  subst hv
  exact lv_ldiv B.1 B.2.1 hd hne (k _ _ _ _ _ _ _ _ _ _ _ _ _ _ _ _ B hE hP hS hL)
theorem a_ineg {x v : Int32} (hd : decode cc pc = .ok (.ineg, 1)) (hv : -x = v) (k : AW G cc nL own d Ex (pc + 1) L (.int v :: st) I J) : AW G cc nL own d Ex pc L (.int x :: st) I J := by
  intro p e s m args below meth c A R ce sl Q H locs ls B hE hP hS hL
  subst hv
  exact lv_ineg B.1 B.2.1 hd (k _ _ _ _ _ _ _ _ _ _ _ _ _ _ _ _ B hE hP hS hL)
theorem a_lneg {x v : Int64} (hd : decode cc pc = .ok (.lneg, 1)) (hv : -x = v) (k : AW G cc nL own d Ex (pc + 1) L (.long v :: st) I J) : AW G cc nL own d Ex pc L (.long x :: st) I J := by
  intro p e s m args below meth c A R ce sl Q H locs ls B hE hP hS hL
  subst hv
  exact lv_lneg B.1 B.2.1 hd (k _ _ _ _ _ _ _ _ _ _ _ _ _ _ _ _ B hE hP hS hL)
theorem a_ladd {x y v : Int64} (hd : decode cc pc = .ok (.ladd, 1)) (hv : x + y = v) (k : AW G cc nL own d Ex (pc + 1) L (.long v :: st) I J) : AW G cc nL own d Ex pc L (.long y :: .long x :: st) I J := by
  intro p e s m args below meth c A R ce sl Q H locs ls B hE hP hS hL
  subst hv
  exact lv_ladd B.1 B.2.1 hd (k _ _ _ _ _ _ _ _ _ _ _ _ _ _ _ _ B hE hP hS hL)
theorem a_lsub {x y v : Int64} (hd : decode cc pc = .ok (.lsub, 1)) (hv : x - y = v) (k : AW G cc nL own d Ex (pc + 1) L (.long v :: st) I J) : AW G cc nL own d Ex pc L (.long y :: .long x :: st) I J := by
  intro p e s m args below meth c A R ce sl Q H locs ls B hE hP hS hL
  subst hv
  exact lv_lsub B.1 B.2.1 hd (k _ _ _ _ _ _ _ _ _ _ _ _ _ _ _ _ B hE hP hS hL)
theorem a_lmul {x y v : Int64} (hd : decode cc pc = .ok (.lmul, 1)) (hv : x * y = v) (k : AW G cc nL own d Ex (pc + 1) L (.long v :: st) I J) : AW G cc nL own d Ex pc L (.long y :: .long x :: st) I J := by
  intro p e s m args below meth c A R ce sl Q H locs ls B hE hP hS hL
  subst hv
  exact lv_lmul B.1 B.2.1 hd (k _ _ _ _ _ _ _ _ _ _ _ _ _ _ _ _ B hE hP hS hL)
theorem a_land {x y v : Int64} (hd : decode cc pc = .ok (.land, 1)) (hv : x &&& y = v) (k : AW G cc nL own d Ex (pc + 1) L (.long v :: st) I J) : AW G cc nL own d Ex pc L (.long y :: .long x :: st) I J := by
  intro p e s m args below meth c A R ce sl Q H locs ls B hE hP hS hL
  subst hv
  exact lv_land B.1 B.2.1 hd (k _ _ _ _ _ _ _ _ _ _ _ _ _ _ _ _ B hE hP hS hL)
theorem a_lor {x y v : Int64} (hd : decode cc pc = .ok (.lor, 1)) (hv : x ||| y = v) (k : AW G cc nL own d Ex (pc + 1) L (.long v :: st) I J) : AW G cc nL own d Ex pc L (.long y :: .long x :: st) I J := by
  intro p e s m args below meth c A R ce sl Q H locs ls B hE hP hS hL
  subst hv
  exact lv_lor B.1 B.2.1 hd (k _ _ _ _ _ _ _ _ _ _ _ _ _ _ _ _ B hE hP hS hL)
theorem a_lxor {x y v : Int64} (hd : decode cc pc = .ok (.lxor, 1)) (hv : x ^^^ y = v) (k : AW G cc nL own d Ex (pc + 1) L (.long v :: st) I J) : AW G cc nL own d Ex pc L (.long y :: .long x :: st) I J := by
  intro p e s m args below meth c A R ce sl Q H locs ls B hE hP hS hL
  subst hv
  exact lv_lxor B.1 B.2.1 hd (k _ _ _ _ _ _ _ _ _ _ _ _ _ _ _ _ B hE hP hS hL)
theorem a_iushr {x y v : Int32} (hd : decode cc pc = .ok (.iushr, 1)) (hv : (x.toUInt32 >>> (y.toUInt32 &&& Int32.toUInt32 31)).toInt32 = v) (k : AW G cc nL own d Ex (pc + 1) L (.int v :: st) I J) : AW G cc nL own d Ex pc L (.int y :: .int x :: st) I J := by
  intro p e s m args below meth c A R ce sl Q H locs ls B hE hP hS hL
  exact lv_iushr B.1 B.2.1 hd hv (k _ _ _ _ _ _ _ _ _ _ _ _ _ _ _ _ B hE hP hS hL)
theorem a_lushr {x v : Int64} {y : Int32} (hd : decode cc pc = .ok (.lushr, 1)) (hv : (x.toUInt64 >>> (y.toInt64.toUInt64 &&& Int64.toUInt64 63)).toInt64 = v) (k : AW G cc nL own d Ex (pc + 1) L (.long v :: st) I J) : AW G cc nL own d Ex pc L (.int y :: .long x :: st) I J := by
  intro p e s m args below meth c A R ce sl Q H locs ls B hE hP hS hL
  exact lv_lushr B.1 B.2.1 hd hv (k _ _ _ _ _ _ _ _ _ _ _ _ _ _ _ _ B hE hP hS hL)
theorem a_lshl {x v : Int64} {y : Int32} (hd : decode cc pc = .ok (.lshl, 1)) (hv : x <<< (y.toInt64 &&& 63) = v) (k : AW G cc nL own d Ex (pc + 1) L (.long v :: st) I J) : AW G cc nL own d Ex pc L (.int y :: .long x :: st) I J := by
  intro p e s m args below meth c A R ce sl Q H locs ls B hE hP hS hL
  exact lv_lshl B.1 B.2.1 hd hv (k _ _ _ _ _ _ _ _ _ _ _ _ _ _ _ _ B hE hP hS hL)
theorem a_lshr {x v : Int64} {y : Int32} (hd : decode cc pc = .ok (.lshr, 1)) (hv : x >>> (y.toInt64 &&& 63) = v) (k : AW G cc nL own d Ex (pc + 1) L (.long v :: st) I J) : AW G cc nL own d Ex pc L (.int y :: .long x :: st) I J := by
  intro p e s m args below meth c A R ce sl Q H locs ls B hE hP hS hL
  exact lv_lshr B.1 B.2.1 hd hv (k _ _ _ _ _ _ _ _ _ _ _ _ _ _ _ _ B hE hP hS hL)
theorem a_i2l {x : Int32} {v : Int64} (hd : decode cc pc = .ok (.i2l, 1)) (hv : x.toInt64 = v) (k : AW G cc nL own d Ex (pc + 1) L (.long v :: st) I J) : AW G cc nL own d Ex pc L (.int x :: st) I J := by
  intro p e s m args below meth c A R ce sl Q H locs ls B hE hP hS hL
  exact lv_i2l B.1 B.2.1 hd hv (k _ _ _ _ _ _ _ _ _ _ _ _ _ _ _ _ B hE hP hS hL)
theorem a_l2i {x : Int64} {v : Int32} (hd : decode cc pc = .ok (.l2i, 1)) (hv : x.toInt32 = v) (k : AW G cc nL own d Ex (pc + 1) L (.int v :: st) I J) : AW G cc nL own d Ex pc L (.long x :: st) I J := by
  intro p e s m args below meth c A R ce sl Q H locs ls B hE hP hS hL
  exact lv_l2i B.1 B.2.1 hd hv (k _ _ _ _ _ _ _ _ _ _ _ _ _ _ _ _ B hE hP hS hL)
theorem a_i2b {x v : Int32} (hd : decode cc pc = .ok (.i2b, 1)) (hv : x.toInt8.toInt32 = v) (k : AW G cc nL own d Ex (pc + 1) L (.int v :: st) I J) : AW G cc nL own d Ex pc L (.int x :: st) I J := by
  intro p e s m args below meth c A R ce sl Q H locs ls B hE hP hS hL
  exact lv_i2b B.1 B.2.1 hd hv (k _ _ _ _ _ _ _ _ _ _ _ _ _ _ _ _ B hE hP hS hL)
theorem a_dup {v : Value} (hd : decode cc pc = .ok (.dup, 1)) (hc : v.category = 1) (k : AW G cc nL own d Ex (pc + 1) L (v :: v :: st) I J) : AW G cc nL own d Ex pc L (v :: st) I J := by
  intro p e s m args below meth c A R ce sl Q H locs ls B hE hP hS hL
  exact lv_dup B.1 B.2.1 hd (by rw [am_cat]; exact hc) (k _ _ _ _ _ _ _ _ _ _ _ _ _ _ _ _ B hE hP hS hL)
theorem a_pop {v : Value} (hd : decode cc pc = .ok (.pop, 1)) (hc : v.category = 1) (k : AW G cc nL own d Ex (pc + 1) L st I J) : AW G cc nL own d Ex pc L (v :: st) I J := by
  intro p e s m args below meth c A R ce sl Q H locs ls B hE hP hS hL
  exact lv_pop B.1 B.2.1 hd (by rw [am_cat]; exact hc) (k _ _ _ _ _ _ _ _ _ _ _ _ _ _ _ _ B hE hP hS hL)
theorem a_dup2 {v u : Value} (hd : decode cc pc = .ok (.dup2, 1)) (hc : v.category = 1) (hu : u.category = 1) (k : AW G cc nL own d Ex (pc + 1) L (v :: u :: v :: u :: st) I J) : AW G cc nL own d Ex pc L (v :: u :: st) I J := by
  intro p e s m args below meth c A R ce sl Q H locs ls B hE hP hS hL
  exact lv_dup2_11 B.1 B.2.1 hd (by rw [am_cat]; exact hc) (by rw [am_cat]; exact hu) (k _ _ _ _ _ _ _ _ _ _ _ _ _ _ _ _ B hE hP hS hL)
theorem a_icmp_eq {x y : Int32} {off : Int} {tgt : Nat} (hd : decode cc pc = .ok (.if_icmp .eq off, 3)) (ht : (pc : Int) + off = (tgt : Int)) (kt : x = y → AW G cc nL own d Ex tgt L st I J) (kf : ¬ x = y → AW G cc nL own d Ex (pc + 3) L st I J) : AW G cc nL own d Ex pc L (.int y :: .int x :: st) I J := by
  intro p e s m args below meth c A R ce sl Q H locs ls B hE hP hS hL
  exact lv_icmp_eq B.1 B.2.1 hd ht (fun h => kt h _ _ _ _ _ _ _ _ _ _ _ _ _ _ _ _ B hE hP hS hL) (fun h => kf h _ _ _ _ _ _ _ _ _ _ _ _ _ _ _ _ B hE hP hS hL)
theorem a_if_eq {x : Int32} {off : Int} {tgt : Nat} (hd : decode cc pc = .ok (.ifCond .eq off, 3)) (ht : (pc : Int) + off = (tgt : Int)) (kt : x = 0 → AW G cc nL own d Ex tgt L st I J) (kf : ¬ x = 0 → AW G cc nL own d Ex (pc + 3) L st I J) : AW G cc nL own d Ex pc L (.int x :: st) I J := by
  intro p e s m args below meth c A R ce sl Q H locs ls B hE hP hS hL
  exact lv_if_eq B.1 B.2.1 hd ht (fun h => kt h _ _ _ _ _ _ _ _ _ _ _ _ _ _ _ _ B hE hP hS hL) (fun h => kf h _ _ _ _ _ _ _ _ _ _ _ _ _ _ _ _ B hE hP hS hL)
theorem a_icmp_ne {x y : Int32} {off : Int} {tgt : Nat} (hd : decode cc pc = .ok (.if_icmp .ne off, 3)) (ht : (pc : Int) + off = (tgt : Int)) (kt : ¬ x = y → AW G cc nL own d Ex tgt L st I J) (kf : x = y → AW G cc nL own d Ex (pc + 3) L st I J) : AW G cc nL own d Ex pc L (.int y :: .int x :: st) I J := by
  intro p e s m args below meth c A R ce sl Q H locs ls B hE hP hS hL
  exact lv_icmp_ne B.1 B.2.1 hd ht (fun h => kt h _ _ _ _ _ _ _ _ _ _ _ _ _ _ _ _ B hE hP hS hL) (fun h => kf h _ _ _ _ _ _ _ _ _ _ _ _ _ _ _ _ B hE hP hS hL)
theorem a_if_ne {x : Int32} {off : Int} {tgt : Nat} (hd : decode cc pc = .ok (.ifCond .ne off, 3)) (ht : (pc : Int) + off = (tgt : Int)) (kt : ¬ x = 0 → AW G cc nL own d Ex tgt L st I J) (kf : x = 0 → AW G cc nL own d Ex (pc + 3) L st I J) : AW G cc nL own d Ex pc L (.int x :: st) I J := by
  intro p e s m args below meth c A R ce sl Q H locs ls B hE hP hS hL
  exact lv_if_ne B.1 B.2.1 hd ht (fun h => kt h _ _ _ _ _ _ _ _ _ _ _ _ _ _ _ _ B hE hP hS hL) (fun h => kf h _ _ _ _ _ _ _ _ _ _ _ _ _ _ _ _ B hE hP hS hL)
theorem a_icmp_lt {x y : Int32} {off : Int} {tgt : Nat} (hd : decode cc pc = .ok (.if_icmp .lt off, 3)) (ht : (pc : Int) + off = (tgt : Int)) (kt : x < y → AW G cc nL own d Ex tgt L st I J) (kf : ¬ x < y → AW G cc nL own d Ex (pc + 3) L st I J) : AW G cc nL own d Ex pc L (.int y :: .int x :: st) I J := by
  intro p e s m args below meth c A R ce sl Q H locs ls B hE hP hS hL
  exact lv_icmp_lt B.1 B.2.1 hd ht (fun h => kt h _ _ _ _ _ _ _ _ _ _ _ _ _ _ _ _ B hE hP hS hL) (fun h => kf h _ _ _ _ _ _ _ _ _ _ _ _ _ _ _ _ B hE hP hS hL)
theorem a_if_lt {x : Int32} {off : Int} {tgt : Nat} (hd : decode cc pc = .ok (.ifCond .lt off, 3)) (ht : (pc : Int) + off = (tgt : Int)) (kt : x < 0 → AW G cc nL own d Ex tgt L st I J) (kf : ¬ x < 0 → AW G cc nL own d Ex (pc + 3) L st I J) : AW G cc nL own d Ex pc L (.int x :: st) I J := by
  intro p e s m args below meth c A R ce sl Q H locs ls B hE hP hS hL
  exact lv_if_lt B.1 B.2.1 hd ht (fun h => kt h _ _ _ _ _ _ _ _ _ _ _ _ _ _ _ _ B hE hP hS hL) (fun h => kf h _ _ _ _ _ _ _ _ _ _ _ _ _ _ _ _ B hE hP hS hL)
theorem a_icmp_ge {x y : Int32} {off : Int} {tgt : Nat} (hd : decode cc pc = .ok (.if_icmp .ge off, 3)) (ht : (pc : Int) + off = (tgt : Int)) (kt : y ≤ x → AW G cc nL own d Ex tgt L st I J) (kf : ¬ y ≤ x → AW G cc nL own d Ex (pc + 3) L st I J) : AW G cc nL own d Ex pc L (.int y :: .int x :: st) I J := by
  intro p e s m args below meth c A R ce sl Q H locs ls B hE hP hS hL
  exact lv_icmp_ge B.1 B.2.1 hd ht (fun h => kt h _ _ _ _ _ _ _ _ _ _ _ _ _ _ _ _ B hE hP hS hL) (fun h => kf h _ _ _ _ _ _ _ _ _ _ _ _ _ _ _ _ B hE hP hS hL)
theorem a_if_ge {x : Int32} {off : Int} {tgt : Nat} (hd : decode cc pc = .ok (.ifCond .ge off, 3)) (ht : (pc : Int) + off = (tgt : Int)) (kt : 0 ≤ x → AW G cc nL own d Ex tgt L st I J) (kf : ¬ 0 ≤ x → AW G cc nL own d Ex (pc + 3) L st I J) : AW G cc nL own d Ex pc L (.int x :: st) I J := by
  intro p e s m args below meth c A R ce sl Q H locs ls B hE hP hS hL
  exact lv_if_ge B.1 B.2.1 hd ht (fun h => kt h _ _ _ _ _ _ _ _ _ _ _ _ _ _ _ _ B hE hP hS hL) (fun h => kf h _ _ _ _ _ _ _ _ _ _ _ _ _ _ _ _ B hE hP hS hL)
theorem a_icmp_gt {x y : Int32} {off : Int} {tgt : Nat} (hd : decode cc pc = .ok (.if_icmp .gt off, 3)) (ht : (pc : Int) + off = (tgt : Int)) (kt : y < x → AW G cc nL own d Ex tgt L st I J) (kf : ¬ y < x → AW G cc nL own d Ex (pc + 3) L st I J) : AW G cc nL own d Ex pc L (.int y :: .int x :: st) I J := by
  intro p e s m args below meth c A R ce sl Q H locs ls B hE hP hS hL
  exact lv_icmp_gt B.1 B.2.1 hd ht (fun h => kt h _ _ _ _ _ _ _ _ _ _ _ _ _ _ _ _ B hE hP hS hL) (fun h => kf h _ _ _ _ _ _ _ _ _ _ _ _ _ _ _ _ B hE hP hS hL)
theorem a_if_gt {x : Int32} {off : Int} {tgt : Nat} (hd : decode cc pc = .ok (.ifCond .gt off, 3)) (ht : (pc : Int) + off = (tgt : Int)) (kt : 0 < x → AW G cc nL own d Ex tgt L st I J) (kf : ¬ 0 < x → AW G cc nL own d Ex (pc + 3) L st I J) : AW G cc nL own d Ex pc L (.int x :: st) I J := by
  intro p e s m args below meth c A R ce sl Q H locs ls B hE hP hS hL
  exact lv_if_gt B.1 B.2.1 hd ht (fun h => kt h _ _ _ _ _ _ _ _ _ _ _ _ _ _ _ _ B hE hP hS hL) (fun h => kf h _ _ _ _ _ _ _ _ _ _ _ _ _ _ _ _ B hE hP hS hL)
theorem a_icmp_le {x y : Int32} {off : Int} {tgt : Nat} (hd : decode cc pc = .ok (.if_icmp .le off, 3)) (ht : (pc : Int) + off = (tgt : Int)) (kt : x ≤ y → AW G cc nL own d Ex tgt L st I J) (kf : ¬ x ≤ y → AW G cc nL own d Ex (pc + 3) L st I J) : AW G cc nL own d Ex pc L (.int y :: .int x :: st) I J := by
  intro p e s m args below meth c A R ce sl Q H locs ls B hE hP hS hL
  exact lv_icmp_le B.1 B.2.1 hd ht (fun h => kt h _ _ _ _ _ _ _ _ _ _ _ _ _ _ _ _ B hE hP hS hL) (fun h => kf h _ _ _ _ _ _ _ _ _ _ _ _ _ _ _ _ B hE hP hS hL)
theorem a_if_le {x : Int32} {off : Int} {tgt : Nat} (hd : decode cc pc = .ok (.ifCond .le off, 3)) (ht : (pc : Int) + off = (tgt : Int)) (kt : x ≤ 0 → AW G cc nL own d Ex tgt L st I J) (kf : ¬ x ≤ 0 → AW G cc nL own d Ex (pc + 3) L st I J) : AW G cc nL own d Ex pc L (.int x :: st) I J := by
  intro p e s m args below meth c A R ce sl Q H locs ls B hE hP hS hL
  exact lv_if_le B.1 B.2.1 hd ht (fun h => kt h _ _ _ _ _ _ _ _ _ _ _ _ _ _ _ _ B hE hP hS hL) (fun h => kf h _ _ _ _ _ _ _ _ _ _ _ _ _ _ _ _ B hE hP hS hL)
theorem a_goto {off : Int} {tgt : Nat} (hd : decode cc pc = .ok (.goto off, 3)) (ht : (pc : Int) + off = (tgt : Int)) (k : AW G cc nL own d Ex tgt L st I J) : AW G cc nL own d Ex pc L st I J := by
  intro p e s m args below meth c A R ce sl Q H locs ls B hE hP hS hL
  exact lv_goto B.1 B.2.1 hd ht (k _ _ _ _ _ _ _ _ _ _ _ _ _ _ _ _ B hE hP hS hL)
theorem a_tabOut {dflt lo hi : Int} {offs : Array Int} {len : Nat} {x : Int32} {tgt : Nat} (hd : decode cc pc = .ok (.tableswitch dflt lo hi offs, len)) (h : x.toInt < lo ∨ hi < x.toInt) (ht : (pc : Int) + dflt = (tgt : Int)) (k : AW G cc nL own d Ex tgt L st I J) : AW G cc nL own d Ex pc L (.int x :: st) I J := by
  intro p e s m args below meth c A R ce sl Q H locs ls B hE hP hS hL
  exact lv_tableOut B.1 B.2.1 hd h ht (k _ _ _ _ _ _ _ _ _ _ _ _ _ _ _ _ B hE hP hS hL)
theorem a_tabIn {dflt lo hi : Int} {offs : Array Int} {len : Nat} {x : Int32} {off : Int} {tgt : Nat} (hd : decode cc pc = .ok (.tableswitch dflt lo hi offs, len)) (h1 : ¬ x.toInt < lo) (h2 : ¬ hi < x.toInt) (ho : offs[(x.toInt - lo).toNat]? = some off) (ht : (pc : Int) + off = (tgt : Int)) (k : AW G cc nL own d Ex tgt L st I J) : AW G cc nL own d Ex pc L (.int x :: st) I J := by
  intro p e s m args below meth c A R ce sl Q H locs ls B hE hP hS hL
  exact lv_tableIn B.1 B.2.1 hd h1 h2 ho ht (k _ _ _ _ _ _ _ _ _ _ _ _ _ _ _ _ B hE hP hS hL)
theorem a_topi {x v : Int32} (h : x = v) (k : AW G cc nL own d Ex pc L (.int v :: st) I J) : AW G cc nL own d Ex pc L (.int x :: st) I J := h ▸ k
theorem a_topl {x v : Int64} (h : x = v) (k : AW G cc nL own d Ex pc L (.long v :: st) I J) : AW G cc nL own d Ex pc L (.long x :: st) I J := h ▸ k
theorem a_mem {I' : am_I} (h : I = I') (k : AW G cc nL own d Ex pc L st I' J) : AW G cc nL own d Ex pc L st I J := h ▸ k
theorem a_loc (h : L = L') (k : AW G cc nL own d Ex pc L' st I J) : AW G cc nL own d Ex pc L st I J := h ▸ k
theorem a_lcmp {x y : Int64} {v : Int32} (hd : decode cc pc = .ok (.lcmp, 1)) (hv : lg_cmp x y = v) (k : AW G cc nL own d Ex (pc + 1) L (.int v :: st) I J) : AW G cc nL own d Ex pc L (.long y :: .long x :: st) I J := by
  intro p e s m args below meth c A R ce sl Q H locs ls B hE hP hS hL
  subst hv
  exact W.lcmp B.1 B.2.1 hd (k _ _ _ _ _ _ _ _ _ _ _ _ _ _ _ _ B hE hP hS hL)
end AWR
end
section
/-! ===== fields ===== -/
/-- the reference idx of the class own's pool names slot j of the objects of class ci -/
def am_fl (own : String) (idx ci j : Nat) : Prop := ∃ (C : String) (T : u_T) (N : Nat) (ref : String), vwCl[ci]? = some (C, T, N) ∧ j < N ∧ (∀ w ∈ u_ws C T N, w ∈ am_ws) ∧ Cond.fieldLink own idx ref (T j).2.1 (T j).2.2.1 ∈ am_ws ∧ ((T j).1 = ref ∨ Cond.sameField ref (T j).1 (T j).2.1 (T j).2.2.1 ∈ am_ws)
def am_flp (own : String) (idx ci j : Nat) (ty : FieldType) : Prop := ∃ (C : String) (T : u_T) (N : Nat) (ref : String) (ty0 : Nat → FieldType), vwCl[ci]? = some (C, T, N) ∧ j < N ∧ (∀ w ∈ u_ws C T N, w ∈ am_ws) ∧ Cond.fieldLink own idx ref (T j).2.1 (T j).2.2.1 ∈ am_ws ∧ ((T j).1 = ref ∨ Cond.sameField ref (T j).1 (T j).2.1 (T j).2.2.1 ∈ am_ws) ∧ (∀ k, k < N → parseFieldDescriptor (T k).2.2.1 = some (ty0 k)) ∧ (∀ a, a < N → ∀ b, b < N → a ≠ b → (T a).2.1 ≠ (T b).2.1) ∧ (T j).2.2.2 = false ∧ parseFieldDescriptor (T j).2.2.1 = some ty
def am_at (k ci j : Nat) (q : am_F) : Prop := k < am_N ∧ ∃ fs, am_sh k = .inl (ci, fs) ∧ fs[j]? = some q
def am_ar (k t n : Nat) : Prop := k < am_N ∧ am_sh k = .inr (t, n, none)
def am_rr (k t n : Nat) (f : Nat → Nat) : Prop := k < am_N ∧ am_sh k = .inr (t, n, some f)
theorem am_all : (am_tab.all fun s => match s with | .inl _ => true | .inr (_, n, _) => decide (n ≤ 288)) = true := by decide +kernel
theorem am_len {k t n : Nat} {f : Option (Nat → Nat)} (h : am_sh k = .inr (t, n, f)) : n ≤ 288 := by
  unfold am_sh at h
  rw [List.getD_eq_getElem?_getD] at h
  cases hk : am_tab[k]? with
  | none =>
    rw [hk] at h
    simp at h
    omega
  | some x =>
    rw [hk] at h
    simp at h
    subst h
    have h1 := List.all_eq_true.mp am_all _ (List.mem_of_getElem? hk)
    simpa using h1
theorem am_W_at {cI : Nat → ClassId} {ad : Nat → Nat} {I : am_I} {J : am_J} {k ci : Nat} {fs : List am_F} (hk : k < am_N) (h : am_sh k = .inl (ci, fs)) : (am_W cI ad I J)[k]? = some (ad k, .inr (ci, am_fs ad I J k 0 fs)) := by
  rw [am_W_get hk, h]
  rfl
theorem am_W_ar {cI : Nat → ClassId} {ad : Nat → Nat} {I : am_I} {J : am_J} {k t n : Nat} (h : am_ar k t n) : (am_W cI ad I J)[k]? = some (ad k, .inl (cI t, n, .inl (I k))) := by
  rw [am_W_get h.1, h.2]
  rfl
theorem am_W_rr {cI : Nat → ClassId} {ad : Nat → Nat} {I : am_I} {J : am_J} {k t n : Nat} {f : Nat → Nat} (h : am_rr k t n f) : (am_W cI ad I J)[k]? = some (ad k, .inl (cI t, n, .inr (.inr (.inr (.inr (fun i => some (ad (f i)))))))) := by
  rw [am_W_get h.1, h.2]
  rfl
section AWH
variable {G : am_G} {cc : ByteArray} {nL : Nat} {own : String} {d : Nat} {Ex : am_Ex} {pc : Nat} {L L' : List (Option Value)} {st : List Value} {I : am_I} {J : am_J}
theorem am_same {own ref o n dd : String} {args : Array Value} {s : State} (hts : ∀ w ∈ am_ws, w.before args s = true) (h : o = ref ∨ Cond.sameField ref o n dd ∈ am_ws) : ∀ x, s.fieldFound? o n dd = some x → s.fieldFound? ref n dd = some x := by
  intro x hx
  rcases h with h | h
  · subst h
    exact hx
  · exact u_same (hts _ h) x hx
theorem a_geti {idx k ci j : Nat} {v : Int32} (hd : decode cc pc = .ok (.getfield idx, 3)) (hf : am_fl own idx ci j) (hs : am_at k ci j none) (hv : I k j = v) (kk : AW G cc nL own d Ex (pc + 3) L (.int v :: st) I J) : AW G cc nL own d Ex pc L (.ref k :: st) I J := by
  intro p e s m args below meth c A R ce sl Q H locs ls B hE hP hS hL
  subst hv
  obtain ⟨C, T, N, ref, h1, h2, h3, h4, h5⟩ := hf
  obtain ⟨g1, fs, g2, g3⟩ := hs
  exact va_get B.1 B.2.1 B.2.2.2.2.1 h3 B.2.2.2.1 B.2.2.2.2.2.1.1 hP k (am_W_at g1 g2) h1 j h2 (B.2.2.2.2.1 _ h4) (am_same (own := own) B.2.2.2.2.1 h5) (by rw [am_fs_get, g3, Nat.zero_add]; rfl) hd (kk _ _ _ _ _ _ _ _ _ _ _ _ _ _ _ _ B hE hP hS hL)
theorem a_getl {idx k ci j : Nat} {v : Int64} (hd : decode cc pc = .ok (.getfield idx, 3)) (hf : am_fl own idx ci j) (hs : am_at k ci j (some none)) (hv : J k j = v) (kk : AW G cc nL own d Ex (pc + 3) L (.long v :: st) I J) : AW G cc nL own d Ex pc L (.ref k :: st) I J := by
  intro p e s m args below meth c A R ce sl Q H locs ls B hE hP hS hL
  subst hv
  obtain ⟨C, T, N, ref, h1, h2, h3, h4, h5⟩ := hf
  obtain ⟨g1, fs, g2, g3⟩ := hs
  exact va_get B.1 B.2.1 B.2.2.2.2.1 h3 B.2.2.2.1 B.2.2.2.2.2.1.1 hP k (am_W_at g1 g2) h1 j h2 (B.2.2.2.2.1 _ h4) (am_same (own := own) B.2.2.2.2.1 h5) (by rw [am_fs_get, g3, Nat.zero_add]; rfl) hd (kk _ _ _ _ _ _ _ _ _ _ _ _ _ _ _ _ B hE hP hS hL)
theorem a_getr {idx k ci j : Nat} {r : Nat} (hd : decode cc pc = .ok (.getfield idx, 3)) (hf : am_fl own idx ci j) (hs : am_at k ci j (some (some r))) (kk : AW G cc nL own d Ex (pc + 3) L (.ref r :: st) I J) : AW G cc nL own d Ex pc L (.ref k :: st) I J := by
  intro p e s m args below meth c A R ce sl Q H locs ls B hE hP hS hL
  obtain ⟨C, T, N, ref, h1, h2, h3, h4, h5⟩ := hf
  obtain ⟨g1, fs, g2, g3⟩ := hs
  exact va_get B.1 B.2.1 B.2.2.2.2.1 h3 B.2.2.2.1 B.2.2.2.2.2.1.1 hP k (am_W_at g1 g2) h1 j h2 (B.2.2.2.2.1 _ h4) (am_same (own := own) B.2.2.2.2.1 h5) (by rw [am_fs_get, g3, Nat.zero_add]; rfl) hd (kk _ _ _ _ _ _ _ _ _ _ _ _ _ _ _ _ B hE hP hS hL)
theorem a_puti {idx k ci j : Nat} {x : Int32} (hd : decode cc pc = .ok (.putfield idx, 3)) (hf : am_flp own idx ci j .int) (hs : am_at k ci j none) (kk : AW G cc nL own d Ex (pc + 3) L st (am_up I k j x) J) : AW G cc nL own d Ex pc L (.int x :: .ref k :: st) I J := by
  intro p e s m args below meth c A R ce sl Q H locs ls B hE hP hS hL
  obtain ⟨C, T, N, ref, ty0, h1, h2, h3, h4, h5, h6, h7, h8, h9⟩ := hf
  obtain ⟨g1, fs, g2, g3⟩ := hs
  refine va_put (v := .int x) B.1 B.2.1 B.2.2.2.2.1 h3 ty0 h6 h7 B.2.2.2.1 B.2.2.2.2.2.1.1 hP (am_D B.2.2.2.2.2.2.1 B.2.2.2.2.2.2.2.1) hS k (am_W_at g1 g2) h1 j h2 (B.2.2.2.2.1 _ h4) (am_same (own := own) B.2.2.2.2.1 h5) h8 h9 rfl rfl (by rw [am_fs_len]; exact (List.getElem?_eq_some_iff.mp g3).1) hd (fun H1 locs1 hP1 hD1 hS1 => ?_)
  rw [am_fs_set g3, am_W_set (I' := (am_up I k j x)) (J' := J) (fun a h => am_up_ne h) (fun _ _ => rfl) (by rw [g2]; rfl)] at hP1
  exact (kk _ _ _ _ _ _ _ _ _ _ _ _ _ _ _ _ B hE hP1 hS1 hL)
theorem a_putz {idx k ci j : Nat} {x : Int32} (hd : decode cc pc = .ok (.putfield idx, 3)) (hf : am_flp own idx ci j .boolean) (hs : am_at k ci j none) (hx : x = 0 ∨ x = 1) (kk : AW G cc nL own d Ex (pc + 3) L st (am_up I k j x) J) : AW G cc nL own d Ex pc L (.int x :: .ref k :: st) I J := by
  intro p e s m args below meth c A R ce sl Q H locs ls B hE hP hS hL
  obtain ⟨C, T, N, ref, ty0, h1, h2, h3, h4, h5, h6, h7, h8, h9⟩ := hf
  obtain ⟨g1, fs, g2, g3⟩ := hs
  refine va_put (v := .int x) B.1 B.2.1 B.2.2.2.2.1 h3 ty0 h6 h7 B.2.2.2.1 B.2.2.2.2.2.1.1 hP (am_D B.2.2.2.2.2.2.1 B.2.2.2.2.2.2.2.1) hS k (am_W_at g1 g2) h1 j h2 (B.2.2.2.2.1 _ h4) (am_same (own := own) B.2.2.2.2.1 h5) h8 h9 (by rcases hx with rfl | rfl <;> rfl) (by rcases hx with rfl | rfl <;> rfl) (by rw [am_fs_len]; exact (List.getElem?_eq_some_iff.mp g3).1) hd (fun H1 locs1 hP1 hD1 hS1 => ?_)
  rw [am_fs_set g3, am_W_set (I' := (am_up I k j x)) (J' := J) (fun a h => am_up_ne h) (fun _ _ => rfl) (by rw [g2]; rfl)] at hP1
  exact (kk _ _ _ _ _ _ _ _ _ _ _ _ _ _ _ _ B hE hP1 hS1 hL)
theorem a_putl {idx k ci j : Nat} {x : Int64} (hd : decode cc pc = .ok (.putfield idx, 3)) (hf : am_flp own idx ci j .long) (hs : am_at k ci j (some none)) (kk : AW G cc nL own d Ex (pc + 3) L st I (am_upJ J k j x)) : AW G cc nL own d Ex pc L (.long x :: .ref k :: st) I J := by
  intro p e s m args below meth c A R ce sl Q H locs ls B hE hP hS hL
  obtain ⟨C, T, N, ref, ty0, h1, h2, h3, h4, h5, h6, h7, h8, h9⟩ := hf
  obtain ⟨g1, fs, g2, g3⟩ := hs
  refine va_put (v := .long x) B.1 B.2.1 B.2.2.2.2.1 h3 ty0 h6 h7 B.2.2.2.1 B.2.2.2.2.2.1.1 hP (am_D B.2.2.2.2.2.2.1 B.2.2.2.2.2.2.2.1) hS k (am_W_at g1 g2) h1 j h2 (B.2.2.2.2.1 _ h4) (am_same (own := own) B.2.2.2.2.1 h5) h8 h9 rfl rfl (by rw [am_fs_len]; exact (List.getElem?_eq_some_iff.mp g3).1) hd (fun H1 locs1 hP1 hD1 hS1 => ?_)
  rw [am_fs_setJ g3, am_W_set (I' := I) (J' := (am_upJ J k j x)) (fun _ _ => rfl) (fun a h => am_upJ_ne h) (by rw [g2]; rfl)] at hP1
  exact (kk _ _ _ _ _ _ _ _ _ _ _ _ _ _ _ _ B hE hP1 hS1 hL)
/-! ===== arrays ===== -/
theorem a_iald {k n i : Nat} {v : Int32} (hd : decode cc pc = .ok (.iaload, 1)) (hs : am_ar k 0 n) (hi : i < n) (hv : I k i = v) (kk : AW G cc nL own d Ex (pc + 1) L (.int v :: st) I J) : AW G cc nL own d Ex pc L (.int (nI i) :: .ref k :: st) I J := by
  intro p e s m args below meth c A R ce sl Q H locs ls B hE hP hS hL
  subst hv
  have hn : n ≤ 288 := am_len hs.2
  have hin : vp_in (nI i) n := vp_in_nI hi (by omega)
  refine va_iald B.1 B.2.1 B.2.2.2.2.2.1.1 hP k 0 (am_W_ar hs) rfl hin hd ?_
  rw [nI_clamp (by omega)]
  exact (kk _ _ _ _ _ _ _ _ _ _ _ _ _ _ _ _ B hE hP hS hL)
theorem a_bald {k n i : Nat} {v : Int32} (hd : decode cc pc = .ok (.baload, 1)) (hs : am_ar k 2 n) (hi : i < n) (hv : I k i = v) (kk : AW G cc nL own d Ex (pc + 1) L (.int v :: st) I J) : AW G cc nL own d Ex pc L (.int (nI i) :: .ref k :: st) I J := by
  intro p e s m args below meth c A R ce sl Q H locs ls B hE hP hS hL
  subst hv
  have hn : n ≤ 288 := am_len hs.2
  have hin : vp_in (nI i) n := vp_in_nI hi (by omega)
  refine va_bald B.1 B.2.1 B.2.2.2.2.2.1.1 hP k 2 (am_W_ar hs) rfl hin hd ?_
  rw [nI_clamp (by omega)]
  exact (kk _ _ _ _ _ _ _ _ _ _ _ _ _ _ _ _ B hE hP hS hL)
theorem a_zald {k n i : Nat} {v : Int32} (hd : decode cc pc = .ok (.baload, 1)) (hs : am_ar k 1 n) (hi : i < n) (hv : I k i = v) (kk : AW G cc nL own d Ex (pc + 1) L (.int v :: st) I J) : AW G cc nL own d Ex pc L (.int (nI i) :: .ref k :: st) I J := by
  intro p e s m args below meth c A R ce sl Q H locs ls B hE hP hS hL
  subst hv
  have hn : n ≤ 288 := am_len hs.2
  have hin : vp_in (nI i) n := vp_in_nI hi (by omega)
  refine va_zald B.1 B.2.1 B.2.2.2.2.2.1.1 hP k 1 (am_W_ar hs) rfl hin hd ?_
  rw [nI_clamp (by omega)]
  exact (kk _ _ _ _ _ _ _ _ _ _ _ _ _ _ _ _ B hE hP hS hL)
theorem a_iast {k n i : Nat} {x : Int32} (hd : decode cc pc = .ok (.iastore, 1)) (hs : am_ar k 0 n) (hi : i < n) (kk : AW G cc nL own d Ex (pc + 1) L st (am_up I k i (x)) J) : AW G cc nL own d Ex pc L (.int x :: .int (nI i) :: .ref k :: st) I J := by
  intro p e s m args below meth c A R ce sl Q H locs ls B hE hP hS hL
  have hn : n ≤ 288 := am_len hs.2
  have hin : vp_in (nI i) n := vp_in_nI hi (by omega)
  refine va_iast B.1 B.2.1 B.2.2.2.2.2.1.1 hP (am_D B.2.2.2.2.2.2.1 B.2.2.2.2.2.2.2.1) hS k 0 (am_W_ar hs) rfl hin hd (fun H1 locs1 hP1 hD1 hS1 => ?_)
  rw [nI_clamp (by omega), am_W_set (I' := am_up I k i (x)) (J' := J) (fun a h => am_up_ne h) (fun _ _ => rfl) (by rw [hs.2, am_E, am_up_row])] at hP1
  exact (kk _ _ _ _ _ _ _ _ _ _ _ _ _ _ _ _ B hE hP1 hS1 hL)
theorem a_bast {k n i : Nat} {x : Int32} (hd : decode cc pc = .ok (.bastore, 1)) (hs : am_ar k 2 n) (hi : i < n) (kk : AW G cc nL own d Ex (pc + 1) L st (am_up I k i (x.toInt8.toInt32)) J) : AW G cc nL own d Ex pc L (.int x :: .int (nI i) :: .ref k :: st) I J := by
  intro p e s m args below meth c A R ce sl Q H locs ls B hE hP hS hL
  have hn : n ≤ 288 := am_len hs.2
  have hin : vp_in (nI i) n := vp_in_nI hi (by omega)
  refine va_bast B.1 B.2.1 B.2.2.2.2.2.1.1 hP (am_D B.2.2.2.2.2.2.1 B.2.2.2.2.2.2.2.1) hS k 2 (am_W_ar hs) rfl hin hd (fun H1 locs1 hP1 hD1 hS1 => ?_)
  rw [vp_nar_byte] at hP1
  rw [nI_clamp (by omega), am_W_set (I' := am_up I k i (x.toInt8.toInt32)) (J' := J) (fun a h => am_up_ne h) (fun _ _ => rfl) (by rw [hs.2, am_E, am_up_row])] at hP1
  exact (kk _ _ _ _ _ _ _ _ _ _ _ _ _ _ _ _ B hE hP1 hS1 hL)
theorem a_zast {k n i : Nat} {x : Int32} (hd : decode cc pc = .ok (.bastore, 1)) (hs : am_ar k 1 n) (hi : i < n) (hx : x = 0 ∨ x = 1) (kk : AW G cc nL own d Ex (pc + 1) L st (am_up I k i (x)) J) : AW G cc nL own d Ex pc L (.int x :: .int (nI i) :: .ref k :: st) I J := by
  intro p e s m args below meth c A R ce sl Q H locs ls B hE hP hS hL
  have hn : n ≤ 288 := am_len hs.2
  have hin : vp_in (nI i) n := vp_in_nI hi (by omega)
  refine va_zast B.1 B.2.1 B.2.2.2.2.2.1.1 hP (am_D B.2.2.2.2.2.2.1 B.2.2.2.2.2.2.2.1) hS k 1 (am_W_ar hs) rfl hin hd (fun H1 locs1 hP1 hD1 hS1 => ?_)
  rw [show vp_nar .boolean x = x by rcases hx with rfl | rfl <;> rfl] at hP1
  rw [nI_clamp (by omega), am_W_set (I' := am_up I k i (x)) (J' := J) (fun a h => am_up_ne h) (fun _ _ => rfl) (by rw [hs.2, am_E, am_up_row])] at hP1
  exact (kk _ _ _ _ _ _ _ _ _ _ _ _ _ _ _ _ B hE hP1 hS1 hL)
theorem a_aald {k n i t : Nat} {f : Nat → Nat} {r : Nat} (hd : decode cc pc = .ok (.aaload, 1)) (hs : am_rr k t n f) (ht : t = 3 ∨ t = 4) (hi : i < n) (hr : f i = r) (kk : AW G cc nL own d Ex (pc + 1) L (.ref r :: st) I J) : AW G cc nL own d Ex pc L (.int (nI i) :: .ref k :: st) I J := by
  intro p e s m args below meth c A R ce sl Q H locs ls B hE hP hS hL
  subst hr
  have hn : n ≤ 288 := am_len hs.2
  have hin : vp_in (nI i) n := vp_in_nI hi (by omega)
  have hcl : (nI i).toNatClampNeg = i := nI_clamp (by omega)
  have hc := hP k _ (am_W_rr hs)
  obtain ⟨ty, h1, h2⟩ : ∃ ty : FieldType, ty.isReference = true ∧ (am_tys G.2.2.1)[t]? = some (G.2.2.1 t, ty) := by
    rcases ht with rfl | rfl
    · exact ⟨_, rfl, rfl⟩
    · exact ⟨_, rfl, rfl⟩
  exact W.aald (v := .ref (G.2.2.2 (f i))) (ty := ty) B.1 B.2.1 hc ((B.2.2.2.2.2.1.1.2 t _ h2).1 n (fun j => va_rf (some (G.2.2.2 (f j))))) h1 (fun q => by cases q) (by show ¬ (nI i < 0 ∨ (arrV _ _ _).slots.size ≤ _); rw [arrV_size]; exact hin) (by show (arrV _ _ _).slots[_]? = _; rw [arrV_read _ _ (by rw [hcl]; exact hi), hcl]; rfl) rfl rfl hd (kk _ _ _ _ _ _ _ _ _ _ _ _ _ _ _ _ B hE hP hS hL)
theorem a_alen {k n t : Nat} {v : Int32} (hd : decode cc pc = .ok (.arraylength, 1)) (hs : am_ar k t n) (ht : t < 3) (hv : nI n = v) (kk : AW G cc nL own d Ex (pc + 1) L (.int v :: st) I J) : AW G cc nL own d Ex pc L (.ref k :: st) I J := by
  intro p e s m args below meth c A R ce sl Q H locs ls B hE hP hS hL
  obtain ⟨ty, h2⟩ : ∃ ty : FieldType, (am_tys G.2.2.1)[t]? = some (G.2.2.1 t, ty) := by
    rcases (show t = 0 ∨ t = 1 ∨ t = 2 by omega) with rfl | rfl | rfl
    · exact ⟨_, rfl⟩
    · exact ⟨_, rfl⟩
    · exact ⟨_, rfl⟩
  exact va_alen B.1 B.2.1 B.2.2.2.2.2.1.1 hP k t (am_W_ar hs) h2 (v := v) hv hd (kk _ _ _ _ _ _ _ _ _ _ _ _ _ _ _ _ B hE hP hS hL)
end AWH
end
section
/-! ===== contracts over the abstract machine ===== -/
def am_rm (d : Nat) : Room := { frames := d, cells := 0, slots := 0, locals := 40 * d }
def am_A (G : am_G) : Nat → Prop := fun q => ∃ k, k < am_N ∧ q = G.2.2.2 k
def am_Pc (G : am_G) (As : List Value) (I : am_I) (J : am_J) : Array Value → State → Prop := fun a U => a = (As.map (am_v G.2.2.2)).toArray ∧ am_P G I J U.heap ∧ am_K G U ∧ am_inj G
def am_Qc (G : am_G) (K : Option Value → am_I → am_J → Prop) : Array Value → State → Outcome → State → Prop := fun _ u o t => ∃ (r : Option Value) (I : am_I) (J : am_J), o = .returned r ∧ K r I J ∧ am_P G I J t.heap ∧ va_F (am_A G) u t
/-- the method y, called with As at the memory I, J, comes back, and K holds of its answer and of the memory then; d frames are enough -/
def CM (G : am_G) (d : Nat) (y : MethodName) (As : List Value) (I : am_I) (J : am_J) (K : Option Value → am_I → am_J → Prop) : Prop :=
  ∃ (cc : ByteArray) (maxL : Nat) (ret : Option FieldType), maxL ≤ 21 ∧ Cond.code y cc maxL ret ∈ am_ws ∧ Met G.1 y (.code y cc maxL ret :: am_ws) (am_rm d) (am_Pc G As I J) (am_Qc G K) 0 0 (am_A G)
def CMi (G : am_G) (d : Nat) (y : MethodName) (As : List Value) (I : am_I) (J : am_J) (K : Int32 → am_I → am_J → Prop) : Prop := CM G d y As I J (fun r I J => ∃ x, r = some (.int x) ∧ K x I J)
def CMl (G : am_G) (d : Nat) (y : MethodName) (As : List Value) (I : am_I) (J : am_J) (K : Int64 → am_I → am_J → Prop) : Prop := CM G d y As I J (fun r I J => ∃ x, r = some (.long x) ∧ K x I J)
def CMv (G : am_G) (d : Nat) (y : MethodName) (As : List Value) (I : am_I) (J : am_J) (K : am_I → am_J → Prop) : Prop := CM G d y As I J (fun r I J => r = none ∧ K I J)
def am_ex (G : am_G) (ret : Option FieldType) (K : Option Value → am_I → am_J → Prop) : am_Ex := fun p e s m args below meth c A R ce sl Q => meth.sig.returnType = ret ∧ meth.locks = false ∧ A = am_A G ∧ ce = 0 ∧ sl = 0 ∧ Q = MQ below (am_Qc G K) args s 0 0 (am_A G)
def am_l0 : List Value → List (Option Value)
  | [] => []
  | v :: vs => if v.category = 2 then some v :: none :: am_l0 vs else some v :: am_l0 vs
theorem am_l0_mem (ad : Nat → Nat) : ∀ (As : List Value) (j i : Nat) (v : Value), (am_l0 As)[i]? = some (some v) → (j + i, am_v ad v) ∈ lv_args j (As.map (am_v ad))
  | [], j, i, v, h => by simp [am_l0] at h
  | x :: xs, j, i, v, h => by
    rw [List.map_cons, lv_args, am_cat]
    unfold am_l0 at h
    by_cases hc : x.category = 2
    · rw [if_pos hc] at h ⊢
      match i, h with
      | 0, h =>
        simp at h
        subst h
        exact List.mem_cons_self
      | 1, h => simp at h
      | i + 2, h =>
        have h1 := am_l0_mem ad xs (j + 2) i v (by simpa using h)
        rw [show j + (i + 2) = j + 2 + i by omega]
        exact List.mem_cons_of_mem _ h1
    · rw [if_neg hc] at h ⊢
      match i, h with
      | 0, h =>
        simp at h
        subst h
        exact List.mem_cons_self
      | i + 1, h =>
        have h1 := am_l0_mem ad xs (j + 1) i v (by simpa using h)
        rw [show j + (i + 1) = j + 1 + i by omega]
        exact List.mem_cons_of_mem _ h1
theorem am_l0_len (ad : Nat → Nat) : ∀ As : List Value, (lg_sl (As.map (am_v ad))).length = (am_l0 As).length
  | [] => rfl
  | x :: xs => by
    have h := am_l0_len ad xs
    unfold lg_sl at h ⊢
    rw [List.map_cons, List.flatMap_cons, List.length_append, h, am_cat, show am_l0 (x :: xs) = if x.category = 2 then some x :: none :: am_l0 xs else some x :: am_l0 xs from rfl]
    by_cases hc : x.category = 2
    · simp only [if_pos hc, List.length_cons, List.length_nil]; omega
    · simp only [if_neg hc, List.length_cons, List.length_nil]; omega
theorem CM.of {G : am_G} {d : Nat} {y : MethodName} {As : List Value} {I : am_I} {J : am_J} {K : Option Value → am_I → am_J → Prop} {L0 : List (Option Value)} (cc : ByteArray) (maxL : Nat) (ret : Option FieldType) (h0 : maxL ≤ 21) (hy : plainName y.cls = true) (hc : Cond.code y cc maxL ret ∈ am_ws)
    (hs : (am_l0 As).length ≤ maxL) (hL0 : am_l0 As ++ List.replicate (maxL - (am_l0 As).length) none = L0) (k : AW G cc maxL y.cls d (am_ex G ret K) 0 L0 [] I J) : CM G d y As I J K := by
  refine ⟨cc, maxL, ret, h0, hc, Met.ofW (cc := cc) (maxL := maxL) (ret := ret) hy rfl ?_⟩
  intro p e s m args below meth c s₁ B hml hv
  obtain ⟨rfl, hP, hK, hinj⟩ := hv
  have hts := atoms_spec (ws := .code y cc maxL ret :: am_ws) B.pre
  have hown : s.vm.findClass y.cls = some m.cls := findClass_of_methodNamed B.named
  have hl := lv_entry (As.map (am_v G.2.2.2)) (n := maxL) (by rw [am_l0_len]; exact hs)
  rw [lg_entry_eq]
  generalize (lg_sl (As.map (am_v G.2.2.2)) ++ List.replicate (maxL - (lg_sl (As.map (am_v G.2.2.2))).length) Slot.unset).toArray = ls at hl ⊢
  refine k p e s m _ below meth c (am_A G) (am_rm d) 0 0 _ s.heap [] ls ⟨B.exec, B.bytes, hml, hown, fun w h => hts w (List.mem_cons_of_mem _ h), hK, hinj, fun k hk => ⟨k, hk, rfl⟩, ⟨Nat.le_refl _, Nat.le_refl _⟩, Nat.le_refl _, Nat.le_refl _⟩ ⟨B.returns, B.notSynchronized, rfl, rfl, rfl, rfl⟩ hP va_S.rf ?_
  refine ⟨hl.1, ?_, hl.2.1, fun i v hv => ?_⟩
  · rw [← hL0, List.length_append, List.length_replicate]; omega
  · rw [← hL0, List.getElem?_append] at hv
    split at hv
    · have h1 := am_l0_mem G.2.2.2 As 0 i v hv
      rw [Nat.zero_add] at h1
      exact hl.2.2 _ h1
    · have h2 := List.mem_of_getElem? hv
      rw [List.mem_replicate] at h2
      exact absurd h2.2 (by simp)
theorem CM.mono {G : am_G} {d : Nat} {y : MethodName} {As : List Value} {I : am_I} {J : am_J} {K K' : Option Value → am_I → am_J → Prop} (h : CM G d y As I J K) (hK : ∀ r I J, K r I J → K' r I J) : CM G d y As I J K' := by
  obtain ⟨cc, maxL, ret, h0, hc, hM⟩ := h
  refine ⟨cc, maxL, ret, h0, hc, ?_⟩
  intro p e ha hc hk s m args below hf happ hpre hX
  obtain ⟨k, o, h1, h2, h3, ⟨⟨r, I, J, e1, e2, e3, e4⟩, h5⟩⟩ := hM p e ha hc hk s m args below hf happ hpre hX
  exact ⟨k, o, h1, h2, h3, ⟨⟨r, I, J, e1, hK _ _ _ e2, e3, e4⟩, h5⟩⟩
theorem CMi.mono {G : am_G} {d : Nat} {y : MethodName} {As : List Value} {I : am_I} {J : am_J} {K K' : Int32 → am_I → am_J → Prop} (h : CMi G d y As I J K) (hK : ∀ r I J, K r I J → K' r I J) : CMi G d y As I J K' := CM.mono h (fun _ _ _ ⟨x, e, k⟩ => ⟨x, e, hK _ _ _ k⟩)
theorem CMl.mono {G : am_G} {d : Nat} {y : MethodName} {As : List Value} {I : am_I} {J : am_J} {K K' : Int64 → am_I → am_J → Prop} (h : CMl G d y As I J K) (hK : ∀ r I J, K r I J → K' r I J) : CMl G d y As I J K' := CM.mono h (fun _ _ _ ⟨x, e, k⟩ => ⟨x, e, hK _ _ _ k⟩)
theorem CMv.mono {G : am_G} {d : Nat} {y : MethodName} {As : List Value} {I : am_I} {J : am_J} {K K' : am_I → am_J → Prop} (h : CMv G d y As I J K) (hK : ∀ I J, K I J → K' I J) : CMv G d y As I J K' := CM.mono h (fun _ _ _ ⟨e, k⟩ => ⟨e, hK _ _ k⟩)
section AWC
variable {G : am_G} {cc : ByteArray} {nL : Nat} {own : String} {d : Nat} {Ex : am_Ex} {pc : Nat} {L L' : List (Option Value)} {st rest As : List Value} {I : am_I} {J : am_J} {K : Option Value → am_I → am_J → Prop}
/-! ===== returns ===== -/
theorem a_ireturn {x : Int32} (hd : decode cc pc = .ok (.ireturn, 1)) (hK : K (some (.int x)) I J) : AW G cc nL own d (am_ex G (some .int) K) pc L [.int x] I J := by
  intro p e s m args below meth c A R ce sl Q H locs ls B hE hP hS hL
  obtain ⟨h1, h2, rfl, rfl, rfl, rfl⟩ := hE
  exact W.iret B.1 B.2.1 h1 (fun t ht hW => ⟨_, I, J, rfl, hK, by rw [ht]; exact hP, hS.F ht⟩) hS.2.2 hd h2
theorem a_zreturn {x : Int32} (hd : decode cc pc = .ok (.ireturn, 1)) (hx : x = 0 ∨ x = 1) (hK : K (some (.int x)) I J) : AW G cc nL own d (am_ex G (some .boolean) K) pc L [.int x] I J := by
  intro p e s m args below meth c A R ce sl Q H locs ls B hE hP hS hL
  obtain ⟨h1, h2, rfl, rfl, rfl, rfl⟩ := hE
  exact W.zret B.1 B.2.1 h1 (by rcases hx with rfl | rfl <;> rfl) (fun t ht hW => ⟨_, I, J, rfl, hK, by rw [ht]; exact hP, hS.F ht⟩) hS.2.2 hd h2
theorem a_lreturn {x : Int64} (hd : decode cc pc = .ok (.lreturn, 1)) (hK : K (some (.long x)) I J) : AW G cc nL own d (am_ex G (some .long) K) pc L [.long x] I J := by
  intro p e s m args below meth c A R ce sl Q H locs ls B hE hP hS hL
  obtain ⟨h1, h2, rfl, rfl, rfl, rfl⟩ := hE
  exact W.lret B.1 B.2.1 h1 (fun t ht hW => ⟨_, I, J, rfl, hK, by rw [ht]; exact hP, hS.F ht⟩) hS.2.2 hd h2
theorem a_vreturn (hd : decode cc pc = .ok (.return_, 1)) (hK : K none I J) : AW G cc nL own d (am_ex G none K) pc L [] I J := by
  intro p e s m args below meth c A R ce sl Q H locs ls B hE hP hS hL
  obtain ⟨h1, h2, rfl, rfl, rfl, rfl⟩ := hE
  exact W.vret B.1 B.2.1 h1 (fun t ht hW => ⟨_, I, J, rfl, hK, by rw [ht]; exact hP, hS.F ht⟩) hS.2.2 hd h2
/-! ===== calls ===== -/
theorem am_after {p : Program} {e : Env} {s : State} {m : MethodId} {args : Array Value} {below : List Frame} {meth : Method} {c : Code} {A : Nat → Prop} {R : Room} {ce sl : Nat} {Q : State → Prop} {H : Heap} {locs : List Loc} {ls : Array Slot} {a : Array Value} {st0 rest : List Value}
    (hr : va_Run p G.1 e R s m args below meth c H locs ce sl 0 0 (F0 m pc ls st0) rest (am_Qc G K a) (am_A G)) (hS : va_S A s.heap H locs) (hA : ∀ k, k < am_N → A (G.2.2.2 k))
    (kk : ∀ (r : Option Value) (I : am_I) (J : am_J) (H1 : Heap) (locs1 : List Loc), K r I J → am_P G I J H1 → va_S A s.heap H1 locs1 → W p G.1 e R s m args below meth c H1 locs1 ce sl Q (F0 m (pc + 3) ls (r.toList ++ rest))) : W p G.1 e R s m args below meth c H locs ce sl Q (F0 m pc ls st0) := by
  intro T hT X
  obtain ⟨v, st₀, t, T', L, h0, X', hL, e1, e2, ⟨r, I, J, ho, hK, hP, hF⟩, stp⟩ := hr T hT X
  cases ho
  have hAA : ∀ q, am_A G q → A q := fun q ⟨k, hk, e⟩ => e ▸ hA k hk
  obtain ⟨f1, f2⟩ := hF
  rw [h0] at f1 f2
  have hS' : va_S A s.heap T'.heap (locs ++ L) := by
    rw [e1]
    refine ⟨Nat.le_trans hS.1 f1, fun q h1 h2 => ?_, fun q hq => ?_⟩
    · rw [f2 q (Nat.lt_of_lt_of_le h1 hS.1) (fun h => h2 (hAA q h))]
      exact hS.2.1 q h1 h2
    · rcases List.mem_append.mp hq with h | h
      · exact hS.2.2 q h
      · exact hAA _ (hL q h)
  obtain ⟨t2, a1, b1⟩ := kk v I J T'.heap (locs ++ L) hK (by rw [e1]; exact hP) hS' T' rfl X'
  exact ⟨t2, stp t2 a1, b1⟩
theorem am_blind {As : List Value} : FrameBlind (am_Pc G As I J) := by
  intro a U g mk q
  obtain ⟨q1, q2, q3, q4⟩ := q
  exact ⟨q1, q2, ⟨va_K.moved (u := U) (U := U.calling g mk a) (Vm.Alike.refl U.vm) q3.1, va_tabs (A := #[]) (u := U) rfl rfl q3.2.1, va_tabs (A := #[]) (u := U) rfl rfl q3.2.2⟩, q4⟩
theorem am_pre {s : State} {H : Heap} {As : List Value} (hP : am_P G I J H) (hK : am_K G s) (hi : am_inj G) : ∀ U : State, U.heap = H → s.WarmedH U.vm → am_Pc G As I J (As.map (am_v G.2.2.2)).toArray U :=
  fun U hU hW => ⟨rfl, by rw [hU]; exact hP, hK.warm hW, hi⟩
/-- an object of the class C -/
def am_ob (k : Nat) (C : String) : Prop := k < am_N ∧ ∃ (ci : Nat) (fs : List am_F) (q : u_T × Nat), am_sh k = .inl (ci, fs) ∧ vwCl[ci]? = some (C, q)
theorem am_recv {s : State} {H : Heap} {k : Nat} {C : String} (hk : am_ob k C) (hP : am_P G I J H) (hK : am_K G s) : ∃ cell : Cell, H[G.2.2.2 k]? = some cell ∧ cell.vm.isStatics = false ∧ s.vm.findClass C = some cell.cls := by
  obtain ⟨h1, ci, fs, q, h2, h3⟩ := hk
  exact va_recv hK.1 hP (q := (C, q)) h3 (am_W_at h1 h2)
def am_nm (y : MethodName) (n : Nat) : Prop := y.cls ≠ "java/lang/invoke/MethodHandle" ∧ y.cls ≠ "java/lang/invoke/VarHandle" ∧ (parseMethodDescriptor y.desc).map (fun d => d.parameters.length) = some n
def am_mV (own : String) (idx : Nat) (C : String) (y : MethodName) (n : Nat) : Prop := Cond.methodLink own idx y ∈ am_ws ∧ Cond.instanceMethod y ∈ am_ws ∧ Cond.selects C y y ∈ am_ws ∧ Cond.initialized y.cls ∈ am_ws ∧ am_nm y n
def am_mS (own : String) (idx : Nat) (y : MethodName) (n : Nat) : Prop := Cond.methodLink own idx y ∈ am_ws ∧ Cond.static y ∈ am_ws ∧ Cond.initialized y.cls ∈ am_ws ∧ am_nm y n
def am_mU (own : String) (idx : Nat) (C owner : String) (x y : MethodName) (n : Nat) : Prop := Cond.methodLink own idx x ∈ am_ws ∧ Cond.sameMethod x.cls owner x.name x.desc ∈ am_ws ∧ Cond.selects C x y ∈ am_ws ∧ Cond.instanceMethod y ∈ am_ws ∧ Cond.initialized y.cls ∈ am_ws ∧ (owner ≠ "java/lang/invoke/MethodHandle" ∧ owner ≠ "java/lang/invoke/VarHandle" ∧ (parseMethodDescriptor x.desc).map (fun d => d.parameters.length) = some n) ∧ ((⟨owner, x.name, x.desc⟩ : MethodName) = am_yGoal ∨ (⟨owner, x.name, x.desc⟩ : MethodName) = am_yBest ∨ (⟨owner, x.name, x.desc⟩ : MethodName) = y)
theorem am_cb {s : State} {args : Array Value} {R : Room} {y : MethodName} {bytes : ByteArray} {maxL n idx : Nat} {ret : Option FieldType} (hts : ∀ w ∈ am_ws, w.before args s = true) (hR : d + 1 ≤ R.frames ∧ 40 * (d + 1) ≤ R.locals) (h0 : maxL ≤ 21) (hc : Cond.code y bytes maxL ret ∈ am_ws) (hl : Cond.methodLink own idx y ∈ am_ws) (hi : Cond.initialized y.cls ∈ am_ws) (hn : am_nm y n) :
    CallB R s args own idx y bytes maxL ret (.code y bytes maxL ret :: am_ws) (am_rm d) 0 0 n :=
  callB_of (Ts := am_ws) (ws' := am_ws) n hts (am_GoodIn (fun w h => (List.mem_cons.mp h).elim (fun e => e ▸ hc) id)) rfl rfl rfl (hts _ hi) (hts _ hl) hn ⟨hR.1, by show 8 + (maxL + 11) + 40 * d ≤ _; omega⟩
theorem am_cu {s : State} {args : Array Value} {R : Room} {C owner : String} {x y : MethodName} {bytes : ByteArray} {maxL n idx : Nat} {ret : Option FieldType} (hts : ∀ w ∈ am_ws, w.before args s = true) (hK : am_K G s) (hR : d + 1 ≤ R.frames ∧ 40 * (d + 1) ≤ R.locals) (h0 : maxL ≤ 21) (hc : Cond.code y bytes maxL ret ∈ am_ws) (hm : am_mU own idx C owner x y n) :
    va_CU R s args own C owner idx x y bytes maxL ret (.code y bytes maxL ret :: am_ws) (am_rm d) 0 0 n := by
  obtain ⟨m1, m2, m3, m4, m5, ⟨m6, m7, m8⟩, m9⟩ := hm
  have hG : GoodIn am_ws (.code y bytes maxL ret :: am_ws) := am_GoodIn (fun w h => (List.mem_cons.mp h).elim (fun e => e ▸ hc) id)
  refine ⟨⟨rfl, rfl, hR.1, by show 8 + (maxL + 11) + 40 * d ≤ _; omega, pay_in hts hG, List.mem_cons_self⟩, hts _ hc, hts _ m5, ⟨m6, m7⟩, fun sig h => ?_, hts _ m1, hts _ m2, ?_, hts _ m3, hts _ m4⟩
  · rw [h] at m8
    exact (Option.some.inj m8).symm
  · rcases m9 with h | h | h
    · rw [h]; exact va_Decl.abs hK.2.1
    · rw [h]; exact va_Decl.abs hK.2.2
    · rw [h]; exact va_Decl.of (hts _ m4) (hts _ hc)
theorem am_rest {rest : List Value} {m : MethodId} {ls : Array Slot} {st0 : List Value} (h : (rest.map fun v => v.category).sum ≤ 8) : 2 * (F0 m pc ls st0).monitorRoom + ((rest.map (am_v G.2.2.2)).map fun v => v.category).sum ≤ 8 := by
  rw [am_cats]
  exact lv_room h
theorem a_callVi {y : MethodName} {idx n k : Nat} {C : String} (hd : decode cc pc = .ok (.invokevirtual idx, 3)) (hm : am_mV own idx C y n) (hk : am_ob k C) (hn : As.length = n) (hst : st = As.reverse ++ .ref k :: rest) (hW : (rest.map fun v => v.category).sum ≤ 8) (kk : CMi G d y (.ref k :: As) I J (fun x I J => AW G cc nL own (d + 1) Ex (pc + 3) L (.int x :: rest) I J)) : AW G cc nL own (d + 1) Ex pc L st I J := by
  intro p e s m args below meth c A R ce sl Q H locs ls B hE hP hS hL
  obtain ⟨cc', maxL, ret, h0, hc, hM⟩ := kk
  obtain ⟨m1, m2, m3, m4, m5⟩ := hm
  have hts := B.2.2.2.2.1
  subst hst
  refine am_after (a := (Value.ref (G.2.2.2 k) :: As.map (am_v G.2.2.2)).toArray) (rest := rest.map (am_v G.2.2.2)) (va_runV (Ts := am_ws) (nL := nL) (own := own) (C := C) (b := G.2.2.2 k) (As := As.map (am_v G.2.2.2)) ⟨B.1, B.2.1, B.2.2.1, B.2.2.2.1, hts⟩ hM ⟨am_cb hts B.2.2.2.2.2.2.2.2.1 h0 hc m1 m4 m5, hts _ m2, hts _ m3⟩ ⟨am_blind, am_recv hk hP B.2.2.2.2.2.1, am_pre hP B.2.2.2.2.2.1 B.2.2.2.2.2.2.1⟩ rfl (by rw [List.length_map]; exact hn) hL.1 (by show List.map _ _ = _; rw [List.map_append, List.map_reverse]; rfl) (am_rest hW) hd ⟨B.2.2.2.2.2.2.2.2.2.1, B.2.2.2.2.2.2.2.2.2.2⟩) hS B.2.2.2.2.2.2.2.1 (fun r I J H1 locs1 hq hP1 hS1 => by
    obtain ⟨x, rfl, hk⟩ := hq
    exact hk _ _ _ _ _ _ _ _ _ _ _ _ _ _ _ _ B hE hP1 hS1 hL)
theorem a_callSi {y : MethodName} {idx n : Nat} (hd : decode cc pc = .ok (.invokestatic idx, 3)) (hm : am_mS own idx y n) (hn : As.length = n) (hst : st = As.reverse ++ rest) (hW : (rest.map fun v => v.category).sum ≤ 8) (kk : CMi G d y As I J (fun x I J => AW G cc nL own (d + 1) Ex (pc + 3) L (.int x :: rest) I J)) : AW G cc nL own (d + 1) Ex pc L st I J := by
  intro p e s m args below meth c A R ce sl Q H locs ls B hE hP hS hL
  obtain ⟨cc', maxL, ret, h0, hc, hM⟩ := kk
  obtain ⟨m1, m2, m4, m5⟩ := hm
  have hts := B.2.2.2.2.1
  subst hst
  refine am_after (a := (As.map (am_v G.2.2.2)).toArray) (rest := rest.map (am_v G.2.2.2)) (va_runS (Ts := am_ws) (nL := nL) (own := own) (As := As.map (am_v G.2.2.2)) ⟨B.1, B.2.1, B.2.2.1, B.2.2.2.1, hts⟩ hM ⟨am_cb hts B.2.2.2.2.2.2.2.2.1 h0 hc m1 m4 m5, hts _ m2⟩ ⟨am_blind, am_pre hP B.2.2.2.2.2.1 B.2.2.2.2.2.2.1⟩ rfl (by rw [List.length_map]; exact hn) hL.1 (by show List.map _ _ = _; rw [List.map_append, List.map_reverse]) (am_rest hW) hd ⟨B.2.2.2.2.2.2.2.2.2.1, B.2.2.2.2.2.2.2.2.2.2⟩) hS B.2.2.2.2.2.2.2.1 (fun r I J H1 locs1 hq hP1 hS1 => by
    obtain ⟨x, rfl, hk⟩ := hq
    exact hk _ _ _ _ _ _ _ _ _ _ _ _ _ _ _ _ B hE hP1 hS1 hL)
theorem a_callUi {x0 y : MethodName} {idx n k : Nat} {C owner : String} (hd : decode cc pc = .ok (.invokevirtual idx, 3)) (hm : am_mU own idx C owner x0 y n) (hk : am_ob k C) (hn : As.length = n) (hst : st = As.reverse ++ .ref k :: rest) (hW : (rest.map fun v => v.category).sum ≤ 8) (kk : CMi G d y (.ref k :: As) I J (fun x I J => AW G cc nL own (d + 1) Ex (pc + 3) L (.int x :: rest) I J)) : AW G cc nL own (d + 1) Ex pc L st I J := by
  intro p e s m args below meth c A R ce sl Q H locs ls B hE hP hS hL
  obtain ⟨cc', maxL, ret, h0, hc, hM⟩ := kk
  have hts := B.2.2.2.2.1
  subst hst
  refine am_after (a := (Value.ref (G.2.2.2 k) :: As.map (am_v G.2.2.2)).toArray) (rest := rest.map (am_v G.2.2.2)) (va_runU (Ts := am_ws) (nL := nL) (own := own) (C := C) (b := G.2.2.2 k) (As := As.map (am_v G.2.2.2)) ⟨B.1, B.2.1, B.2.2.1, B.2.2.2.1, hts⟩ hM (am_cu hts B.2.2.2.2.2.1 B.2.2.2.2.2.2.2.2.1 h0 hc hm) ⟨am_blind, am_recv hk hP B.2.2.2.2.2.1, am_pre hP B.2.2.2.2.2.1 B.2.2.2.2.2.2.1⟩ rfl (by rw [List.length_map]; exact hn) hL.1 (by show List.map _ _ = _; rw [List.map_append, List.map_reverse]; rfl) (am_rest hW) hd ⟨B.2.2.2.2.2.2.2.2.2.1, B.2.2.2.2.2.2.2.2.2.2⟩) hS B.2.2.2.2.2.2.2.1 (fun r I J H1 locs1 hq hP1 hS1 => by
    obtain ⟨x, rfl, hk⟩ := hq
    exact hk _ _ _ _ _ _ _ _ _ _ _ _ _ _ _ _ B hE hP1 hS1 hL)
theorem a_callVl {y : MethodName} {idx n k : Nat} {C : String} (hd : decode cc pc = .ok (.invokevirtual idx, 3)) (hm : am_mV own idx C y n) (hk : am_ob k C) (hn : As.length = n) (hst : st = As.reverse ++ .ref k :: rest) (hW : (rest.map fun v => v.category).sum ≤ 8) (kk : CMl G d y (.ref k :: As) I J (fun x I J => AW G cc nL own (d + 1) Ex (pc + 3) L (.long x :: rest) I J)) : AW G cc nL own (d + 1) Ex pc L st I J := by
  intro p e s m args below meth c A R ce sl Q H locs ls B hE hP hS hL
  obtain ⟨cc', maxL, ret, h0, hc, hM⟩ := kk
  obtain ⟨m1, m2, m3, m4, m5⟩ := hm
  have hts := B.2.2.2.2.1
  subst hst
  refine am_after (a := (Value.ref (G.2.2.2 k) :: As.map (am_v G.2.2.2)).toArray) (rest := rest.map (am_v G.2.2.2)) (va_runV (Ts := am_ws) (nL := nL) (own := own) (C := C) (b := G.2.2.2 k) (As := As.map (am_v G.2.2.2)) ⟨B.1, B.2.1, B.2.2.1, B.2.2.2.1, hts⟩ hM ⟨am_cb hts B.2.2.2.2.2.2.2.2.1 h0 hc m1 m4 m5, hts _ m2, hts _ m3⟩ ⟨am_blind, am_recv hk hP B.2.2.2.2.2.1, am_pre hP B.2.2.2.2.2.1 B.2.2.2.2.2.2.1⟩ rfl (by rw [List.length_map]; exact hn) hL.1 (by show List.map _ _ = _; rw [List.map_append, List.map_reverse]; rfl) (am_rest hW) hd ⟨B.2.2.2.2.2.2.2.2.2.1, B.2.2.2.2.2.2.2.2.2.2⟩) hS B.2.2.2.2.2.2.2.1 (fun r I J H1 locs1 hq hP1 hS1 => by
    obtain ⟨x, rfl, hk⟩ := hq
    exact hk _ _ _ _ _ _ _ _ _ _ _ _ _ _ _ _ B hE hP1 hS1 hL)
theorem a_callSl {y : MethodName} {idx n : Nat} (hd : decode cc pc = .ok (.invokestatic idx, 3)) (hm : am_mS own idx y n) (hn : As.length = n) (hst : st = As.reverse ++ rest) (hW : (rest.map fun v => v.category).sum ≤ 8) (kk : CMl G d y As I J (fun x I J => AW G cc nL own (d + 1) Ex (pc + 3) L (.long x :: rest) I J)) : AW G cc nL own (d + 1) Ex pc L st I J := by
  intro p e s m args below meth c A R ce sl Q H locs ls B hE hP hS hL
  obtain ⟨cc', maxL, ret, h0, hc, hM⟩ := kk
  obtain ⟨m1, m2, m4, m5⟩ := hm
  have hts := B.2.2.2.2.1
  subst hst
  refine am_after (a := (As.map (am_v G.2.2.2)).toArray) (rest := rest.map (am_v G.2.2.2)) (va_runS (Ts := am_ws) (nL := nL) (own := own) (As := As.map (am_v G.2.2.2)) ⟨B.1, B.2.1, B.2.2.1, B.2.2.2.1, hts⟩ hM ⟨am_cb hts B.2.2.2.2.2.2.2.2.1 h0 hc m1 m4 m5, hts _ m2⟩ ⟨am_blind, am_pre hP B.2.2.2.2.2.1 B.2.2.2.2.2.2.1⟩ rfl (by rw [List.length_map]; exact hn) hL.1 (by show List.map _ _ = _; rw [List.map_append, List.map_reverse]) (am_rest hW) hd ⟨B.2.2.2.2.2.2.2.2.2.1, B.2.2.2.2.2.2.2.2.2.2⟩) hS B.2.2.2.2.2.2.2.1 (fun r I J H1 locs1 hq hP1 hS1 => by
    obtain ⟨x, rfl, hk⟩ := hq
    exact hk _ _ _ _ _ _ _ _ _ _ _ _ _ _ _ _ B hE hP1 hS1 hL)
theorem a_callUl {x0 y : MethodName} {idx n k : Nat} {C owner : String} (hd : decode cc pc = .ok (.invokevirtual idx, 3)) (hm : am_mU own idx C owner x0 y n) (hk : am_ob k C) (hn : As.length = n) (hst : st = As.reverse ++ .ref k :: rest) (hW : (rest.map fun v => v.category).sum ≤ 8) (kk : CMl G d y (.ref k :: As) I J (fun x I J => AW G cc nL own (d + 1) Ex (pc + 3) L (.long x :: rest) I J)) : AW G cc nL own (d + 1) Ex pc L st I J := by
  intro p e s m args below meth c A R ce sl Q H locs ls B hE hP hS hL
  obtain ⟨cc', maxL, ret, h0, hc, hM⟩ := kk
  have hts := B.2.2.2.2.1
  subst hst
  refine am_after (a := (Value.ref (G.2.2.2 k) :: As.map (am_v G.2.2.2)).toArray) (rest := rest.map (am_v G.2.2.2)) (va_runU (Ts := am_ws) (nL := nL) (own := own) (C := C) (b := G.2.2.2 k) (As := As.map (am_v G.2.2.2)) ⟨B.1, B.2.1, B.2.2.1, B.2.2.2.1, hts⟩ hM (am_cu hts B.2.2.2.2.2.1 B.2.2.2.2.2.2.2.2.1 h0 hc hm) ⟨am_blind, am_recv hk hP B.2.2.2.2.2.1, am_pre hP B.2.2.2.2.2.1 B.2.2.2.2.2.2.1⟩ rfl (by rw [List.length_map]; exact hn) hL.1 (by show List.map _ _ = _; rw [List.map_append, List.map_reverse]; rfl) (am_rest hW) hd ⟨B.2.2.2.2.2.2.2.2.2.1, B.2.2.2.2.2.2.2.2.2.2⟩) hS B.2.2.2.2.2.2.2.1 (fun r I J H1 locs1 hq hP1 hS1 => by
    obtain ⟨x, rfl, hk⟩ := hq
    exact hk _ _ _ _ _ _ _ _ _ _ _ _ _ _ _ _ B hE hP1 hS1 hL)
theorem a_callVv {y : MethodName} {idx n k : Nat} {C : String} (hd : decode cc pc = .ok (.invokevirtual idx, 3)) (hm : am_mV own idx C y n) (hk : am_ob k C) (hn : As.length = n) (hst : st = As.reverse ++ .ref k :: rest) (hW : (rest.map fun v => v.category).sum ≤ 8) (kk : CMv G d y (.ref k :: As) I J (fun I J => AW G cc nL own (d + 1) Ex (pc + 3) L rest I J)) : AW G cc nL own (d + 1) Ex pc L st I J := by
  intro p e s m args below meth c A R ce sl Q H locs ls B hE hP hS hL
  obtain ⟨cc', maxL, ret, h0, hc, hM⟩ := kk
  obtain ⟨m1, m2, m3, m4, m5⟩ := hm
  have hts := B.2.2.2.2.1
  subst hst
  refine am_after (a := (Value.ref (G.2.2.2 k) :: As.map (am_v G.2.2.2)).toArray) (rest := rest.map (am_v G.2.2.2)) (va_runV (Ts := am_ws) (nL := nL) (own := own) (C := C) (b := G.2.2.2 k) (As := As.map (am_v G.2.2.2)) ⟨B.1, B.2.1, B.2.2.1, B.2.2.2.1, hts⟩ hM ⟨am_cb hts B.2.2.2.2.2.2.2.2.1 h0 hc m1 m4 m5, hts _ m2, hts _ m3⟩ ⟨am_blind, am_recv hk hP B.2.2.2.2.2.1, am_pre hP B.2.2.2.2.2.1 B.2.2.2.2.2.2.1⟩ rfl (by rw [List.length_map]; exact hn) hL.1 (by show List.map _ _ = _; rw [List.map_append, List.map_reverse]; rfl) (am_rest hW) hd ⟨B.2.2.2.2.2.2.2.2.2.1, B.2.2.2.2.2.2.2.2.2.2⟩) hS B.2.2.2.2.2.2.2.1 (fun r I J H1 locs1 hq hP1 hS1 => by
    obtain ⟨rfl, hk⟩ := hq
    exact hk _ _ _ _ _ _ _ _ _ _ _ _ _ _ _ _ B hE hP1 hS1 hL)
theorem a_callSv {y : MethodName} {idx n : Nat} (hd : decode cc pc = .ok (.invokestatic idx, 3)) (hm : am_mS own idx y n) (hn : As.length = n) (hst : st = As.reverse ++ rest) (hW : (rest.map fun v => v.category).sum ≤ 8) (kk : CMv G d y As I J (fun I J => AW G cc nL own (d + 1) Ex (pc + 3) L rest I J)) : AW G cc nL own (d + 1) Ex pc L st I J := by
  intro p e s m args below meth c A R ce sl Q H locs ls B hE hP hS hL
  obtain ⟨cc', maxL, ret, h0, hc, hM⟩ := kk
  obtain ⟨m1, m2, m4, m5⟩ := hm
  have hts := B.2.2.2.2.1
  subst hst
  refine am_after (a := (As.map (am_v G.2.2.2)).toArray) (rest := rest.map (am_v G.2.2.2)) (va_runS (Ts := am_ws) (nL := nL) (own := own) (As := As.map (am_v G.2.2.2)) ⟨B.1, B.2.1, B.2.2.1, B.2.2.2.1, hts⟩ hM ⟨am_cb hts B.2.2.2.2.2.2.2.2.1 h0 hc m1 m4 m5, hts _ m2⟩ ⟨am_blind, am_pre hP B.2.2.2.2.2.1 B.2.2.2.2.2.2.1⟩ rfl (by rw [List.length_map]; exact hn) hL.1 (by show List.map _ _ = _; rw [List.map_append, List.map_reverse]) (am_rest hW) hd ⟨B.2.2.2.2.2.2.2.2.2.1, B.2.2.2.2.2.2.2.2.2.2⟩) hS B.2.2.2.2.2.2.2.1 (fun r I J H1 locs1 hq hP1 hS1 => by
    obtain ⟨rfl, hk⟩ := hq
    exact hk _ _ _ _ _ _ _ _ _ _ _ _ _ _ _ _ B hE hP1 hS1 hL)
theorem a_callUv {x0 y : MethodName} {idx n k : Nat} {C owner : String} (hd : decode cc pc = .ok (.invokevirtual idx, 3)) (hm : am_mU own idx C owner x0 y n) (hk : am_ob k C) (hn : As.length = n) (hst : st = As.reverse ++ .ref k :: rest) (hW : (rest.map fun v => v.category).sum ≤ 8) (kk : CMv G d y (.ref k :: As) I J (fun I J => AW G cc nL own (d + 1) Ex (pc + 3) L rest I J)) : AW G cc nL own (d + 1) Ex pc L st I J := by
  intro p e s m args below meth c A R ce sl Q H locs ls B hE hP hS hL
  obtain ⟨cc', maxL, ret, h0, hc, hM⟩ := kk
  have hts := B.2.2.2.2.1
  subst hst
  refine am_after (a := (Value.ref (G.2.2.2 k) :: As.map (am_v G.2.2.2)).toArray) (rest := rest.map (am_v G.2.2.2)) (va_runU (Ts := am_ws) (nL := nL) (own := own) (C := C) (b := G.2.2.2 k) (As := As.map (am_v G.2.2.2)) ⟨B.1, B.2.1, B.2.2.1, B.2.2.2.1, hts⟩ hM (am_cu hts B.2.2.2.2.2.1 B.2.2.2.2.2.2.2.2.1 h0 hc hm) ⟨am_blind, am_recv hk hP B.2.2.2.2.2.1, am_pre hP B.2.2.2.2.2.1 B.2.2.2.2.2.2.1⟩ rfl (by rw [List.length_map]; exact hn) hL.1 (by show List.map _ _ = _; rw [List.map_append, List.map_reverse]; rfl) (am_rest hW) hd ⟨B.2.2.2.2.2.2.2.2.2.1, B.2.2.2.2.2.2.2.2.2.2⟩) hS B.2.2.2.2.2.2.2.1 (fun r I J H1 locs1 hq hP1 hS1 => by
    obtain ⟨rfl, hk⟩ := hq
    exact hk _ _ _ _ _ _ _ _ _ _ _ _ _ _ _ _ B hE hP1 hS1 hL)
theorem a_mmax {idx : Nat} {x y v : Int32} (hd : decode cc pc = .ok (.invokestatic idx, 3)) (m1 : Cond.methodLink own idx Lib.Math.max.name ∈ am_ws) (m2 : Cond.static Lib.Math.max.name ∈ am_ws) (m3 : Cond.initialized "java/lang/Math" ∈ am_ws) (m4 : Cond.code Lib.Math.max.name Lib.Math.max.code 2 (some .int) ∈ am_ws) (hW : (st.map fun v => v.category).sum ≤ 8) (hv : (if x < y then y else x) = v) (kk : AW G cc nL own (d + 1) Ex (pc + 3) L (.int v :: st) I J) : AW G cc nL own (d + 1) Ex pc L (.int y :: .int x :: st) I J := by
  intro p e s m args below meth c A R ce sl Q H locs ls B hE hP hS hL
  subst hv
  have hts := B.2.2.2.2.1
  have hr := B.2.2.2.2.2.2.2.2.1
  exact va_mmax B.1 B.2.1 (by rw [B.2.2.1, hL.1]) B.2.2.2.1 (hts _ m1) (hts _ m2) (hts _ m3) (hts _ m4) (by omega) (by rw [am_cats]; omega) B.2.2.2.2.2.2.2.2.2.1 B.2.2.2.2.2.2.2.2.2.2 hd (kk _ _ _ _ _ _ _ _ _ _ _ _ _ _ _ _ B hE hP hS hL)
theorem a_mmin {idx : Nat} {x y v : Int32} (hd : decode cc pc = .ok (.invokestatic idx, 3)) (m1 : Cond.methodLink own idx Lib.Math.min.name ∈ am_ws) (m2 : Cond.static Lib.Math.min.name ∈ am_ws) (m3 : Cond.initialized "java/lang/Math" ∈ am_ws) (m4 : Cond.code Lib.Math.min.name Lib.Math.min.code 2 (some .int) ∈ am_ws) (hW : (st.map fun v => v.category).sum ≤ 8) (hv : (if y < x then y else x) = v) (kk : AW G cc nL own (d + 1) Ex (pc + 3) L (.int v :: st) I J) : AW G cc nL own (d + 1) Ex pc L (.int y :: .int x :: st) I J := by
  intro p e s m args below meth c A R ce sl Q H locs ls B hE hP hS hL
  subst hv
  have hts := B.2.2.2.2.1
  have hr := B.2.2.2.2.2.2.2.2.1
  exact va_mmin B.1 B.2.1 (by rw [B.2.2.1, hL.1]) B.2.2.2.1 (hts _ m1) (hts _ m2) (hts _ m3) (hts _ m4) (by omega) (by rw [am_cats]; omega) B.2.2.2.2.2.2.2.2.2.1 B.2.2.2.2.2.2.2.2.2.2 hd (kk _ _ _ _ _ _ _ _ _ _ _ _ _ _ _ _ B hE hP hS hL)
/-- the memory, with n places of f from sp on laid into the row k from dp on -/
def am_cp (I : am_I) (k : Nat) (f : Nat → Int32) (sp dp n : Nat) : am_I := fun a b => if a = k then va_cpy f (I k) sp dp n b else I a b
theorem am_cp_ne {k a : Nat} {f : Nat → Int32} {sp dp n : Nat} (h : a ≠ k) : am_cp I k f sp dp n a = I a := by
  funext b; simp [am_cp, h]
theorem am_cp_row {k : Nat} {f : Nat → Int32} {sp dp n : Nat} : am_cp I k f sp dp n k = va_cpy f (I k) sp dp n := by
  funext b; simp [am_cp]
theorem a_copy {idx k k2 t n0 n1 sp dp n : Nat} (hd : decode cc pc = .ok (.invokestatic idx, 3)) (m1 : Cond.methodLink own idx arraycopyName ∈ am_ws) (m2 : Cond.native arraycopyName ∈ am_ws) (m3 : Cond.static arraycopyName ∈ am_ws) (m4 : Cond.initialized "java/lang/System" ∈ am_ws) (h0 : am_ar k t n0) (h1 : am_ar k2 t n1) (ht : t = 0 ∨ t = 2) (hs : sp + n ≤ n0) (hdp : dp + n ≤ n1) (hf : t = 2 → ∀ i, i < n → (I k (sp + i)).toInt8.toInt32 = I k (sp + i)) (hW : (st.map fun v => v.category).sum ≤ 8)
    (kk : AW G cc nL own (d + 1) Ex (pc + 3) L st (am_cp I k2 (I k) sp dp n) J) : AW G cc nL own (d + 1) Ex pc L (.int (nI n) :: .int (nI dp) :: .ref k2 :: .int (nI sp) :: .ref k :: st) I J := by
  intro p e s m args below meth c A R ce sl Q H locs ls B hE hP hS hL
  have hts := B.2.2.2.2.1
  have hr := B.2.2.2.2.2.2.2.2.1
  have l0 := am_len h0.2
  have l1 := am_len h1.2
  have c1 : (nI sp).toNatClampNeg = sp := nI_clamp (by omega)
  have c2 : (nI dp).toNatClampNeg = dp := nI_clamp (by omega)
  have c3 : (nI n).toNatClampNeg = n := nI_clamp (by omega)
  obtain ⟨ty, t1, t2, t3⟩ : ∃ ty : FieldType, (am_tys G.2.2.1)[t]? = some (G.2.2.1 t, ty) ∧ refKind ty = false ∧ ∀ i, i < n → fits ty (.int (I k (sp + i))) = true := by
    rcases ht with rfl | rfl
    · exact ⟨_, rfl, rfl, fun _ _ => rfl⟩
    · refine ⟨_, rfl, rfl, fun i hi => ?_⟩
      rw [← hf rfl i hi]
      exact pk_fb _
  refine va_copyi B.1 B.2.1 (by rw [B.2.2.1, hL.1]) B.2.2.2.1 (hts _ m1) (hts _ m2) (hts _ m3) (hts _ m4) B.2.2.2.2.2.1.1 hP (am_D B.2.2.2.2.2.2.1 B.2.2.2.2.2.2.2.1) hS k k2 t t (am_W_ar h0) (am_W_ar h1) t1 t1 t2 (nI_pos (by omega)) (nI_pos (by omega)) (nI_pos (by omega)) (by rw [c1, c3]; exact hs) (by rw [c2, c3]; exact hdp) (by rw [c1, c3]; exact t3) (by omega) (by rw [am_cats]; show _ + (5 + 2 + 11) ≤ _; omega) hd (fun H1 locs1 hP1 hD1 hS1 => ?_)
  rw [c1, c2, c3, am_W_set (I' := am_cp I k2 (I k) sp dp n) (J' := J) (fun a h => am_cp_ne h) (fun _ _ => rfl) (by rw [h1.2, am_E, am_cp_row])] at hP1
  exact kk _ _ _ _ _ _ _ _ _ _ _ _ _ _ _ _ B hE hP1 hS1 hL
end AWC
end
