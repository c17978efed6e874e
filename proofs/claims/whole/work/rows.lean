section
-- ===== PART A: goes FIRST, ahead of the names: the tables' words, and 'selects' of the private methods out of them =====
/-- a private method of a class that the tables say can be made, by its rows of tables_1 -/
def lw_okq (q : MethodName × Nat) : Prop := (q.1.cls ≠ "java/lang/invoke/MethodHandle" ∧ q.1.cls ≠ "java/lang/invoke/VarHandle") ∧ Cond.instantiable q.1.cls q.2 ∈ tables_1 ∧ Cond.privateMethod q.1 ∈ tables_1 ∧ Cond.instanceMethod q.1 ∈ tables_1
theorem lw_p0 : lw_okq (⟨"LoadsUnseen$Routes", "measure", "(LLoadsUnseen$Net;II)V"⟩, 4) := ⟨⟨by decide +kernel, by decide +kernel⟩, List.mem_of_getElem? (i := 108) (by decide +kernel), List.mem_of_getElem? (i := 288) (by decide +kernel), List.mem_of_getElem? (i := 289) (by decide +kernel)⟩
theorem lw_p1 : lw_okq (⟨"LoadsUnseen$Routes", "walk", "(LLoadsUnseen$Net;III)V"⟩, 4) := ⟨⟨by decide +kernel, by decide +kernel⟩, List.mem_of_getElem? (i := 108) (by decide +kernel), List.mem_of_getElem? (i := 303) (by decide +kernel), List.mem_of_getElem? (i := 304) (by decide +kernel)⟩
theorem lw_p2 : lw_okq (⟨"LoadsUnseen", "found", "(I)I"⟩, 15) := ⟨⟨by decide +kernel, by decide +kernel⟩, List.mem_of_getElem? (i := 20) (by decide +kernel), List.mem_of_getElem? (i := 394) (by decide +kernel), List.mem_of_getElem? (i := 395) (by decide +kernel)⟩
theorem lw_p3 : lw_okq (⟨"LoadsUnseen$Line", "cutToCounter", "(I)I"⟩, 7) := ⟨⟨by decide +kernel, by decide +kernel⟩, List.mem_of_getElem? (i := 35) (by decide +kernel), List.mem_of_getElem? (i := 439) (by decide +kernel), List.mem_of_getElem? (i := 440) (by decide +kernel)⟩
theorem lw_p4 : lw_okq (⟨"LoadsUnseen", "seekAll", "(LLoadsUnseen$Goal;I)Z"⟩, 15) := ⟨⟨by decide +kernel, by decide +kernel⟩, List.mem_of_getElem? (i := 20) (by decide +kernel), List.mem_of_getElem? (i := 493) (by decide +kernel), List.mem_of_getElem? (i := 494) (by decide +kernel)⟩
theorem lw_p5 : lw_okq (⟨"LoadsUnseen$Seeker", "isSought", "(I)Z"⟩, 12) := ⟨⟨by decide +kernel, by decide +kernel⟩, List.mem_of_getElem? (i := 132) (by decide +kernel), List.mem_of_getElem? (i := 505) (by decide +kernel), List.mem_of_getElem? (i := 506) (by decide +kernel)⟩
theorem lw_p6 : lw_okq (⟨"LoadsUnseen$Seeker", "addSought", "(I)V"⟩, 12) := ⟨⟨by decide +kernel, by decide +kernel⟩, List.mem_of_getElem? (i := 132) (by decide +kernel), List.mem_of_getElem? (i := 514) (by decide +kernel), List.mem_of_getElem? (i := 515) (by decide +kernel)⟩
theorem lw_p7 : lw_okq (⟨"LoadsUnseen$Seeker", "goesOn", "(ILLoadsUnseen$Goal;)Z"⟩, 12) := ⟨⟨by decide +kernel, by decide +kernel⟩, List.mem_of_getElem? (i := 132) (by decide +kernel), List.mem_of_getElem? (i := 522) (by decide +kernel), List.mem_of_getElem? (i := 523) (by decide +kernel)⟩
theorem lw_p8 : lw_okq (⟨"LoadsUnseen$Seeker", "isNothingLeft", "()Z"⟩, 12) := ⟨⟨by decide +kernel, by decide +kernel⟩, List.mem_of_getElem? (i := 132) (by decide +kernel), List.mem_of_getElem? (i := 526) (by decide +kernel), List.mem_of_getElem? (i := 527) (by decide +kernel)⟩
theorem lw_p9 : lw_okq (⟨"LoadsUnseen$Seeker", "leastNumber", "(II)I"⟩, 12) := ⟨⟨by decide +kernel, by decide +kernel⟩, List.mem_of_getElem? (i := 132) (by decide +kernel), List.mem_of_getElem? (i := 558) (by decide +kernel), List.mem_of_getElem? (i := 559) (by decide +kernel)⟩
theorem lw_p10 : lw_okq (⟨"LoadsUnseen$Seeker", "mostNumber", "(I)I"⟩, 12) := ⟨⟨by decide +kernel, by decide +kernel⟩, List.mem_of_getElem? (i := 132) (by decide +kernel), List.mem_of_getElem? (i := 563) (by decide +kernel), List.mem_of_getElem? (i := 564) (by decide +kernel)⟩
theorem lw_p11 : lw_okq (⟨"LoadsUnseen$Seeker", "take", "(II)V"⟩, 12) := ⟨⟨by decide +kernel, by decide +kernel⟩, List.mem_of_getElem? (i := 132) (by decide +kernel), List.mem_of_getElem? (i := 568) (by decide +kernel), List.mem_of_getElem? (i := 569) (by decide +kernel)⟩
theorem lw_p12 : lw_okq (⟨"LoadsUnseen", "keepFit", "([I)V"⟩, 15) := ⟨⟨by decide +kernel, by decide +kernel⟩, List.mem_of_getElem? (i := 20) (by decide +kernel), List.mem_of_getElem? (i := 572) (by decide +kernel), List.mem_of_getElem? (i := 573) (by decide +kernel)⟩
theorem lw_p13 : lw_okq (⟨"LoadsUnseen", "surePairs", "()I"⟩, 15) := ⟨⟨by decide +kernel, by decide +kernel⟩, List.mem_of_getElem? (i := 20) (by decide +kernel), List.mem_of_getElem? (i := 599) (by decide +kernel), List.mem_of_getElem? (i := 600) (by decide +kernel)⟩
theorem lw_p14 : lw_okq (⟨"LoadsUnseen", "seekBest", "(LLoadsUnseen$Best;I)Z"⟩, 15) := ⟨⟨by decide +kernel, by decide +kernel⟩, List.mem_of_getElem? (i := 20) (by decide +kernel), List.mem_of_getElem? (i := 639) (by decide +kernel), List.mem_of_getElem? (i := 640) (by decide +kernel)⟩
theorem lw_p15 : lw_okq (⟨"LoadsUnseen$Seeker", "findFree", "()I"⟩, 12) := ⟨⟨by decide +kernel, by decide +kernel⟩, List.mem_of_getElem? (i := 132) (by decide +kernel), List.mem_of_getElem? (i := 663) (by decide +kernel), List.mem_of_getElem? (i := 664) (by decide +kernel)⟩
def lw_privs_1 : List (MethodName × Nat) := [(⟨"LoadsUnseen$Routes", "measure", "(LLoadsUnseen$Net;II)V"⟩, 4), (⟨"LoadsUnseen$Routes", "walk", "(LLoadsUnseen$Net;III)V"⟩, 4), (⟨"LoadsUnseen", "found", "(I)I"⟩, 15), (⟨"LoadsUnseen$Line", "cutToCounter", "(I)I"⟩, 7), (⟨"LoadsUnseen", "seekAll", "(LLoadsUnseen$Goal;I)Z"⟩, 15), (⟨"LoadsUnseen$Seeker", "isSought", "(I)Z"⟩, 12), (⟨"LoadsUnseen$Seeker", "addSought", "(I)V"⟩, 12), (⟨"LoadsUnseen$Seeker", "goesOn", "(ILLoadsUnseen$Goal;)Z"⟩, 12), (⟨"LoadsUnseen$Seeker", "isNothingLeft", "()Z"⟩, 12), (⟨"LoadsUnseen$Seeker", "leastNumber", "(II)I"⟩, 12), (⟨"LoadsUnseen$Seeker", "mostNumber", "(I)I"⟩, 12), (⟨"LoadsUnseen$Seeker", "take", "(II)V"⟩, 12), (⟨"LoadsUnseen", "keepFit", "([I)V"⟩, 15), (⟨"LoadsUnseen", "surePairs", "()I"⟩, 15), (⟨"LoadsUnseen", "seekBest", "(LLoadsUnseen$Best;I)Z"⟩, 15), (⟨"LoadsUnseen$Seeker", "findFree", "()I"⟩, 12)]
theorem lw_r1 : ∀ q ∈ lw_privs_1, lw_okq q := List.forall_mem_cons.mpr ⟨lw_p0, List.forall_mem_cons.mpr ⟨lw_p1, List.forall_mem_cons.mpr ⟨lw_p2, List.forall_mem_cons.mpr ⟨lw_p3, List.forall_mem_cons.mpr ⟨lw_p4, List.forall_mem_cons.mpr ⟨lw_p5, List.forall_mem_cons.mpr ⟨lw_p6, List.forall_mem_cons.mpr ⟨lw_p7, List.forall_mem_cons.mpr ⟨lw_p8, List.forall_mem_cons.mpr ⟨lw_p9, List.forall_mem_cons.mpr ⟨lw_p10, List.forall_mem_cons.mpr ⟨lw_p11, List.forall_mem_cons.mpr ⟨lw_p12, List.forall_mem_cons.mpr ⟨lw_p13, List.forall_mem_cons.mpr ⟨lw_p14, List.forall_mem_cons.mpr ⟨lw_p15, fun _ h => absurd h List.not_mem_nil⟩⟩⟩⟩⟩⟩⟩⟩⟩⟩⟩⟩⟩⟩⟩⟩
theorem lw_p16 : lw_okq (⟨"LoadsUnseen$Seeker", "fix", "(JI[I)V"⟩, 12) := ⟨⟨by decide +kernel, by decide +kernel⟩, List.mem_of_getElem? (i := 132) (by decide +kernel), List.mem_of_getElem? (i := 667) (by decide +kernel), List.mem_of_getElem? (i := 668) (by decide +kernel)⟩
theorem lw_p17 : lw_okq (⟨"LoadsUnseen$Seeker", "bitsOf", "(JI)J"⟩, 12) := ⟨⟨by decide +kernel, by decide +kernel⟩, List.mem_of_getElem? (i := 132) (by decide +kernel), List.mem_of_getElem? (i := 673) (by decide +kernel), List.mem_of_getElem? (i := 674) (by decide +kernel)⟩
theorem lw_p18 : lw_okq (⟨"LoadsUnseen", "digestLine", "(JI)J"⟩, 15) := ⟨⟨by decide +kernel, by decide +kernel⟩, List.mem_of_getElem? (i := 20) (by decide +kernel), List.mem_of_getElem? (i := 763) (by decide +kernel), List.mem_of_getElem? (i := 764) (by decide +kernel)⟩
theorem lw_p19 : lw_okq (⟨"LoadsUnseen", "digestSheet", "(JI)J"⟩, 15) := ⟨⟨by decide +kernel, by decide +kernel⟩, List.mem_of_getElem? (i := 20) (by decide +kernel), List.mem_of_getElem? (i := 768) (by decide +kernel), List.mem_of_getElem? (i := 769) (by decide +kernel)⟩
theorem lw_p20 : lw_okq (⟨"LoadsUnseenModel", "forget", "()V"⟩, 41) := ⟨⟨by decide +kernel, by decide +kernel⟩, List.mem_of_getElem? (i := 772) (by decide +kernel), List.mem_of_getElem? (i := 778) (by decide +kernel), List.mem_of_getElem? (i := 779) (by decide +kernel)⟩
theorem lw_p21 : lw_okq (⟨"LoadsUnseenModel", "isKnot", "(I)Z"⟩, 41) := ⟨⟨by decide +kernel, by decide +kernel⟩, List.mem_of_getElem? (i := 772) (by decide +kernel), List.mem_of_getElem? (i := 917) (by decide +kernel), List.mem_of_getElem? (i := 918) (by decide +kernel)⟩
theorem lw_p22 : lw_okq (⟨"LoadsUnseenModel", "isLine", "(I)Z"⟩, 41) := ⟨⟨by decide +kernel, by decide +kernel⟩, List.mem_of_getElem? (i := 772) (by decide +kernel), List.mem_of_getElem? (i := 925) (by decide +kernel), List.mem_of_getElem? (i := 926) (by decide +kernel)⟩
theorem lw_p23 : lw_okq (⟨"LoadsUnseenModel", "tells", "(II)I"⟩, 41) := ⟨⟨by decide +kernel, by decide +kernel⟩, List.mem_of_getElem? (i := 772) (by decide +kernel), List.mem_of_getElem? (i := 929) (by decide +kernel), List.mem_of_getElem? (i := 930) (by decide +kernel)⟩
theorem lw_p24 : lw_okq (⟨"LoadsUnseenModel", "meets", "(I)I"⟩, 41) := ⟨⟨by decide +kernel, by decide +kernel⟩, List.mem_of_getElem? (i := 772) (by decide +kernel), List.mem_of_getElem? (i := 937) (by decide +kernel), List.mem_of_getElem? (i := 938) (by decide +kernel)⟩
theorem lw_p25 : lw_okq (⟨"LoadsUnseenModel", "counterOf", "(I)I"⟩, 41) := ⟨⟨by decide +kernel, by decide +kernel⟩, List.mem_of_getElem? (i := 772) (by decide +kernel), List.mem_of_getElem? (i := 941) (by decide +kernel), List.mem_of_getElem? (i := 942) (by decide +kernel)⟩
theorem lw_p26 : lw_okq (⟨"LoadsUnseenModel", "had", "(I)I"⟩, 41) := ⟨⟨by decide +kernel, by decide +kernel⟩, List.mem_of_getElem? (i := 772) (by decide +kernel), List.mem_of_getElem? (i := 946) (by decide +kernel), List.mem_of_getElem? (i := 947) (by decide +kernel)⟩
theorem lw_p27 : lw_okq (⟨"LoadsUnseenModel", "setRoutes", "(I)V"⟩, 41) := ⟨⟨by decide +kernel, by decide +kernel⟩, List.mem_of_getElem? (i := 772) (by decide +kernel), List.mem_of_getElem? (i := 950) (by decide +kernel), List.mem_of_getElem? (i := 951) (by decide +kernel)⟩
theorem lw_p28 : lw_okq (⟨"LoadsUnseenModel", "routeOf", "(IIII)I"⟩, 41) := ⟨⟨by decide +kernel, by decide +kernel⟩, List.mem_of_getElem? (i := 772) (by decide +kernel), List.mem_of_getElem? (i := 954) (by decide +kernel), List.mem_of_getElem? (i := 955) (by decide +kernel)⟩
theorem lw_p29 : lw_okq (⟨"LoadsUnseenModel", "counts", "(I)Z"⟩, 41) := ⟨⟨by decide +kernel, by decide +kernel⟩, List.mem_of_getElem? (i := 772) (by decide +kernel), List.mem_of_getElem? (i := 971) (by decide +kernel), List.mem_of_getElem? (i := 972) (by decide +kernel)⟩
theorem lw_p30 : lw_okq (⟨"LoadsUnseenModel", "loadOf", "(III)I"⟩, 41) := ⟨⟨by decide +kernel, by decide +kernel⟩, List.mem_of_getElem? (i := 772) (by decide +kernel), List.mem_of_getElem? (i := 979) (by decide +kernel), List.mem_of_getElem? (i := 980) (by decide +kernel)⟩
theorem lw_p31 : lw_okq (⟨"LoadsUnseenModel", "tell", "(JI)I"⟩, 41) := ⟨⟨by decide +kernel, by decide +kernel⟩, List.mem_of_getElem? (i := 772) (by decide +kernel), List.mem_of_getElem? (i := 983) (by decide +kernel), List.mem_of_getElem? (i := 984) (by decide +kernel)⟩
def lw_privs_2 : List (MethodName × Nat) := [(⟨"LoadsUnseen$Seeker", "fix", "(JI[I)V"⟩, 12), (⟨"LoadsUnseen$Seeker", "bitsOf", "(JI)J"⟩, 12), (⟨"LoadsUnseen", "digestLine", "(JI)J"⟩, 15), (⟨"LoadsUnseen", "digestSheet", "(JI)J"⟩, 15), (⟨"LoadsUnseenModel", "forget", "()V"⟩, 41), (⟨"LoadsUnseenModel", "isKnot", "(I)Z"⟩, 41), (⟨"LoadsUnseenModel", "isLine", "(I)Z"⟩, 41), (⟨"LoadsUnseenModel", "tells", "(II)I"⟩, 41), (⟨"LoadsUnseenModel", "meets", "(I)I"⟩, 41), (⟨"LoadsUnseenModel", "counterOf", "(I)I"⟩, 41), (⟨"LoadsUnseenModel", "had", "(I)I"⟩, 41), (⟨"LoadsUnseenModel", "setRoutes", "(I)V"⟩, 41), (⟨"LoadsUnseenModel", "routeOf", "(IIII)I"⟩, 41), (⟨"LoadsUnseenModel", "counts", "(I)Z"⟩, 41), (⟨"LoadsUnseenModel", "loadOf", "(III)I"⟩, 41), (⟨"LoadsUnseenModel", "tell", "(JI)I"⟩, 41)]
theorem lw_r2 : ∀ q ∈ lw_privs_2, lw_okq q := List.forall_mem_cons.mpr ⟨lw_p16, List.forall_mem_cons.mpr ⟨lw_p17, List.forall_mem_cons.mpr ⟨lw_p18, List.forall_mem_cons.mpr ⟨lw_p19, List.forall_mem_cons.mpr ⟨lw_p20, List.forall_mem_cons.mpr ⟨lw_p21, List.forall_mem_cons.mpr ⟨lw_p22, List.forall_mem_cons.mpr ⟨lw_p23, List.forall_mem_cons.mpr ⟨lw_p24, List.forall_mem_cons.mpr ⟨lw_p25, List.forall_mem_cons.mpr ⟨lw_p26, List.forall_mem_cons.mpr ⟨lw_p27, List.forall_mem_cons.mpr ⟨lw_p28, List.forall_mem_cons.mpr ⟨lw_p29, List.forall_mem_cons.mpr ⟨lw_p30, List.forall_mem_cons.mpr ⟨lw_p31, fun _ h => absurd h List.not_mem_nil⟩⟩⟩⟩⟩⟩⟩⟩⟩⟩⟩⟩⟩⟩⟩⟩
theorem lw_p32 : lw_okq (⟨"LoadsUnseenModel", "isPair", "(II)Z"⟩, 41) := ⟨⟨by decide +kernel, by decide +kernel⟩, List.mem_of_getElem? (i := 772) (by decide +kernel), List.mem_of_getElem? (i := 995) (by decide +kernel), List.mem_of_getElem? (i := 996) (by decide +kernel)⟩
theorem lw_p33 : lw_okq (⟨"LoadsUnseenModel", "open", "(I)V"⟩, 41) := ⟨⟨by decide +kernel, by decide +kernel⟩, List.mem_of_getElem? (i := 772) (by decide +kernel), List.mem_of_getElem? (i := 1022) (by decide +kernel), List.mem_of_getElem? (i := 1023) (by decide +kernel)⟩
theorem lw_p34 : lw_okq (⟨"LoadsUnseenModel", "setSeeking", "()V"⟩, 41) := ⟨⟨by decide +kernel, by decide +kernel⟩, List.mem_of_getElem? (i := 772) (by decide +kernel), List.mem_of_getElem? (i := 1026) (by decide +kernel), List.mem_of_getElem? (i := 1027) (by decide +kernel)⟩
theorem lw_p35 : lw_okq (⟨"LoadsUnseenModel", "next", "(Z)I"⟩, 41) := ⟨⟨by decide +kernel, by decide +kernel⟩, List.mem_of_getElem? (i := 772) (by decide +kernel), List.mem_of_getElem? (i := 1030) (by decide +kernel), List.mem_of_getElem? (i := 1031) (by decide +kernel)⟩
theorem lw_p36 : lw_okq (⟨"LoadsUnseenModel", "beginSeeking", "()V"⟩, 41) := ⟨⟨by decide +kernel, by decide +kernel⟩, List.mem_of_getElem? (i := 772) (by decide +kernel), List.mem_of_getElem? (i := 1034) (by decide +kernel), List.mem_of_getElem? (i := 1035) (by decide +kernel)⟩
theorem lw_p37 : lw_okq (⟨"LoadsUnseenModel", "begin", "()V"⟩, 41) := ⟨⟨by decide +kernel, by decide +kernel⟩, List.mem_of_getElem? (i := 772) (by decide +kernel), List.mem_of_getElem? (i := 1038) (by decide +kernel), List.mem_of_getElem? (i := 1039) (by decide +kernel)⟩
theorem lw_p38 : lw_okq (⟨"LoadsUnseenModel", "isNothingLeft", "()Z"⟩, 41) := ⟨⟨by decide +kernel, by decide +kernel⟩, List.mem_of_getElem? (i := 772) (by decide +kernel), List.mem_of_getElem? (i := 1042) (by decide +kernel), List.mem_of_getElem? (i := 1043) (by decide +kernel)⟩
theorem lw_p39 : lw_okq (⟨"LoadsUnseenModel", "take", "(I)V"⟩, 41) := ⟨⟨by decide +kernel, by decide +kernel⟩, List.mem_of_getElem? (i := 772) (by decide +kernel), List.mem_of_getElem? (i := 1046) (by decide +kernel), List.mem_of_getElem? (i := 1047) (by decide +kernel)⟩
theorem lw_p40 : lw_okq (⟨"LoadsUnseenModel", "keep", "()V"⟩, 41) := ⟨⟨by decide +kernel, by decide +kernel⟩, List.mem_of_getElem? (i := 772) (by decide +kernel), List.mem_of_getElem? (i := 1050) (by decide +kernel), List.mem_of_getElem? (i := 1051) (by decide +kernel)⟩
theorem lw_p41 : lw_okq (⟨"LoadsUnseenModel", "setBounds", "(I)I"⟩, 41) := ⟨⟨by decide +kernel, by decide +kernel⟩, List.mem_of_getElem? (i := 772) (by decide +kernel), List.mem_of_getElem? (i := 1066) (by decide +kernel), List.mem_of_getElem? (i := 1067) (by decide +kernel)⟩
theorem lw_p42 : lw_okq (⟨"LoadsUnseenModel", "changes", "()I"⟩, 41) := ⟨⟨by decide +kernel, by decide +kernel⟩, List.mem_of_getElem? (i := 772) (by decide +kernel), List.mem_of_getElem? (i := 1082) (by decide +kernel), List.mem_of_getElem? (i := 1083) (by decide +kernel)⟩
theorem lw_p43 : lw_okq (⟨"LoadsUnseenModel", "isAlone", "(JI)I"⟩, 41) := ⟨⟨by decide +kernel, by decide +kernel⟩, List.mem_of_getElem? (i := 772) (by decide +kernel), List.mem_of_getElem? (i := 1094) (by decide +kernel), List.mem_of_getElem? (i := 1095) (by decide +kernel)⟩
theorem lw_p44 : lw_okq (⟨"LoadsUnseenModel", "looked", "(I)I"⟩, 41) := ⟨⟨by decide +kernel, by decide +kernel⟩, List.mem_of_getElem? (i := 772) (by decide +kernel), List.mem_of_getElem? (i := 1112) (by decide +kernel), List.mem_of_getElem? (i := 1113) (by decide +kernel)⟩
theorem lw_p45 : lw_okq (⟨"LoadsUnseenModel", "tellsCount", "(I)I"⟩, 41) := ⟨⟨by decide +kernel, by decide +kernel⟩, List.mem_of_getElem? (i := 772) (by decide +kernel), List.mem_of_getElem? (i := 1136) (by decide +kernel), List.mem_of_getElem? (i := 1137) (by decide +kernel)⟩
def lw_privs_3 : List (MethodName × Nat) := [(⟨"LoadsUnseenModel", "isPair", "(II)Z"⟩, 41), (⟨"LoadsUnseenModel", "open", "(I)V"⟩, 41), (⟨"LoadsUnseenModel", "setSeeking", "()V"⟩, 41), (⟨"LoadsUnseenModel", "next", "(Z)I"⟩, 41), (⟨"LoadsUnseenModel", "beginSeeking", "()V"⟩, 41), (⟨"LoadsUnseenModel", "begin", "()V"⟩, 41), (⟨"LoadsUnseenModel", "isNothingLeft", "()Z"⟩, 41), (⟨"LoadsUnseenModel", "take", "(I)V"⟩, 41), (⟨"LoadsUnseenModel", "keep", "()V"⟩, 41), (⟨"LoadsUnseenModel", "setBounds", "(I)I"⟩, 41), (⟨"LoadsUnseenModel", "changes", "()I"⟩, 41), (⟨"LoadsUnseenModel", "isAlone", "(JI)I"⟩, 41), (⟨"LoadsUnseenModel", "looked", "(I)I"⟩, 41), (⟨"LoadsUnseenModel", "tellsCount", "(I)I"⟩, 41)]
theorem lw_r3 : ∀ q ∈ lw_privs_3, lw_okq q := List.forall_mem_cons.mpr ⟨lw_p32, List.forall_mem_cons.mpr ⟨lw_p33, List.forall_mem_cons.mpr ⟨lw_p34, List.forall_mem_cons.mpr ⟨lw_p35, List.forall_mem_cons.mpr ⟨lw_p36, List.forall_mem_cons.mpr ⟨lw_p37, List.forall_mem_cons.mpr ⟨lw_p38, List.forall_mem_cons.mpr ⟨lw_p39, List.forall_mem_cons.mpr ⟨lw_p40, List.forall_mem_cons.mpr ⟨lw_p41, List.forall_mem_cons.mpr ⟨lw_p42, List.forall_mem_cons.mpr ⟨lw_p43, List.forall_mem_cons.mpr ⟨lw_p44, List.forall_mem_cons.mpr ⟨lw_p45, fun _ h => absurd h List.not_mem_nil⟩⟩⟩⟩⟩⟩⟩⟩⟩⟩⟩⟩⟩⟩
def lw_privs : List (MethodName × Nat) := lw_privs_1 ++ (lw_privs_2 ++ (lw_privs_3))
def lw_tbl : List Cond := k2_sels lw_privs ++ tables_1
theorem lw_privs_ok : ∀ q ∈ lw_privs, lw_okq q := by
  show ∀ q ∈ lw_privs_1 ++ (lw_privs_2 ++ (lw_privs_3)), lw_okq q
  exact List.forall_mem_append.mpr ⟨lw_r1, List.forall_mem_append.mpr ⟨lw_r2, lw_r3⟩⟩
-- ===== end of PART A; then your names; then what follows =====
end
section
/-! ===== BEGIN words of one list among another's, by their places ===== -/
theorem goodIn_r {big : List Cond} (ws : List Cond) (ps : List Nat) (hp : ws = ps.filterMap (fun i => big[i]?)) (h : ws.all goodWord = true) : GoodIn big ws := by
  intro w hw
  have h1 := List.all_eq_true.mp h w hw
  rw [hp] at hw
  obtain ⟨i, -, hi⟩ := List.mem_filterMap.mp hw
  have hm : w ∈ big := by first | exact List.mem_of_getElem? hi | exact List.getElem?_mem hi
  exact ⟨hm, good_of_word h1⟩
theorem goodIn_app {big a b : List Cond} (ha : GoodIn big a) (hb : GoodIn big b) : GoodIn big (a ++ b) := fun w h => (List.mem_append.mp h).elim (ha w) (hb w)
theorem goodIn_ca {big a b : List Cond} {c : Cond} (ha : GoodIn big (c :: a)) (hb : GoodIn big b) : GoodIn big (c :: (a ++ b)) := fun w h => (List.mem_cons.mp h).elim (fun e => ha w (List.mem_cons.mpr (Or.inl e))) (fun h => (List.mem_append.mp h).elim (fun h => ha w (List.mem_cons.mpr (Or.inr h))) (hb w))
theorem goodIn_sub {big ws : List Cond} (hm : ∀ w ∈ ws, w ∈ big) (h : ws.all goodWord = true) : GoodIn big ws := fun w hw => ⟨hm w hw, good_of_word (List.all_eq_true.mp h w hw)⟩
/-! ===== END ===== -/
def RX0 : String := "LoadsUnseen$Best"
def TX0 : u_T := fun k => match k with
  | _ => ("", "", "", false)
def tyX0 : Nat → FieldType := fun k => match k with
  | _ => .int
abbrev wsX00 : List Cond := u_ws RX0 TX0 0
theorem nmX0 : ∀ a, a < 0 → ∀ b, b < 0 → a ≠ b → (TX0 a).2.1 ≠ (TX0 b).2.1 := by decide +kernel
theorem tyX0_ok : ∀ k, k < 0 → parseFieldDescriptor (TX0 k).2.2.1 = some (tyX0 k) := by decide +kernel
abbrev cX0_init : ByteArray := prog_2_method_1_code
def yX0_init : MethodName := ⟨RX0, "<init>", "()V"⟩
abbrev cX0_begin : ByteArray := prog_2_method_3_code
def yX0_begin : MethodName := ⟨RX0, "begin", "()V"⟩
abbrev cX0_hasEnough : ByteArray := prog_2_method_4_code
def yX0_hasEnough : MethodName := ⟨RX0, "hasEnough", "([I)Z"⟩
def RX1 : String := "LoadsUnseen$Fewest"
def TX1 : u_T := fun k => match k with
  | 0 => ("LoadsUnseen$Best", "kept", "[I", true)
  | 1 => ("LoadsUnseen$Best", "any", "Z", false)
  | 2 => ("LoadsUnseen$Best", "cost", "I", false)
  | _ => ("LoadsUnseen$Fewest", "bases", "[I", true)
def tyX1 : Nat → FieldType := fun k => match k with
  | 0 => .array .int
  | 1 => .boolean
  | 2 => .int
  | _ => .array .int
abbrev wsX10 : List Cond := u_ws RX1 TX1 4
theorem nmX1 : ∀ a, a < 4 → ∀ b, b < 4 → a ≠ b → (TX1 a).2.1 ≠ (TX1 b).2.1 := by decide +kernel
theorem tyX1_ok : ∀ k, k < 4 → parseFieldDescriptor (TX1 k).2.2.1 = some (tyX1 k) := by decide +kernel
abbrev cX1_init : ByteArray := prog_3_method_1_code
def yX1_init : MethodName := ⟨RX1, "<init>", "([I)V"⟩
abbrev cX1_costOf : ByteArray := prog_3_method_2_code
def yX1_costOf : MethodName := ⟨RX1, "costOf", "([I)I"⟩
def RX2 : String := "LoadsUnseen$Goal"
def TX2 : u_T := fun k => match k with
  | _ => ("", "", "", false)
def tyX2 : Nat → FieldType := fun k => match k with
  | _ => .int
abbrev wsX20 : List Cond := u_ws RX2 TX2 0
theorem nmX2 : ∀ a, a < 0 → ∀ b, b < 0 → a ≠ b → (TX2 a).2.1 ≠ (TX2 b).2.1 := by decide +kernel
theorem tyX2_ok : ∀ k, k < 0 → parseFieldDescriptor (TX2 k).2.2.1 = some (tyX2 k) := by decide +kernel
abbrev cX2_init : ByteArray := prog_4_method_1_code
def yX2_init : MethodName := ⟨RX2, "<init>", "()V"⟩
def RX3 : String := "LoadsUnseen$Heaviest"
def TX3 : u_T := fun k => match k with
  | 0 => ("LoadsUnseen$Best", "kept", "[I", true)
  | 1 => ("LoadsUnseen$Best", "any", "Z", false)
  | 2 => ("LoadsUnseen$Best", "cost", "I", false)
  | _ => ("LoadsUnseen$Heaviest", "goesThere", "[Z", true)
def tyX3 : Nat → FieldType := fun k => match k with
  | 0 => .array .int
  | 1 => .boolean
  | 2 => .int
  | _ => .array .boolean
abbrev wsX30 : List Cond := u_ws RX3 TX3 4
theorem nmX3 : ∀ a, a < 4 → ∀ b, b < 4 → a ≠ b → (TX3 a).2.1 ≠ (TX3 b).2.1 := by decide +kernel
theorem tyX3_ok : ∀ k, k < 4 → parseFieldDescriptor (TX3 k).2.2.1 = some (tyX3 k) := by decide +kernel
abbrev cX3_init : ByteArray := prog_5_method_1_code
def yX3_init : MethodName := ⟨RX3, "<init>", "()V"⟩
abbrev cX3_beginOn : ByteArray := prog_5_method_2_code
def yX3_beginOn : MethodName := ⟨RX3, "beginOn", "(ILLoadsUnseen$Routes;)V"⟩
abbrev cX3_costOf : ByteArray := prog_5_method_3_code
def yX3_costOf : MethodName := ⟨RX3, "costOf", "([I)I"⟩
def RX4 : String := "LoadsUnseen$Line"
def TX4 : u_T := fun k => match k with
  | 0 => ("LoadsUnseen$Line", "kind", "I", false)
  | 1 => ("LoadsUnseen$Line", "from", "I", false)
  | 2 => ("LoadsUnseen$Line", "to", "I", false)
  | 3 => ("LoadsUnseen$Line", "isDown", "Z", false)
  | 4 => ("LoadsUnseen$Line", "most", "I", false)
  | 5 => ("LoadsUnseen$Line", "load", "I", false)
  | _ => ("LoadsUnseen$Line", "readings", "[I", true)
def tyX4 : Nat → FieldType := fun k => match k with
  | 0 => .int
  | 1 => .int
  | 2 => .int
  | 3 => .boolean
  | 4 => .int
  | 5 => .int
  | _ => .array .int
abbrev wsX40 : List Cond := u_ws RX4 TX4 7
theorem nmX4 : ∀ a, a < 7 → ∀ b, b < 7 → a ≠ b → (TX4 a).2.1 ≠ (TX4 b).2.1 := by decide +kernel
theorem tyX4_ok : ∀ k, k < 7 → parseFieldDescriptor (TX4 k).2.2.1 = some (tyX4 k) := by decide +kernel
abbrev cX4_init : ByteArray := prog_6_method_1_code
def yX4_init : MethodName := ⟨RX4, "<init>", "()V"⟩
abbrev cX4_begin : ByteArray := prog_6_method_2_code
def yX4_begin : MethodName := ⟨RX4, "begin", "(III)V"⟩
abbrev cX4_isOf : ByteArray := prog_6_method_3_code
def yX4_isOf : MethodName := ⟨RX4, "isOf", "(I)Z"⟩
abbrev cX4_counterSize : ByteArray := prog_6_method_4_code
def yX4_counterSize : MethodName := ⟨RX4, "counterSize", "()I"⟩
abbrev cX4_keepReading : ByteArray := prog_6_method_5_code
def yX4_keepReading : MethodName := ⟨RX4, "keepReading", "(II)V"⟩
abbrev cX4_cutToCounter : ByteArray := prog_6_method_6_code
def yX4_cutToCounter : MethodName := ⟨RX4, "cutToCounter", "(I)I"⟩
abbrev cX4_readingsKept : ByteArray := prog_6_method_7_code
def yX4_readingsKept : MethodName := ⟨RX4, "readingsKept", "()I"⟩
abbrev cX4_loadBetween : ByteArray := prog_6_method_8_code
def yX4_loadBetween : MethodName := ⟨RX4, "loadBetween", "(II)I"⟩
abbrev cX4_isSureBetween : ByteArray := prog_6_method_9_code
def yX4_isSureBetween : MethodName := ⟨RX4, "isSureBetween", "(II)Z"⟩
abbrev cX4_meanLoad : ByteArray := prog_6_method_10_code
def yX4_meanLoad : MethodName := ⟨RX4, "meanLoad", "()I"⟩
def RX5 : String := "LoadsUnseen$Net"
def TX5 : u_T := fun k => match k with
  | 0 => ("LoadsUnseen$Net", "knots", "I", false)
  | 1 => ("LoadsUnseen$Net", "lineCount", "I", false)
  | 2 => ("LoadsUnseen$Net", "lines", "[LLoadsUnseen$Line;", true)
  | 3 => ("LoadsUnseen$Net", "meters", "[I", true)
  | _ => ("LoadsUnseen$Net", "bases", "[I", true)
def tyX5 : Nat → FieldType := fun k => match k with
  | 0 => .int
  | 1 => .int
  | 2 => .array (.object "LoadsUnseen$Line")
  | 3 => .array .int
  | _ => .array .int
abbrev wsX50 : List Cond := u_ws RX5 TX5 5
theorem nmX5 : ∀ a, a < 5 → ∀ b, b < 5 → a ≠ b → (TX5 a).2.1 ≠ (TX5 b).2.1 := by decide +kernel
theorem tyX5_ok : ∀ k, k < 5 → parseFieldDescriptor (TX5 k).2.2.1 = some (tyX5 k) := by decide +kernel
abbrev cX5_init : ByteArray := prog_7_method_1_code
def yX5_init : MethodName := ⟨RX5, "<init>", "()V"⟩
abbrev cX5_begin : ByteArray := prog_7_method_2_code
def yX5_begin : MethodName := ⟨RX5, "begin", "(I)V"⟩
abbrev cX5_addLine : ByteArray := prog_7_method_3_code
def yX5_addLine : MethodName := ⟨RX5, "addLine", "(III)I"⟩
abbrev cX5_isLine : ByteArray := prog_7_method_4_code
def yX5_isLine : MethodName := ⟨RX5, "isLine", "(I)Z"⟩
abbrev cX5_isPair : ByteArray := prog_7_method_5_code
def yX5_isPair : MethodName := ⟨RX5, "isPair", "(II)Z"⟩
abbrev cX5_pairNumber : ByteArray := prog_7_method_6_code
def yX5_pairNumber : MethodName := ⟨RX5, "pairNumber", "(II)I"⟩
abbrev cX5_linesTold : ByteArray := prog_7_method_7_code
def yX5_linesTold : MethodName := ⟨RX5, "linesTold", "()I"⟩
abbrev cX5_pairsMetered : ByteArray := prog_7_method_8_code
def yX5_pairsMetered : MethodName := ⟨RX5, "pairsMetered", "()I"⟩
abbrev cX5_carriedFrom : ByteArray := prog_7_method_9_code
def yX5_carriedFrom : MethodName := ⟨RX5, "carriedFrom", "(I)I"⟩
abbrev cX5_carriedTo : ByteArray := prog_7_method_10_code
def yX5_carriedTo : MethodName := ⟨RX5, "carriedTo", "(I)I"⟩
abbrev cX5_allCarried : ByteArray := prog_7_method_11_code
def yX5_allCarried : MethodName := ⟨RX5, "allCarried", "()I"⟩
def RX6 : String := "LoadsUnseen$Range"
def TX6 : u_T := fun k => match k with
  | 0 => ("LoadsUnseen$Range", "least", "[I", true)
  | 1 => ("LoadsUnseen$Range", "most", "[I", true)
  | _ => ("LoadsUnseen$Range", "any", "Z", false)
def tyX6 : Nat → FieldType := fun k => match k with
  | 0 => .array .int
  | 1 => .array .int
  | _ => .boolean
abbrev wsX60 : List Cond := u_ws RX6 TX6 3
theorem nmX6 : ∀ a, a < 3 → ∀ b, b < 3 → a ≠ b → (TX6 a).2.1 ≠ (TX6 b).2.1 := by decide +kernel
theorem tyX6_ok : ∀ k, k < 3 → parseFieldDescriptor (TX6 k).2.2.1 = some (tyX6 k) := by decide +kernel
abbrev cX6_init : ByteArray := prog_8_method_1_code
def yX6_init : MethodName := ⟨RX6, "<init>", "()V"⟩
abbrev cX6_begin : ByteArray := prog_8_method_2_code
def yX6_begin : MethodName := ⟨RX6, "begin", "()V"⟩
abbrev cX6_hasEnough : ByteArray := prog_8_method_3_code
def yX6_hasEnough : MethodName := ⟨RX6, "hasEnough", "([I)Z"⟩
def RX7 : String := "LoadsUnseen$Routes"
def TX7 : u_T := fun k => match k with
  | 0 => ("LoadsUnseen$Routes", "places", "I", false)
  | 1 => ("LoadsUnseen$Routes", "lengths", "[I", true)
  | 2 => ("LoadsUnseen$Routes", "steps", "[I", true)
  | _ => ("LoadsUnseen$Routes", "away", "[I", true)
def tyX7 : Nat → FieldType := fun k => match k with
  | 0 => .int
  | 1 => .array .int
  | 2 => .array .int
  | _ => .array .int
abbrev wsX70 : List Cond := u_ws RX7 TX7 4
theorem nmX7 : ∀ a, a < 4 → ∀ b, b < 4 → a ≠ b → (TX7 a).2.1 ≠ (TX7 b).2.1 := by decide +kernel
theorem tyX7_ok : ∀ k, k < 4 → parseFieldDescriptor (TX7 k).2.2.1 = some (tyX7 k) := by decide +kernel
abbrev cX7_init : ByteArray := prog_9_method_1_code
def yX7_init : MethodName := ⟨RX7, "<init>", "()V"⟩
abbrev cX7_find : ByteArray := prog_9_method_2_code
def yX7_find : MethodName := ⟨RX7, "find", "(LLoadsUnseen$Net;I)V"⟩
abbrev cX7_isRouted : ByteArray := prog_9_method_3_code
def yX7_isRouted : MethodName := ⟨RX7, "isRouted", "(I)Z"⟩
abbrev cX7_lineAt : ByteArray := prog_9_method_4_code
def yX7_lineAt : MethodName := ⟨RX7, "lineAt", "(II)I"⟩
abbrev cX7_goesBy : ByteArray := prog_9_method_5_code
def yX7_goesBy : MethodName := ⟨RX7, "goesBy", "(II)Z"⟩
abbrev cX7_pairsOn : ByteArray := prog_9_method_6_code
def yX7_pairsOn : MethodName := ⟨RX7, "pairsOn", "(I)I"⟩
abbrev cX7_pairsCut : ByteArray := prog_9_method_7_code
def yX7_pairsCut : MethodName := ⟨RX7, "pairsCut", "()I"⟩
abbrev cX7_measure : ByteArray := prog_9_method_8_code
def yX7_measure : MethodName := ⟨RX7, "measure", "(LLoadsUnseen$Net;II)V"⟩
abbrev cX7_isShut : ByteArray := prog_9_method_9_code
def yX7_isShut : MethodName := ⟨RX7, "isShut", "(LLoadsUnseen$Net;II)Z"⟩
abbrev cX7_walk : ByteArray := prog_9_method_10_code
def yX7_walk : MethodName := ⟨RX7, "walk", "(LLoadsUnseen$Net;III)V"⟩
def RX8 : String := "LoadsUnseen$Seeker"
def TX8 : u_T := fun k => match k with
  | 0 => ("LoadsUnseen$Seeker", "net", "LLoadsUnseen$Net;", true)
  | 1 => ("LoadsUnseen$Seeker", "routes", "LLoadsUnseen$Routes;", true)
  | 2 => ("LoadsUnseen$Seeker", "order", "[I", true)
  | 3 => ("LoadsUnseen$Seeker", "free", "[I", true)
  | 4 => ("LoadsUnseen$Seeker", "lastPlace", "[I", true)
  | 5 => ("LoadsUnseen$Seeker", "left", "[I", true)
  | 6 => ("LoadsUnseen$Seeker", "fixed", "[I", true)
  | 7 => ("LoadsUnseen$Seeker", "numbers", "[I", true)
  | 8 => ("LoadsUnseen$Seeker", "sought", "I", false)
  | 9 => ("LoadsUnseen$Seeker", "limit", "I", false)
  | 10 => ("LoadsUnseen$Seeker", "tries", "I", false)
  | _ => ("LoadsUnseen$Seeker", "spent", "Z", false)
def tyX8 : Nat → FieldType := fun k => match k with
  | 0 => .object "LoadsUnseen$Net"
  | 1 => .object "LoadsUnseen$Routes"
  | 2 => .array .int
  | 3 => .array .int
  | 4 => .array .int
  | 5 => .array .int
  | 6 => .array .int
  | 7 => .array .int
  | 8 => .int
  | 9 => .int
  | 10 => .int
  | _ => .boolean
abbrev wsX80 : List Cond := u_ws RX8 TX8 12
theorem nmX8 : ∀ a, a < 12 → ∀ b, b < 12 → a ≠ b → (TX8 a).2.1 ≠ (TX8 b).2.1 := by decide +kernel
theorem tyX8_ok : ∀ k, k < 12 → parseFieldDescriptor (TX8 k).2.2.1 = some (tyX8 k) := by decide +kernel
abbrev cX8_init : ByteArray := prog_10_method_1_code
def yX8_init : MethodName := ⟨RX8, "<init>", "(LLoadsUnseen$Net;LLoadsUnseen$Routes;)V"⟩
abbrev cX8_begin : ByteArray := prog_10_method_2_code
def yX8_begin : MethodName := ⟨RX8, "begin", "(I)V"⟩
abbrev cX8_seek : ByteArray := prog_10_method_3_code
def yX8_seek : MethodName := ⟨RX8, "seek", "(LLoadsUnseen$Goal;)V"⟩
abbrev cX8_fewestMeters : ByteArray := prog_10_method_4_code
def yX8_fewestMeters : MethodName := ⟨RX8, "fewestMeters", "(LLoadsUnseen$Tally;)J"⟩
abbrev cX8_isSought : ByteArray := prog_10_method_5_code
def yX8_isSought : MethodName := ⟨RX8, "isSought", "(I)Z"⟩
abbrev cX8_addSought : ByteArray := prog_10_method_6_code
def yX8_addSought : MethodName := ⟨RX8, "addSought", "(I)V"⟩
abbrev cX8_goesOn : ByteArray := prog_10_method_7_code
def yX8_goesOn : MethodName := ⟨RX8, "goesOn", "(ILLoadsUnseen$Goal;)Z"⟩
abbrev cX8_leastNumber : ByteArray := prog_10_method_8_code
def yX8_leastNumber : MethodName := ⟨RX8, "leastNumber", "(II)I"⟩
abbrev cX8_mostNumber : ByteArray := prog_10_method_9_code
def yX8_mostNumber : MethodName := ⟨RX8, "mostNumber", "(I)I"⟩
abbrev cX8_take : ByteArray := prog_10_method_10_code
def yX8_take : MethodName := ⟨RX8, "take", "(II)V"⟩
abbrev cX8_isNothingLeft : ByteArray := prog_10_method_11_code
def yX8_isNothingLeft : MethodName := ⟨RX8, "isNothingLeft", "()Z"⟩
abbrev cX8_findFree : ByteArray := prog_10_method_12_code
def yX8_findFree : MethodName := ⟨RX8, "findFree", "()I"⟩
abbrev cX8_fix : ByteArray := prog_10_method_13_code
def yX8_fix : MethodName := ⟨RX8, "fix", "(JI[I)V"⟩
abbrev cX8_bitsOf : ByteArray := prog_10_method_14_code
def yX8_bitsOf : MethodName := ⟨RX8, "bitsOf", "(JI)J"⟩
abbrev cX8_nextSet : ByteArray := prog_10_method_15_code
def yX8_nextSet : MethodName := ⟨RX8, "nextSet", "(J)J"⟩
def RX9 : String := "LoadsUnseen$Sheets"
def TX9 : u_T := fun k => match k with
  | 0 => ("LoadsUnseen$Sheets", "bytes", "[[B", true)
  | _ => ("LoadsUnseen$Sheets", "sizes", "[I", true)
def tyX9 : Nat → FieldType := fun k => match k with
  | 0 => .array (.array .byte)
  | _ => .array .int
abbrev wsX90 : List Cond := u_ws RX9 TX9 2
theorem nmX9 : ∀ a, a < 2 → ∀ b, b < 2 → a ≠ b → (TX9 a).2.1 ≠ (TX9 b).2.1 := by decide +kernel
theorem tyX9_ok : ∀ k, k < 2 → parseFieldDescriptor (TX9 k).2.2.1 = some (tyX9 k) := by decide +kernel
abbrev cX9_init : ByteArray := prog_11_method_1_code
def yX9_init : MethodName := ⟨RX9, "<init>", "()V"⟩
abbrev cX9_put : ByteArray := prog_11_method_2_code
def yX9_put : MethodName := ⟨RX9, "put", "(II)V"⟩
abbrev cX9_hasRun : ByteArray := prog_11_method_3_code
def yX9_hasRun : MethodName := ⟨RX9, "hasRun", "(III)Z"⟩
def RX10 : String := "LoadsUnseen$Tally"
def TX10 : u_T := fun k => match k with
  | 0 => ("LoadsUnseen$Tally", "first", "[I", true)
  | 1 => ("LoadsUnseen$Tally", "fits", "I", false)
  | _ => ("LoadsUnseen$Tally", "enough", "I", false)
def tyX10 : Nat → FieldType := fun k => match k with
  | 0 => .array .int
  | 1 => .int
  | _ => .int
abbrev wsX100 : List Cond := u_ws RX10 TX10 3
theorem nmX10 : ∀ a, a < 3 → ∀ b, b < 3 → a ≠ b → (TX10 a).2.1 ≠ (TX10 b).2.1 := by decide +kernel
theorem tyX10_ok : ∀ k, k < 3 → parseFieldDescriptor (TX10 k).2.2.1 = some (tyX10 k) := by decide +kernel
abbrev cX10_init : ByteArray := prog_12_method_1_code
def yX10_init : MethodName := ⟨RX10, "<init>", "()V"⟩
abbrev cX10_begin : ByteArray := prog_12_method_2_code
def yX10_begin : MethodName := ⟨RX10, "begin", "(I)V"⟩
abbrev cX10_hasEnough : ByteArray := prog_12_method_3_code
def yX10_hasEnough : MethodName := ⟨RX10, "hasEnough", "([I)Z"⟩
def RX11 : String := "LoadsUnseen"
def TX11 : u_T := fun k => match k with
  | 0 => ("LoadsUnseen", "net", "LLoadsUnseen$Net;", true)
  | 1 => ("LoadsUnseen", "now", "LLoadsUnseen$Routes;", true)
  | 2 => ("LoadsUnseen", "then", "LLoadsUnseen$Routes;", true)
  | 3 => ("LoadsUnseen", "seeker", "LLoadsUnseen$Seeker;", true)
  | 4 => ("LoadsUnseen", "tally", "LLoadsUnseen$Tally;", true)
  | 5 => ("LoadsUnseen", "range", "LLoadsUnseen$Range;", true)
  | 6 => ("LoadsUnseen", "fewest", "LLoadsUnseen$Fewest;", true)
  | 7 => ("LoadsUnseen", "heaviest", "LLoadsUnseen$Heaviest;", true)
  | 8 => ("LoadsUnseen", "sheets", "LLoadsUnseen$Sheets;", true)
  | 9 => ("LoadsUnseen", "latestFit", "[I", true)
  | 10 => ("LoadsUnseen", "hasFit", "Z", false)
  | 11 => ("LoadsUnseen", "latestTries", "I", false)
  | 12 => ("LoadsUnseen", "latestAsked", "J", false)
  | 13 => ("LoadsUnseen", "latestFinding", "I", false)
  | _ => ("LoadsUnseen", "timesFound", "[I", true)
def tyX11 : Nat → FieldType := fun k => match k with
  | 0 => .object "LoadsUnseen$Net"
  | 1 => .object "LoadsUnseen$Routes"
  | 2 => .object "LoadsUnseen$Routes"
  | 3 => .object "LoadsUnseen$Seeker"
  | 4 => .object "LoadsUnseen$Tally"
  | 5 => .object "LoadsUnseen$Range"
  | 6 => .object "LoadsUnseen$Fewest"
  | 7 => .object "LoadsUnseen$Heaviest"
  | 8 => .object "LoadsUnseen$Sheets"
  | 9 => .array .int
  | 10 => .boolean
  | 11 => .int
  | 12 => .long
  | 13 => .int
  | _ => .array .int
abbrev wsX110 : List Cond := u_ws RX11 TX11 15
theorem nmX11 : ∀ a, a < 15 → ∀ b, b < 15 → a ≠ b → (TX11 a).2.1 ≠ (TX11 b).2.1 := by decide +kernel
theorem tyX11_ok : ∀ k, k < 15 → parseFieldDescriptor (TX11 k).2.2.1 = some (tyX11 k) := by decide +kernel
abbrev cX11_init : ByteArray := prog_1_method_1_code
def yX11_init : MethodName := ⟨RX11, "<init>", "()V"⟩
abbrev cX11_net : ByteArray := prog_1_method_2_code
def yX11_net : MethodName := ⟨RX11, "net", "(I)I"⟩
abbrev cX11_line : ByteArray := prog_1_method_3_code
def yX11_line : MethodName := ⟨RX11, "line", "(III)I"⟩
abbrev cX11_told : ByteArray := prog_1_method_4_code
def yX11_told : MethodName := ⟨RX11, "told", "(II)I"⟩
abbrev cX11_mark : ByteArray := prog_1_method_5_code
def yX11_mark : MethodName := ⟨RX11, "mark", "(II)I"⟩
abbrev cX11_down : ByteArray := prog_1_method_6_code
def yX11_down : MethodName := ⟨RX11, "down", "(IZ)I"⟩
abbrev cX11_rate : ByteArray := prog_1_method_7_code
def yX11_rate : MethodName := ⟨RX11, "rate", "(II)I"⟩
abbrev cX11_reading : ByteArray := prog_1_method_8_code
def yX11_reading : MethodName := ⟨RX11, "reading", "(III)I"⟩
abbrev cX11_load : ByteArray := prog_1_method_9_code
def yX11_load : MethodName := ⟨RX11, "load", "(III)I"⟩
abbrev cX11_mean : ByteArray := prog_1_method_10_code
def yX11_mean : MethodName := ⟨RX11, "mean", "(I)I"⟩
abbrev cX11_route : ByteArray := prog_1_method_11_code
def yX11_route : MethodName := ⟨RX11, "route", "(III)I"⟩
abbrev cX11_carried : ByteArray := prog_1_method_12_code
def yX11_carried : MethodName := ⟨RX11, "carried", "(II)I"⟩
abbrev cX11_meter : ByteArray := prog_1_method_13_code
def yX11_meter : MethodName := ⟨RX11, "meter", "(III)I"⟩
abbrev cX11_fits : ByteArray := prog_1_method_14_code
def yX11_fits : MethodName := ⟨RX11, "fits", "(I)I"⟩
abbrev cX11_fit : ByteArray := prog_1_method_15_code
def yX11_fit : MethodName := ⟨RX11, "fit", "(II)I"⟩
abbrev cX11_many : ByteArray := prog_1_method_16_code
def yX11_many : MethodName := ⟨RX11, "many", "(I)I"⟩
abbrev cX11_bound : ByteArray := prog_1_method_17_code
def yX11_bound : MethodName := ⟨RX11, "bound", "(IIZI)I"⟩
abbrev cX11_sure : ByteArray := prog_1_method_18_code
def yX11_sure : MethodName := ⟨RX11, "sure", "(I)I"⟩
abbrev cX11_tries : ByteArray := prog_1_method_19_code
def yX11_tries : MethodName := ⟨RX11, "tries", "()I"⟩
abbrev cX11_guess : ByteArray := prog_1_method_20_code
def yX11_guess : MethodName := ⟨RX11, "guess", "(II)I"⟩
abbrev cX11_base : ByteArray := prog_1_method_21_code
def yX11_base : MethodName := ⟨RX11, "base", "(III)I"⟩
abbrev cX11_changed : ByteArray := prog_1_method_22_code
def yX11_changed : MethodName := ⟨RX11, "changed", "(I)I"⟩
abbrev cX11_worst : ByteArray := prog_1_method_23_code
def yX11_worst : MethodName := ⟨RX11, "worst", "(III)I"⟩
abbrev cX11_meters : ByteArray := prog_1_method_24_code
def yX11_meters : MethodName := ⟨RX11, "meters", "(I)I"⟩
abbrev cX11_sheet : ByteArray := prog_1_method_25_code
def yX11_sheet : MethodName := ⟨RX11, "sheet", "(II)I"⟩
abbrev cX11_lay : ByteArray := prog_1_method_26_code
def yX11_lay : MethodName := ⟨RX11, "lay", "(III)I"⟩
abbrev cX11_play : ByteArray := prog_1_method_27_code
def yX11_play : MethodName := ⟨RX11, "play", "(II)I"⟩
abbrev cX11_tear : ByteArray := prog_1_method_28_code
def yX11_tear : MethodName := ⟨RX11, "tear", "(I)I"⟩
abbrev cX11_copy : ByteArray := prog_1_method_29_code
def yX11_copy : MethodName := ⟨RX11, "copy", "(IIIII)I"⟩
abbrev cX11_asked : ByteArray := prog_1_method_30_code
def yX11_asked : MethodName := ⟨RX11, "asked", "()J"⟩
abbrev cX11_count : ByteArray := prog_1_method_31_code
def yX11_count : MethodName := ⟨RX11, "count", "(I)I"⟩
abbrev cX11_finding : ByteArray := prog_1_method_32_code
def yX11_finding : MethodName := ⟨RX11, "finding", "()I"⟩
abbrev cX11_findings : ByteArray := prog_1_method_33_code
def yX11_findings : MethodName := ⟨RX11, "findings", "(I)I"⟩
abbrev cX11_digest : ByteArray := prog_1_method_34_code
def yX11_digest : MethodName := ⟨RX11, "digest", "()J"⟩
abbrev cX11_isHour : ByteArray := prog_1_method_35_code
def yX11_isHour : MethodName := ⟨RX11, "isHour", "(I)Z"⟩
abbrev cX11_isLoadOrNone : ByteArray := prog_1_method_36_code
def yX11_isLoadOrNone : MethodName := ⟨RX11, "isLoadOrNone", "(I)Z"⟩
abbrev cX11_isTries : ByteArray := prog_1_method_37_code
def yX11_isTries : MethodName := ⟨RX11, "isTries", "(I)Z"⟩
abbrev cX11_isSheet : ByteArray := prog_1_method_38_code
def yX11_isSheet : MethodName := ⟨RX11, "isSheet", "(I)Z"⟩
abbrev cX11_found : ByteArray := prog_1_method_39_code
def yX11_found : MethodName := ⟨RX11, "found", "(I)I"⟩
abbrev cX11_seekAll : ByteArray := prog_1_method_40_code
def yX11_seekAll : MethodName := ⟨RX11, "seekAll", "(LLoadsUnseen$Goal;I)Z"⟩
abbrev cX11_seekBest : ByteArray := prog_1_method_41_code
def yX11_seekBest : MethodName := ⟨RX11, "seekBest", "(LLoadsUnseen$Best;I)Z"⟩
abbrev cX11_keepFit : ByteArray := prog_1_method_42_code
def yX11_keepFit : MethodName := ⟨RX11, "keepFit", "([I)V"⟩
abbrev cX11_surePairs : ByteArray := prog_1_method_43_code
def yX11_surePairs : MethodName := ⟨RX11, "surePairs", "()I"⟩
abbrev cX11_digestLine : ByteArray := prog_1_method_44_code
def yX11_digestLine : MethodName := ⟨RX11, "digestLine", "(JI)J"⟩
abbrev cX11_digestSheet : ByteArray := prog_1_method_45_code
def yX11_digestSheet : MethodName := ⟨RX11, "digestSheet", "(JI)J"⟩
def RX12 : String := "LoadsUnseenModel"
def TX12 : u_T := fun k => match k with
  | 0 => ("LoadsUnseenModel", "finding", "I", false)
  | 1 => ("LoadsUnseenModel", "findings", "[I", true)
  | 2 => ("LoadsUnseenModel", "asked", "J", false)
  | 3 => ("LoadsUnseenModel", "knots", "I", false)
  | 4 => ("LoadsUnseenModel", "lines", "I", false)
  | 5 => ("LoadsUnseenModel", "kinds", "[I", true)
  | 6 => ("LoadsUnseenModel", "froms", "[I", true)
  | 7 => ("LoadsUnseenModel", "tos", "[I", true)
  | 8 => ("LoadsUnseenModel", "isDown", "[Z", true)
  | 9 => ("LoadsUnseenModel", "rates", "[I", true)
  | 10 => ("LoadsUnseenModel", "carried", "[I", true)
  | 11 => ("LoadsUnseenModel", "readings", "[I", true)
  | 12 => ("LoadsUnseenModel", "meters", "[I", true)
  | 13 => ("LoadsUnseenModel", "bases", "[I", true)
  | 14 => ("LoadsUnseenModel", "fit", "[I", true)
  | 15 => ("LoadsUnseenModel", "isFit", "Z", false)
  | 16 => ("LoadsUnseenModel", "routes", "[I", true)
  | 17 => ("LoadsUnseenModel", "ways", "[I", true)
  | 18 => ("LoadsUnseenModel", "linesOn", "I", false)
  | 19 => ("LoadsUnseenModel", "lineAt", "I", false)
  | 20 => ("LoadsUnseenModel", "many", "I", false)
  | 21 => ("LoadsUnseenModel", "sought", "[I", true)
  | 22 => ("LoadsUnseenModel", "gone", "[I", true)
  | 23 => ("LoadsUnseenModel", "goes", "[I", true)
  | 24 => ("LoadsUnseenModel", "lasts", "[I", true)
  | 25 => ("LoadsUnseenModel", "fixed", "[I", true)
  | 26 => ("LoadsUnseenModel", "left", "[I", true)
  | 27 => ("LoadsUnseenModel", "now", "[I", true)
  | 28 => ("LoadsUnseenModel", "tops", "[I", true)
  | 29 => ("LoadsUnseenModel", "tries", "I", false)
  | 30 => ("LoadsUnseenModel", "limit", "I", false)
  | 31 => ("LoadsUnseenModel", "level", "I", false)
  | 32 => ("LoadsUnseenModel", "isTaken", "[Z", true)
  | 33 => ("LoadsUnseenModel", "leasts", "[I", true)
  | 34 => ("LoadsUnseenModel", "mosts", "[I", true)
  | 35 => ("LoadsUnseenModel", "then", "[I", true)
  | 36 => ("LoadsUnseenModel", "firstFit", "[I", true)
  | 37 => ("LoadsUnseenModel", "frees", "[I", true)
  | 38 => ("LoadsUnseenModel", "sizes", "[I", true)
  | 39 => ("LoadsUnseenModel", "sheets", "[I", true)
  | _ => ("LoadsUnseenModel", "moving", "[I", true)
def tyX12 : Nat → FieldType := fun k => match k with
  | 0 => .int
  | 1 => .array .int
  | 2 => .long
  | 3 => .int
  | 4 => .int
  | 5 => .array .int
  | 6 => .array .int
  | 7 => .array .int
  | 8 => .array .boolean
  | 9 => .array .int
  | 10 => .array .int
  | 11 => .array .int
  | 12 => .array .int
  | 13 => .array .int
  | 14 => .array .int
  | 15 => .boolean
  | 16 => .array .int
  | 17 => .array .int
  | 18 => .int
  | 19 => .int
  | 20 => .int
  | 21 => .array .int
  | 22 => .array .int
  | 23 => .array .int
  | 24 => .array .int
  | 25 => .array .int
  | 26 => .array .int
  | 27 => .array .int
  | 28 => .array .int
  | 29 => .int
  | 30 => .int
  | 31 => .int
  | 32 => .array .boolean
  | 33 => .array .int
  | 34 => .array .int
  | 35 => .array .int
  | 36 => .array .int
  | 37 => .array .int
  | 38 => .array .int
  | 39 => .array .int
  | _ => .array .int
abbrev wsX120 : List Cond := u_ws RX12 TX12 41
theorem nmX12 : ∀ a, a < 41 → ∀ b, b < 41 → a ≠ b → (TX12 a).2.1 ≠ (TX12 b).2.1 := by decide +kernel
theorem tyX12_ok : ∀ k, k < 41 → parseFieldDescriptor (TX12 k).2.2.1 = some (tyX12 k) := by decide +kernel
abbrev cX12_init : ByteArray := prog_14_method_1_code
def yX12_init : MethodName := ⟨RX12, "<init>", "()V"⟩
abbrev cX12_in : ByteArray := prog_14_method_3_code
def yX12_in : MethodName := ⟨RX12, "in", "(III)Z"⟩
abbrev cX12_meets : ByteArray := prog_14_method_4_code
def yX12_meets : MethodName := ⟨RX12, "meets", "(I)I"⟩
abbrev cX12_tell : ByteArray := prog_14_method_5_code
def yX12_tell : MethodName := ⟨RX12, "tell", "(JI)I"⟩
abbrev cX12_forget : ByteArray := prog_14_method_6_code
def yX12_forget : MethodName := ⟨RX12, "forget", "()V"⟩
abbrev cX12_net : ByteArray := prog_14_method_7_code
def yX12_net : MethodName := ⟨RX12, "net", "(I)I"⟩
abbrev cX12_isKnot : ByteArray := prog_14_method_8_code
def yX12_isKnot : MethodName := ⟨RX12, "isKnot", "(I)Z"⟩
abbrev cX12_isLine : ByteArray := prog_14_method_9_code
def yX12_isLine : MethodName := ⟨RX12, "isLine", "(I)Z"⟩
abbrev cX12_line : ByteArray := prog_14_method_10_code
def yX12_line : MethodName := ⟨RX12, "line", "(III)I"⟩
abbrev cX12_tells : ByteArray := prog_14_method_11_code
def yX12_tells : MethodName := ⟨RX12, "tells", "(II)I"⟩
abbrev cX12_told : ByteArray := prog_14_method_12_code
def yX12_told : MethodName := ⟨RX12, "told", "(II)I"⟩
abbrev cX12_counts : ByteArray := prog_14_method_13_code
def yX12_counts : MethodName := ⟨RX12, "counts", "(I)Z"⟩
abbrev cX12_counterOf : ByteArray := prog_14_method_14_code
def yX12_counterOf : MethodName := ⟨RX12, "counterOf", "(I)I"⟩
abbrev cX12_had : ByteArray := prog_14_method_15_code
def yX12_had : MethodName := ⟨RX12, "had", "(I)I"⟩
abbrev cX12_mark : ByteArray := prog_14_method_16_code
def yX12_mark : MethodName := ⟨RX12, "mark", "(II)I"⟩
abbrev cX12_down : ByteArray := prog_14_method_17_code
def yX12_down : MethodName := ⟨RX12, "down", "(IZ)I"⟩
abbrev cX12_rate : ByteArray := prog_14_method_18_code
def yX12_rate : MethodName := ⟨RX12, "rate", "(II)I"⟩
abbrev cX12_reading : ByteArray := prog_14_method_19_code
def yX12_reading : MethodName := ⟨RX12, "reading", "(III)I"⟩
abbrev cX12_loadOf : ByteArray := prog_14_method_20_code
def yX12_loadOf : MethodName := ⟨RX12, "loadOf", "(III)I"⟩
abbrev cX12_load : ByteArray := prog_14_method_21_code
def yX12_load : MethodName := ⟨RX12, "load", "(III)I"⟩
abbrev cX12_mean : ByteArray := prog_14_method_22_code
def yX12_mean : MethodName := ⟨RX12, "mean", "(I)I"⟩
abbrev cX12_setRoutes : ByteArray := prog_14_method_23_code
def yX12_setRoutes : MethodName := ⟨RX12, "setRoutes", "(I)V"⟩
abbrev cX12_routeOf : ByteArray := prog_14_method_24_code
def yX12_routeOf : MethodName := ⟨RX12, "routeOf", "(IIII)I"⟩
abbrev cX12_isPair : ByteArray := prog_14_method_25_code
def yX12_isPair : MethodName := ⟨RX12, "isPair", "(II)Z"⟩
abbrev cX12_route : ByteArray := prog_14_method_26_code
def yX12_route : MethodName := ⟨RX12, "route", "(III)I"⟩
abbrev cX12_carried : ByteArray := prog_14_method_27_code
def yX12_carried : MethodName := ⟨RX12, "carried", "(II)I"⟩
abbrev cX12_meter : ByteArray := prog_14_method_28_code
def yX12_meter : MethodName := ⟨RX12, "meter", "(III)I"⟩
abbrev cX12_base : ByteArray := prog_14_method_29_code
def yX12_base : MethodName := ⟨RX12, "base", "(III)I"⟩
abbrev cX12_guess : ByteArray := prog_14_method_30_code
def yX12_guess : MethodName := ⟨RX12, "guess", "(II)I"⟩
abbrev cX12_setSeeking : ByteArray := prog_14_method_31_code
def yX12_setSeeking : MethodName := ⟨RX12, "setSeeking", "()V"⟩
abbrev cX12_beginSeeking : ByteArray := prog_14_method_32_code
def yX12_beginSeeking : MethodName := ⟨RX12, "beginSeeking", "()V"⟩
abbrev cX12_begin : ByteArray := prog_14_method_33_code
def yX12_begin : MethodName := ⟨RX12, "begin", "()V"⟩
abbrev cX12_take : ByteArray := prog_14_method_34_code
def yX12_take : MethodName := ⟨RX12, "take", "(I)V"⟩
abbrev cX12_next : ByteArray := prog_14_method_35_code
def yX12_next : MethodName := ⟨RX12, "next", "(Z)I"⟩
abbrev cX12_isNothingLeft : ByteArray := prog_14_method_36_code
def yX12_isNothingLeft : MethodName := ⟨RX12, "isNothingLeft", "()Z"⟩
abbrev cX12_open : ByteArray := prog_14_method_37_code
def yX12_open : MethodName := ⟨RX12, "open", "(I)V"⟩
abbrev cX12_areTries : ByteArray := prog_14_method_38_code
def yX12_areTries : MethodName := ⟨RX12, "areTries", "(I)Z"⟩
abbrev cX12_keep : ByteArray := prog_14_method_39_code
def yX12_keep : MethodName := ⟨RX12, "keep", "()V"⟩
abbrev cX12_fits : ByteArray := prog_14_method_40_code
def yX12_fits : MethodName := ⟨RX12, "fits", "(I)I"⟩
abbrev cX12_fit : ByteArray := prog_14_method_41_code
def yX12_fit : MethodName := ⟨RX12, "fit", "(II)I"⟩
abbrev cX12_many : ByteArray := prog_14_method_42_code
def yX12_many : MethodName := ⟨RX12, "many", "(I)I"⟩
abbrev cX12_setBounds : ByteArray := prog_14_method_43_code
def yX12_setBounds : MethodName := ⟨RX12, "setBounds", "(I)I"⟩
abbrev cX12_bound : ByteArray := prog_14_method_44_code
def yX12_bound : MethodName := ⟨RX12, "bound", "(IIZI)I"⟩
abbrev cX12_sure : ByteArray := prog_14_method_45_code
def yX12_sure : MethodName := ⟨RX12, "sure", "(I)I"⟩
abbrev cX12_tries : ByteArray := prog_14_method_46_code
def yX12_tries : MethodName := ⟨RX12, "tries", "()I"⟩
abbrev cX12_changes : ByteArray := prog_14_method_47_code
def yX12_changes : MethodName := ⟨RX12, "changes", "()I"⟩
abbrev cX12_changed : ByteArray := prog_14_method_48_code
def yX12_changed : MethodName := ⟨RX12, "changed", "(I)I"⟩
abbrev cX12_worst : ByteArray := prog_14_method_49_code
def yX12_worst : MethodName := ⟨RX12, "worst", "(III)I"⟩
abbrev cX12_meters : ByteArray := prog_14_method_50_code
def yX12_meters : MethodName := ⟨RX12, "meters", "(I)I"⟩
abbrev cX12_later : ByteArray := prog_14_method_51_code
def yX12_later : MethodName := ⟨RX12, "later", "(J)J"⟩
abbrev cX12_isAlone : ByteArray := prog_14_method_52_code
def yX12_isAlone : MethodName := ⟨RX12, "isAlone", "(JI)I"⟩
abbrev cX12_isSheet : ByteArray := prog_14_method_53_code
def yX12_isSheet : MethodName := ⟨RX12, "isSheet", "(I)Z"⟩
abbrev cX12_looked : ByteArray := prog_14_method_54_code
def yX12_looked : MethodName := ⟨RX12, "looked", "(I)I"⟩
abbrev cX12_sheet : ByteArray := prog_14_method_55_code
def yX12_sheet : MethodName := ⟨RX12, "sheet", "(II)I"⟩
abbrev cX12_lay : ByteArray := prog_14_method_56_code
def yX12_lay : MethodName := ⟨RX12, "lay", "(III)I"⟩
abbrev cX12_play : ByteArray := prog_14_method_57_code
def yX12_play : MethodName := ⟨RX12, "play", "(II)I"⟩
abbrev cX12_tear : ByteArray := prog_14_method_58_code
def yX12_tear : MethodName := ⟨RX12, "tear", "(I)I"⟩
abbrev cX12_copy : ByteArray := prog_14_method_59_code
def yX12_copy : MethodName := ⟨RX12, "copy", "(IIIII)I"⟩
abbrev cX12_asked : ByteArray := prog_14_method_60_code
def yX12_asked : MethodName := ⟨RX12, "asked", "()J"⟩
abbrev cX12_tellsCount : ByteArray := prog_14_method_61_code
def yX12_tellsCount : MethodName := ⟨RX12, "tellsCount", "(I)I"⟩
abbrev cX12_count : ByteArray := prog_14_method_62_code
def yX12_count : MethodName := ⟨RX12, "count", "(I)I"⟩
abbrev cX12_finding : ByteArray := prog_14_method_63_code
def yX12_finding : MethodName := ⟨RX12, "finding", "()I"⟩
abbrev cX12_findings : ByteArray := prog_14_method_64_code
def yX12_findings : MethodName := ⟨RX12, "findings", "(I)I"⟩
abbrev cX12_digest : ByteArray := prog_14_method_65_code
def yX12_digest : MethodName := ⟨RX12, "digest", "()J"⟩
def RJ6 : String := "java/lang/Integer"
def TJ6 : u_T := fun k => match k with
  | _ => ("", "", "", false)
def tyJ6 : Nat → FieldType := fun k => match k with
  | _ => .int
abbrev wsJ60 : List Cond := u_ws RJ6 TJ6 0
theorem nmJ6 : ∀ a, a < 0 → ∀ b, b < 0 → a ≠ b → (TJ6 a).2.1 ≠ (TJ6 b).2.1 := by decide +kernel
theorem tyJ6_ok : ∀ k, k < 0 → parseFieldDescriptor (TJ6 k).2.2.1 = some (tyJ6 k) := by decide +kernel
abbrev cJ6_numberOfTrailingZeros_0f7a4 : ByteArray := prog_15_method_48_code
def yJ6_numberOfTrailingZeros_0f7a4 : MethodName := ⟨RJ6, "numberOfTrailingZeros", "(I)I"⟩
def RJ13 : String := "java/lang/Long"
def TJ13 : u_T := fun k => match k with
  | _ => ("", "", "", false)
def tyJ13 : Nat → FieldType := fun k => match k with
  | _ => .int
abbrev wsJ130 : List Cond := u_ws RJ13 TJ13 0
theorem nmJ13 : ∀ a, a < 0 → ∀ b, b < 0 → a ≠ b → (TJ13 a).2.1 ≠ (TJ13 b).2.1 := by decide +kernel
theorem tyJ13_ok : ∀ k, k < 0 → parseFieldDescriptor (TJ13 k).2.2.1 = some (tyJ13 k) := by decide +kernel
abbrev cJ13_numberOfTrailingZeros_95d88 : ByteArray := prog_16_method_49_code
def yJ13_numberOfTrailingZeros_95d88 : MethodName := ⟨RJ13, "numberOfTrailingZeros", "(J)I"⟩
abbrev cJ13_bitCount_95d88 : ByteArray := prog_16_method_50_code
def yJ13_bitCount_95d88 : MethodName := ⟨RJ13, "bitCount", "(J)I"⟩
def RJ9 : String := "java/lang/Math"
def TJ9 : u_T := fun k => match k with
  | _ => ("", "", "", false)
def tyJ9 : Nat → FieldType := fun k => match k with
  | _ => .int
abbrev wsJ90 : List Cond := u_ws RJ9 TJ9 0
theorem nmJ9 : ∀ a, a < 0 → ∀ b, b < 0 → a ≠ b → (TJ9 a).2.1 ≠ (TJ9 b).2.1 := by decide +kernel
theorem tyJ9_ok : ∀ k, k < 0 → parseFieldDescriptor (TJ9 k).2.2.1 = some (tyJ9 k) := by decide +kernel
abbrev cJ9_max_7cf53 : ByteArray := prog_17_method_65_code
def yJ9_max_7cf53 : MethodName := ⟨RJ9, "max", "(II)I"⟩
abbrev cJ9_min_7cf53 : ByteArray := prog_17_method_69_code
def yJ9_min_7cf53 : MethodName := ⟨RJ9, "min", "(II)I"⟩
def RJ10 : String := "java/lang/System"
def TJ10 : u_T := fun k => match k with
  | _ => ("", "", "", false)
def tyJ10 : Nat → FieldType := fun k => match k with
  | _ => .int
abbrev wsJ100 : List Cond := u_ws RJ10 TJ10 0
theorem nmJ10 : ∀ a, a < 0 → ∀ b, b < 0 → a ≠ b → (TJ10 a).2.1 ≠ (TJ10 b).2.1 := by decide +kernel
theorem tyJ10_ok : ∀ k, k < 0 → parseFieldDescriptor (TJ10 k).2.2.1 = some (tyJ10 k) := by decide +kernel
def RJ7 : String := "java/util/Arrays"
def TJ7 : u_T := fun k => match k with
  | _ => ("", "", "", false)
def tyJ7 : Nat → FieldType := fun k => match k with
  | _ => .int
abbrev wsJ70 : List Cond := u_ws RJ7 TJ7 0
theorem nmJ7 : ∀ a, a < 0 → ∀ b, b < 0 → a ≠ b → (TJ7 a).2.1 ≠ (TJ7 b).2.1 := by decide +kernel
theorem tyJ7_ok : ∀ k, k < 0 → parseFieldDescriptor (TJ7 k).2.2.1 = some (tyJ7 k) := by decide +kernel
abbrev cJ7_fill_53178 : ByteArray := prog_19_method_103_code
def yJ7_fill_53178 : MethodName := ⟨RJ7, "fill", "([II)V"⟩
abbrev cJ7_fill_031fb : ByteArray := prog_19_method_109_code
def yJ7_fill_031fb : MethodName := ⟨RJ7, "fill", "([BB)V"⟩
def RL : String := "LoadsUnseenLaw"
abbrev cL_law : ByteArray := code
def yL_law : MethodName := ⟨RL, "law", "([I)Z"⟩
abbrev vwCl : List vw_C := [(RX1, TX1, 4), (RX3, TX3, 4), (RX4, TX4, 7), (RX5, TX5, 5), (RX6, TX6, 3), (RX7, TX7, 4), (RX8, TX8, 12), (RX9, TX9, 2), (RX10, TX10, 3), (RX11, TX11, 15), (RX12, TX12, 41)]
end
section
/-! ===== the abstract machine: places 0 .. 93, each with a fixed shape; what changes is I (ints, by place and slot) and J (longs) ===== -/
abbrev am_F : Type := Option (Option Nat)
abbrev am_Sh : Type := (Nat × List am_F) ⊕ (Nat × Nat × Option (Nat → Nat))
abbrev am_I : Type := Nat → Nat → Int32
abbrev am_J : Type := Nat → Nat → Int64
def am_N : Nat := 94
def am_tab : List am_Sh := [
  .inl (9, [some (some 1), some (some 2), some (some 3), some (some 4), some (some 5), some (some 6), some (some 7), some (some 8), some (some 9), some (some 10), none, none, some none, none, some (some 11)]),
  .inl (3, [none, none, some (some 12), some (some 13), some (some 14)]),
  .inl (5, [none, some (some 44), some (some 45), some (some 46)]),
  .inl (5, [none, some (some 47), some (some 48), some (some 49)]),
  .inl (6, [some (some 1), some (some 2), some (some 50), some (some 51), some (some 52), some (some 53), some (some 54), some (some 55), none, none, none, none]),
  .inl (8, [some (some 56), none, none]),
  .inl (4, [some (some 57), some (some 58), none]),
  .inl (0, [some (some 59), none, none, some (some 14)]),
  .inl (1, [some (some 60), none, none, some (some 61)]),
  .inl (7, [some (some 15), some (some 62)]),
  .inr (0, 36, none),
  .inr (0, 6, none),
  .inr (4, 12, some (fun i => 20 + i)),
  .inr (0, 36, none),
  .inr (0, 36, none),
  .inr (3, 4, some (fun i => 16 + i)),
  .inr (2, 24, none),
  .inr (2, 24, none),
  .inr (2, 24, none),
  .inr (2, 24, none),
  .inl (2, [none, none, none, none, none, none, some (some 32)]),
  .inl (2, [none, none, none, none, none, none, some (some 33)]),
  .inl (2, [none, none, none, none, none, none, some (some 34)]),
  .inl (2, [none, none, none, none, none, none, some (some 35)]),
  .inl (2, [none, none, none, none, none, none, some (some 36)]),
  .inl (2, [none, none, none, none, none, none, some (some 37)]),
  .inl (2, [none, none, none, none, none, none, some (some 38)]),
  .inl (2, [none, none, none, none, none, none, some (some 39)]),
  .inl (2, [none, none, none, none, none, none, some (some 40)]),
  .inl (2, [none, none, none, none, none, none, some (some 41)]),
  .inl (2, [none, none, none, none, none, none, some (some 42)]),
  .inl (2, [none, none, none, none, none, none, some (some 43)]),
  .inr (0, 24, none),
  .inr (0, 24, none),
  .inr (0, 24, none),
  .inr (0, 24, none),
  .inr (0, 24, none),
  .inr (0, 24, none),
  .inr (0, 24, none),
  .inr (0, 24, none),
  .inr (0, 24, none),
  .inr (0, 24, none),
  .inr (0, 24, none),
  .inr (0, 24, none),
  .inr (0, 36, none),
  .inr (0, 180, none),
  .inr (0, 6, none),
  .inr (0, 36, none),
  .inr (0, 180, none),
  .inr (0, 6, none),
  .inr (0, 36, none),
  .inr (0, 36, none),
  .inr (0, 12, none),
  .inr (0, 12, none),
  .inr (0, 36, none),
  .inr (0, 36, none),
  .inr (0, 36, none),
  .inr (0, 36, none),
  .inr (0, 36, none),
  .inr (0, 36, none),
  .inr (0, 36, none),
  .inr (1, 36, none),
  .inr (0, 4, none),
  .inl (10, [none, some (some 64), some none, none, none, some (some 65), some (some 66), some (some 67), some (some 68), some (some 69), some (some 70), some (some 71), some (some 72), some (some 73), some (some 74), none, some (some 75), some (some 76), none, none, none, some (some 77), some (some 78), some (some 79), some (some 80), some (some 81), some (some 82), some (some 83), some (some 84), none, none, none, some (some 85), some (some 86), some (some 87), some (some 88), some (some 89), some (some 90), some (some 91), some (some 92), some (some 93)]),
  .inr (0, 6, none),
  .inr (0, 12, none),
  .inr (0, 12, none),
  .inr (0, 12, none),
  .inr (1, 12, none),
  .inr (0, 12, none),
  .inr (0, 12, none),
  .inr (0, 288, none),
  .inr (0, 36, none),
  .inr (0, 36, none),
  .inr (0, 36, none),
  .inr (0, 36, none),
  .inr (0, 36, none),
  .inr (0, 36, none),
  .inr (0, 36, none),
  .inr (0, 36, none),
  .inr (0, 36, none),
  .inr (0, 36, none),
  .inr (0, 12, none),
  .inr (0, 36, none),
  .inr (0, 36, none),
  .inr (1, 36, none),
  .inr (0, 36, none),
  .inr (0, 36, none),
  .inr (0, 36, none),
  .inr (0, 36, none),
  .inr (0, 36, none),
  .inr (0, 4, none),
  .inr (0, 96, none),
  .inr (0, 24, none)]
def am_sh (k : Nat) : am_Sh := am_tab.getD k (.inr (0, 0, none))
def am_v (ad : Nat → Nat) (v : Value) : Value := match v with
  | .ref k => .ref (ad k)
  | v => v
def am_fv (ad : Nat → Nat) (I : am_I) (J : am_J) (k : Nat) (q : am_F) (j : Nat) : Value := match q with
  | none => .int (I k j)
  | some none => .long (J k j)
  | some (some r) => .ref (ad r)
def am_fs (ad : Nat → Nat) (I : am_I) (J : am_J) (k : Nat) : Nat → List am_F → List Value
  | _, [] => []
  | j, q :: qs => am_fv ad I J k q j :: am_fs ad I J k (j + 1) qs
def am_E (cI : Nat → ClassId) (ad : Nat → Nat) (I : am_I) (J : am_J) (k : Nat) (s : am_Sh) : va_E := match s with
  | .inl o => .inr (o.1, am_fs ad I J k 0 o.2)
  | .inr (t, n, none) => .inl (cI t, n, .inl (I k))
  | .inr (t, n, some f) => .inl (cI t, n, .inr (.inr (.inr (.inr (fun i => some (ad (f i)))))))
def am_W (cI : Nat → ClassId) (ad : Nat → Nat) (I : am_I) (J : am_J) : va_W := (List.range am_N).map fun k => (ad k, am_E cI ad I J k (am_sh k))
def am_up (I : am_I) (k j : Nat) (x : Int32) : am_I := fun a b => if a = k then (if b = j then x else I a b) else I a b
def am_upJ (J : am_J) (k j : Nat) (x : Int64) : am_J := fun a b => if a = k then (if b = j then x else J a b) else J a b
theorem am_up_ne {I : am_I} {k j a : Nat} {x : Int32} (h : a ≠ k) : am_up I k j x a = I a := by
  funext b; simp [am_up, h]
theorem am_up_row {I : am_I} {k j : Nat} {x : Int32} : am_up I k j x k = upd (I k) j x := by
  funext b; simp [am_up, upd]
theorem am_up_same {I : am_I} {k j : Nat} {x : Int32} : am_up I k j x k j = x := by simp [am_up]
theorem am_up_slot {I : am_I} {k j b : Nat} {x : Int32} (h : b ≠ j) : am_up I k j x k b = I k b := by simp [am_up, h]
theorem am_upJ_ne {J : am_J} {k j a : Nat} {x : Int64} (h : a ≠ k) : am_upJ J k j x a = J a := by
  funext b; simp [am_upJ, h]
theorem am_fs_get (ad : Nat → Nat) (I : am_I) (J : am_J) (k : Nat) : ∀ (fs : List am_F) (j0 j : Nat), (am_fs ad I J k j0 fs)[j]? = fs[j]?.map (fun q => am_fv ad I J k q (j0 + j))
  | [], j0, j => by simp [am_fs]
  | q :: qs, j0, 0 => by simp [am_fs]
  | q :: qs, j0, j + 1 => by
    have h := am_fs_get ad I J k qs (j0 + 1) j
    simp only [am_fs, List.getElem?_cons_succ, h]
    congr 1
    funext q
    congr 1
    omega
theorem am_fs_len (ad : Nat → Nat) (I : am_I) (J : am_J) (k : Nat) : ∀ (fs : List am_F) (j0 : Nat), (am_fs ad I J k j0 fs).length = fs.length
  | [], _ => rfl
  | _ :: qs, j0 => by simp [am_fs, am_fs_len ad I J k qs (j0 + 1)]
theorem am_fs_congr {ad : Nat → Nat} {I I' : am_I} {J J' : am_J} {k : Nat} (hI : I' k = I k) (hJ : J' k = J k) (fs : List am_F) (j0 : Nat) : am_fs ad I' J' k j0 fs = am_fs ad I J k j0 fs := by
  apply List.ext_getElem?
  intro j
  rw [am_fs_get, am_fs_get]
  congr 1
  funext q
  match q with
  | none => simp [am_fv, hI]
  | some none => simp [am_fv, hJ]
  | some (some r) => rfl
theorem am_fs_set {ad : Nat → Nat} {I : am_I} {J : am_J} {k j : Nat} {x : Int32} {fs : List am_F} (h : fs[j]? = some none) : (am_fs ad I J k 0 fs).set j (.int x) = am_fs ad (am_up I k j x) J k 0 fs := by
  have hl : j < fs.length := (List.getElem?_eq_some_iff.mp h).1
  apply List.ext_getElem?
  intro b
  rw [am_fs_get, List.getElem?_set, am_fs_get]
  by_cases hb : j = b
  · subst hb
    rw [if_pos rfl, if_pos (by rw [am_fs_len]; exact hl), h]
    simp [am_fv, am_up]
  · rw [if_neg hb]
    congr 1
    funext q
    match q with
    | none => simp [am_fv, am_up, show ¬ b = j from fun e => hb e.symm]
    | some none => rfl
    | some (some r) => rfl
theorem am_fs_setJ {ad : Nat → Nat} {I : am_I} {J : am_J} {k j : Nat} {x : Int64} {fs : List am_F} (h : fs[j]? = some (some none)) : (am_fs ad I J k 0 fs).set j (.long x) = am_fs ad I (am_upJ J k j x) k 0 fs := by
  have hl : j < fs.length := (List.getElem?_eq_some_iff.mp h).1
  apply List.ext_getElem?
  intro b
  rw [am_fs_get, List.getElem?_set, am_fs_get]
  by_cases hb : j = b
  · subst hb
    rw [if_pos rfl, if_pos (by rw [am_fs_len]; exact hl), h]
    simp [am_fv, am_upJ]
  · rw [if_neg hb]
    congr 1
    funext q
    match q with
    | none => rfl
    | some none => simp [am_fv, am_upJ, show ¬ b = j from fun e => hb e.symm]
    | some (some r) => rfl
theorem am_E_congr {cI : Nat → ClassId} {ad : Nat → Nat} {I I' : am_I} {J J' : am_J} {k : Nat} (hI : I' k = I k) (hJ : J' k = J k) (s : am_Sh) : am_E cI ad I' J' k s = am_E cI ad I J k s := by
  match s with
  | .inl o => simp only [am_E, am_fs_congr hI hJ]
  | .inr (t, n, none) => simp only [am_E, hI]
  | .inr (t, n, some f) => rfl
theorem am_W_get {cI : Nat → ClassId} {ad : Nat → Nat} {I : am_I} {J : am_J} {k : Nat} (hk : k < am_N) : (am_W cI ad I J)[k]? = some (ad k, am_E cI ad I J k (am_sh k)) := by
  simp [am_W, hk]
theorem am_W_lt {cI : Nat → ClassId} {ad : Nat → Nat} {I : am_I} {J : am_J} {k : Nat} {q : Nat × va_E} (h : (am_W cI ad I J)[k]? = some q) : k < am_N ∧ q = (ad k, am_E cI ad I J k (am_sh k)) := by
  have hl : k < (am_W cI ad I J).length := (List.getElem?_eq_some_iff.mp h).1
  have hk : k < am_N := by simpa [am_W] using hl
  rw [am_W_get hk] at h
  exact ⟨hk, (Option.some.inj h).symm⟩
theorem am_W_set {cI : Nat → ClassId} {ad : Nat → Nat} {I I' : am_I} {J J' : am_J} {k : Nat} (hI : ∀ a, a ≠ k → I' a = I a) (hJ : ∀ a, a ≠ k → J' a = J a) {E : va_E} (hE : E = am_E cI ad I' J' k (am_sh k)) : (am_W cI ad I J).set k (ad k, E) = am_W cI ad I' J' := by
  apply List.ext_getElem?
  intro b
  rw [List.getElem?_set]
  by_cases hb : k = b
  · subst hb
    by_cases hk : k < am_N
    · rw [am_W_get hk]
      simp [am_W, hk, hE]
    · have h1 : ¬ k < (am_W cI ad I J).length := by simpa [am_W] using hk
      have h2 : ¬ k < (am_W cI ad I' J').length := by simpa [am_W] using hk
      simp [List.getElem?_eq_none (Nat.not_lt.mp h2), h1]
  · rw [if_neg hb]
    by_cases hk : b < am_N
    · rw [am_W_get hk, am_W_get hk, am_E_congr (hI b (fun e => hb e.symm)) (hJ b (fun e => hb e.symm))]
    · have h1 : ¬ b < (am_W cI ad I J).length := by simpa [am_W] using hk
      have h2 : ¬ b < (am_W cI ad I' J').length := by simpa [am_W] using hk
      rw [List.getElem?_eq_none (Nat.not_lt.mp h2), List.getElem?_eq_none (Nat.not_lt.mp h1)]
theorem am_cat (ad : Nat → Nat) (v : Value) : (am_v ad v).category = v.category := by cases v <;> rfl
theorem am_cats (ad : Nat → Nat) (st : List Value) : ((st.map (am_v ad)).map fun v => v.category) = st.map fun v => v.category := by
  rw [List.map_map]
  congr 1
  funext v
  exact am_cat ad v
/-! locals -/
def am_L (ad : Nat → Nat) (ls : Array Slot) (n : Nat) (L : List (Option Value)) : Prop := ls.size = n ∧ L.length = n ∧ lv_wf ls ∧ ∀ (i : Nat) (v : Value), L[i]? = some (some v) → ls[i]? = some (.val (am_v ad v))
def am_kill (L : List (Option Value)) (i : Nat) : List (Option Value) := match i with
  | 0 => L
  | i + 1 => match L[i]? with
    | some (some (.long _)) => L.set i none
    | some (some (.double _)) => L.set i none
    | _ => L
def am_set (L : List (Option Value)) (i : Nat) (v : Value) : List (Option Value) := (am_kill L i).set i (some v)
def am_set2 (L : List (Option Value)) (i : Nat) (v : Value) : List (Option Value) := ((am_kill L i).set (i + 1) none).set i (some v)
def am_lv (ad : Nat → Nat) (L : List (Option Value)) : List (Nat × Value) := (List.range L.length).filterMap fun i => (L[i]?.join).map fun v => (i, am_v ad v)
theorem am_lv_mem {ad : Nat → Nat} {L : List (Option Value)} {q : Nat × Value} : q ∈ am_lv ad L ↔ ∃ v, L[q.1]? = some (some v) ∧ q.2 = am_v ad v := by
  unfold am_lv
  rw [List.mem_filterMap]
  constructor
  · rintro ⟨i, hi, h⟩
    rw [Option.map_eq_some_iff] at h
    obtain ⟨v, h1, h2⟩ := h
    subst h2
    exact ⟨v, by rw [Option.join_eq_some_iff] at h1; exact h1, rfl⟩
  · rintro ⟨v, h1, h2⟩
    refine ⟨q.1, List.mem_range.mpr (List.getElem?_eq_some_iff.mp h1).1, ?_⟩
    rw [h1]
    obtain ⟨a, b⟩ := q
    simp only at h2
    subst h2
    rfl
theorem am_L_has {ad : Nat → Nat} {ls : Array Slot} {n : Nat} {L : List (Option Value)} (h : am_L ad ls n L) : lv_has ls n (am_lv ad L) := by
  refine ⟨h.1, h.2.2.1, fun q hq => ?_⟩
  obtain ⟨v, h1, h2⟩ := am_lv_mem.mp hq
  rw [h2]
  exact h.2.2.2 _ _ h1
theorem am_kill_len (L : List (Option Value)) (i : Nat) : (am_kill L i).length = L.length := by
  unfold am_kill
  split
  · rfl
  · split <;> simp
theorem am_kill_get {L : List (Option Value)} {i b : Nat} {v : Value} (h : (am_kill L i)[b]? = some (some v)) : L[b]? = some (some v) ∧ ¬ (b + 1 = i ∧ v.category = 2) := by
  unfold am_kill at h
  split at h
  · exact ⟨h, fun q => by omega⟩
  · rename_i j
    split at h
    · rename_i x hx
      rw [List.getElem?_set] at h
      by_cases hb : j = b
      · subst hb
        simp at h
      · rw [if_neg hb] at h
        exact ⟨h, fun q => hb (by omega)⟩
    · rename_i x hx
      rw [List.getElem?_set] at h
      by_cases hb : j = b
      · subst hb
        simp at h
      · rw [if_neg hb] at h
        exact ⟨h, fun q => hb (by omega)⟩
    · rename_i h1 h2
      refine ⟨h, fun q => ?_⟩
      obtain ⟨q1, q2⟩ := q
      have hb : b = j := by omega
      subst hb
      cases v with
      | long x => exact h1 x h
      | double x => exact h2 x h
      | _ => simp [Value.category] at q2
theorem am_L_set {ad : Nat → Nat} {ls ls' : Array Slot} {n : Nat} {L : List (Option Value)} {i : Nat} {v : Value} (h : am_L ad ls n L) (hi : i < L.length) (h1 : lv_has ls' n ((i, am_v ad v) :: (am_lv ad L).filter (fun q => !(q.1 == i) && !(q.1 + 1 == i && q.2.category == 2)))) : am_L ad ls' n (am_set L i v) := by
  refine ⟨h1.1, ?_, h1.2.1, fun b x hb => ?_⟩
  · rw [am_set, List.length_set, am_kill_len]; exact h.2.1
  · refine h1.2.2 (b, am_v ad x) ?_
    unfold am_set at hb
    rw [List.getElem?_set] at hb
    by_cases he : i = b
    · subst he
      simp [am_kill_len, hi] at hb
      subst hb
      exact List.mem_cons_self
    · rw [if_neg he] at hb
      obtain ⟨g1, g2⟩ := am_kill_get hb
      refine List.mem_cons_of_mem _ (List.mem_filter.mpr ⟨am_lv_mem.mpr ⟨x, g1, rfl⟩, ?_⟩)
      have h3 : ¬ b = i := fun e => he e.symm
      by_cases h4 : b + 1 = i
      · have h5 : ¬ x.category = 2 := fun e => g2 ⟨h4, e⟩
        simp [h3, am_cat, h5]
      · simp [h3, h4]
theorem am_L_set2 {ad : Nat → Nat} {ls ls' : Array Slot} {n : Nat} {L : List (Option Value)} {i : Nat} {v : Value} (h : am_L ad ls n L) (hi : i + 1 < L.length) (h1 : lv_has ls' n ((i, am_v ad v) :: (am_lv ad L).filter (fun q => !(q.1 == i) && (!(q.1 == i + 1) && !(q.1 + 1 == i && q.2.category == 2))))) : am_L ad ls' n (am_set2 L i v) := by
  refine ⟨h1.1, ?_, h1.2.1, fun b x hb => ?_⟩
  · rw [am_set2, List.length_set, List.length_set, am_kill_len]; exact h.2.1
  · refine h1.2.2 (b, am_v ad x) ?_
    unfold am_set2 at hb
    rw [List.getElem?_set] at hb
    by_cases he : i = b
    · subst he
      simp [am_kill_len, show i < L.length by omega] at hb
      subst hb
      exact List.mem_cons_self
    · rw [if_neg he, List.getElem?_set] at hb
      by_cases he2 : i + 1 = b
      · subst he2
        simp at hb
      · rw [if_neg he2] at hb
        obtain ⟨g1, g2⟩ := am_kill_get hb
        refine List.mem_cons_of_mem _ (List.mem_filter.mpr ⟨am_lv_mem.mpr ⟨x, g1, rfl⟩, ?_⟩)
        have h3 : ¬ b = i := fun e => he e.symm
        have h3' : ¬ b = i + 1 := fun e => he2 e.symm
        by_cases h4 : b + 1 = i
        · have h5 : ¬ x.category = 2 := fun e => g2 ⟨h4, e⟩
          simp [h3, h3', am_cat, h5]
        · simp [h3, h3', h4]
end
section
/-! ===== AW: the machine at a pc, with abstract locals, stack and memory, comes to its end ===== -/
def am_ws : List Cond := lw_tbl.filter goodWord
theorem am_in {w : Cond} (i : Nat) (h : lw_tbl[i]? = some w) (hg : goodWord w = true) : w ∈ am_ws := List.mem_filter.mpr ⟨List.mem_of_getElem? h, hg⟩
theorem am_gd : ∀ w ∈ am_ws, (w.onTables && w.keeps) = true ∨ ∃ ty, w = .arrayClass ty := fun _ h => good_of_word (List.mem_filter.mp h).2
theorem am_GoodIn {ws : List Cond} (h : ∀ w ∈ ws, w ∈ am_ws) : GoodIn am_ws ws := fun w hw => ⟨h w hw, am_gd w (h w hw)⟩
theorem am_uws {C : String} {T : u_T} {N : Nat} (h : ∀ k, k < N → u_lay C T k ∈ am_ws) : ∀ w ∈ u_ws C T N, w ∈ am_ws := by
  intro w hw
  obtain ⟨k, hk, rfl⟩ := List.mem_map.mp hw
  exact h k (List.mem_range.mp hk)
abbrev am_G : Type := Launch × va_G × (Nat → ClassId) × (Nat → Nat)
abbrev am_Ex : Type := Program → Env → State → MethodId → Array Value → List Frame → Method → Code → (Nat → Prop) → Room → Nat → Nat → (State → Prop) → Prop
def am_tys (cI : Nat → ClassId) : List (ClassId × FieldType) := [(cI 0, .int), (cI 1, .boolean), (cI 2, .byte), (cI 3, .array .byte), (cI 4, .object RX4)]
def am_yGoal : MethodName := ⟨"LoadsUnseen$Goal", "hasEnough", "([I)Z"⟩
def am_yBest : MethodName := ⟨"LoadsUnseen$Best", "costOf", "([I)I"⟩
/-- what the tables say that is no word of am_ws, too -/
def am_K (G : am_G) (U : State) : Prop := va_K G.2.1 vwCl (am_tys G.2.2.1) U ∧ va_Nw (.declares am_yGoal) U ∧ va_Nw (.declares am_yBest) U
def am_inj (G : am_G) : Prop := ∀ i j, i < am_N → j < am_N → G.2.2.2 i = G.2.2.2 j → i = j
def am_P (G : am_G) (I : am_I) (J : am_J) (H : Heap) : Prop := va_P G.2.1 vwCl (am_W G.2.2.1 G.2.2.2 I J) H
theorem am_K.warm {G : am_G} {u U : State} (h : am_K G u) (hW : u.WarmedH U.vm) : am_K G U := ⟨va_K.moved hW.alike h.1, h.2.1.warmD hW, h.2.2.warmD hW⟩
def am_B (G : am_G) (cc : ByteArray) (nL : Nat) (own : String) (d : Nat) (p : Program) (s : State) (m : MethodId) (args : Array Value) (c : Code) (A : Nat → Prop) (R : Room) (ce sl : Nat) : Prop :=
  p.tables.exec = Jvm.exec ∧ c.code = cc ∧ c.maxLocals = nL ∧ s.vm.findClass own = some m.cls ∧ (∀ w ∈ am_ws, w.before args s = true) ∧ am_K G s ∧ am_inj G ∧ (∀ k, k < am_N → A (G.2.2.2 k)) ∧ (d ≤ R.frames ∧ 40 * d ≤ R.locals) ∧ ce ≤ R.cells ∧ sl ≤ R.slots
theorem am_D {G : am_G} {A : Nat → Prop} {I : am_I} {J : am_J} (hi : am_inj G) (hA : ∀ k, k < am_N → A (G.2.2.2 k)) : va_D A (am_W G.2.2.1 G.2.2.2 I J) := by
  refine ⟨fun i j p q h1 h2 h3 => ?_, fun k q h => ?_⟩
  · obtain ⟨a1, rfl⟩ := am_W_lt h1
    obtain ⟨a2, rfl⟩ := am_W_lt h2
    exact hi i j a1 a2 h3
  · obtain ⟨a1, rfl⟩ := am_W_lt h
    exact hA k a1
def AW (G : am_G) (cc : ByteArray) (nL : Nat) (own : String) (d : Nat) (Ex : am_Ex) (pc : Nat) (L : List (Option Value)) (st : List Value) (I : am_I) (J : am_J) : Prop :=
  ∀ (p : Program) (e : Env) (s : State) (m : MethodId) (args : Array Value) (below : List Frame) (meth : Method) (c : Code) (A : Nat → Prop) (R : Room) (ce sl : Nat) (Q : State → Prop) (H : Heap) (locs : List Loc) (ls : Array Slot),
    am_B G cc nL own d p s m args c A R ce sl → Ex p e s m args below meth c A R ce sl Q → am_P G I J H → va_S A s.heap H locs → am_L G.2.2.2 ls nL L →
    W p G.1 e R s m args below meth c H locs ce sl Q (F0 m pc ls (st.map (am_v G.2.2.2)))
section AWR
variable {G : am_G} {cc : ByteArray} {nL : Nat} {own : String} {d : Nat} {Ex : am_Ex} {pc : Nat} {L L' : List (Option Value)} {st : List Value} {I : am_I} {J : am_J}
theorem a_iconst {n : Int} {v : Int32} (hd : decode cc pc = .ok (.iconst n, 1)) (hv : Int32.ofInt n = v) (k : AW G cc nL own d Ex (pc + 1) L (.int v :: st) I J) : AW G cc nL own d Ex pc L st I J := by
  intro p e s m args below meth c A R ce sl Q H locs ls B hE hP hS hL
  exact lv_iconst B.1 B.2.1 hd hv (k _ _ _ _ _ _ _ _ _ _ _ _ _ _ _ _ B hE hP hS hL)
theorem a_bipush {n : Int} {v : Int32} (hd : decode cc pc = .ok (.bipush n, 2)) (hv : (Int8.ofInt n).toInt32 = v) (k : AW G cc nL own d Ex (pc + 2) L (.int v :: st) I J) : AW G cc nL own d Ex pc L st I J := by
  intro p e s m args below meth c A R ce sl Q H locs ls B hE hP hS hL
  exact lv_bipush B.1 B.2.1 hd hv (k _ _ _ _ _ _ _ _ _ _ _ _ _ _ _ _ B hE hP hS hL)
theorem a_sipush {n : Int} {v : Int32} (hd : decode cc pc = .ok (.sipush n, 3)) (hv : (Int16.ofInt n).toInt32 = v) (k : AW G cc nL own d Ex (pc + 3) L (.int v :: st) I J) : AW G cc nL own d Ex pc L st I J := by
  intro p e s m args below meth c A R ce sl Q H locs ls B hE hP hS hL
  exact lv_sipush B.1 B.2.1 hd hv (k _ _ _ _ _ _ _ _ _ _ _ _ _ _ _ _ B hE hP hS hL)
theorem a_lconst {n : Fin 2} {v : Int64} (hd : decode cc pc = .ok (.lconst n, 1)) (hv : Int64.ofNat (n : Nat) = v) (k : AW G cc nL own d Ex (pc + 1) L (.long v :: st) I J) : AW G cc nL own d Ex pc L st I J := by
  intro p e s m args below meth c A R ce sl Q H locs ls B hE hP hS hL
  exact lv_lconst B.1 B.2.1 hd hv (k _ _ _ _ _ _ _ _ _ _ _ _ _ _ _ _ B hE hP hS hL)
theorem a_ldc {index : Nat} {v v0 : Int32} (hd : decode cc pc = .ok (.ldc index, 2)) (hc : Cond.constant own index v0 ∈ am_ws) (hv : v0 = v) (k : AW G cc nL own d Ex (pc + 2) L (.int v :: st) I J) : AW G cc nL own d Ex pc L st I J := by
  intro p e s m args below meth c A R ce sl Q H locs ls B hE hP hS hL
  subst hv
  exact lv_ldc B.1 B.2.1 B.2.2.2.1 (B.2.2.2.2.1 _ hc) hd (k _ _ _ _ _ _ _ _ _ _ _ _ _ _ _ _ B hE hP hS hL)
theorem a_ldcw {index : Nat} {v v0 : Int32} (hd : decode cc pc = .ok (.ldc_w index, 3)) (hc : Cond.constant own index v0 ∈ am_ws) (hv : v0 = v) (k : AW G cc nL own d Ex (pc + 3) L (.int v :: st) I J) : AW G cc nL own d Ex pc L st I J := by
  intro p e s m args below meth c A R ce sl Q H locs ls B hE hP hS hL
  subst hv
  exact lv_ldcw B.1 B.2.1 B.2.2.2.1 (B.2.2.2.2.1 _ hc) hd (k _ _ _ _ _ _ _ _ _ _ _ _ _ _ _ _ B hE hP hS hL)
theorem a_ldc2 {index : Nat} {v v0 : Int64} (hd : decode cc pc = .ok (.ldc2_w index, 3)) (hc : Cond.constantLong own index v0 ∈ am_ws) (hv : v0 = v) (k : AW G cc nL own d Ex (pc + 3) L (.long v :: st) I J) : AW G cc nL own d Ex pc L st I J := by
  intro p e s m args below meth c A R ce sl Q H locs ls B hE hP hS hL
  subst hv
  exact lv_ldc2 B.1 B.2.1 B.2.2.2.1 (B.2.2.2.2.1 _ hc) hd (k _ _ _ _ _ _ _ _ _ _ _ _ _ _ _ _ B hE hP hS hL)
theorem a_iload_n {q : Fin 4} {x : Int32} (hd : decode cc pc = .ok (.iload_n q, 1)) (hl : L[(q : Nat)]? = some (some (.int x))) (k : AW G cc nL own d Ex (pc + 1) L (.int x :: st) I J) : AW G cc nL own d Ex pc L st I J := by
  intro p e s m args below meth c A R ce sl Q H locs ls B hE hP hS hL
  exact lv_iload_n B.1 B.2.1 hd rfl (hL.2.2.2 _ _ hl) (k _ _ _ _ _ _ _ _ _ _ _ _ _ _ _ _ B hE hP hS hL)
theorem a_iload {q : Nat} {x : Int32} (hd : decode cc pc = .ok (.iload q, 2)) (hl : L[q]? = some (some (.int x))) (k : AW G cc nL own d Ex (pc + 2) L (.int x :: st) I J) : AW G cc nL own d Ex pc L st I J := by
  intro p e s m args below meth c A R ce sl Q H locs ls B hE hP hS hL
  exact lv_iload B.1 B.2.1 hd (hL.2.2.2 _ _ hl) (k _ _ _ _ _ _ _ _ _ _ _ _ _ _ _ _ B hE hP hS hL)
theorem a_lload_n {q : Fin 4} {x : Int64} (hd : decode cc pc = .ok (.lload_n q, 1)) (hl : L[(q : Nat)]? = some (some (.long x))) (k : AW G cc nL own d Ex (pc + 1) L (.long x :: st) I J) : AW G cc nL own d Ex pc L st I J := by
  intro p e s m args below meth c A R ce sl Q H locs ls B hE hP hS hL
  exact lv_lload_n B.1 B.2.1 hd rfl (hL.2.2.2 _ _ hl) (k _ _ _ _ _ _ _ _ _ _ _ _ _ _ _ _ B hE hP hS hL)
theorem a_lload {q : Nat} {x : Int64} (hd : decode cc pc = .ok (.lload q, 2)) (hl : L[q]? = some (some (.long x))) (k : AW G cc nL own d Ex (pc + 2) L (.long x :: st) I J) : AW G cc nL own d Ex pc L st I J := by
  intro p e s m args below meth c A R ce sl Q H locs ls B hE hP hS hL
  exact lv_lload B.1 B.2.1 hd (hL.2.2.2 _ _ hl) (k _ _ _ _ _ _ _ _ _ _ _ _ _ _ _ _ B hE hP hS hL)
theorem a_aload_n {q : Fin 4} {x : Nat} (hd : decode cc pc = .ok (.aload_n q, 1)) (hl : L[(q : Nat)]? = some (some (.ref x))) (k : AW G cc nL own d Ex (pc + 1) L (.ref x :: st) I J) : AW G cc nL own d Ex pc L st I J := by
  intro p e s m args below meth c A R ce sl Q H locs ls B hE hP hS hL
  exact lv_aload_n B.1 B.2.1 hd rfl (hL.2.2.2 _ _ hl) (k _ _ _ _ _ _ _ _ _ _ _ _ _ _ _ _ B hE hP hS hL)
theorem a_aload {q : Nat} {x : Nat} (hd : decode cc pc = .ok (.aload q, 2)) (hl : L[q]? = some (some (.ref x))) (k : AW G cc nL own d Ex (pc + 2) L (.ref x :: st) I J) : AW G cc nL own d Ex pc L st I J := by
  intro p e s m args below meth c A R ce sl Q H locs ls B hE hP hS hL
  exact lv_aload B.1 B.2.1 hd (hL.2.2.2 _ _ hl) (k _ _ _ _ _ _ _ _ _ _ _ _ _ _ _ _ B hE hP hS hL)
theorem a_istore_n {q : Fin 4} {x : Int32} (hd : decode cc pc = .ok (.istore_n q, 1)) (hn : (q : Nat) < L.length) (hl : am_set L (q : Nat) (.int x) = L') (k : AW G cc nL own d Ex (pc + 1) L' st I J) : AW G cc nL own d Ex pc L (.int x :: st) I J := by
  intro p e s m args below meth c A R ce sl Q H locs ls B hE hP hS hL
  subst hl
  exact lv_istore_n B.1 B.2.1 hd rfl (am_L_has hL) (by rw [← hL.2.1]; exact hn) rfl (fun ls' h' => k _ _ _ _ _ _ _ _ _ _ _ _ _ _ _ _ B hE hP hS (am_L_set (v := .int x) hL hn h'))
theorem a_istore {q : Nat} {x : Int32} (hd : decode cc pc = .ok (.istore q, 2)) (hn : (q : Nat) < L.length) (hl : am_set L (q : Nat) (.int x) = L') (k : AW G cc nL own d Ex (pc + 2) L' st I J) : AW G cc nL own d Ex pc L (.int x :: st) I J := by
  intro p e s m args below meth c A R ce sl Q H locs ls B hE hP hS hL
  subst hl
  exact lv_istore B.1 B.2.1 hd (am_L_has hL) (by rw [← hL.2.1]; exact hn) rfl (fun ls' h' => k _ _ _ _ _ _ _ _ _ _ _ _ _ _ _ _ B hE hP hS (am_L_set (v := .int x) hL hn h'))
theorem a_lstore_n {q : Fin 4} {x : Int64} (hd : decode cc pc = .ok (.lstore_n q, 1)) (hn : (q : Nat) + 1 < L.length) (hl : am_set2 L (q : Nat) (.long x) = L') (k : AW G cc nL own d Ex (pc + 1) L' st I J) : AW G cc nL own d Ex pc L (.long x :: st) I J := by
  intro p e s m args below meth c A R ce sl Q H locs ls B hE hP hS hL
  subst hl
  exact lv_lstore_n B.1 B.2.1 hd rfl (am_L_has hL) (by rw [← hL.2.1]; exact hn) rfl (fun ls' h' => k _ _ _ _ _ _ _ _ _ _ _ _ _ _ _ _ B hE hP hS (am_L_set2 (v := .long x) hL hn h'))
theorem a_lstore {q : Nat} {x : Int64} (hd : decode cc pc = .ok (.lstore q, 2)) (hn : (q : Nat) + 1 < L.length) (hl : am_set2 L (q : Nat) (.long x) = L') (k : AW G cc nL own d Ex (pc + 2) L' st I J) : AW G cc nL own d Ex pc L (.long x :: st) I J := by
  intro p e s m args below meth c A R ce sl Q H locs ls B hE hP hS hL
  subst hl
  exact lv_lstore B.1 B.2.1 hd (am_L_has hL) (by rw [← hL.2.1]; exact hn) rfl (fun ls' h' => k _ _ _ _ _ _ _ _ _ _ _ _ _ _ _ _ B hE hP hS (am_L_set2 (v := .long x) hL hn h'))
theorem a_astore_n {q : Fin 4} {x : Nat} (hd : decode cc pc = .ok (.astore_n q, 1)) (hn : (q : Nat) < L.length) (hl : am_set L (q : Nat) (.ref x) = L') (k : AW G cc nL own d Ex (pc + 1) L' st I J) : AW G cc nL own d Ex pc L (.ref x :: st) I J := by
  intro p e s m args below meth c A R ce sl Q H locs ls B hE hP hS hL
  subst hl
  exact lv_astore_n B.1 B.2.1 hd rfl (am_L_has hL) (by rw [← hL.2.1]; exact hn) rfl (fun ls' h' => k _ _ _ _ _ _ _ _ _ _ _ _ _ _ _ _ B hE hP hS (am_L_set (v := .ref x) hL hn h'))
theorem a_astore {q : Nat} {x : Nat} (hd : decode cc pc = .ok (.astore q, 2)) (hn : (q : Nat) < L.length) (hl : am_set L (q : Nat) (.ref x) = L') (k : AW G cc nL own d Ex (pc + 2) L' st I J) : AW G cc nL own d Ex pc L (.ref x :: st) I J := by
  intro p e s m args below meth c A R ce sl Q H locs ls B hE hP hS hL
  subst hl
  exact lv_astore B.1 B.2.1 hd (am_L_has hL) (by rw [← hL.2.1]; exact hn) rfl (fun ls' h' => k _ _ _ _ _ _ _ _ _ _ _ _ _ _ _ _ B hE hP hS (am_L_set (v := .ref x) hL hn h'))
theorem a_iinc {q : Nat} {n : Int} {x v : Int32} (hd : decode cc pc = .ok (.iinc q n, 3)) (hx : L[q]? = some (some (.int x))) (hv : x + Int32.ofInt n = v) (hl : am_set L q (.int v) = L') (k : AW G cc nL own d Ex (pc + 3) L' st I J) : AW G cc nL own d Ex pc L st I J := by
  intro p e s m args below meth c A R ce sl Q H locs ls B hE hP hS hL
  subst hl
  have hn : q < L.length := (List.getElem?_eq_some_iff.mp hx).1
  obtain ⟨k0, hk0⟩ := List.getElem?_of_mem (am_lv_mem (ad := G.2.2.2) (L := L) (q := (q, .int x)).mpr ⟨.int x, hx, rfl⟩)
  exact lv_iinc B.1 B.2.1 hd (am_L_has hL) hk0 hv (by rw [← hL.2.1]; exact hn) rfl (fun ls' h' => k _ _ _ _ _ _ _ _ _ _ _ _ _ _ _ _ B hE hP hS (am_L_set (v := .int v) hL hn h'))
theorem a_iadd {x y v : Int32} (hd : decode cc pc = .ok (.iadd, 1)) (hv : x + y = v) (k : AW G cc nL own d Ex (pc + 1) L (.int v :: st) I J) : AW G cc nL own d Ex pc L (.int y :: .int x :: st) I J := by
  intro p e s m args below meth c A R ce sl Q H locs ls B hE hP hS hL
  subst hv
  exact lv_iadd B.1 B.2.1 hd (k _ _ _ _ _ _ _ _ _ _ _ _ _ _ _ _ B hE hP hS hL)
theorem a_isub {x y v : Int32} (hd : decode cc pc = .ok (.isub, 1)) (hv : x - y = v) (k : AW G cc nL own d Ex (pc + 1) L (.int v :: st) I J) : AW G cc nL own d Ex pc L (.int y :: .int x :: st) I J := by
  intro p e s m args below meth c A R ce sl Q H locs ls B hE hP hS hL
  subst hv
  exact lv_isub B.1 B.2.1 hd (k _ _ _ _ _ _ _ _ _ _ _ _ _ _ _ _ B hE hP hS hL)
theorem a_imul {x y v : Int32} (hd : decode cc pc = .ok (.imul, 1)) (hv : x * y = v) (k : AW G cc nL own d Ex (pc + 1) L (.int v :: st) I J) : AW G cc nL own d Ex pc L (.int y :: .int x :: st) I J := by
  intro p e s m args below meth c A R ce sl Q H locs ls B hE hP hS hL
  subst hv
  exact lv_imul B.1 B.2.1 hd (k _ _ _ _ _ _ _ _ _ _ _ _ _ _ _ _ B hE hP hS hL)
theorem a_iand {x y v : Int32} (hd : decode cc pc = .ok (.iand, 1)) (hv : x &&& y = v) (k : AW G cc nL own d Ex (pc + 1) L (.int v :: st) I J) : AW G cc nL own d Ex pc L (.int y :: .int x :: st) I J := by
  intro p e s m args below meth c A R ce sl Q H locs ls B hE hP hS hL
  subst hv
  exact lv_iand B.1 B.2.1 hd (k _ _ _ _ _ _ _ _ _ _ _ _ _ _ _ _ B hE hP hS hL)
theorem a_ior {x y v : Int32} (hd : decode cc pc = .ok (.ior, 1)) (hv : x ||| y = v) (k : AW G cc nL own d Ex (pc + 1) L (.int v :: st) I J) : AW G cc nL own d Ex pc L (.int y :: .int x :: st) I J := by
  intro p e s m args below meth c A R ce sl Q H locs ls B hE hP hS hL
  subst hv
  exact lv_ior B.1 B.2.1 hd (k _ _ _ _ _ _ _ _ _ _ _ _ _ _ _ _ B hE hP hS hL)
theorem a_ixor {x y v : Int32} (hd : decode cc pc = .ok (.ixor, 1)) (hv : x ^^^ y = v) (k : AW G cc nL own d Ex (pc + 1) L (.int v :: st) I J) : AW G cc nL own d Ex pc L (.int y :: .int x :: st) I J := by
  intro p e s m args below meth c A R ce sl Q H locs ls B hE hP hS hL
  subst hv
  exact lv_ixor B.1 B.2.1 hd (k _ _ _ _ _ _ _ _ _ _ _ _ _ _ _ _ B hE hP hS hL)
theorem a_ishl {x y v : Int32} (hd : decode cc pc = .ok (.ishl, 1)) (hv : x <<< (y &&& 31) = v) (k : AW G cc nL own d Ex (pc + 1) L (.int v :: st) I J) : AW G cc nL own d Ex pc L (.int y :: .int x :: st) I J := by
  intro p e s m args below meth c A R ce sl Q H locs ls B hE hP hS hL
  subst hv
  exact lv_ishl B.1 B.2.1 hd (k _ _ _ _ _ _ _ _ _ _ _ _ _ _ _ _ B hE hP hS hL)
theorem a_ishr {x y v : Int32} (hd : decode cc pc = .ok (.ishr, 1)) (hv : x >>> (y &&& 31) = v) (k : AW G cc nL own d Ex (pc + 1) L (.int v :: st) I J) : AW G cc nL own d Ex pc L (.int y :: .int x :: st) I J := by
  intro p e s m args below meth c A R ce sl Q H locs ls B hE hP hS hL
  subst hv
  exact lv_ishr B.1 B.2.1 hd (k _ _ _ _ _ _ _ _ _ _ _ _ _ _ _ _ B hE hP hS hL)
theorem a_idiv {x y v : Int32} (hd : decode cc pc = .ok (.idiv, 1)) (hne : ¬ y = 0) (hv : x / y = v) (k : AW G cc nL own d Ex (pc + 1) L (.int v :: st) I J) : AW G cc nL own d Ex pc L (.int y :: .int x :: st) I J := by
  intro p e s m args below meth c A R ce sl Q H locs ls B hE hP hS hL
  subst hv
  exact lv_idiv B.1 B.2.1 hd hne (k _ _ _ _ _ _ _ _ _ _ _ _ _ _ _ _ B hE hP hS hL)
theorem a_irem {x y v : Int32} (hd : decode cc pc = .ok (.irem, 1)) (hne : ¬ y = 0) (hv : x - x / y * y = v) (k : AW G cc nL own d Ex (pc + 1) L (.int v :: st) I J) : AW G cc nL own d Ex pc L (.int y :: .int x :: st) I J := by
  intro p e s m args below meth c A R ce sl Q H locs ls B hE hP hS hL
  subst hv
  exact lv_irem B.1 B.2.1 hd hne (k _ _ _ _ _ _ _ _ _ _ _ _ _ _ _ _ B hE hP hS hL)
theorem a_ldiv {x y v : Int64} (hd : decode cc pc = .ok (.ldiv, 1)) (hne : ¬ y = 0) (hv : x / y = v) (k : AW G cc nL own d Ex (pc + 1) L (.long v :: st) I J) : AW G cc nL own d Ex pc L (.long y :: .long x :: st) I J := by
  intro p e s m args below meth c A R ce sl Q H locs ls B hE hP hS hL
  subst hv
  exact lv_ldiv B.1 B.2.1 hd hne (k _ _ _ _ _ _ _ _ _ _ _ _ _ _ _ _ B hE hP hS hL)
theorem a_ineg {x v : Int32} (hd : decode cc pc = .ok (.ineg, 1)) (hv : -x = v) (k : AW G cc nL own d Ex (pc + 1) L (.int v :: st) I J) : AW G cc nL own d Ex pc L (.int x :: st) I J := by
  intro p e s m args below meth c A R ce sl Q H locs ls B hE hP hS hL
  subst hv
  exact lv_ineg B.1 B.2.1 hd (k _ _ _ _ _ _ _ _ _ _ _ _ _ _ _ _ B hE hP hS hL)
theorem a_lneg {x v : Int64} (hd : decode cc pc = .ok (.lneg, 1)) (hv : -x = v) (k : AW G cc nL own d Ex (pc + 1) L (.long v :: st) I J) : AW G cc nL own d Ex pc L (.long x :: st) I J := by
  intro p e s m args below meth c A R ce sl Q H locs ls B hE hP hS hL
  subst hv
  exact lv_lneg B.1 B.2.1 hd (k _ _ _ _ _ _ _ _ _ _ _ _ _ _ _ _ B hE hP hS hL)
theorem a_ladd {x y v : Int64} (hd : decode cc pc = .ok (.ladd, 1)) (hv : x + y = v) (k : AW G cc nL own d Ex (pc + 1) L (.long v :: st) I J) : AW G cc nL own d Ex pc L (.long y :: .long x :: st) I J := by
  intro p e s m args below meth c A R ce sl Q H locs ls B hE hP hS hL
  subst hv
  exact lv_ladd B.1 B.2.1 hd (k _ _ _ _ _ _ _ _ _ _ _ _ _ _ _ _ B hE hP hS hL)
theorem a_lsub {x y v : Int64} (hd : decode cc pc = .ok (.lsub, 1)) (hv : x - y = v) (k : AW G cc nL own d Ex (pc + 1) L (.long v :: st) I J) : AW G cc nL own d Ex pc L (.long y :: .long x :: st) I J := by
  intro p e s m args below meth c A R ce sl Q H locs ls B hE hP hS hL
  subst hv
  exact lv_lsub B.1 B.2.1 hd (k _ _ _ _ _ _ _ _ _ _ _ _ _ _ _ _ B hE hP hS hL)
theorem a_lmul {x y v : Int64} (hd : decode cc pc = .ok (.lmul, 1)) (hv : x * y = v) (k : AW G cc nL own d Ex (pc + 1) L (.long v :: st) I J) : AW G cc nL own d Ex pc L (.long y :: .long x :: st) I J := by
  intro p e s m args below meth c A R ce sl Q H locs ls B hE hP hS hL
  subst hv
  exact lv_lmul B.1 B.2.1 hd (k _ _ _ _ _ _ _ _ _ _ _ _ _ _ _ _ B hE hP hS hL)
theorem a_land {x y v : Int64} (hd : decode cc pc = .ok (.land, 1)) (hv : x &&& y = v) (k : AW G cc nL own d Ex (pc + 1) L (.long v :: st) I J) : AW G cc nL own d Ex pc L (.long y :: .long x :: st) I J := by
  intro p e s m args below meth c A R ce sl Q H locs ls B hE hP hS hL
  subst hv
  exact lv_land B.1 B.2.1 hd (k _ _ _ _ _ _ _ _ _ _ _ _ _ _ _ _ B hE hP hS hL)
theorem a_lor {x y v : Int64} (hd : decode cc pc = .ok (.lor, 1)) (hv : x ||| y = v) (k : AW G cc nL own d Ex (pc + 1) L (.long v :: st) I J) : AW G cc nL own d Ex pc L (.long y :: .long x :: st) I J := by
  intro p e s m args below meth c A R ce sl Q H locs ls B hE hP hS hL
  subst hv
  exact lv_lor B.1 B.2.1 hd (k _ _ _ _ _ _ _ _ _ _ _ _ _ _ _ _ B hE hP hS hL)
theorem a_lxor {x y v : Int64} (hd : decode cc pc = .ok (.lxor, 1)) (hv : x ^^^ y = v) (k : AW G cc nL own d Ex (pc + 1) L (.long v :: st) I J) : AW G cc nL own d Ex pc L (.long y :: .long x :: st) I J := by
  intro p e s m args below meth c A R ce sl Q H locs ls B hE hP hS hL
  subst hv
  exact lv_lxor B.1 B.2.1 hd (k _ _ _ _ _ _ _ _ _ _ _ _ _ _ _ _ B hE hP hS hL)
theorem a_iushr {x y v : Int32} (hd : decode cc pc = .ok (.iushr, 1)) (hv : (x.toUInt32 >>> (y.toUInt32 &&& Int32.toUInt32 31)).toInt32 = v) (k : AW G cc nL own d Ex (pc + 1) L (.int v :: st) I J) : AW G cc nL own d Ex pc L (.int y :: .int x :: st) I J := by
  intro p e s m args below meth c A R ce sl Q H locs ls B hE hP hS hL
  exact lv_iushr B.1 B.2.1 hd hv (k _ _ _ _ _ _ _ _ _ _ _ _ _ _ _ _ B hE hP hS hL)
theorem a_lushr {x v : Int64} {y : Int32} (hd : decode cc pc = .ok (.lushr, 1)) (hv : (x.toUInt64 >>> (y.toInt64.toUInt64 &&& Int64.toUInt64 63)).toInt64 = v) (k : AW G cc nL own d Ex (pc + 1) L (.long v :: st) I J) : AW G cc nL own d Ex pc L (.int y :: .long x :: st) I J := by
  intro p e s m args below meth c A R ce sl Q H locs ls B hE hP hS hL
  exact lv_lushr B.1 B.2.1 hd hv (k _ _ _ _ _ _ _ _ _ _ _ _ _ _ _ _ B hE hP hS hL)
theorem a_lshl {x v : Int64} {y : Int32} (hd : decode cc pc = .ok (.lshl, 1)) (hv : x <<< (y.toInt64 &&& 63) = v) (k : AW G cc nL own d Ex (pc + 1) L (.long v :: st) I J) : AW G cc nL own d Ex pc L (.int y :: .long x :: st) I J := by
  intro p e s m args below meth c A R ce sl Q H locs ls B hE hP hS hL
  exact lv_lshl B.1 B.2.1 hd hv (k _ _ _ _ _ _ _ _ _ _ _ _ _ _ _ _ B hE hP hS hL)
theorem a_lshr {x v : Int64} {y : Int32} (hd : decode cc pc = .ok (.lshr, 1)) (hv : x >>> (y.toInt64 &&& 63) = v) (k : AW G cc nL own d Ex (pc + 1) L (.long v :: st) I J) : AW G cc nL own d Ex pc L (.int y :: .long x :: st) I J := by
  intro p e s m args below meth c A R ce sl Q H locs ls B hE hP hS hL
  exact lv_lshr B.1 B.2.1 hd hv (k _ _ _ _ _ _ _ _ _ _ _ _ _ _ _ _ B hE hP hS hL)
theorem a_i2l {x : Int32} {v : Int64} (hd : decode cc pc = .ok (.i2l, 1)) (hv : x.toInt64 = v) (k : AW G cc nL own d Ex (pc + 1) L (.long v :: st) I J) : AW G cc nL own d Ex pc L (.int x :: st) I J := by
  intro p e s m args below meth c A R ce sl Q H locs ls B hE hP hS hL
  exact lv_i2l B.1 B.2.1 hd hv (k _ _ _ _ _ _ _ _ _ _ _ _ _ _ _ _ B hE hP hS hL)
theorem a_l2i {x : Int64} {v : Int32} (hd : decode cc pc = .ok (.l2i, 1)) (hv : x.toInt32 = v) (k : AW G cc nL own d Ex (pc + 1) L (.int v :: st) I J) : AW G cc nL own d Ex pc L (.long x :: st) I J := by
  intro p e s m args below meth c A R ce sl Q H locs ls B hE hP hS hL
  exact lv_l2i B.1 B.2.1 hd hv (k _ _ _ _ _ _ _ _ _ _ _ _ _ _ _ _ B hE hP hS hL)
theorem a_i2b {x v : Int32} (hd : decode cc pc = .ok (.i2b, 1)) (hv : x.toInt8.toInt32 = v) (k : AW G cc nL own d Ex (pc + 1) L (.int v :: st) I J) : AW G cc nL own d Ex pc L (.int x :: st) I J := by
  intro p e s m args below meth c A R ce sl Q H locs ls B hE hP hS hL
  exact lv_i2b B.1 B.2.1 hd hv (k _ _ _ _ _ _ _ _ _ _ _ _ _ _ _ _ B hE hP hS hL)
theorem a_dup {v : Value} (hd : decode cc pc = .ok (.dup, 1)) (hc : v.category = 1) (k : AW G cc nL own d Ex (pc + 1) L (v :: v :: st) I J) : AW G cc nL own d Ex pc L (v :: st) I J := by
  intro p e s m args below meth c A R ce sl Q H locs ls B hE hP hS hL
  exact lv_dup B.1 B.2.1 hd (by rw [am_cat]; exact hc) (k _ _ _ _ _ _ _ _ _ _ _ _ _ _ _ _ B hE hP hS hL)
theorem a_pop {v : Value} (hd : decode cc pc = .ok (.pop, 1)) (hc : v.category = 1) (k : AW G cc nL own d Ex (pc + 1) L st I J) : AW G cc nL own d Ex pc L (v :: st) I J := by
  intro p e s m args below meth c A R ce sl Q H locs ls B hE hP hS hL
  exact lv_pop B.1 B.2.1 hd (by rw [am_cat]; exact hc) (k _ _ _ _ _ _ _ _ _ _ _ _ _ _ _ _ B hE hP hS hL)
theorem a_dup2 {v u : Value} (hd : decode cc pc = .ok (.dup2, 1)) (hc : v.category = 1) (hu : u.category = 1) (k : AW G cc nL own d Ex (pc + 1) L (v :: u :: v :: u :: st) I J) : AW G cc nL own d Ex pc L (v :: u :: st) I J := by
  intro p e s m args below meth c A R ce sl Q H locs ls B hE hP hS hL
  exact lv_dup2_11 B.1 B.2.1 hd (by rw [am_cat]; exact hc) (by rw [am_cat]; exact hu) (k _ _ _ _ _ _ _ _ _ _ _ _ _ _ _ _ B hE hP hS hL)
theorem a_icmp_eq {x y : Int32} {off : Int} {tgt : Nat} (hd : decode cc pc = .ok (.if_icmp .eq off, 3)) (ht : (pc : Int) + off = (tgt : Int)) (kt : x = y → AW G cc nL own d Ex tgt L st I J) (kf : ¬ x = y → AW G cc nL own d Ex (pc + 3) L st I J) : AW G cc nL own d Ex pc L (.int y :: .int x :: st) I J := by
  intro p e s m args below meth c A R ce sl Q H locs ls B hE hP hS hL
  exact lv_icmp_eq B.1 B.2.1 hd ht (fun h => kt h _ _ _ _ _ _ _ _ _ _ _ _ _ _ _ _ B hE hP hS hL) (fun h => kf h _ _ _ _ _ _ _ _ _ _ _ _ _ _ _ _ B hE hP hS hL)
theorem a_if_eq {x : Int32} {off : Int} {tgt : Nat} (hd : decode cc pc = .ok (.ifCond .eq off, 3)) (ht : (pc : Int) + off = (tgt : Int)) (kt : x = 0 → AW G cc nL own d Ex tgt L st I J) (kf : ¬ x = 0 → AW G cc nL own d Ex (pc + 3) L st I J) : AW G cc nL own d Ex pc L (.int x :: st) I J := by
  intro p e s m args below meth c A R ce sl Q H locs ls B hE hP hS hL
  exact lv_if_eq B.1 B.2.1 hd ht (fun h => kt h _ _ _ _ _ _ _ _ _ _ _ _ _ _ _ _ B hE hP hS hL) (fun h => kf h _ _ _ _ _ _ _ _ _ _ _ _ _ _ _ _ B hE hP hS hL)
theorem a_icmp_ne {x y : Int32} {off : Int} {tgt : Nat} (hd : decode cc pc = .ok (.if_icmp .ne off, 3)) (ht : (pc : Int) + off = (tgt : Int)) (kt : ¬ x = y → AW G cc nL own d Ex tgt L st I J) (kf : x = y → AW G cc nL own d Ex (pc + 3) L st I J) : AW G cc nL own d Ex pc L (.int y :: .int x :: st) I J := by
  intro p e s m args below meth c A R ce sl Q H locs ls B hE hP hS hL
  exact lv_icmp_ne B.1 B.2.1 hd ht (fun h => kt h _ _ _ _ _ _ _ _ _ _ _ _ _ _ _ _ B hE hP hS hL) (fun h => kf h _ _ _ _ _ _ _ _ _ _ _ _ _ _ _ _ B hE hP hS hL)
theorem a_if_ne {x : Int32} {off : Int} {tgt : Nat} (hd : decode cc pc = .ok (.ifCond .ne off, 3)) (ht : (pc : Int) + off = (tgt : Int)) (kt : ¬ x = 0 → AW G cc nL own d Ex tgt L st I J) (kf : x = 0 → AW G cc nL own d Ex (pc + 3) L st I J) : AW G cc nL own d Ex pc L (.int x :: st) I J := by
  intro p e s m args below meth c A R ce sl Q H locs ls B hE hP hS hL
  exact lv_if_ne B.1 B.2.1 hd ht (fun h => kt h _ _ _ _ _ _ _ _ _ _ _ _ _ _ _ _ B hE hP hS hL) (fun h => kf h _ _ _ _ _ _ _ _ _ _ _ _ _ _ _ _ B hE hP hS hL)
theorem a_icmp_lt {x y : Int32} {off : Int} {tgt : Nat} (hd : decode cc pc = .ok (.if_icmp .lt off, 3)) (ht : (pc : Int) + off = (tgt : Int)) (kt : x < y → AW G cc nL own d Ex tgt L st I J) (kf : ¬ x < y → AW G cc nL own d Ex (pc + 3) L st I J) : AW G cc nL own d Ex pc L (.int y :: .int x :: st) I J := by
  intro p e s m args below meth c A R ce sl Q H locs ls B hE hP hS hL
  exact lv_icmp_lt B.1 B.2.1 hd ht (fun h => kt h _ _ _ _ _ _ _ _ _ _ _ _ _ _ _ _ B hE hP hS hL) (fun h => kf h _ _ _ _ _ _ _ _ _ _ _ _ _ _ _ _ B hE hP hS hL)
theorem a_if_lt {x : Int32} {off : Int} {tgt : Nat} (hd : decode cc pc = .ok (.ifCond .lt off, 3)) (ht : (pc : Int) + off = (tgt : Int)) (kt : x < 0 → AW G cc nL own d Ex tgt L st I J) (kf : ¬ x < 0 → AW G cc nL own d Ex (pc + 3) L st I J) : AW G cc nL own d Ex pc L (.int x :: st) I J := by
  intro p e s m args below meth c A R ce sl Q H locs ls B hE hP hS hL
  exact lv_if_lt B.1 B.2.1 hd ht (fun h => kt h _ _ _ _ _ _ _ _ _ _ _ _ _ _ _ _ B hE hP hS hL) (fun h => kf h _ _ _ _ _ _ _ _ _ _ _ _ _ _ _ _ B hE hP hS hL)
theorem a_icmp_ge {x y : Int32} {off : Int} {tgt : Nat} (hd : decode cc pc = .ok (.if_icmp .ge off, 3)) (ht : (pc : Int) + off = (tgt : Int)) (kt : y ≤ x → AW G cc nL own d Ex tgt L st I J) (kf : ¬ y ≤ x → AW G cc nL own d Ex (pc + 3) L st I J) : AW G cc nL own d Ex pc L (.int y :: .int x :: st) I J := by
  intro p e s m args below meth c A R ce sl Q H locs ls B hE hP hS hL
  exact lv_icmp_ge B.1 B.2.1 hd ht (fun h => kt h _ _ _ _ _ _ _ _ _ _ _ _ _ _ _ _ B hE hP hS hL) (fun h => kf h _ _ _ _ _ _ _ _ _ _ _ _ _ _ _ _ B hE hP hS hL)
theorem a_if_ge {x : Int32} {off : Int} {tgt : Nat} (hd : decode cc pc = .ok (.ifCond .ge off, 3)) (ht : (pc : Int) + off = (tgt : Int)) (kt : 0 ≤ x → AW G cc nL own d Ex tgt L st I J) (kf : ¬ 0 ≤ x → AW G cc nL own d Ex (pc + 3) L st I J) : AW G cc nL own d Ex pc L (.int x :: st) I J := by
  intro p e s m args below meth c A R ce sl Q H locs ls B hE hP hS hL
  exact lv_if_ge B.1 B.2.1 hd ht (fun h => kt h _ _ _ _ _ _ _ _ _ _ _ _ _ _ _ _ B hE hP hS hL) (fun h => kf h _ _ _ _ _ _ _ _ _ _ _ _ _ _ _ _ B hE hP hS hL)
theorem a_icmp_gt {x y : Int32} {off : Int} {tgt : Nat} (hd : decode cc pc = .ok (.if_icmp .gt off, 3)) (ht : (pc : Int) + off = (tgt : Int)) (kt : y < x → AW G cc nL own d Ex tgt L st I J) (kf : ¬ y < x → AW G cc nL own d Ex (pc + 3) L st I J) : AW G cc nL own d Ex pc L (.int y :: .int x :: st) I J := by
  intro p e s m args below meth c A R ce sl Q H locs ls B hE hP hS hL
  exact lv_icmp_gt B.1 B.2.1 hd ht (fun h => kt h _ _ _ _ _ _ _ _ _ _ _ _ _ _ _ _ B hE hP hS hL) (fun h => kf h _ _ _ _ _ _ _ _ _ _ _ _ _ _ _ _ B hE hP hS hL)
theorem a_if_gt {x : Int32} {off : Int} {tgt : Nat} (hd : decode cc pc = .ok (.ifCond .gt off, 3)) (ht : (pc : Int) + off = (tgt : Int)) (kt : 0 < x → AW G cc nL own d Ex tgt L st I J) (kf : ¬ 0 < x → AW G cc nL own d Ex (pc + 3) L st I J) : AW G cc nL own d Ex pc L (.int x :: st) I J := by
  intro p e s m args below meth c A R ce sl Q H locs ls B hE hP hS hL
  exact lv_if_gt B.1 B.2.1 hd ht (fun h => kt h _ _ _ _ _ _ _ _ _ _ _ _ _ _ _ _ B hE hP hS hL) (fun h => kf h _ _ _ _ _ _ _ _ _ _ _ _ _ _ _ _ B hE hP hS hL)
theorem a_icmp_le {x y : Int32} {off : Int} {tgt : Nat} (hd : decode cc pc = .ok (.if_icmp .le off, 3)) (ht : (pc : Int) + off = (tgt : Int)) (kt : x ≤ y → AW G cc nL own d Ex tgt L st I J) (kf : ¬ x ≤ y → AW G cc nL own d Ex (pc + 3) L st I J) : AW G cc nL own d Ex pc L (.int y :: .int x :: st) I J := by
  intro p e s m args below meth c A R ce sl Q H locs ls B hE hP hS hL
  exact lv_icmp_le B.1 B.2.1 hd ht (fun h => kt h _ _ _ _ _ _ _ _ _ _ _ _ _ _ _ _ B hE hP hS hL) (fun h => kf h _ _ _ _ _ _ _ _ _ _ _ _ _ _ _ _ B hE hP hS hL)
theorem a_if_le {x : Int32} {off : Int} {tgt : Nat} (hd : decode cc pc = .ok (.ifCond .le off, 3)) (ht : (pc : Int) + off = (tgt : Int)) (kt : x ≤ 0 → AW G cc nL own d Ex tgt L st I J) (kf : ¬ x ≤ 0 → AW G cc nL own d Ex (pc + 3) L st I J) : AW G cc nL own d Ex pc L (.int x :: st) I J := by
  intro p e s m args below meth c A R ce sl Q H locs ls B hE hP hS hL
  exact lv_if_le B.1 B.2.1 hd ht (fun h => kt h _ _ _ _ _ _ _ _ _ _ _ _ _ _ _ _ B hE hP hS hL) (fun h => kf h _ _ _ _ _ _ _ _ _ _ _ _ _ _ _ _ B hE hP hS hL)
theorem a_goto {off : Int} {tgt : Nat} (hd : decode cc pc = .ok (.goto off, 3)) (ht : (pc : Int) + off = (tgt : Int)) (k : AW G cc nL own d Ex tgt L st I J) : AW G cc nL own d Ex pc L st I J := by
  intro p e s m args below meth c A R ce sl Q H locs ls B hE hP hS hL
  exact lv_goto B.1 B.2.1 hd ht (k _ _ _ _ _ _ _ _ _ _ _ _ _ _ _ _ B hE hP hS hL)
theorem a_tabOut {dflt lo hi : Int} {offs : Array Int} {len : Nat} {x : Int32} {tgt : Nat} (hd : decode cc pc = .ok (.tableswitch dflt lo hi offs, len)) (h : x.toInt < lo ∨ hi < x.toInt) (ht : (pc : Int) + dflt = (tgt : Int)) (k : AW G cc nL own d Ex tgt L st I J) : AW G cc nL own d Ex pc L (.int x :: st) I J := by
  intro p e s m args below meth c A R ce sl Q H locs ls B hE hP hS hL
  exact lv_tableOut B.1 B.2.1 hd h ht (k _ _ _ _ _ _ _ _ _ _ _ _ _ _ _ _ B hE hP hS hL)
theorem a_tabIn {dflt lo hi : Int} {offs : Array Int} {len : Nat} {x : Int32} {off : Int} {tgt : Nat} (hd : decode cc pc = .ok (.tableswitch dflt lo hi offs, len)) (h1 : ¬ x.toInt < lo) (h2 : ¬ hi < x.toInt) (ho : offs[(x.toInt - lo).toNat]? = some off) (ht : (pc : Int) + off = (tgt : Int)) (k : AW G cc nL own d Ex tgt L st I J) : AW G cc nL own d Ex pc L (.int x :: st) I J := by
  intro p e s m args below meth c A R ce sl Q H locs ls B hE hP hS hL
  exact lv_tableIn B.1 B.2.1 hd h1 h2 ho ht (k _ _ _ _ _ _ _ _ _ _ _ _ _ _ _ _ B hE hP hS hL)
theorem a_topi {x v : Int32} (h : x = v) (k : AW G cc nL own d Ex pc L (.int v :: st) I J) : AW G cc nL own d Ex pc L (.int x :: st) I J := h ▸ k
theorem a_topl {x v : Int64} (h : x = v) (k : AW G cc nL own d Ex pc L (.long v :: st) I J) : AW G cc nL own d Ex pc L (.long x :: st) I J := h ▸ k
theorem a_mem {I' : am_I} (h : I = I') (k : AW G cc nL own d Ex pc L st I' J) : AW G cc nL own d Ex pc L st I J := h ▸ k
theorem a_loc (h : L = L') (k : AW G cc nL own d Ex pc L' st I J) : AW G cc nL own d Ex pc L st I J := h ▸ k
theorem a_lcmp {x y : Int64} {v : Int32} (hd : decode cc pc = .ok (.lcmp, 1)) (hv : lg_cmp x y = v) (k : AW G cc nL own d Ex (pc + 1) L (.int v :: st) I J) : AW G cc nL own d Ex pc L (.long y :: .long x :: st) I J := by
  intro p e s m args below meth c A R ce sl Q H locs ls B hE hP hS hL
  subst hv
  exact W.lcmp B.1 B.2.1 hd (k _ _ _ _ _ _ _ _ _ _ _ _ _ _ _ _ B hE hP hS hL)
end AWR
end
section
/-! ===== fields ===== -/
/-- the reference idx of the class own's pool names slot j of the objects of class ci -/
def am_fl (own : String) (idx ci j : Nat) : Prop := ∃ (C : String) (T : u_T) (N : Nat) (ref : String), vwCl[ci]? = some (C, T, N) ∧ j < N ∧ (∀ w ∈ u_ws C T N, w ∈ am_ws) ∧ Cond.fieldLink own idx ref (T j).2.1 (T j).2.2.1 ∈ am_ws ∧ ((T j).1 = ref ∨ Cond.sameField ref (T j).1 (T j).2.1 (T j).2.2.1 ∈ am_ws)
def am_flp (own : String) (idx ci j : Nat) (ty : FieldType) : Prop := ∃ (C : String) (T : u_T) (N : Nat) (ref : String) (ty0 : Nat → FieldType), vwCl[ci]? = some (C, T, N) ∧ j < N ∧ (∀ w ∈ u_ws C T N, w ∈ am_ws) ∧ Cond.fieldLink own idx ref (T j).2.1 (T j).2.2.1 ∈ am_ws ∧ ((T j).1 = ref ∨ Cond.sameField ref (T j).1 (T j).2.1 (T j).2.2.1 ∈ am_ws) ∧ (∀ k, k < N → parseFieldDescriptor (T k).2.2.1 = some (ty0 k)) ∧ (∀ a, a < N → ∀ b, b < N → a ≠ b → (T a).2.1 ≠ (T b).2.1) ∧ (T j).2.2.2 = false ∧ parseFieldDescriptor (T j).2.2.1 = some ty
def am_at (k ci j : Nat) (q : am_F) : Prop := k < am_N ∧ ∃ fs, am_sh k = .inl (ci, fs) ∧ fs[j]? = some q
def am_ar (k t n : Nat) : Prop := k < am_N ∧ am_sh k = .inr (t, n, none)
def am_rr (k t n : Nat) (f : Nat → Nat) : Prop := k < am_N ∧ am_sh k = .inr (t, n, some f)
theorem am_all : (am_tab.all fun s => match s with | .inl _ => true | .inr (_, n, _) => decide (n ≤ 288)) = true := by decide +kernel
theorem am_len {k t n : Nat} {f : Option (Nat → Nat)} (h : am_sh k = .inr (t, n, f)) : n ≤ 288 := by
  unfold am_sh at h
  rw [List.getD_eq_getElem?_getD] at h
  cases hk : am_tab[k]? with
  | none =>
    rw [hk] at h
    simp at h
    omega
  | some x =>
    rw [hk] at h
    simp at h
    subst h
    have h1 := List.all_eq_true.mp am_all _ (List.mem_of_getElem? hk)
    simpa using h1
theorem am_W_at {cI : Nat → ClassId} {ad : Nat → Nat} {I : am_I} {J : am_J} {k ci : Nat} {fs : List am_F} (hk : k < am_N) (h : am_sh k = .inl (ci, fs)) : (am_W cI ad I J)[k]? = some (ad k, .inr (ci, am_fs ad I J k 0 fs)) := by
  rw [am_W_get hk, h]
  rfl
theorem am_W_ar {cI : Nat → ClassId} {ad : Nat → Nat} {I : am_I} {J : am_J} {k t n : Nat} (h : am_ar k t n) : (am_W cI ad I J)[k]? = some (ad k, .inl (cI t, n, .inl (I k))) := by
  rw [am_W_get h.1, h.2]
  rfl
theorem am_W_rr {cI : Nat → ClassId} {ad : Nat → Nat} {I : am_I} {J : am_J} {k t n : Nat} {f : Nat → Nat} (h : am_rr k t n f) : (am_W cI ad I J)[k]? = some (ad k, .inl (cI t, n, .inr (.inr (.inr (.inr (fun i => some (ad (f i)))))))) := by
  rw [am_W_get h.1, h.2]
  rfl
section AWH
variable {G : am_G} {cc : ByteArray} {nL : Nat} {own : String} {d : Nat} {Ex : am_Ex} {pc : Nat} {L L' : List (Option Value)} {st : List Value} {I : am_I} {J : am_J}
theorem am_same {own ref o n dd : String} {args : Array Value} {s : State} (hts : ∀ w ∈ am_ws, w.before args s = true) (h : o = ref ∨ Cond.sameField ref o n dd ∈ am_ws) : ∀ x, s.fieldFound? o n dd = some x → s.fieldFound? ref n dd = some x := by
  intro x hx
  rcases h with h | h
  · subst h
    exact hx
  · exact u_same (hts _ h) x hx
theorem a_geti {idx k ci j : Nat} {v : Int32} (hd : decode cc pc = .ok (.getfield idx, 3)) (hf : am_fl own idx ci j) (hs : am_at k ci j none) (hv : I k j = v) (kk : AW G cc nL own d Ex (pc + 3) L (.int v :: st) I J) : AW G cc nL own d Ex pc L (.ref k :: st) I J := by
  intro p e s m args below meth c A R ce sl Q H locs ls B hE hP hS hL
  subst hv
  obtain ⟨C, T, N, ref, h1, h2, h3, h4, h5⟩ := hf
  obtain ⟨g1, fs, g2, g3⟩ := hs
  exact va_get B.1 B.2.1 B.2.2.2.2.1 h3 B.2.2.2.1 B.2.2.2.2.2.1.1 hP k (am_W_at g1 g2) h1 j h2 (B.2.2.2.2.1 _ h4) (am_same (own := own) B.2.2.2.2.1 h5) (by rw [am_fs_get, g3, Nat.zero_add]; rfl) hd (kk _ _ _ _ _ _ _ _ _ _ _ _ _ _ _ _ B hE hP hS hL)
theorem a_getl {idx k ci j : Nat} {v : Int64} (hd : decode cc pc = .ok (.getfield idx, 3)) (hf : am_fl own idx ci j) (hs : am_at k ci j (some none)) (hv : J k j = v) (kk : AW G cc nL own d Ex (pc + 3) L (.long v :: st) I J) : AW G cc nL own d Ex pc L (.ref k :: st) I J := by
  intro p e s m args below meth c A R ce sl Q H locs ls B hE hP hS hL
  subst hv
  obtain ⟨C, T, N, ref, h1, h2, h3, h4, h5⟩ := hf
  obtain ⟨g1, fs, g2, g3⟩ := hs
  exact va_get B.1 B.2.1 B.2.2.2.2.1 h3 B.2.2.2.1 B.2.2.2.2.2.1.1 hP k (am_W_at g1 g2) h1 j h2 (B.2.2.2.2.1 _ h4) (am_same (own := own) B.2.2.2.2.1 h5) (by rw [am_fs_get, g3, Nat.zero_add]; rfl) hd (kk _ _ _ _ _ _ _ _ _ _ _ _ _ _ _ _ B hE hP hS hL)
theorem a_getr {idx k ci j : Nat} {r : Nat} (hd : decode cc pc = .ok (.getfield idx, 3)) (hf : am_fl own idx ci j) (hs : am_at k ci j (some (some r))) (kk : AW G cc nL own d Ex (pc + 3) L (.ref r :: st) I J) : AW G cc nL own d Ex pc L (.ref k :: st) I J := by
  intro p e s m args below meth c A R ce sl Q H locs ls B hE hP hS hL
  obtain ⟨C, T, N, ref, h1, h2, h3, h4, h5⟩ := hf
  obtain ⟨g1, fs, g2, g3⟩ := hs
  exact va_get B.1 B.2.1 B.2.2.2.2.1 h3 B.2.2.2.1 B.2.2.2.2.2.1.1 hP k (am_W_at g1 g2) h1 j h2 (B.2.2.2.2.1 _ h4) (am_same (own := own) B.2.2.2.2.1 h5) (by rw [am_fs_get, g3, Nat.zero_add]; rfl) hd (kk _ _ _ _ _ _ _ _ _ _ _ _ _ _ _ _ B hE hP hS hL)
theorem a_puti {idx k ci j : Nat} {x : Int32} (hd : decode cc pc = .ok (.putfield idx, 3)) (hf : am_flp own idx ci j .int) (hs : am_at k ci j none) (kk : AW G cc nL own d Ex (pc + 3) L st (am_up I k j x) J) : AW G cc nL own d Ex pc L (.int x :: .ref k :: st) I J := by
  intro p e s m args below meth c A R ce sl Q H locs ls B hE hP hS hL
  obtain ⟨C, T, N, ref, ty0, h1, h2, h3, h4, h5, h6, h7, h8, h9⟩ := hf
  obtain ⟨g1, fs, g2, g3⟩ := hs
  refine va_put (v := .int x) B.1 B.2.1 B.2.2.2.2.1 h3 ty0 h6 h7 B.2.2.2.1 B.2.2.2.2.2.1.1 hP (am_D B.2.2.2.2.2.2.1 B.2.2.2.2.2.2.2.1) hS k (am_W_at g1 g2) h1 j h2 (B.2.2.2.2.1 _ h4) (am_same (own := own) B.2.2.2.2.1 h5) h8 h9 rfl rfl (by rw [am_fs_len]; exact (List.getElem?_eq_some_iff.mp g3).1) hd (fun H1 locs1 hP1 hD1 hS1 => ?_)
  rw [am_fs_set g3, am_W_set (I' := (am_up I k j x)) (J' := J) (fun a h => am_up_ne h) (fun _ _ => rfl) (by rw [g2]; rfl)] at hP1
  exact (kk _ _ _ _ _ _ _ _ _ _ _ _ _ _ _ _ B hE hP1 hS1 hL)
theorem a_putz {idx k ci j : Nat} {x : Int32} (hd : decode cc pc = .ok (.putfield idx, 3)) (hf : am_flp own idx ci j .boolean) (hs : am_at k ci j none) (hx : x = 0 ∨ x = 1) (kk : AW G cc nL own d Ex (pc + 3) L st (am_up I k j x) J) : AW G cc nL own d Ex pc L (.int x :: .ref k :: st) I J := by
  intro p e s m args below meth c A R ce sl Q H locs ls B hE hP hS hL
  obtain ⟨C, T, N, ref, ty0, h1, h2, h3, h4, h5, h6, h7, h8, h9⟩ := hf
  obtain ⟨g1, fs, g2, g3⟩ := hs
  refine va_put (v := .int x) B.1 B.2.1 B.2.2.2.2.1 h3 ty0 h6 h7 B.2.2.2.1 B.2.2.2.2.2.1.1 hP (am_D B.2.2.2.2.2.2.1 B.2.2.2.2.2.2.2.1) hS k (am_W_at g1 g2) h1 j h2 (B.2.2.2.2.1 _ h4) (am_same (own := own) B.2.2.2.2.1 h5) h8 h9 (by rcases hx with rfl | rfl <;> rfl) (by rcases hx with rfl | rfl <;> rfl) (by rw [am_fs_len]; exact (List.getElem?_eq_some_iff.mp g3).1) hd (fun H1 locs1 hP1 hD1 hS1 => ?_)
  rw [am_fs_set g3, am_W_set (I' := (am_up I k j x)) (J' := J) (fun a h => am_up_ne h) (fun _ _ => rfl) (by rw [g2]; rfl)] at hP1
  exact (kk _ _ _ _ _ _ _ _ _ _ _ _ _ _ _ _ B hE hP1 hS1 hL)
theorem a_putl {idx k ci j : Nat} {x : Int64} (hd : decode cc pc = .ok (.putfield idx, 3)) (hf : am_flp own idx ci j .long) (hs : am_at k ci j (some none)) (kk : AW G cc nL own d Ex (pc + 3) L st I (am_upJ J k j x)) : AW G cc nL own d Ex pc L (.long x :: .ref k :: st) I J := by
  intro p e s m args below meth c A R ce sl Q H locs ls B hE hP hS hL
  obtain ⟨C, T, N, ref, ty0, h1, h2, h3, h4, h5, h6, h7, h8, h9⟩ := hf
  obtain ⟨g1, fs, g2, g3⟩ := hs
  refine va_put (v := .long x) B.1 B.2.1 B.2.2.2.2.1 h3 ty0 h6 h7 B.2.2.2.1 B.2.2.2.2.2.1.1 hP (am_D B.2.2.2.2.2.2.1 B.2.2.2.2.2.2.2.1) hS k (am_W_at g1 g2) h1 j h2 (B.2.2.2.2.1 _ h4) (am_same (own := own) B.2.2.2.2.1 h5) h8 h9 rfl rfl (by rw [am_fs_len]; exact (List.getElem?_eq_some_iff.mp g3).1) hd (fun H1 locs1 hP1 hD1 hS1 => ?_)
  rw [am_fs_setJ g3, am_W_set (I' := I) (J' := (am_upJ J k j x)) (fun _ _ => rfl) (fun a h => am_upJ_ne h) (by rw [g2]; rfl)] at hP1
  exact (kk _ _ _ _ _ _ _ _ _ _ _ _ _ _ _ _ B hE hP1 hS1 hL)
/-! ===== arrays ===== -/
theorem a_iald {k n i : Nat} {v : Int32} (hd : decode cc pc = .ok (.iaload, 1)) (hs : am_ar k 0 n) (hi : i < n) (hv : I k i = v) (kk : AW G cc nL own d Ex (pc + 1) L (.int v :: st) I J) : AW G cc nL own d Ex pc L (.int (nI i) :: .ref k :: st) I J := by
  intro p e s m args below meth c A R ce sl Q H locs ls B hE hP hS hL
  subst hv
  have hn : n ≤ 288 := am_len hs.2
  have hin : vp_in (nI i) n := vp_in_nI hi (by omega)
  refine va_iald B.1 B.2.1 B.2.2.2.2.2.1.1 hP k 0 (am_W_ar hs) rfl hin hd ?_
  rw [nI_clamp (by omega)]
  exact (kk _ _ _ _ _ _ _ _ _ _ _ _ _ _ _ _ B hE hP hS hL)
theorem a_bald {k n i : Nat} {v : Int32} (hd : decode cc pc = .ok (.baload, 1)) (hs : am_ar k 2 n) (hi : i < n) (hv : I k i = v) (kk : AW G cc nL own d Ex (pc + 1) L (.int v :: st) I J) : AW G cc nL own d Ex pc L (.int (nI i) :: .ref k :: st) I J := by
  intro p e s m args below meth c A R ce sl Q H locs ls B hE hP hS hL
  subst hv
  have hn : n ≤ 288 := am_len hs.2
  have hin : vp_in (nI i) n := vp_in_nI hi (by omega)
  refine va_bald B.1 B.2.1 B.2.2.2.2.2.1.1 hP k 2 (am_W_ar hs) rfl hin hd ?_
  rw [nI_clamp (by omega)]
  exact (kk _ _ _ _ _ _ _ _ _ _ _ _ _ _ _ _ B hE hP hS hL)
theorem a_zald {k n i : Nat} {v : Int32} (hd : decode cc pc = .ok (.baload, 1)) (hs : am_ar k 1 n) (hi : i < n) (hv : I k i = v) (kk : AW G cc nL own d Ex (pc + 1) L (.int v :: st) I J) : AW G cc nL own d Ex pc L (.int (nI i) :: .ref k :: st) I J := by
  intro p e s m args below meth c A R ce sl Q H locs ls B hE hP hS hL
  subst hv
  have hn : n ≤ 288 := am_len hs.2
  have hin : vp_in (nI i) n := vp_in_nI hi (by omega)
  refine va_zald B.1 B.2.1 B.2.2.2.2.2.1.1 hP k 1 (am_W_ar hs) rfl hin hd ?_
  rw [nI_clamp (by omega)]
  exact (kk _ _ _ _ _ _ _ _ _ _ _ _ _ _ _ _ B hE hP hS hL)
theorem a_iast {k n i : Nat} {x : Int32} (hd : decode cc pc = .ok (.iastore, 1)) (hs : am_ar k 0 n) (hi : i < n) (kk : AW G cc nL own d Ex (pc + 1) L st (am_up I k i (x)) J) : AW G cc nL own d Ex pc L (.int x :: .int (nI i) :: .ref k :: st) I J := by
  intro p e s m args below meth c A R ce sl Q H locs ls B hE hP hS hL
  have hn : n ≤ 288 := am_len hs.2
  have hin : vp_in (nI i) n := vp_in_nI hi (by omega)
  refine va_iast B.1 B.2.1 B.2.2.2.2.2.1.1 hP (am_D B.2.2.2.2.2.2.1 B.2.2.2.2.2.2.2.1) hS k 0 (am_W_ar hs) rfl hin hd (fun H1 locs1 hP1 hD1 hS1 => ?_)
  rw [nI_clamp (by omega), am_W_set (I' := am_up I k i (x)) (J' := J) (fun a h => am_up_ne h) (fun _ _ => rfl) (by rw [hs.2, am_E, am_up_row])] at hP1
  exact (kk _ _ _ _ _ _ _ _ _ _ _ _ _ _ _ _ B hE hP1 hS1 hL)
theorem a_bast {k n i : Nat} {x : Int32} (hd : decode cc pc = .ok (.bastore, 1)) (hs : am_ar k 2 n) (hi : i < n) (kk : AW G cc nL own d Ex (pc + 1) L st (am_up I k i (x.toInt8.toInt32)) J) : AW G cc nL own d Ex pc L (.int x :: .int (nI i) :: .ref k :: st) I J := by
  intro p e s m args below meth c A R ce sl Q H locs ls B hE hP hS hL
  have hn : n ≤ 288 := am_len hs.2
  have hin : vp_in (nI i) n := vp_in_nI hi (by omega)
  refine va_bast B.1 B.2.1 B.2.2.2.2.2.1.1 hP (am_D B.2.2.2.2.2.2.1 B.2.2.2.2.2.2.2.1) hS k 2 (am_W_ar hs) rfl hin hd (fun H1 locs1 hP1 hD1 hS1 => ?_)
  rw [vp_nar_byte] at hP1
  rw [nI_clamp (by omega), am_W_set (I' := am_up I k i (x.toInt8.toInt32)) (J' := J) (fun a h => am_up_ne h) (fun _ _ => rfl) (by rw [hs.2, am_E, am_up_row])] at hP1
  exact (kk _ _ _ _ _ _ _ _ _ _ _ _ _ _ _ _ B hE hP1 hS1 hL)
theorem a_zast {k n i : Nat} {x : Int32} (hd : decode cc pc = .ok (.bastore, 1)) (hs : am_ar k 1 n) (hi : i < n) (hx : x = 0 ∨ x = 1) (kk : AW G cc nL own d Ex (pc + 1) L st (am_up I k i (x)) J) : AW G cc nL own d Ex pc L (.int x :: .int (nI i) :: .ref k :: st) I J := by
  intro p e s m args below meth c A R ce sl Q H locs ls B hE hP hS hL
  have hn : n ≤ 288 := am_len hs.2
  have hin : vp_in (nI i) n := vp_in_nI hi (by omega)
  refine va_zast B.1 B.2.1 B.2.2.2.2.2.1.1 hP (am_D B.2.2.2.2.2.2.1 B.2.2.2.2.2.2.2.1) hS k 1 (am_W_ar hs) rfl hin hd (fun H1 locs1 hP1 hD1 hS1 => ?_)
  rw [show vp_nar .boolean x = x by rcases hx with rfl | rfl <;> rfl] at hP1
  rw [nI_clamp (by omega), am_W_set (I' := am_up I k i (x)) (J' := J) (fun a h => am_up_ne h) (fun _ _ => rfl) (by rw [hs.2, am_E, am_up_row])] at hP1
  exact (kk _ _ _ _ _ _ _ _ _ _ _ _ _ _ _ _ B hE hP1 hS1 hL)
theorem a_aald {k n i t : Nat} {f : Nat → Nat} {r : Nat} (hd : decode cc pc = .ok (.aaload, 1)) (hs : am_rr k t n f) (ht : t = 3 ∨ t = 4) (hi : i < n) (hr : f i = r) (kk : AW G cc nL own d Ex (pc + 1) L (.ref r :: st) I J) : AW G cc nL own d Ex pc L (.int (nI i) :: .ref k :: st) I J := by
  intro p e s m args below meth c A R ce sl Q H locs ls B hE hP hS hL
  subst hr
  have hn : n ≤ 288 := am_len hs.2
  have hin : vp_in (nI i) n := vp_in_nI hi (by omega)
  have hcl : (nI i).toNatClampNeg = i := nI_clamp (by omega)
  have hc := hP k _ (am_W_rr hs)
  obtain ⟨ty, h1, h2⟩ : ∃ ty : FieldType, ty.isReference = true ∧ (am_tys G.2.2.1)[t]? = some (G.2.2.1 t, ty) := by
    rcases ht with rfl | rfl
    · exact ⟨_, rfl, rfl⟩
    · exact ⟨_, rfl, rfl⟩
  exact W.aald (v := .ref (G.2.2.2 (f i))) (ty := ty) B.1 B.2.1 hc ((B.2.2.2.2.2.1.1.2 t _ h2).1 n (fun j => va_rf (some (G.2.2.2 (f j))))) h1 (fun q => by cases q) (by show ¬ (nI i < 0 ∨ (arrV _ _ _).slots.size ≤ _); rw [arrV_size]; exact hin) (by show (arrV _ _ _).slots[_]? = _; rw [arrV_read _ _ (by rw [hcl]; exact hi), hcl]; rfl) rfl rfl hd (kk _ _ _ _ _ _ _ _ _ _ _ _ _ _ _ _ B hE hP hS hL)
theorem a_alen {k n t : Nat} {v : Int32} (hd : decode cc pc = .ok (.arraylength, 1)) (hs : am_ar k t n) (ht : t < 3) (hv : nI n = v) (kk : AW G cc nL own d Ex (pc + 1) L (.int v :: st) I J) : AW G cc nL own d Ex pc L (.ref k :: st) I J := by
  intro p e s m args below meth c A R ce sl Q H locs ls B hE hP hS hL
  obtain ⟨ty, h2⟩ : ∃ ty : FieldType, (am_tys G.2.2.1)[t]? = some (G.2.2.1 t, ty) := by
    rcases (show t = 0 ∨ t = 1 ∨ t = 2 by omega) with rfl | rfl | rfl
    · exact ⟨_, rfl⟩
    · exact ⟨_, rfl⟩
    · exact ⟨_, rfl⟩
  exact va_alen B.1 B.2.1 B.2.2.2.2.2.1.1 hP k t (am_W_ar hs) h2 (v := v) hv hd (kk _ _ _ _ _ _ _ _ _ _ _ _ _ _ _ _ B hE hP hS hL)
end AWH
end
section
/-! ===== contracts over the abstract machine ===== -/
def am_rm (d : Nat) : Room := { frames := d, cells := 0, slots := 0, locals := 40 * d }
def am_A (G : am_G) : Nat → Prop := fun q => ∃ k, k < am_N ∧ q = G.2.2.2 k
def am_Pc (G : am_G) (As : List Value) (I : am_I) (J : am_J) : Array Value → State → Prop := fun a U => a = (As.map (am_v G.2.2.2)).toArray ∧ am_P G I J U.heap ∧ am_K G U ∧ am_inj G
def am_Qc (G : am_G) (K : Option Value → am_I → am_J → Prop) : Array Value → State → Outcome → State → Prop := fun _ u o t => ∃ (r : Option Value) (I : am_I) (J : am_J), o = .returned r ∧ K r I J ∧ am_P G I J t.heap ∧ va_F (am_A G) u t
/-- the method y, called with As at the memory I, J, comes back, and K holds of its answer and of the memory then; d frames are enough -/
def CM (G : am_G) (d : Nat) (y : MethodName) (As : List Value) (I : am_I) (J : am_J) (K : Option Value → am_I → am_J → Prop) : Prop :=
  ∃ (cc : ByteArray) (maxL : Nat) (ret : Option FieldType), maxL ≤ 21 ∧ Cond.code y cc maxL ret ∈ am_ws ∧ Met G.1 y (.code y cc maxL ret :: am_ws) (am_rm d) (am_Pc G As I J) (am_Qc G K) 0 0 (am_A G)
def CMi (G : am_G) (d : Nat) (y : MethodName) (As : List Value) (I : am_I) (J : am_J) (K : Int32 → am_I → am_J → Prop) : Prop := CM G d y As I J (fun r I J => ∃ x, r = some (.int x) ∧ K x I J)
def CMl (G : am_G) (d : Nat) (y : MethodName) (As : List Value) (I : am_I) (J : am_J) (K : Int64 → am_I → am_J → Prop) : Prop := CM G d y As I J (fun r I J => ∃ x, r = some (.long x) ∧ K x I J)
def CMv (G : am_G) (d : Nat) (y : MethodName) (As : List Value) (I : am_I) (J : am_J) (K : am_I → am_J → Prop) : Prop := CM G d y As I J (fun r I J => r = none ∧ K I J)
def am_ex (G : am_G) (ret : Option FieldType) (K : Option Value → am_I → am_J → Prop) : am_Ex := fun p e s m args below meth c A R ce sl Q => meth.sig.returnType = ret ∧ meth.locks = false ∧ A = am_A G ∧ ce = 0 ∧ sl = 0 ∧ Q = MQ below (am_Qc G K) args s 0 0 (am_A G)
def am_l0 : List Value → List (Option Value)
  | [] => []
  | v :: vs => if v.category = 2 then some v :: none :: am_l0 vs else some v :: am_l0 vs
theorem am_l0_mem (ad : Nat → Nat) : ∀ (As : List Value) (j i : Nat) (v : Value), (am_l0 As)[i]? = some (some v) → (j + i, am_v ad v) ∈ lv_args j (As.map (am_v ad))
  | [], j, i, v, h => by simp [am_l0] at h
  | x :: xs, j, i, v, h => by
    rw [List.map_cons, lv_args, am_cat]
    unfold am_l0 at h
    by_cases hc : x.category = 2
    · rw [if_pos hc] at h ⊢
      match i, h with
      | 0, h =>
        simp at h
        subst h
        exact List.mem_cons_self
      | 1, h => simp at h
      | i + 2, h =>
        have h1 := am_l0_mem ad xs (j + 2) i v (by simpa using h)
        rw [show j + (i + 2) = j + 2 + i by omega]
        exact List.mem_cons_of_mem _ h1
    · rw [if_neg hc] at h ⊢
      match i, h with
      | 0, h =>
        simp at h
        subst h
        exact List.mem_cons_self
      | i + 1, h =>
        have h1 := am_l0_mem ad xs (j + 1) i v (by simpa using h)
        rw [show j + (i + 1) = j + 1 + i by omega]
        exact List.mem_cons_of_mem _ h1
theorem am_l0_len (ad : Nat → Nat) : ∀ As : List Value, (lg_sl (As.map (am_v ad))).length = (am_l0 As).length
  | [] => rfl
  | x :: xs => by
    have h := am_l0_len ad xs
    unfold lg_sl at h ⊢
    rw [List.map_cons, List.flatMap_cons, List.length_append, h, am_cat, show am_l0 (x :: xs) = if x.category = 2 then some x :: none :: am_l0 xs else some x :: am_l0 xs from rfl]
    by_cases hc : x.category = 2
    · simp only [if_pos hc, List.length_cons, List.length_nil]; omega
    · simp only [if_neg hc, List.length_cons, List.length_nil]; omega
theorem CM.of {G : am_G} {d : Nat} {y : MethodName} {As : List Value} {I : am_I} {J : am_J} {K : Option Value → am_I → am_J → Prop} {L0 : List (Option Value)} (cc : ByteArray) (maxL : Nat) (ret : Option FieldType) (h0 : maxL ≤ 21) (hy : plainName y.cls = true) (hc : Cond.code y cc maxL ret ∈ am_ws)
    (hs : (am_l0 As).length ≤ maxL) (hL0 : am_l0 As ++ List.replicate (maxL - (am_l0 As).length) none = L0) (k : AW G cc maxL y.cls d (am_ex G ret K) 0 L0 [] I J) : CM G d y As I J K := by
  refine ⟨cc, maxL, ret, h0, hc, Met.ofW (cc := cc) (maxL := maxL) (ret := ret) hy rfl ?_⟩
  intro p e s m args below meth c s₁ B hml hv
  obtain ⟨rfl, hP, hK, hinj⟩ := hv
  have hts := atoms_spec (ws := .code y cc maxL ret :: am_ws) B.pre
  have hown : s.vm.findClass y.cls = some m.cls := findClass_of_methodNamed B.named
  have hl := lv_entry (As.map (am_v G.2.2.2)) (n := maxL) (by rw [am_l0_len]; exact hs)
  rw [lg_entry_eq]
  generalize (lg_sl (As.map (am_v G.2.2.2)) ++ List.replicate (maxL - (lg_sl (As.map (am_v G.2.2.2))).length) Slot.unset).toArray = ls at hl ⊢
  refine k p e s m _ below meth c (am_A G) (am_rm d) 0 0 _ s.heap [] ls ⟨B.exec, B.bytes, hml, hown, fun w h => hts w (List.mem_cons_of_mem _ h), hK, hinj, fun k hk => ⟨k, hk, rfl⟩, ⟨Nat.le_refl _, Nat.le_refl _⟩, Nat.le_refl _, Nat.le_refl _⟩ ⟨B.returns, B.notSynchronized, rfl, rfl, rfl, rfl⟩ hP va_S.rf ?_
  refine ⟨hl.1, ?_, hl.2.1, fun i v hv => ?_⟩
  · rw [← hL0, List.length_append, List.length_replicate]; omega
  · rw [← hL0, List.getElem?_append] at hv
    split at hv
    · have h1 := am_l0_mem G.2.2.2 As 0 i v hv
      rw [Nat.zero_add] at h1
      exact hl.2.2 _ h1
    · have h2 := List.mem_of_getElem? hv
      rw [List.mem_replicate] at h2
      exact absurd h2.2 (by simp)
theorem CM.mono {G : am_G} {d : Nat} {y : MethodName} {As : List Value} {I : am_I} {J : am_J} {K K' : Option Value → am_I → am_J → Prop} (h : CM G d y As I J K) (hK : ∀ r I J, K r I J → K' r I J) : CM G d y As I J K' := by
  obtain ⟨cc, maxL, ret, h0, hc, hM⟩ := h
  refine ⟨cc, maxL, ret, h0, hc, ?_⟩
  intro p e ha hc hk s m args below hf happ hpre hX
  obtain ⟨k, o, h1, h2, h3, ⟨⟨r, I, J, e1, e2, e3, e4⟩, h5⟩⟩ := hM p e ha hc hk s m args below hf happ hpre hX
  exact ⟨k, o, h1, h2, h3, ⟨⟨r, I, J, e1, hK _ _ _ e2, e3, e4⟩, h5⟩⟩
theorem CMi.mono {G : am_G} {d : Nat} {y : MethodName} {As : List Value} {I : am_I} {J : am_J} {K K' : Int32 → am_I → am_J → Prop} (h : CMi G d y As I J K) (hK : ∀ r I J, K r I J → K' r I J) : CMi G d y As I J K' := CM.mono h (fun _ _ _ ⟨x, e, k⟩ => ⟨x, e, hK _ _ _ k⟩)
theorem CMl.mono {G : am_G} {d : Nat} {y : MethodName} {As : List Value} {I : am_I} {J : am_J} {K K' : Int64 → am_I → am_J → Prop} (h : CMl G d y As I J K) (hK : ∀ r I J, K r I J → K' r I J) : CMl G d y As I J K' := CM.mono h (fun _ _ _ ⟨x, e, k⟩ => ⟨x, e, hK _ _ _ k⟩)
theorem CMv.mono {G : am_G} {d : Nat} {y : MethodName} {As : List Value} {I : am_I} {J : am_J} {K K' : am_I → am_J → Prop} (h : CMv G d y As I J K) (hK : ∀ I J, K I J → K' I J) : CMv G d y As I J K' := CM.mono h (fun _ _ _ ⟨e, k⟩ => ⟨e, hK _ _ k⟩)
section AWC
variable {G : am_G} {cc : ByteArray} {nL : Nat} {own : String} {d : Nat} {Ex : am_Ex} {pc : Nat} {L L' : List (Option Value)} {st rest As : List Value} {I : am_I} {J : am_J} {K : Option Value → am_I → am_J → Prop}
/-! ===== returns ===== -/
theorem a_ireturn {x : Int32} (hd : decode cc pc = .ok (.ireturn, 1)) (hK : K (some (.int x)) I J) : AW G cc nL own d (am_ex G (some .int) K) pc L [.int x] I J := by
  intro p e s m args below meth c A R ce sl Q H locs ls B hE hP hS hL
  obtain ⟨h1, h2, rfl, rfl, rfl, rfl⟩ := hE
  exact W.iret B.1 B.2.1 h1 (fun t ht hW => ⟨_, I, J, rfl, hK, by rw [ht]; exact hP, hS.F ht⟩) hS.2.2 hd h2
theorem a_zreturn {x : Int32} (hd : decode cc pc = .ok (.ireturn, 1)) (hx : x = 0 ∨ x = 1) (hK : K (some (.int x)) I J) : AW G cc nL own d (am_ex G (some .boolean) K) pc L [.int x] I J := by
  intro p e s m args below meth c A R ce sl Q H locs ls B hE hP hS hL
  obtain ⟨h1, h2, rfl, rfl, rfl, rfl⟩ := hE
  exact W.zret B.1 B.2.1 h1 (by rcases hx with rfl | rfl <;> rfl) (fun t ht hW => ⟨_, I, J, rfl, hK, by rw [ht]; exact hP, hS.F ht⟩) hS.2.2 hd h2
theorem a_lreturn {x : Int64} (hd : decode cc pc = .ok (.lreturn, 1)) (hK : K (some (.long x)) I J) : AW G cc nL own d (am_ex G (some .long) K) pc L [.long x] I J := by
  intro p e s m args below meth c A R ce sl Q H locs ls B hE hP hS hL
  obtain ⟨h1, h2, rfl, rfl, rfl, rfl⟩ := hE
  exact W.lret B.1 B.2.1 h1 (fun t ht hW => ⟨_, I, J, rfl, hK, by rw [ht]; exact hP, hS.F ht⟩) hS.2.2 hd h2
theorem a_vreturn (hd : decode cc pc = .ok (.return_, 1)) (hK : K none I J) : AW G cc nL own d (am_ex G none K) pc L [] I J := by
  intro p e s m args below meth c A R ce sl Q H locs ls B hE hP hS hL
  obtain ⟨h1, h2, rfl, rfl, rfl, rfl⟩ := hE
  exact W.vret B.1 B.2.1 h1 (fun t ht hW => ⟨_, I, J, rfl, hK, by rw [ht]; exact hP, hS.F ht⟩) hS.2.2 hd h2
/-! ===== calls ===== -/
theorem am_after {p : Program} {e : Env} {s : State} {m : MethodId} {args : Array Value} {below : List Frame} {meth : Method} {c : Code} {A : Nat → Prop} {R : Room} {ce sl : Nat} {Q : State → Prop} {H : Heap} {locs : List Loc} {ls : Array Slot} {a : Array Value} {st0 rest : List Value}
    (hr : va_Run p G.1 e R s m args below meth c H locs ce sl 0 0 (F0 m pc ls st0) rest (am_Qc G K a) (am_A G)) (hS : va_S A s.heap H locs) (hA : ∀ k, k < am_N → A (G.2.2.2 k))
    (kk : ∀ (r : Option Value) (I : am_I) (J : am_J) (H1 : Heap) (locs1 : List Loc), K r I J → am_P G I J H1 → va_S A s.heap H1 locs1 → W p G.1 e R s m args below meth c H1 locs1 ce sl Q (F0 m (pc + 3) ls (r.toList ++ rest))) : W p G.1 e R s m args below meth c H locs ce sl Q (F0 m pc ls st0) := by
  intro T hT X
  obtain ⟨v, st₀, t, T', L, h0, X', hL, e1, e2, ⟨r, I, J, ho, hK, hP, hF⟩, stp⟩ := hr T hT X
  cases ho
  have hAA : ∀ q, am_A G q → A q := fun q ⟨k, hk, e⟩ => e ▸ hA k hk
  obtain ⟨f1, f2⟩ := hF
  rw [h0] at f1 f2
  have hS' : va_S A s.heap T'.heap (locs ++ L) := by
    rw [e1]
    refine ⟨Nat.le_trans hS.1 f1, fun q h1 h2 => ?_, fun q hq => ?_⟩
    · rw [f2 q (Nat.lt_of_lt_of_le h1 hS.1) (fun h => h2 (hAA q h))]
      exact hS.2.1 q h1 h2
    · rcases List.mem_append.mp hq with h | h
      · exact hS.2.2 q h
      · exact hAA _ (hL q h)
  obtain ⟨t2, a1, b1⟩ := kk v I J T'.heap (locs ++ L) hK (by rw [e1]; exact hP) hS' T' rfl X'
  exact ⟨t2, stp t2 a1, b1⟩
theorem am_blind {As : List Value} : FrameBlind (am_Pc G As I J) := by
  intro a U g mk q
  obtain ⟨q1, q2, q3, q4⟩ := q
  exact ⟨q1, q2, ⟨va_K.moved (u := U) (U := U.calling g mk a) (Vm.Alike.refl U.vm) q3.1, va_tabs (A := #[]) (u := U) rfl rfl q3.2.1, va_tabs (A := #[]) (u := U) rfl rfl q3.2.2⟩, q4⟩
theorem am_pre {s : State} {H : Heap} {As : List Value} (hP : am_P G I J H) (hK : am_K G s) (hi : am_inj G) : ∀ U : State, U.heap = H → s.WarmedH U.vm → am_Pc G As I J (As.map (am_v G.2.2.2)).toArray U :=
  fun U hU hW => ⟨rfl, by rw [hU]; exact hP, hK.warm hW, hi⟩
/-- an object of the class C -/
def am_ob (k : Nat) (C : String) : Prop := k < am_N ∧ ∃ (ci : Nat) (fs : List am_F) (q : u_T × Nat), am_sh k = .inl (ci, fs) ∧ vwCl[ci]? = some (C, q)
theorem am_recv {s : State} {H : Heap} {k : Nat} {C : String} (hk : am_ob k C) (hP : am_P G I J H) (hK : am_K G s) : ∃ cell : Cell, H[G.2.2.2 k]? = some cell ∧ cell.vm.isStatics = false ∧ s.vm.findClass C = some cell.cls := by
  obtain ⟨h1, ci, fs, q, h2, h3⟩ := hk
  exact va_recv hK.1 hP (q := (C, q)) h3 (am_W_at h1 h2)
def am_nm (y : MethodName) (n : Nat) : Prop := y.cls ≠ "java/lang/invoke/MethodHandle" ∧ y.cls ≠ "java/lang/invoke/VarHandle" ∧ (parseMethodDescriptor y.desc).map (fun d => d.parameters.length) = some n
def am_mV (own : String) (idx : Nat) (C : String) (y : MethodName) (n : Nat) : Prop := Cond.methodLink own idx y ∈ am_ws ∧ Cond.instanceMethod y ∈ am_ws ∧ Cond.selects C y y ∈ am_ws ∧ Cond.initialized y.cls ∈ am_ws ∧ am_nm y n
def am_mS (own : String) (idx : Nat) (y : MethodName) (n : Nat) : Prop := Cond.methodLink own idx y ∈ am_ws ∧ Cond.static y ∈ am_ws ∧ Cond.initialized y.cls ∈ am_ws ∧ am_nm y n
def am_mU (own : String) (idx : Nat) (C owner : String) (x y : MethodName) (n : Nat) : Prop := Cond.methodLink own idx x ∈ am_ws ∧ Cond.sameMethod x.cls owner x.name x.desc ∈ am_ws ∧ Cond.selects C x y ∈ am_ws ∧ Cond.instanceMethod y ∈ am_ws ∧ Cond.initialized y.cls ∈ am_ws ∧ (owner ≠ "java/lang/invoke/MethodHandle" ∧ owner ≠ "java/lang/invoke/VarHandle" ∧ (parseMethodDescriptor x.desc).map (fun d => d.parameters.length) = some n) ∧ ((⟨owner, x.name, x.desc⟩ : MethodName) = am_yGoal ∨ (⟨owner, x.name, x.desc⟩ : MethodName) = am_yBest ∨ (⟨owner, x.name, x.desc⟩ : MethodName) = y)
theorem am_cb {s : State} {args : Array Value} {R : Room} {y : MethodName} {bytes : ByteArray} {maxL n idx : Nat} {ret : Option FieldType} (hts : ∀ w ∈ am_ws, w.before args s = true) (hR : d + 1 ≤ R.frames ∧ 40 * (d + 1) ≤ R.locals) (h0 : maxL ≤ 21) (hc : Cond.code y bytes maxL ret ∈ am_ws) (hl : Cond.methodLink own idx y ∈ am_ws) (hi : Cond.initialized y.cls ∈ am_ws) (hn : am_nm y n) :
    CallB R s args own idx y bytes maxL ret (.code y bytes maxL ret :: am_ws) (am_rm d) 0 0 n :=
  callB_of (Ts := am_ws) (ws' := am_ws) n hts (am_GoodIn (fun w h => (List.mem_cons.mp h).elim (fun e => e ▸ hc) id)) rfl rfl rfl (hts _ hi) (hts _ hl) hn ⟨hR.1, by show 8 + (maxL + 11) + 40 * d ≤ _; omega⟩
theorem am_cu {s : State} {args : Array Value} {R : Room} {C owner : String} {x y : MethodName} {bytes : ByteArray} {maxL n idx : Nat} {ret : Option FieldType} (hts : ∀ w ∈ am_ws, w.before args s = true) (hK : am_K G s) (hR : d + 1 ≤ R.frames ∧ 40 * (d + 1) ≤ R.locals) (h0 : maxL ≤ 21) (hc : Cond.code y bytes maxL ret ∈ am_ws) (hm : am_mU own idx C owner x y n) :
    va_CU R s args own C owner idx x y bytes maxL ret (.code y bytes maxL ret :: am_ws) (am_rm d) 0 0 n := by
  obtain ⟨m1, m2, m3, m4, m5, ⟨m6, m7, m8⟩, m9⟩ := hm
  have hG : GoodIn am_ws (.code y bytes maxL ret :: am_ws) := am_GoodIn (fun w h => (List.mem_cons.mp h).elim (fun e => e ▸ hc) id)
  refine ⟨⟨rfl, rfl, hR.1, by show 8 + (maxL + 11) + 40 * d ≤ _; omega, pay_in hts hG, List.mem_cons_self⟩, hts _ hc, hts _ m5, ⟨m6, m7⟩, fun sig h => ?_, hts _ m1, hts _ m2, ?_, hts _ m3, hts _ m4⟩
  · rw [h] at m8
    exact (Option.some.inj m8).symm
  · rcases m9 with h | h | h
    · rw [h]; exact va_Decl.abs hK.2.1
    · rw [h]; exact va_Decl.abs hK.2.2
    · rw [h]; exact va_Decl.of (hts _ m4) (hts _ hc)
theorem am_rest {rest : List Value} {m : MethodId} {ls : Array Slot} {st0 : List Value} (h : (rest.map fun v => v.category).sum ≤ 8) : 2 * (F0 m pc ls st0).monitorRoom + ((rest.map (am_v G.2.2.2)).map fun v => v.category).sum ≤ 8 := by
  rw [am_cats]
  exact lv_room h
theorem a_callVi {y : MethodName} {idx n k : Nat} {C : String} (hd : decode cc pc = .ok (.invokevirtual idx, 3)) (hm : am_mV own idx C y n) (hk : am_ob k C) (hn : As.length = n) (hst : st = As.reverse ++ .ref k :: rest) (hW : (rest.map fun v => v.category).sum ≤ 8) (kk : CMi G d y (.ref k :: As) I J (fun x I J => AW G cc nL own (d + 1) Ex (pc + 3) L (.int x :: rest) I J)) : AW G cc nL own (d + 1) Ex pc L st I J := by
  intro p e s m args below meth c A R ce sl Q H locs ls B hE hP hS hL
  obtain ⟨cc', maxL, ret, h0, hc, hM⟩ := kk
  obtain ⟨m1, m2, m3, m4, m5⟩ := hm
  have hts := B.2.2.2.2.1
  subst hst
  refine am_after (a := (Value.ref (G.2.2.2 k) :: As.map (am_v G.2.2.2)).toArray) (rest := rest.map (am_v G.2.2.2)) (va_runV (Ts := am_ws) (nL := nL) (own := own) (C := C) (b := G.2.2.2 k) (As := As.map (am_v G.2.2.2)) ⟨B.1, B.2.1, B.2.2.1, B.2.2.2.1, hts⟩ hM ⟨am_cb hts B.2.2.2.2.2.2.2.2.1 h0 hc m1 m4 m5, hts _ m2, hts _ m3⟩ ⟨am_blind, am_recv hk hP B.2.2.2.2.2.1, am_pre hP B.2.2.2.2.2.1 B.2.2.2.2.2.2.1⟩ rfl (by rw [List.length_map]; exact hn) hL.1 (by show List.map _ _ = _; rw [List.map_append, List.map_reverse]; rfl) (am_rest hW) hd ⟨B.2.2.2.2.2.2.2.2.2.1, B.2.2.2.2.2.2.2.2.2.2⟩) hS B.2.2.2.2.2.2.2.1 (fun r I J H1 locs1 hq hP1 hS1 => by
    obtain ⟨x, rfl, hk⟩ := hq
    exact hk _ _ _ _ _ _ _ _ _ _ _ _ _ _ _ _ B hE hP1 hS1 hL)
theorem a_callSi {y : MethodName} {idx n : Nat} (hd : decode cc pc = .ok (.invokestatic idx, 3)) (hm : am_mS own idx y n) (hn : As.length = n) (hst : st = As.reverse ++ rest) (hW : (rest.map fun v => v.category).sum ≤ 8) (kk : CMi G d y As I J (fun x I J => AW G cc nL own (d + 1) Ex (pc + 3) L (.int x :: rest) I J)) : AW G cc nL own (d + 1) Ex pc L st I J := by
  intro p e s m args below meth c A R ce sl Q H locs ls B hE hP hS hL
  obtain ⟨cc', maxL, ret, h0, hc, hM⟩ := kk
  obtain ⟨m1, m2, m4, m5⟩ := hm
  have hts := B.2.2.2.2.1
  subst hst
  refine am_after (a := (As.map (am_v G.2.2.2)).toArray) (rest := rest.map (am_v G.2.2.2)) (va_runS (Ts := am_ws) (nL := nL) (own := own) (As := As.map (am_v G.2.2.2)) ⟨B.1, B.2.1, B.2.2.1, B.2.2.2.1, hts⟩ hM ⟨am_cb hts B.2.2.2.2.2.2.2.2.1 h0 hc m1 m4 m5, hts _ m2⟩ ⟨am_blind, am_pre hP B.2.2.2.2.2.1 B.2.2.2.2.2.2.1⟩ rfl (by rw [List.length_map]; exact hn) hL.1 (by show List.map _ _ = _; rw [List.map_append, List.map_reverse]) (am_rest hW) hd ⟨B.2.2.2.2.2.2.2.2.2.1, B.2.2.2.2.2.2.2.2.2.2⟩) hS B.2.2.2.2.2.2.2.1 (fun r I J H1 locs1 hq hP1 hS1 => by
    obtain ⟨x, rfl, hk⟩ := hq
    exact hk _ _ _ _ _ _ _ _ _ _ _ _ _ _ _ _ B hE hP1 hS1 hL)
theorem a_callUi {x0 y : MethodName} {idx n k : Nat} {C owner : String} (hd : decode cc pc = .ok (.invokevirtual idx, 3)) (hm : am_mU own idx C owner x0 y n) (hk : am_ob k C) (hn : As.length = n) (hst : st = As.reverse ++ .ref k :: rest) (hW : (rest.map fun v => v.category).sum ≤ 8) (kk : CMi G d y (.ref k :: As) I J (fun x I J => AW G cc nL own (d + 1) Ex (pc + 3) L (.int x :: rest) I J)) : AW G cc nL own (d + 1) Ex pc L st I J := by
  intro p e s m args below meth c A R ce sl Q H locs ls B hE hP hS hL
  obtain ⟨cc', maxL, ret, h0, hc, hM⟩ := kk
  have hts := B.2.2.2.2.1
  subst hst
  refine am_after (a := (Value.ref (G.2.2.2 k) :: As.map (am_v G.2.2.2)).toArray) (rest := rest.map (am_v G.2.2.2)) (va_runU (Ts := am_ws) (nL := nL) (own := own) (C := C) (b := G.2.2.2 k) (As := As.map (am_v G.2.2.2)) ⟨B.1, B.2.1, B.2.2.1, B.2.2.2.1, hts⟩ hM (am_cu hts B.2.2.2.2.2.1 B.2.2.2.2.2.2.2.2.1 h0 hc hm) ⟨am_blind, am_recv hk hP B.2.2.2.2.2.1, am_pre hP B.2.2.2.2.2.1 B.2.2.2.2.2.2.1⟩ rfl (by rw [List.length_map]; exact hn) hL.1 (by show List.map _ _ = _; rw [List.map_append, List.map_reverse]; rfl) (am_rest hW) hd ⟨B.2.2.2.2.2.2.2.2.2.1, B.2.2.2.2.2.2.2.2.2.2⟩) hS B.2.2.2.2.2.2.2.1 (fun r I J H1 locs1 hq hP1 hS1 => by
    obtain ⟨x, rfl, hk⟩ := hq
    exact hk _ _ _ _ _ _ _ _ _ _ _ _ _ _ _ _ B hE hP1 hS1 hL)
theorem a_callVl {y : MethodName} {idx n k : Nat} {C : String} (hd : decode cc pc = .ok (.invokevirtual idx, 3)) (hm : am_mV own idx C y n) (hk : am_ob k C) (hn : As.length = n) (hst : st = As.reverse ++ .ref k :: rest) (hW : (rest.map fun v => v.category).sum ≤ 8) (kk : CMl G d y (.ref k :: As) I J (fun x I J => AW G cc nL own (d + 1) Ex (pc + 3) L (.long x :: rest) I J)) : AW G cc nL own (d + 1) Ex pc L st I J := by
  intro p e s m args below meth c A R ce sl Q H locs ls B hE hP hS hL
  obtain ⟨cc', maxL, ret, h0, hc, hM⟩ := kk
  obtain ⟨m1, m2, m3, m4, m5⟩ := hm
  have hts := B.2.2.2.2.1
  subst hst
  refine am_after (a := (Value.ref (G.2.2.2 k) :: As.map (am_v G.2.2.2)).toArray) (rest := rest.map (am_v G.2.2.2)) (va_runV (Ts := am_ws) (nL := nL) (own := own) (C := C) (b := G.2.2.2 k) (As := As.map (am_v G.2.2.2)) ⟨B.1, B.2.1, B.2.2.1, B.2.2.2.1, hts⟩ hM ⟨am_cb hts B.2.2.2.2.2.2.2.2.1 h0 hc m1 m4 m5, hts _ m2, hts _ m3⟩ ⟨am_blind, am_recv hk hP B.2.2.2.2.2.1, am_pre hP B.2.2.2.2.2.1 B.2.2.2.2.2.2.1⟩ rfl (by rw [List.length_map]; exact hn) hL.1 (by show List.map _ _ = _; rw [List.map_append, List.map_reverse]; rfl) (am_rest hW) hd ⟨B.2.2.2.2.2.2.2.2.2.1, B.2.2.2.2.2.2.2.2.2.2⟩) hS B.2.2.2.2.2.2.2.1 (fun r I J H1 locs1 hq hP1 hS1 => by
    obtain ⟨x, rfl, hk⟩ := hq
    exact hk _ _ _ _ _ _ _ _ _ _ _ _ _ _ _ _ B hE hP1 hS1 hL)
theorem a_callSl {y : MethodName} {idx n : Nat} (hd : decode cc pc = .ok (.invokestatic idx, 3)) (hm : am_mS own idx y n) (hn : As.length = n) (hst : st = As.reverse ++ rest) (hW : (rest.map fun v => v.category).sum ≤ 8) (kk : CMl G d y As I J (fun x I J => AW G cc nL own (d + 1) Ex (pc + 3) L (.long x :: rest) I J)) : AW G cc nL own (d + 1) Ex pc L st I J := by
  intro p e s m args below meth c A R ce sl Q H locs ls B hE hP hS hL
  obtain ⟨cc', maxL, ret, h0, hc, hM⟩ := kk
  obtain ⟨m1, m2, m4, m5⟩ := hm
  have hts := B.2.2.2.2.1
  subst hst
  refine am_after (a := (As.map (am_v G.2.2.2)).toArray) (rest := rest.map (am_v G.2.2.2)) (va_runS (Ts := am_ws) (nL := nL) (own := own) (As := As.map (am_v G.2.2.2)) ⟨B.1, B.2.1, B.2.2.1, B.2.2.2.1, hts⟩ hM ⟨am_cb hts B.2.2.2.2.2.2.2.2.1 h0 hc m1 m4 m5, hts _ m2⟩ ⟨am_blind, am_pre hP B.2.2.2.2.2.1 B.2.2.2.2.2.2.1⟩ rfl (by rw [List.length_map]; exact hn) hL.1 (by show List.map _ _ = _; rw [List.map_append, List.map_reverse]) (am_rest hW) hd ⟨B.2.2.2.2.2.2.2.2.2.1, B.2.2.2.2.2.2.2.2.2.2⟩) hS B.2.2.2.2.2.2.2.1 (fun r I J H1 locs1 hq hP1 hS1 => by
    obtain ⟨x, rfl, hk⟩ := hq
    exact hk _ _ _ _ _ _ _ _ _ _ _ _ _ _ _ _ B hE hP1 hS1 hL)
theorem a_callUl {x0 y : MethodName} {idx n k : Nat} {C owner : String} (hd : decode cc pc = .ok (.invokevirtual idx, 3)) (hm : am_mU own idx C owner x0 y n) (hk : am_ob k C) (hn : As.length = n) (hst : st = As.reverse ++ .ref k :: rest) (hW : (rest.map fun v => v.category).sum ≤ 8) (kk : CMl G d y (.ref k :: As) I J (fun x I J => AW G cc nL own (d + 1) Ex (pc + 3) L (.long x :: rest) I J)) : AW G cc nL own (d + 1) Ex pc L st I J := by
  intro p e s m args below meth c A R ce sl Q H locs ls B hE hP hS hL
  obtain ⟨cc', maxL, ret, h0, hc, hM⟩ := kk
  have hts := B.2.2.2.2.1
  subst hst
  refine am_after (a := (Value.ref (G.2.2.2 k) :: As.map (am_v G.2.2.2)).toArray) (rest := rest.map (am_v G.2.2.2)) (va_runU (Ts := am_ws) (nL := nL) (own := own) (C := C) (b := G.2.2.2 k) (As := As.map (am_v G.2.2.2)) ⟨B.1, B.2.1, B.2.2.1, B.2.2.2.1, hts⟩ hM (am_cu hts B.2.2.2.2.2.1 B.2.2.2.2.2.2.2.2.1 h0 hc hm) ⟨am_blind, am_recv hk hP B.2.2.2.2.2.1, am_pre hP B.2.2.2.2.2.1 B.2.2.2.2.2.2.1⟩ rfl (by rw [List.length_map]; exact hn) hL.1 (by show List.map _ _ = _; rw [List.map_append, List.map_reverse]; rfl) (am_rest hW) hd ⟨B.2.2.2.2.2.2.2.2.2.1, B.2.2.2.2.2.2.2.2.2.2⟩) hS B.2.2.2.2.2.2.2.1 (fun r I J H1 locs1 hq hP1 hS1 => by
    obtain ⟨x, rfl, hk⟩ := hq
    exact hk _ _ _ _ _ _ _ _ _ _ _ _ _ _ _ _ B hE hP1 hS1 hL)
theorem a_callVv {y : MethodName} {idx n k : Nat} {C : String} (hd : decode cc pc = .ok (.invokevirtual idx, 3)) (hm : am_mV own idx C y n) (hk : am_ob k C) (hn : As.length = n) (hst : st = As.reverse ++ .ref k :: rest) (hW : (rest.map fun v => v.category).sum ≤ 8) (kk : CMv G d y (.ref k :: As) I J (fun I J => AW G cc nL own (d + 1) Ex (pc + 3) L rest I J)) : AW G cc nL own (d + 1) Ex pc L st I J := by
  intro p e s m args below meth c A R ce sl Q H locs ls B hE hP hS hL
  obtain ⟨cc', maxL, ret, h0, hc, hM⟩ := kk
  obtain ⟨m1, m2, m3, m4, m5⟩ := hm
  have hts := B.2.2.2.2.1
  subst hst
  refine am_after (a := (Value.ref (G.2.2.2 k) :: As.map (am_v G.2.2.2)).toArray) (rest := rest.map (am_v G.2.2.2)) (va_runV (Ts := am_ws) (nL := nL) (own := own) (C := C) (b := G.2.2.2 k) (As := As.map (am_v G.2.2.2)) ⟨B.1, B.2.1, B.2.2.1, B.2.2.2.1, hts⟩ hM ⟨am_cb hts B.2.2.2.2.2.2.2.2.1 h0 hc m1 m4 m5, hts _ m2, hts _ m3⟩ ⟨am_blind, am_recv hk hP B.2.2.2.2.2.1, am_pre hP B.2.2.2.2.2.1 B.2.2.2.2.2.2.1⟩ rfl (by rw [List.length_map]; exact hn) hL.1 (by show List.map _ _ = _; rw [List.map_append, List.map_reverse]; rfl) (am_rest hW) hd ⟨B.2.2.2.2.2.2.2.2.2.1, B.2.2.2.2.2.2.2.2.2.2⟩) hS B.2.2.2.2.2.2.2.1 (fun r I J H1 locs1 hq hP1 hS1 => by
    obtain ⟨rfl, hk⟩ := hq
    exact hk _ _ _ _ _ _ _ _ _ _ _ _ _ _ _ _ B hE hP1 hS1 hL)
theorem a_callSv {y : MethodName} {idx n : Nat} (hd : decode cc pc = .ok (.invokestatic idx, 3)) (hm : am_mS own idx y n) (hn : As.length = n) (hst : st = As.reverse ++ rest) (hW : (rest.map fun v => v.category).sum ≤ 8) (kk : CMv G d y As I J (fun I J => AW G cc nL own (d + 1) Ex (pc + 3) L rest I J)) : AW G cc nL own (d + 1) Ex pc L st I J := by
  intro p e s m args below meth c A R ce sl Q H locs ls B hE hP hS hL
  obtain ⟨cc', maxL, ret, h0, hc, hM⟩ := kk
  obtain ⟨m1, m2, m4, m5⟩ := hm
  have hts := B.2.2.2.2.1
  subst hst
  refine am_after (a := (As.map (am_v G.2.2.2)).toArray) (rest := rest.map (am_v G.2.2.2)) (va_runS (Ts := am_ws) (nL := nL) (own := own) (As := As.map (am_v G.2.2.2)) ⟨B.1, B.2.1, B.2.2.1, B.2.2.2.1, hts⟩ hM ⟨am_cb hts B.2.2.2.2.2.2.2.2.1 h0 hc m1 m4 m5, hts _ m2⟩ ⟨am_blind, am_pre hP B.2.2.2.2.2.1 B.2.2.2.2.2.2.1⟩ rfl (by rw [List.length_map]; exact hn) hL.1 (by show List.map _ _ = _; rw [List.map_append, List.map_reverse]) (am_rest hW) hd ⟨B.2.2.2.2.2.2.2.2.2.1, B.2.2.2.2.2.2.2.2.2.2⟩) hS B.2.2.2.2.2.2.2.1 (fun r I J H1 locs1 hq hP1 hS1 => by
    obtain ⟨rfl, hk⟩ := hq
    exact hk _ _ _ _ _ _ _ _ _ _ _ _ _ _ _ _ B hE hP1 hS1 hL)
theorem a_callUv {x0 y : MethodName} {idx n k : Nat} {C owner : String} (hd : decode cc pc = .ok (.invokevirtual idx, 3)) (hm : am_mU own idx C owner x0 y n) (hk : am_ob k C) (hn : As.length = n) (hst : st = As.reverse ++ .ref k :: rest) (hW : (rest.map fun v => v.category).sum ≤ 8) (kk : CMv G d y (.ref k :: As) I J (fun I J => AW G cc nL own (d + 1) Ex (pc + 3) L rest I J)) : AW G cc nL own (d + 1) Ex pc L st I J := by
  intro p e s m args below meth c A R ce sl Q H locs ls B hE hP hS hL
  obtain ⟨cc', maxL, ret, h0, hc, hM⟩ := kk
  have hts := B.2.2.2.2.1
  subst hst
  refine am_after (a := (Value.ref (G.2.2.2 k) :: As.map (am_v G.2.2.2)).toArray) (rest := rest.map (am_v G.2.2.2)) (va_runU (Ts := am_ws) (nL := nL) (own := own) (C := C) (b := G.2.2.2 k) (As := As.map (am_v G.2.2.2)) ⟨B.1, B.2.1, B.2.2.1, B.2.2.2.1, hts⟩ hM (am_cu hts B.2.2.2.2.2.1 B.2.2.2.2.2.2.2.2.1 h0 hc hm) ⟨am_blind, am_recv hk hP B.2.2.2.2.2.1, am_pre hP B.2.2.2.2.2.1 B.2.2.2.2.2.2.1⟩ rfl (by rw [List.length_map]; exact hn) hL.1 (by show List.map _ _ = _; rw [List.map_append, List.map_reverse]; rfl) (am_rest hW) hd ⟨B.2.2.2.2.2.2.2.2.2.1, B.2.2.2.2.2.2.2.2.2.2⟩) hS B.2.2.2.2.2.2.2.1 (fun r I J H1 locs1 hq hP1 hS1 => by
    obtain ⟨rfl, hk⟩ := hq
    exact hk _ _ _ _ _ _ _ _ _ _ _ _ _ _ _ _ B hE hP1 hS1 hL)
theorem a_mmax {idx : Nat} {x y v : Int32} (hd : decode cc pc = .ok (.invokestatic idx, 3)) (m1 : Cond.methodLink own idx Lib.Math.max.name ∈ am_ws) (m2 : Cond.static Lib.Math.max.name ∈ am_ws) (m3 : Cond.initialized "java/lang/Math" ∈ am_ws) (m4 : Cond.code Lib.Math.max.name Lib.Math.max.code 2 (some .int) ∈ am_ws) (hW : (st.map fun v => v.category).sum ≤ 8) (hv : (if x < y then y else x) = v) (kk : AW G cc nL own (d + 1) Ex (pc + 3) L (.int v :: st) I J) : AW G cc nL own (d + 1) Ex pc L (.int y :: .int x :: st) I J := by
  intro p e s m args below meth c A R ce sl Q H locs ls B hE hP hS hL
  subst hv
  have hts := B.2.2.2.2.1
  have hr := B.2.2.2.2.2.2.2.2.1
  exact va_mmax B.1 B.2.1 (by rw [B.2.2.1, hL.1]) B.2.2.2.1 (hts _ m1) (hts _ m2) (hts _ m3) (hts _ m4) (by omega) (by rw [am_cats]; omega) B.2.2.2.2.2.2.2.2.2.1 B.2.2.2.2.2.2.2.2.2.2 hd (kk _ _ _ _ _ _ _ _ _ _ _ _ _ _ _ _ B hE hP hS hL)
theorem a_mmin {idx : Nat} {x y v : Int32} (hd : decode cc pc = .ok (.invokestatic idx, 3)) (m1 : Cond.methodLink own idx Lib.Math.min.name ∈ am_ws) (m2 : Cond.static Lib.Math.min.name ∈ am_ws) (m3 : Cond.initialized "java/lang/Math" ∈ am_ws) (m4 : Cond.code Lib.Math.min.name Lib.Math.min.code 2 (some .int) ∈ am_ws) (hW : (st.map fun v => v.category).sum ≤ 8) (hv : (if y < x then y else x) = v) (kk : AW G cc nL own (d + 1) Ex (pc + 3) L (.int v :: st) I J) : AW G cc nL own (d + 1) Ex pc L (.int y :: .int x :: st) I J := by
  intro p e s m args below meth c A R ce sl Q H locs ls B hE hP hS hL
  subst hv
  have hts := B.2.2.2.2.1
  have hr := B.2.2.2.2.2.2.2.2.1
  exact va_mmin B.1 B.2.1 (by rw [B.2.2.1, hL.1]) B.2.2.2.1 (hts _ m1) (hts _ m2) (hts _ m3) (hts _ m4) (by omega) (by rw [am_cats]; omega) B.2.2.2.2.2.2.2.2.2.1 B.2.2.2.2.2.2.2.2.2.2 hd (kk _ _ _ _ _ _ _ _ _ _ _ _ _ _ _ _ B hE hP hS hL)
/-- the memory, with n places of f from sp on laid into the row k from dp on -/
def am_cp (I : am_I) (k : Nat) (f : Nat → Int32) (sp dp n : Nat) : am_I := fun a b => if a = k then va_cpy f (I k) sp dp n b else I a b
theorem am_cp_ne {k a : Nat} {f : Nat → Int32} {sp dp n : Nat} (h : a ≠ k) : am_cp I k f sp dp n a = I a := by
  funext b; simp [am_cp, h]
theorem am_cp_row {k : Nat} {f : Nat → Int32} {sp dp n : Nat} : am_cp I k f sp dp n k = va_cpy f (I k) sp dp n := by
  funext b; simp [am_cp]
theorem a_copy {idx k k2 t n0 n1 sp dp n : Nat} (hd : decode cc pc = .ok (.invokestatic idx, 3)) (m1 : Cond.methodLink own idx arraycopyName ∈ am_ws) (m2 : Cond.native arraycopyName ∈ am_ws) (m3 : Cond.static arraycopyName ∈ am_ws) (m4 : Cond.initialized "java/lang/System" ∈ am_ws) (h0 : am_ar k t n0) (h1 : am_ar k2 t n1) (ht : t = 0 ∨ t = 2) (hs : sp + n ≤ n0) (hdp : dp + n ≤ n1) (hf : t = 2 → ∀ i, i < n → (I k (sp + i)).toInt8.toInt32 = I k (sp + i)) (hW : (st.map fun v => v.category).sum ≤ 8)
    (kk : AW G cc nL own (d + 1) Ex (pc + 3) L st (am_cp I k2 (I k) sp dp n) J) : AW G cc nL own (d + 1) Ex pc L (.int (nI n) :: .int (nI dp) :: .ref k2 :: .int (nI sp) :: .ref k :: st) I J := by
  intro p e s m args below meth c A R ce sl Q H locs ls B hE hP hS hL
  have hts := B.2.2.2.2.1
  have hr := B.2.2.2.2.2.2.2.2.1
  have l0 := am_len h0.2
  have l1 := am_len h1.2
  have c1 : (nI sp).toNatClampNeg = sp := nI_clamp (by omega)
  have c2 : (nI dp).toNatClampNeg = dp := nI_clamp (by omega)
  have c3 : (nI n).toNatClampNeg = n := nI_clamp (by omega)
  obtain ⟨ty, t1, t2, t3⟩ : ∃ ty : FieldType, (am_tys G.2.2.1)[t]? = some (G.2.2.1 t, ty) ∧ refKind ty = false ∧ ∀ i, i < n → fits ty (.int (I k (sp + i))) = true := by
    rcases ht with rfl | rfl
    · exact ⟨_, rfl, rfl, fun _ _ => rfl⟩
    · refine ⟨_, rfl, rfl, fun i hi => ?_⟩
      rw [← hf rfl i hi]
      exact pk_fb _
  refine va_copyi B.1 B.2.1 (by rw [B.2.2.1, hL.1]) B.2.2.2.1 (hts _ m1) (hts _ m2) (hts _ m3) (hts _ m4) B.2.2.2.2.2.1.1 hP (am_D B.2.2.2.2.2.2.1 B.2.2.2.2.2.2.2.1) hS k k2 t t (am_W_ar h0) (am_W_ar h1) t1 t1 t2 (nI_pos (by omega)) (nI_pos (by omega)) (nI_pos (by omega)) (by rw [c1, c3]; exact hs) (by rw [c2, c3]; exact hdp) (by rw [c1, c3]; exact t3) (by omega) (by rw [am_cats]; show _ + (5 + 2 + 11) ≤ _; omega) hd (fun H1 locs1 hP1 hD1 hS1 => ?_)
  rw [c1, c2, c3, am_W_set (I' := am_cp I k2 (I k) sp dp n) (J' := J) (fun a h => am_cp_ne h) (fun _ _ => rfl) (by rw [h1.2, am_E, am_cp_row])] at hP1
  exact kk _ _ _ _ _ _ _ _ _ _ _ _ _ _ _ _ B hE hP1 hS1 hL
end AWC
end
section
/-! the words of the tables that the rows use, by their places (written by a program) -/
set_option maxRecDepth 20000 in
theorem iw_X1 : ∀ w ∈ u_ws RX1 TX1 4, w ∈ am_ws := am_uws (fun k hk => match k, hk with
  | 0, _ => am_in 289 (by decide +kernel) rfl
  | 1, _ => am_in 291 (by decide +kernel) rfl
  | 2, _ => am_in 293 (by decide +kernel) rfl
  | 3, _ => am_in 287 (by decide +kernel) rfl
  | k + 4, h => absurd h (by omega))
set_option maxRecDepth 20000 in
theorem iw_X3 : ∀ w ∈ u_ws RX3 TX3 4, w ∈ am_ws := am_uws (fun k hk => match k, hk with
  | 0, _ => am_in 305 (by decide +kernel) rfl
  | 1, _ => am_in 306 (by decide +kernel) rfl
  | 2, _ => am_in 307 (by decide +kernel) rfl
  | 3, _ => am_in 303 (by decide +kernel) rfl
  | k + 4, h => absurd h (by omega))
set_option maxRecDepth 20000 in
theorem iw_X4 : ∀ w ∈ u_ws RX4 TX4 7, w ∈ am_ws := am_uws (fun k hk => match k, hk with
  | 0, _ => am_in 107 (by decide +kernel) rfl
  | 1, _ => am_in 109 (by decide +kernel) rfl
  | 2, _ => am_in 111 (by decide +kernel) rfl
  | 3, _ => am_in 113 (by decide +kernel) rfl
  | 4, _ => am_in 115 (by decide +kernel) rfl
  | 5, _ => am_in 117 (by decide +kernel) rfl
  | 6, _ => am_in 119 (by decide +kernel) rfl
  | k + 7, h => absurd h (by omega))
set_option maxRecDepth 20000 in
theorem iw_X5 : ∀ w ∈ u_ws RX5 TX5 5, w ∈ am_ws := am_uws (fun k hk => match k, hk with
  | 0, _ => am_in 142 (by decide +kernel) rfl
  | 1, _ => am_in 144 (by decide +kernel) rfl
  | 2, _ => am_in 146 (by decide +kernel) rfl
  | 3, _ => am_in 148 (by decide +kernel) rfl
  | 4, _ => am_in 150 (by decide +kernel) rfl
  | k + 5, h => absurd h (by omega))
set_option maxRecDepth 20000 in
theorem iw_X6 : ∀ w ∈ u_ws RX6 TX6 3, w ∈ am_ws := am_uws (fun k hk => match k, hk with
  | 0, _ => am_in 257 (by decide +kernel) rfl
  | 1, _ => am_in 259 (by decide +kernel) rfl
  | 2, _ => am_in 261 (by decide +kernel) rfl
  | k + 3, h => absurd h (by omega))
set_option maxRecDepth 20000 in
theorem iw_X7 : ∀ w ∈ u_ws RX7 TX7 4, w ∈ am_ws := am_uws (fun k hk => match k, hk with
  | 0, _ => am_in 168 (by decide +kernel) rfl
  | 1, _ => am_in 170 (by decide +kernel) rfl
  | 2, _ => am_in 172 (by decide +kernel) rfl
  | 3, _ => am_in 174 (by decide +kernel) rfl
  | k + 4, h => absurd h (by omega))
set_option maxRecDepth 20000 in
theorem iw_X8 : ∀ w ∈ u_ws RX8 TX8 12, w ∈ am_ws := am_uws (fun k hk => match k, hk with
  | 0, _ => am_in 197 (by decide +kernel) rfl
  | 1, _ => am_in 199 (by decide +kernel) rfl
  | 2, _ => am_in 201 (by decide +kernel) rfl
  | 3, _ => am_in 203 (by decide +kernel) rfl
  | 4, _ => am_in 205 (by decide +kernel) rfl
  | 5, _ => am_in 207 (by decide +kernel) rfl
  | 6, _ => am_in 209 (by decide +kernel) rfl
  | 7, _ => am_in 211 (by decide +kernel) rfl
  | 8, _ => am_in 213 (by decide +kernel) rfl
  | 9, _ => am_in 215 (by decide +kernel) rfl
  | 10, _ => am_in 217 (by decide +kernel) rfl
  | 11, _ => am_in 219 (by decide +kernel) rfl
  | k + 12, h => absurd h (by omega))
set_option maxRecDepth 20000 in
theorem iw_X9 : ∀ w ∈ u_ws RX9 TX9 2, w ∈ am_ws := am_uws (fun k hk => match k, hk with
  | 0, _ => am_in 323 (by decide +kernel) rfl
  | 1, _ => am_in 325 (by decide +kernel) rfl
  | k + 2, h => absurd h (by omega))
set_option maxRecDepth 20000 in
theorem iw_X10 : ∀ w ∈ u_ws RX10 TX10 3, w ∈ am_ws := am_uws (fun k hk => match k, hk with
  | 0, _ => am_in 238 (by decide +kernel) rfl
  | 1, _ => am_in 240 (by decide +kernel) rfl
  | 2, _ => am_in 242 (by decide +kernel) rfl
  | k + 3, h => absurd h (by omega))
set_option maxRecDepth 20000 in
theorem iw_X11 : ∀ w ∈ u_ws RX11 TX11 15, w ∈ am_ws := am_uws (fun k hk => match k, hk with
  | 0, _ => am_in 367 (by decide +kernel) rfl
  | 1, _ => am_in 369 (by decide +kernel) rfl
  | 2, _ => am_in 371 (by decide +kernel) rfl
  | 3, _ => am_in 373 (by decide +kernel) rfl
  | 4, _ => am_in 375 (by decide +kernel) rfl
  | 5, _ => am_in 377 (by decide +kernel) rfl
  | 6, _ => am_in 379 (by decide +kernel) rfl
  | 7, _ => am_in 381 (by decide +kernel) rfl
  | 8, _ => am_in 383 (by decide +kernel) rfl
  | 9, _ => am_in 385 (by decide +kernel) rfl
  | 10, _ => am_in 387 (by decide +kernel) rfl
  | 11, _ => am_in 389 (by decide +kernel) rfl
  | 12, _ => am_in 391 (by decide +kernel) rfl
  | 13, _ => am_in 393 (by decide +kernel) rfl
  | 14, _ => am_in 395 (by decide +kernel) rfl
  | k + 15, h => absurd h (by omega))
set_option maxRecDepth 20000 in
theorem iw_X12 : ∀ w ∈ u_ws RX12 TX12 41, w ∈ am_ws := am_uws (fun k hk => match k, hk with
  | 0, _ => am_in 868 (by decide +kernel) rfl
  | 1, _ => am_in 870 (by decide +kernel) rfl
  | 2, _ => am_in 872 (by decide +kernel) rfl
  | 3, _ => am_in 874 (by decide +kernel) rfl
  | 4, _ => am_in 876 (by decide +kernel) rfl
  | 5, _ => am_in 878 (by decide +kernel) rfl
  | 6, _ => am_in 880 (by decide +kernel) rfl
  | 7, _ => am_in 882 (by decide +kernel) rfl
  | 8, _ => am_in 884 (by decide +kernel) rfl
  | 9, _ => am_in 886 (by decide +kernel) rfl
  | 10, _ => am_in 888 (by decide +kernel) rfl
  | 11, _ => am_in 890 (by decide +kernel) rfl
  | 12, _ => am_in 892 (by decide +kernel) rfl
  | 13, _ => am_in 894 (by decide +kernel) rfl
  | 14, _ => am_in 896 (by decide +kernel) rfl
  | 15, _ => am_in 898 (by decide +kernel) rfl
  | 16, _ => am_in 900 (by decide +kernel) rfl
  | 17, _ => am_in 902 (by decide +kernel) rfl
  | 18, _ => am_in 904 (by decide +kernel) rfl
  | 19, _ => am_in 906 (by decide +kernel) rfl
  | 20, _ => am_in 908 (by decide +kernel) rfl
  | 21, _ => am_in 910 (by decide +kernel) rfl
  | 22, _ => am_in 912 (by decide +kernel) rfl
  | 23, _ => am_in 914 (by decide +kernel) rfl
  | 24, _ => am_in 916 (by decide +kernel) rfl
  | 25, _ => am_in 918 (by decide +kernel) rfl
  | 26, _ => am_in 920 (by decide +kernel) rfl
  | 27, _ => am_in 922 (by decide +kernel) rfl
  | 28, _ => am_in 924 (by decide +kernel) rfl
  | 29, _ => am_in 926 (by decide +kernel) rfl
  | 30, _ => am_in 928 (by decide +kernel) rfl
  | 31, _ => am_in 930 (by decide +kernel) rfl
  | 32, _ => am_in 932 (by decide +kernel) rfl
  | 33, _ => am_in 934 (by decide +kernel) rfl
  | 34, _ => am_in 936 (by decide +kernel) rfl
  | 35, _ => am_in 938 (by decide +kernel) rfl
  | 36, _ => am_in 940 (by decide +kernel) rfl
  | 37, _ => am_in 942 (by decide +kernel) rfl
  | 38, _ => am_in 944 (by decide +kernel) rfl
  | 39, _ => am_in 946 (by decide +kernel) rfl
  | 40, _ => am_in 948 (by decide +kernel) rfl
  | k + 41, h => absurd h (by omega))
theorem kf_X4_9 : am_fl RX4 9 2 0 := ⟨RX4, TX4, 7, "LoadsUnseen$Line", rfl, by decide, iw_X4, am_in 86 (by decide +kernel) rfl, Or.inl rfl⟩
theorem kp_X4_9 : am_flp RX4 9 2 0 .int := ⟨RX4, TX4, 7, "LoadsUnseen$Line", tyX4, rfl, by decide, iw_X4, am_in 86 (by decide +kernel) rfl, Or.inl rfl, tyX4_ok, nmX4, rfl, by decide +kernel⟩
theorem kf_X11_124 : am_fl RX11 124 2 0 := ⟨RX4, TX4, 7, "LoadsUnseen$Line", rfl, by decide, iw_X4, am_in 87 (by decide +kernel) rfl, Or.inl rfl⟩
theorem kp_X11_124 : am_flp RX11 124 2 0 .int := ⟨RX4, TX4, 7, "LoadsUnseen$Line", tyX4, rfl, by decide, iw_X4, am_in 87 (by decide +kernel) rfl, Or.inl rfl, tyX4_ok, nmX4, rfl, by decide +kernel⟩
theorem kf_X4_15 : am_fl RX4 15 2 1 := ⟨RX4, TX4, 7, "LoadsUnseen$Line", rfl, by decide, iw_X4, am_in 88 (by decide +kernel) rfl, Or.inl rfl⟩
theorem kp_X4_15 : am_flp RX4 15 2 1 .int := ⟨RX4, TX4, 7, "LoadsUnseen$Line", tyX4, rfl, by decide, iw_X4, am_in 88 (by decide +kernel) rfl, Or.inl rfl, tyX4_ok, nmX4, rfl, by decide +kernel⟩
theorem kf_X11_129 : am_fl RX11 129 2 1 := ⟨RX4, TX4, 7, "LoadsUnseen$Line", rfl, by decide, iw_X4, am_in 89 (by decide +kernel) rfl, Or.inl rfl⟩
theorem kp_X11_129 : am_flp RX11 129 2 1 .int := ⟨RX4, TX4, 7, "LoadsUnseen$Line", tyX4, rfl, by decide, iw_X4, am_in 89 (by decide +kernel) rfl, Or.inl rfl, tyX4_ok, nmX4, rfl, by decide +kernel⟩
theorem kf_X7_66 : am_fl RX7 66 2 1 := ⟨RX4, TX4, 7, "LoadsUnseen$Line", rfl, by decide, iw_X4, am_in 90 (by decide +kernel) rfl, Or.inl rfl⟩
theorem kp_X7_66 : am_flp RX7 66 2 1 .int := ⟨RX4, TX4, 7, "LoadsUnseen$Line", tyX4, rfl, by decide, iw_X4, am_in 90 (by decide +kernel) rfl, Or.inl rfl, tyX4_ok, nmX4, rfl, by decide +kernel⟩
theorem kf_X5_45 : am_fl RX5 45 2 1 := ⟨RX4, TX4, 7, "LoadsUnseen$Line", rfl, by decide, iw_X4, am_in 91 (by decide +kernel) rfl, Or.inl rfl⟩
theorem kp_X5_45 : am_flp RX5 45 2 1 .int := ⟨RX4, TX4, 7, "LoadsUnseen$Line", tyX4, rfl, by decide, iw_X4, am_in 91 (by decide +kernel) rfl, Or.inl rfl, tyX4_ok, nmX4, rfl, by decide +kernel⟩
theorem kf_X4_18 : am_fl RX4 18 2 2 := ⟨RX4, TX4, 7, "LoadsUnseen$Line", rfl, by decide, iw_X4, am_in 92 (by decide +kernel) rfl, Or.inl rfl⟩
theorem kp_X4_18 : am_flp RX4 18 2 2 .int := ⟨RX4, TX4, 7, "LoadsUnseen$Line", tyX4, rfl, by decide, iw_X4, am_in 92 (by decide +kernel) rfl, Or.inl rfl, tyX4_ok, nmX4, rfl, by decide +kernel⟩
theorem kf_X11_132 : am_fl RX11 132 2 2 := ⟨RX4, TX4, 7, "LoadsUnseen$Line", rfl, by decide, iw_X4, am_in 93 (by decide +kernel) rfl, Or.inl rfl⟩
theorem kp_X11_132 : am_flp RX11 132 2 2 .int := ⟨RX4, TX4, 7, "LoadsUnseen$Line", tyX4, rfl, by decide, iw_X4, am_in 93 (by decide +kernel) rfl, Or.inl rfl, tyX4_ok, nmX4, rfl, by decide +kernel⟩
theorem kf_X7_71 : am_fl RX7 71 2 2 := ⟨RX4, TX4, 7, "LoadsUnseen$Line", rfl, by decide, iw_X4, am_in 94 (by decide +kernel) rfl, Or.inl rfl⟩
theorem kp_X7_71 : am_flp RX7 71 2 2 .int := ⟨RX4, TX4, 7, "LoadsUnseen$Line", tyX4, rfl, by decide, iw_X4, am_in 94 (by decide +kernel) rfl, Or.inl rfl, tyX4_ok, nmX4, rfl, by decide +kernel⟩
theorem kf_X5_48 : am_fl RX5 48 2 2 := ⟨RX4, TX4, 7, "LoadsUnseen$Line", rfl, by decide, iw_X4, am_in 95 (by decide +kernel) rfl, Or.inl rfl⟩
theorem kp_X5_48 : am_flp RX5 48 2 2 .int := ⟨RX4, TX4, 7, "LoadsUnseen$Line", tyX4, rfl, by decide, iw_X4, am_in 95 (by decide +kernel) rfl, Or.inl rfl, tyX4_ok, nmX4, rfl, by decide +kernel⟩
theorem kf_X4_21 : am_fl RX4 21 2 3 := ⟨RX4, TX4, 7, "LoadsUnseen$Line", rfl, by decide, iw_X4, am_in 96 (by decide +kernel) rfl, Or.inl rfl⟩
theorem kp_X4_21 : am_flp RX4 21 2 3 .boolean := ⟨RX4, TX4, 7, "LoadsUnseen$Line", tyX4, rfl, by decide, iw_X4, am_in 96 (by decide +kernel) rfl, Or.inl rfl, tyX4_ok, nmX4, rfl, by decide +kernel⟩
theorem kf_X11_135 : am_fl RX11 135 2 3 := ⟨RX4, TX4, 7, "LoadsUnseen$Line", rfl, by decide, iw_X4, am_in 97 (by decide +kernel) rfl, Or.inl rfl⟩
theorem kp_X11_135 : am_flp RX11 135 2 3 .boolean := ⟨RX4, TX4, 7, "LoadsUnseen$Line", tyX4, rfl, by decide, iw_X4, am_in 97 (by decide +kernel) rfl, Or.inl rfl, tyX4_ok, nmX4, rfl, by decide +kernel⟩
theorem kf_X7_79 : am_fl RX7 79 2 3 := ⟨RX4, TX4, 7, "LoadsUnseen$Line", rfl, by decide, iw_X4, am_in 98 (by decide +kernel) rfl, Or.inl rfl⟩
theorem kp_X7_79 : am_flp RX7 79 2 3 .boolean := ⟨RX4, TX4, 7, "LoadsUnseen$Line", tyX4, rfl, by decide, iw_X4, am_in 98 (by decide +kernel) rfl, Or.inl rfl, tyX4_ok, nmX4, rfl, by decide +kernel⟩
theorem kf_X4_25 : am_fl RX4 25 2 4 := ⟨RX4, TX4, 7, "LoadsUnseen$Line", rfl, by decide, iw_X4, am_in 99 (by decide +kernel) rfl, Or.inl rfl⟩
theorem kp_X4_25 : am_flp RX4 25 2 4 .int := ⟨RX4, TX4, 7, "LoadsUnseen$Line", tyX4, rfl, by decide, iw_X4, am_in 99 (by decide +kernel) rfl, Or.inl rfl, tyX4_ok, nmX4, rfl, by decide +kernel⟩
theorem kf_X11_141 : am_fl RX11 141 2 4 := ⟨RX4, TX4, 7, "LoadsUnseen$Line", rfl, by decide, iw_X4, am_in 100 (by decide +kernel) rfl, Or.inl rfl⟩
theorem kp_X11_141 : am_flp RX11 141 2 4 .int := ⟨RX4, TX4, 7, "LoadsUnseen$Line", tyX4, rfl, by decide, iw_X4, am_in 100 (by decide +kernel) rfl, Or.inl rfl, tyX4_ok, nmX4, rfl, by decide +kernel⟩
theorem kf_X4_28 : am_fl RX4 28 2 5 := ⟨RX4, TX4, 7, "LoadsUnseen$Line", rfl, by decide, iw_X4, am_in 101 (by decide +kernel) rfl, Or.inl rfl⟩
theorem kp_X4_28 : am_flp RX4 28 2 5 .int := ⟨RX4, TX4, 7, "LoadsUnseen$Line", tyX4, rfl, by decide, iw_X4, am_in 101 (by decide +kernel) rfl, Or.inl rfl, tyX4_ok, nmX4, rfl, by decide +kernel⟩
theorem kf_X8_76 : am_fl RX8 76 2 5 := ⟨RX4, TX4, 7, "LoadsUnseen$Line", rfl, by decide, iw_X4, am_in 102 (by decide +kernel) rfl, Or.inl rfl⟩
theorem kp_X8_76 : am_flp RX8 76 2 5 .int := ⟨RX4, TX4, 7, "LoadsUnseen$Line", tyX4, rfl, by decide, iw_X4, am_in 102 (by decide +kernel) rfl, Or.inl rfl, tyX4_ok, nmX4, rfl, by decide +kernel⟩
theorem kf_X11_138 : am_fl RX11 138 2 5 := ⟨RX4, TX4, 7, "LoadsUnseen$Line", rfl, by decide, iw_X4, am_in 103 (by decide +kernel) rfl, Or.inl rfl⟩
theorem kp_X11_138 : am_flp RX11 138 2 5 .int := ⟨RX4, TX4, 7, "LoadsUnseen$Line", tyX4, rfl, by decide, iw_X4, am_in 103 (by decide +kernel) rfl, Or.inl rfl, tyX4_ok, nmX4, rfl, by decide +kernel⟩
theorem kf_X5_42 : am_fl RX5 42 2 5 := ⟨RX4, TX4, 7, "LoadsUnseen$Line", rfl, by decide, iw_X4, am_in 104 (by decide +kernel) rfl, Or.inl rfl⟩
theorem kp_X5_42 : am_flp RX5 42 2 5 .int := ⟨RX4, TX4, 7, "LoadsUnseen$Line", tyX4, rfl, by decide, iw_X4, am_in 104 (by decide +kernel) rfl, Or.inl rfl, tyX4_ok, nmX4, rfl, by decide +kernel⟩
theorem kf_X4_31 : am_fl RX4 31 2 6 := ⟨RX4, TX4, 7, "LoadsUnseen$Line", rfl, by decide, iw_X4, am_in 105 (by decide +kernel) rfl, Or.inl rfl⟩
theorem kf_X11_165 : am_fl RX11 165 2 6 := ⟨RX4, TX4, 7, "LoadsUnseen$Line", rfl, by decide, iw_X4, am_in 106 (by decide +kernel) rfl, Or.inl rfl⟩
theorem kf_X5_9 : am_fl RX5 9 3 0 := ⟨RX5, TX5, 5, "LoadsUnseen$Net", rfl, by decide, iw_X5, am_in 126 (by decide +kernel) rfl, Or.inl rfl⟩
theorem kp_X5_9 : am_flp RX5 9 3 0 .int := ⟨RX5, TX5, 5, "LoadsUnseen$Net", tyX5, rfl, by decide, iw_X5, am_in 126 (by decide +kernel) rfl, Or.inl rfl, tyX5_ok, nmX5, rfl, by decide +kernel⟩
theorem kf_X7_25 : am_fl RX7 25 3 0 := ⟨RX5, TX5, 5, "LoadsUnseen$Net", rfl, by decide, iw_X5, am_in 127 (by decide +kernel) rfl, Or.inl rfl⟩
theorem kp_X7_25 : am_flp RX7 25 3 0 .int := ⟨RX5, TX5, 5, "LoadsUnseen$Net", tyX5, rfl, by decide, iw_X5, am_in 127 (by decide +kernel) rfl, Or.inl rfl, tyX5_ok, nmX5, rfl, by decide +kernel⟩
theorem kf_X11_293 : am_fl RX11 293 3 0 := ⟨RX5, TX5, 5, "LoadsUnseen$Net", rfl, by decide, iw_X5, am_in 128 (by decide +kernel) rfl, Or.inl rfl⟩
theorem kp_X11_293 : am_flp RX11 293 3 0 .int := ⟨RX5, TX5, 5, "LoadsUnseen$Net", tyX5, rfl, by decide, iw_X5, am_in 128 (by decide +kernel) rfl, Or.inl rfl, tyX5_ok, nmX5, rfl, by decide +kernel⟩
theorem kf_X5_15 : am_fl RX5 15 3 1 := ⟨RX5, TX5, 5, "LoadsUnseen$Net", rfl, by decide, iw_X5, am_in 129 (by decide +kernel) rfl, Or.inl rfl⟩
theorem kp_X5_15 : am_flp RX5 15 3 1 .int := ⟨RX5, TX5, 5, "LoadsUnseen$Net", tyX5, rfl, by decide, iw_X5, am_in 129 (by decide +kernel) rfl, Or.inl rfl, tyX5_ok, nmX5, rfl, by decide +kernel⟩
theorem kf_X8_69 : am_fl RX8 69 3 1 := ⟨RX5, TX5, 5, "LoadsUnseen$Net", rfl, by decide, iw_X5, am_in 130 (by decide +kernel) rfl, Or.inl rfl⟩
theorem kp_X8_69 : am_flp RX8 69 3 1 .int := ⟨RX5, TX5, 5, "LoadsUnseen$Net", tyX5, rfl, by decide, iw_X5, am_in 130 (by decide +kernel) rfl, Or.inl rfl, tyX5_ok, nmX5, rfl, by decide +kernel⟩
theorem kf_X11_109 : am_fl RX11 109 3 1 := ⟨RX5, TX5, 5, "LoadsUnseen$Net", rfl, by decide, iw_X5, am_in 131 (by decide +kernel) rfl, Or.inl rfl⟩
theorem kp_X11_109 : am_flp RX11 109 3 1 .int := ⟨RX5, TX5, 5, "LoadsUnseen$Net", tyX5, rfl, by decide, iw_X5, am_in 131 (by decide +kernel) rfl, Or.inl rfl, tyX5_ok, nmX5, rfl, by decide +kernel⟩
theorem kf_X7_55 : am_fl RX7 55 3 1 := ⟨RX5, TX5, 5, "LoadsUnseen$Net", rfl, by decide, iw_X5, am_in 132 (by decide +kernel) rfl, Or.inl rfl⟩
theorem kp_X7_55 : am_flp RX7 55 3 1 .int := ⟨RX5, TX5, 5, "LoadsUnseen$Net", tyX5, rfl, by decide, iw_X5, am_in 132 (by decide +kernel) rfl, Or.inl rfl, tyX5_ok, nmX5, rfl, by decide +kernel⟩
theorem kf_X5_20 : am_fl RX5 20 3 2 := ⟨RX5, TX5, 5, "LoadsUnseen$Net", rfl, by decide, iw_X5, am_in 133 (by decide +kernel) rfl, Or.inl rfl⟩
theorem kf_X8_72 : am_fl RX8 72 3 2 := ⟨RX5, TX5, 5, "LoadsUnseen$Net", rfl, by decide, iw_X5, am_in 134 (by decide +kernel) rfl, Or.inl rfl⟩
theorem kf_X11_120 : am_fl RX11 120 3 2 := ⟨RX5, TX5, 5, "LoadsUnseen$Net", rfl, by decide, iw_X5, am_in 135 (by decide +kernel) rfl, Or.inl rfl⟩
theorem kf_X7_62 : am_fl RX7 62 3 2 := ⟨RX5, TX5, 5, "LoadsUnseen$Net", rfl, by decide, iw_X5, am_in 136 (by decide +kernel) rfl, Or.inl rfl⟩
theorem kf_X5_24 : am_fl RX5 24 3 3 := ⟨RX5, TX5, 5, "LoadsUnseen$Net", rfl, by decide, iw_X5, am_in 137 (by decide +kernel) rfl, Or.inl rfl⟩
theorem kf_X8_58 : am_fl RX8 58 3 3 := ⟨RX5, TX5, 5, "LoadsUnseen$Net", rfl, by decide, iw_X5, am_in 138 (by decide +kernel) rfl, Or.inl rfl⟩
theorem kf_X11_194 : am_fl RX11 194 3 3 := ⟨RX5, TX5, 5, "LoadsUnseen$Net", rfl, by decide, iw_X5, am_in 139 (by decide +kernel) rfl, Or.inl rfl⟩
theorem kf_X5_28 : am_fl RX5 28 3 4 := ⟨RX5, TX5, 5, "LoadsUnseen$Net", rfl, by decide, iw_X5, am_in 140 (by decide +kernel) rfl, Or.inl rfl⟩
theorem kf_X11_51 : am_fl RX11 51 3 4 := ⟨RX5, TX5, 5, "LoadsUnseen$Net", rfl, by decide, iw_X5, am_in 141 (by decide +kernel) rfl, Or.inl rfl⟩
theorem kf_X7_9 : am_fl RX7 9 5 0 := ⟨RX7, TX7, 4, "LoadsUnseen$Routes", rfl, by decide, iw_X7, am_in 159 (by decide +kernel) rfl, Or.inl rfl⟩
theorem kp_X7_9 : am_flp RX7 9 5 0 .int := ⟨RX7, TX7, 4, "LoadsUnseen$Routes", tyX7, rfl, by decide, iw_X7, am_in 159 (by decide +kernel) rfl, Or.inl rfl, tyX7_ok, nmX7, rfl, by decide +kernel⟩
theorem kf_X3_18 : am_fl RX3 18 5 0 := ⟨RX7, TX7, 4, "LoadsUnseen$Routes", rfl, by decide, iw_X7, am_in 160 (by decide +kernel) rfl, Or.inl rfl⟩
theorem kp_X3_18 : am_flp RX3 18 5 0 .int := ⟨RX7, TX7, 4, "LoadsUnseen$Routes", tyX7, rfl, by decide, iw_X7, am_in 160 (by decide +kernel) rfl, Or.inl rfl, tyX7_ok, nmX7, rfl, by decide +kernel⟩
theorem kf_X8_81 : am_fl RX8 81 5 0 := ⟨RX7, TX7, 4, "LoadsUnseen$Routes", rfl, by decide, iw_X7, am_in 161 (by decide +kernel) rfl, Or.inl rfl⟩
theorem kp_X8_81 : am_flp RX8 81 5 0 .int := ⟨RX7, TX7, 4, "LoadsUnseen$Routes", tyX7, rfl, by decide, iw_X7, am_in 161 (by decide +kernel) rfl, Or.inl rfl, tyX7_ok, nmX7, rfl, by decide +kernel⟩
theorem kf_X11_330 : am_fl RX11 330 5 0 := ⟨RX7, TX7, 4, "LoadsUnseen$Routes", rfl, by decide, iw_X7, am_in 162 (by decide +kernel) rfl, Or.inl rfl⟩
theorem kp_X11_330 : am_flp RX11 330 5 0 .int := ⟨RX7, TX7, 4, "LoadsUnseen$Routes", tyX7, rfl, by decide, iw_X7, am_in 162 (by decide +kernel) rfl, Or.inl rfl, tyX7_ok, nmX7, rfl, by decide +kernel⟩
theorem kf_X7_15 : am_fl RX7 15 5 1 := ⟨RX7, TX7, 4, "LoadsUnseen$Routes", rfl, by decide, iw_X7, am_in 163 (by decide +kernel) rfl, Or.inl rfl⟩
theorem kf_X8_132 : am_fl RX8 132 5 1 := ⟨RX7, TX7, 4, "LoadsUnseen$Routes", rfl, by decide, iw_X7, am_in 164 (by decide +kernel) rfl, Or.inl rfl⟩
theorem kf_X11_185 : am_fl RX11 185 5 1 := ⟨RX7, TX7, 4, "LoadsUnseen$Routes", rfl, by decide, iw_X7, am_in 165 (by decide +kernel) rfl, Or.inl rfl⟩
theorem kf_X7_19 : am_fl RX7 19 5 2 := ⟨RX7, TX7, 4, "LoadsUnseen$Routes", rfl, by decide, iw_X7, am_in 166 (by decide +kernel) rfl, Or.inl rfl⟩
theorem kf_X7_22 : am_fl RX7 22 5 3 := ⟨RX7, TX7, 4, "LoadsUnseen$Routes", rfl, by decide, iw_X7, am_in 167 (by decide +kernel) rfl, Or.inl rfl⟩
theorem kf_X8_44 : am_fl RX8 44 6 0 := ⟨RX8, TX8, 12, "LoadsUnseen$Seeker", rfl, by decide, iw_X8, am_in 183 (by decide +kernel) rfl, Or.inl rfl⟩
theorem kf_X8_48 : am_fl RX8 48 6 1 := ⟨RX8, TX8, 12, "LoadsUnseen$Seeker", rfl, by decide, iw_X8, am_in 184 (by decide +kernel) rfl, Or.inl rfl⟩
theorem kf_X8_9 : am_fl RX8 9 6 2 := ⟨RX8, TX8, 12, "LoadsUnseen$Seeker", rfl, by decide, iw_X8, am_in 185 (by decide +kernel) rfl, Or.inl rfl⟩
theorem kf_X8_15 : am_fl RX8 15 6 3 := ⟨RX8, TX8, 12, "LoadsUnseen$Seeker", rfl, by decide, iw_X8, am_in 186 (by decide +kernel) rfl, Or.inl rfl⟩
theorem kf_X8_18 : am_fl RX8 18 6 4 := ⟨RX8, TX8, 12, "LoadsUnseen$Seeker", rfl, by decide, iw_X8, am_in 187 (by decide +kernel) rfl, Or.inl rfl⟩
theorem kf_X8_21 : am_fl RX8 21 6 5 := ⟨RX8, TX8, 12, "LoadsUnseen$Seeker", rfl, by decide, iw_X8, am_in 188 (by decide +kernel) rfl, Or.inl rfl⟩
theorem kf_X8_24 : am_fl RX8 24 6 6 := ⟨RX8, TX8, 12, "LoadsUnseen$Seeker", rfl, by decide, iw_X8, am_in 189 (by decide +kernel) rfl, Or.inl rfl⟩
theorem kf_X8_27 : am_fl RX8 27 6 7 := ⟨RX8, TX8, 12, "LoadsUnseen$Seeker", rfl, by decide, iw_X8, am_in 190 (by decide +kernel) rfl, Or.inl rfl⟩
theorem kf_X8_30 : am_fl RX8 30 6 8 := ⟨RX8, TX8, 12, "LoadsUnseen$Seeker", rfl, by decide, iw_X8, am_in 191 (by decide +kernel) rfl, Or.inl rfl⟩
theorem kp_X8_30 : am_flp RX8 30 6 8 .int := ⟨RX8, TX8, 12, "LoadsUnseen$Seeker", tyX8, rfl, by decide, iw_X8, am_in 191 (by decide +kernel) rfl, Or.inl rfl, tyX8_ok, nmX8, rfl, by decide +kernel⟩
theorem kf_X8_34 : am_fl RX8 34 6 9 := ⟨RX8, TX8, 12, "LoadsUnseen$Seeker", rfl, by decide, iw_X8, am_in 192 (by decide +kernel) rfl, Or.inl rfl⟩
theorem kp_X8_34 : am_flp RX8 34 6 9 .int := ⟨RX8, TX8, 12, "LoadsUnseen$Seeker", tyX8, rfl, by decide, iw_X8, am_in 192 (by decide +kernel) rfl, Or.inl rfl, tyX8_ok, nmX8, rfl, by decide +kernel⟩
theorem kf_X8_37 : am_fl RX8 37 6 10 := ⟨RX8, TX8, 12, "LoadsUnseen$Seeker", rfl, by decide, iw_X8, am_in 193 (by decide +kernel) rfl, Or.inl rfl⟩
theorem kp_X8_37 : am_flp RX8 37 6 10 .int := ⟨RX8, TX8, 12, "LoadsUnseen$Seeker", tyX8, rfl, by decide, iw_X8, am_in 193 (by decide +kernel) rfl, Or.inl rfl, tyX8_ok, nmX8, rfl, by decide +kernel⟩
theorem kf_X11_258 : am_fl RX11 258 6 10 := ⟨RX8, TX8, 12, "LoadsUnseen$Seeker", rfl, by decide, iw_X8, am_in 194 (by decide +kernel) rfl, Or.inl rfl⟩
theorem kp_X11_258 : am_flp RX11 258 6 10 .int := ⟨RX8, TX8, 12, "LoadsUnseen$Seeker", tyX8, rfl, by decide, iw_X8, am_in 194 (by decide +kernel) rfl, Or.inl rfl, tyX8_ok, nmX8, rfl, by decide +kernel⟩
theorem kf_X8_40 : am_fl RX8 40 6 11 := ⟨RX8, TX8, 12, "LoadsUnseen$Seeker", rfl, by decide, iw_X8, am_in 195 (by decide +kernel) rfl, Or.inl rfl⟩
theorem kp_X8_40 : am_flp RX8 40 6 11 .boolean := ⟨RX8, TX8, 12, "LoadsUnseen$Seeker", tyX8, rfl, by decide, iw_X8, am_in 195 (by decide +kernel) rfl, Or.inl rfl, tyX8_ok, nmX8, rfl, by decide +kernel⟩
theorem kf_X11_261 : am_fl RX11 261 6 11 := ⟨RX8, TX8, 12, "LoadsUnseen$Seeker", rfl, by decide, iw_X8, am_in 196 (by decide +kernel) rfl, Or.inl rfl⟩
theorem kp_X11_261 : am_flp RX11 261 6 11 .boolean := ⟨RX8, TX8, 12, "LoadsUnseen$Seeker", tyX8, rfl, by decide, iw_X8, am_in 196 (by decide +kernel) rfl, Or.inl rfl, tyX8_ok, nmX8, rfl, by decide +kernel⟩
theorem kf_X10_9 : am_fl RX10 9 8 0 := ⟨RX10, TX10, 3, "LoadsUnseen$Tally", rfl, by decide, iw_X10, am_in 231 (by decide +kernel) rfl, Or.inl rfl⟩
theorem kf_X8_102 : am_fl RX8 102 8 0 := ⟨RX10, TX10, 3, "LoadsUnseen$Tally", rfl, by decide, iw_X10, am_in 232 (by decide +kernel) rfl, Or.inl rfl⟩
theorem kf_X11_208 : am_fl RX11 208 8 0 := ⟨RX10, TX10, 3, "LoadsUnseen$Tally", rfl, by decide, iw_X10, am_in 233 (by decide +kernel) rfl, Or.inl rfl⟩
theorem kf_X10_15 : am_fl RX10 15 8 1 := ⟨RX10, TX10, 3, "LoadsUnseen$Tally", rfl, by decide, iw_X10, am_in 234 (by decide +kernel) rfl, Or.inl rfl⟩
theorem kp_X10_15 : am_flp RX10 15 8 1 .int := ⟨RX10, TX10, 3, "LoadsUnseen$Tally", tyX10, rfl, by decide, iw_X10, am_in 234 (by decide +kernel) rfl, Or.inl rfl, tyX10_ok, nmX10, rfl, by decide +kernel⟩
theorem kf_X8_118 : am_fl RX8 118 8 1 := ⟨RX10, TX10, 3, "LoadsUnseen$Tally", rfl, by decide, iw_X10, am_in 235 (by decide +kernel) rfl, Or.inl rfl⟩
theorem kp_X8_118 : am_flp RX8 118 8 1 .int := ⟨RX10, TX10, 3, "LoadsUnseen$Tally", tyX10, rfl, by decide, iw_X10, am_in 235 (by decide +kernel) rfl, Or.inl rfl, tyX10_ok, nmX10, rfl, by decide +kernel⟩
theorem kf_X11_205 : am_fl RX11 205 8 1 := ⟨RX10, TX10, 3, "LoadsUnseen$Tally", rfl, by decide, iw_X10, am_in 236 (by decide +kernel) rfl, Or.inl rfl⟩
theorem kp_X11_205 : am_flp RX11 205 8 1 .int := ⟨RX10, TX10, 3, "LoadsUnseen$Tally", tyX10, rfl, by decide, iw_X10, am_in 236 (by decide +kernel) rfl, Or.inl rfl, tyX10_ok, nmX10, rfl, by decide +kernel⟩
theorem kf_X10_19 : am_fl RX10 19 8 2 := ⟨RX10, TX10, 3, "LoadsUnseen$Tally", rfl, by decide, iw_X10, am_in 237 (by decide +kernel) rfl, Or.inl rfl⟩
theorem kp_X10_19 : am_flp RX10 19 8 2 .int := ⟨RX10, TX10, 3, "LoadsUnseen$Tally", tyX10, rfl, by decide, iw_X10, am_in 237 (by decide +kernel) rfl, Or.inl rfl, tyX10_ok, nmX10, rfl, by decide +kernel⟩
theorem kf_X6_9 : am_fl RX6 9 4 0 := ⟨RX6, TX6, 3, "LoadsUnseen$Range", rfl, by decide, iw_X6, am_in 251 (by decide +kernel) rfl, Or.inl rfl⟩
theorem kf_X11_224 : am_fl RX11 224 4 0 := ⟨RX6, TX6, 3, "LoadsUnseen$Range", rfl, by decide, iw_X6, am_in 252 (by decide +kernel) rfl, Or.inl rfl⟩
theorem kf_X6_15 : am_fl RX6 15 4 1 := ⟨RX6, TX6, 3, "LoadsUnseen$Range", rfl, by decide, iw_X6, am_in 253 (by decide +kernel) rfl, Or.inl rfl⟩
theorem kf_X11_222 : am_fl RX11 222 4 1 := ⟨RX6, TX6, 3, "LoadsUnseen$Range", rfl, by decide, iw_X6, am_in 254 (by decide +kernel) rfl, Or.inl rfl⟩
theorem kf_X6_18 : am_fl RX6 18 4 2 := ⟨RX6, TX6, 3, "LoadsUnseen$Range", rfl, by decide, iw_X6, am_in 255 (by decide +kernel) rfl, Or.inl rfl⟩
theorem kp_X6_18 : am_flp RX6 18 4 2 .boolean := ⟨RX6, TX6, 3, "LoadsUnseen$Range", tyX6, rfl, by decide, iw_X6, am_in 255 (by decide +kernel) rfl, Or.inl rfl, tyX6_ok, nmX6, rfl, by decide +kernel⟩
theorem kf_X11_219 : am_fl RX11 219 4 2 := ⟨RX6, TX6, 3, "LoadsUnseen$Range", rfl, by decide, iw_X6, am_in 256 (by decide +kernel) rfl, Or.inl rfl⟩
theorem kp_X11_219 : am_flp RX11 219 4 2 .boolean := ⟨RX6, TX6, 3, "LoadsUnseen$Range", tyX6, rfl, by decide, iw_X6, am_in 256 (by decide +kernel) rfl, Or.inl rfl, tyX6_ok, nmX6, rfl, by decide +kernel⟩
theorem kf_X1_9 : am_fl RX1 9 0 3 := ⟨RX1, TX1, 4, "LoadsUnseen$Fewest", rfl, by decide, iw_X1, am_in 273 (by decide +kernel) rfl, Or.inl rfl⟩
theorem kf_X0_9_c0 : am_fl RX0 9 0 0 := ⟨RX1, TX1, 4, "LoadsUnseen$Best", rfl, by decide, iw_X1, am_in 274 (by decide +kernel) rfl, Or.inl rfl⟩
theorem kf_X0_9_c1 : am_fl RX0 9 1 0 := ⟨RX3, TX3, 4, "LoadsUnseen$Best", rfl, by decide, iw_X3, am_in 274 (by decide +kernel) rfl, Or.inl rfl⟩
theorem kf_X11_327_c0 : am_fl RX11 327 0 0 := ⟨RX1, TX1, 4, "LoadsUnseen$Best", rfl, by decide, iw_X1, am_in 275 (by decide +kernel) rfl, Or.inl rfl⟩
theorem kf_X11_327_c1 : am_fl RX11 327 1 0 := ⟨RX3, TX3, 4, "LoadsUnseen$Best", rfl, by decide, iw_X3, am_in 275 (by decide +kernel) rfl, Or.inl rfl⟩
theorem kf_X0_15_c0 : am_fl RX0 15 0 1 := ⟨RX1, TX1, 4, "LoadsUnseen$Best", rfl, by decide, iw_X1, am_in 276 (by decide +kernel) rfl, Or.inl rfl⟩
theorem kp_X0_15_c0 : am_flp RX0 15 0 1 .boolean := ⟨RX1, TX1, 4, "LoadsUnseen$Best", tyX1, rfl, by decide, iw_X1, am_in 276 (by decide +kernel) rfl, Or.inl rfl, tyX1_ok, nmX1, rfl, by decide +kernel⟩
theorem kf_X0_15_c1 : am_fl RX0 15 1 1 := ⟨RX3, TX3, 4, "LoadsUnseen$Best", rfl, by decide, iw_X3, am_in 276 (by decide +kernel) rfl, Or.inl rfl⟩
theorem kp_X0_15_c1 : am_flp RX0 15 1 1 .boolean := ⟨RX3, TX3, 4, "LoadsUnseen$Best", tyX3, rfl, by decide, iw_X3, am_in 276 (by decide +kernel) rfl, Or.inl rfl, tyX3_ok, nmX3, rfl, by decide +kernel⟩
theorem kf_X11_244 : am_fl RX11 244 0 1 := ⟨RX1, TX1, 4, "LoadsUnseen$Fewest", rfl, by decide, iw_X1, am_in 277 (by decide +kernel) rfl, Or.inr (am_in 278 (by decide +kernel) rfl)⟩
theorem kp_X11_244 : am_flp RX11 244 0 1 .boolean := ⟨RX1, TX1, 4, "LoadsUnseen$Fewest", tyX1, rfl, by decide, iw_X1, am_in 277 (by decide +kernel) rfl, Or.inr (am_in 278 (by decide +kernel) rfl), tyX1_ok, nmX1, rfl, by decide +kernel⟩
theorem kf_X11_252 : am_fl RX11 252 1 1 := ⟨RX3, TX3, 4, "LoadsUnseen$Heaviest", rfl, by decide, iw_X3, am_in 279 (by decide +kernel) rfl, Or.inr (am_in 280 (by decide +kernel) rfl)⟩
theorem kp_X11_252 : am_flp RX11 252 1 1 .boolean := ⟨RX3, TX3, 4, "LoadsUnseen$Heaviest", tyX3, rfl, by decide, iw_X3, am_in 279 (by decide +kernel) rfl, Or.inr (am_in 280 (by decide +kernel) rfl), tyX3_ok, nmX3, rfl, by decide +kernel⟩
theorem kf_X11_324_c0 : am_fl RX11 324 0 1 := ⟨RX1, TX1, 4, "LoadsUnseen$Best", rfl, by decide, iw_X1, am_in 281 (by decide +kernel) rfl, Or.inl rfl⟩
theorem kp_X11_324_c0 : am_flp RX11 324 0 1 .boolean := ⟨RX1, TX1, 4, "LoadsUnseen$Best", tyX1, rfl, by decide, iw_X1, am_in 281 (by decide +kernel) rfl, Or.inl rfl, tyX1_ok, nmX1, rfl, by decide +kernel⟩
theorem kf_X11_324_c1 : am_fl RX11 324 1 1 := ⟨RX3, TX3, 4, "LoadsUnseen$Best", rfl, by decide, iw_X3, am_in 281 (by decide +kernel) rfl, Or.inl rfl⟩
theorem kp_X11_324_c1 : am_flp RX11 324 1 1 .boolean := ⟨RX3, TX3, 4, "LoadsUnseen$Best", tyX3, rfl, by decide, iw_X3, am_in 281 (by decide +kernel) rfl, Or.inl rfl, tyX3_ok, nmX3, rfl, by decide +kernel⟩
theorem kf_X0_19_c0 : am_fl RX0 19 0 2 := ⟨RX1, TX1, 4, "LoadsUnseen$Best", rfl, by decide, iw_X1, am_in 282 (by decide +kernel) rfl, Or.inl rfl⟩
theorem kp_X0_19_c0 : am_flp RX0 19 0 2 .int := ⟨RX1, TX1, 4, "LoadsUnseen$Best", tyX1, rfl, by decide, iw_X1, am_in 282 (by decide +kernel) rfl, Or.inl rfl, tyX1_ok, nmX1, rfl, by decide +kernel⟩
theorem kf_X0_19_c1 : am_fl RX0 19 1 2 := ⟨RX3, TX3, 4, "LoadsUnseen$Best", rfl, by decide, iw_X3, am_in 282 (by decide +kernel) rfl, Or.inl rfl⟩
theorem kp_X0_19_c1 : am_flp RX0 19 1 2 .int := ⟨RX3, TX3, 4, "LoadsUnseen$Best", tyX3, rfl, by decide, iw_X3, am_in 282 (by decide +kernel) rfl, Or.inl rfl, tyX3_ok, nmX3, rfl, by decide +kernel⟩
theorem kf_X11_245 : am_fl RX11 245 0 2 := ⟨RX1, TX1, 4, "LoadsUnseen$Fewest", rfl, by decide, iw_X1, am_in 283 (by decide +kernel) rfl, Or.inr (am_in 284 (by decide +kernel) rfl)⟩
theorem kp_X11_245 : am_flp RX11 245 0 2 .int := ⟨RX1, TX1, 4, "LoadsUnseen$Fewest", tyX1, rfl, by decide, iw_X1, am_in 283 (by decide +kernel) rfl, Or.inr (am_in 284 (by decide +kernel) rfl), tyX1_ok, nmX1, rfl, by decide +kernel⟩
theorem kf_X11_253 : am_fl RX11 253 1 2 := ⟨RX3, TX3, 4, "LoadsUnseen$Heaviest", rfl, by decide, iw_X3, am_in 285 (by decide +kernel) rfl, Or.inr (am_in 286 (by decide +kernel) rfl)⟩
theorem kp_X11_253 : am_flp RX11 253 1 2 .int := ⟨RX3, TX3, 4, "LoadsUnseen$Heaviest", tyX3, rfl, by decide, iw_X3, am_in 285 (by decide +kernel) rfl, Or.inr (am_in 286 (by decide +kernel) rfl), tyX3_ok, nmX3, rfl, by decide +kernel⟩
theorem kf_X3_9 : am_fl RX3 9 1 3 := ⟨RX3, TX3, 4, "LoadsUnseen$Heaviest", rfl, by decide, iw_X3, am_in 302 (by decide +kernel) rfl, Or.inl rfl⟩
theorem kf_X9_11 : am_fl RX9 11 7 0 := ⟨RX9, TX9, 2, "LoadsUnseen$Sheets", rfl, by decide, iw_X9, am_in 319 (by decide +kernel) rfl, Or.inl rfl⟩
theorem kf_X11_279 : am_fl RX11 279 7 0 := ⟨RX9, TX9, 2, "LoadsUnseen$Sheets", rfl, by decide, iw_X9, am_in 320 (by decide +kernel) rfl, Or.inl rfl⟩
theorem kf_X9_16 : am_fl RX9 16 7 1 := ⟨RX9, TX9, 2, "LoadsUnseen$Sheets", rfl, by decide, iw_X9, am_in 321 (by decide +kernel) rfl, Or.inl rfl⟩
theorem kf_X11_276 : am_fl RX11 276 7 1 := ⟨RX9, TX9, 2, "LoadsUnseen$Sheets", rfl, by decide, iw_X9, am_in 322 (by decide +kernel) rfl, Or.inl rfl⟩
theorem kf_X11_10 : am_fl RX11 10 9 0 := ⟨RX11, TX11, 15, "LoadsUnseen", rfl, by decide, iw_X11, am_in 352 (by decide +kernel) rfl, Or.inl rfl⟩
theorem kf_X11_19 : am_fl RX11 19 9 1 := ⟨RX11, TX11, 15, "LoadsUnseen", rfl, by decide, iw_X11, am_in 353 (by decide +kernel) rfl, Or.inl rfl⟩
theorem kf_X11_23 : am_fl RX11 23 9 2 := ⟨RX11, TX11, 15, "LoadsUnseen", rfl, by decide, iw_X11, am_in 354 (by decide +kernel) rfl, Or.inl rfl⟩
theorem kf_X11_31 : am_fl RX11 31 9 3 := ⟨RX11, TX11, 15, "LoadsUnseen", rfl, by decide, iw_X11, am_in 355 (by decide +kernel) rfl, Or.inl rfl⟩
theorem kf_X11_38 : am_fl RX11 38 9 4 := ⟨RX11, TX11, 15, "LoadsUnseen", rfl, by decide, iw_X11, am_in 356 (by decide +kernel) rfl, Or.inl rfl⟩
theorem kf_X11_45 : am_fl RX11 45 9 5 := ⟨RX11, TX11, 15, "LoadsUnseen", rfl, by decide, iw_X11, am_in 357 (by decide +kernel) rfl, Or.inl rfl⟩
theorem kf_X11_58 : am_fl RX11 58 9 6 := ⟨RX11, TX11, 15, "LoadsUnseen", rfl, by decide, iw_X11, am_in 358 (by decide +kernel) rfl, Or.inl rfl⟩
theorem kf_X11_65 : am_fl RX11 65 9 7 := ⟨RX11, TX11, 15, "LoadsUnseen", rfl, by decide, iw_X11, am_in 359 (by decide +kernel) rfl, Or.inl rfl⟩
theorem kf_X11_72 : am_fl RX11 72 9 8 := ⟨RX11, TX11, 15, "LoadsUnseen", rfl, by decide, iw_X11, am_in 360 (by decide +kernel) rfl, Or.inl rfl⟩
theorem kf_X11_76 : am_fl RX11 76 9 9 := ⟨RX11, TX11, 15, "LoadsUnseen", rfl, by decide, iw_X11, am_in 361 (by decide +kernel) rfl, Or.inl rfl⟩
theorem kf_X11_79 : am_fl RX11 79 9 10 := ⟨RX11, TX11, 15, "LoadsUnseen", rfl, by decide, iw_X11, am_in 362 (by decide +kernel) rfl, Or.inl rfl⟩
theorem kp_X11_79 : am_flp RX11 79 9 10 .boolean := ⟨RX11, TX11, 15, "LoadsUnseen", tyX11, rfl, by decide, iw_X11, am_in 362 (by decide +kernel) rfl, Or.inl rfl, tyX11_ok, nmX11, rfl, by decide +kernel⟩
theorem kf_X11_83 : am_fl RX11 83 9 11 := ⟨RX11, TX11, 15, "LoadsUnseen", rfl, by decide, iw_X11, am_in 363 (by decide +kernel) rfl, Or.inl rfl⟩
theorem kp_X11_83 : am_flp RX11 83 9 11 .int := ⟨RX11, TX11, 15, "LoadsUnseen", tyX11, rfl, by decide, iw_X11, am_in 363 (by decide +kernel) rfl, Or.inl rfl, tyX11_ok, nmX11, rfl, by decide +kernel⟩
theorem kf_X11_87 : am_fl RX11 87 9 12 := ⟨RX11, TX11, 15, "LoadsUnseen", rfl, by decide, iw_X11, am_in 364 (by decide +kernel) rfl, Or.inl rfl⟩
theorem kp_X11_87 : am_flp RX11 87 9 12 .long := ⟨RX11, TX11, 15, "LoadsUnseen", tyX11, rfl, by decide, iw_X11, am_in 364 (by decide +kernel) rfl, Or.inl rfl, tyX11_ok, nmX11, rfl, by decide +kernel⟩
theorem kf_X11_91 : am_fl RX11 91 9 13 := ⟨RX11, TX11, 15, "LoadsUnseen", rfl, by decide, iw_X11, am_in 365 (by decide +kernel) rfl, Or.inl rfl⟩
theorem kp_X11_91 : am_flp RX11 91 9 13 .int := ⟨RX11, TX11, 15, "LoadsUnseen", tyX11, rfl, by decide, iw_X11, am_in 365 (by decide +kernel) rfl, Or.inl rfl, tyX11_ok, nmX11, rfl, by decide +kernel⟩
theorem kf_X11_94 : am_fl RX11 94 9 14 := ⟨RX11, TX11, 15, "LoadsUnseen", rfl, by decide, iw_X11, am_in 366 (by decide +kernel) rfl, Or.inl rfl⟩
theorem kf_X12_108 : am_fl RX12 108 10 0 := ⟨RX12, TX12, 41, "LoadsUnseenModel", rfl, by decide, iw_X12, am_in 827 (by decide +kernel) rfl, Or.inl rfl⟩
theorem kp_X12_108 : am_flp RX12 108 10 0 .int := ⟨RX12, TX12, 41, "LoadsUnseenModel", tyX12, rfl, by decide, iw_X12, am_in 827 (by decide +kernel) rfl, Or.inl rfl, tyX12_ok, nmX12, rfl, by decide +kernel⟩
theorem kf_X12_7 : am_fl RX12 7 10 1 := ⟨RX12, TX12, 41, "LoadsUnseenModel", rfl, by decide, iw_X12, am_in 828 (by decide +kernel) rfl, Or.inl rfl⟩
theorem kf_X12_111 : am_fl RX12 111 10 2 := ⟨RX12, TX12, 41, "LoadsUnseenModel", rfl, by decide, iw_X12, am_in 829 (by decide +kernel) rfl, Or.inl rfl⟩
theorem kp_X12_111 : am_flp RX12 111 10 2 .long := ⟨RX12, TX12, 41, "LoadsUnseenModel", tyX12, rfl, by decide, iw_X12, am_in 829 (by decide +kernel) rfl, Or.inl rfl, tyX12_ok, nmX12, rfl, by decide +kernel⟩
theorem kf_X12_13 : am_fl RX12 13 10 3 := ⟨RX12, TX12, 41, "LoadsUnseenModel", rfl, by decide, iw_X12, am_in 830 (by decide +kernel) rfl, Or.inl rfl⟩
theorem kp_X12_13 : am_flp RX12 13 10 3 .int := ⟨RX12, TX12, 41, "LoadsUnseenModel", tyX12, rfl, by decide, iw_X12, am_in 830 (by decide +kernel) rfl, Or.inl rfl, tyX12_ok, nmX12, rfl, by decide +kernel⟩
theorem kf_X12_115 : am_fl RX12 115 10 4 := ⟨RX12, TX12, 41, "LoadsUnseenModel", rfl, by decide, iw_X12, am_in 831 (by decide +kernel) rfl, Or.inl rfl⟩
theorem kp_X12_115 : am_flp RX12 115 10 4 .int := ⟨RX12, TX12, 41, "LoadsUnseenModel", tyX12, rfl, by decide, iw_X12, am_in 831 (by decide +kernel) rfl, Or.inl rfl, tyX12_ok, nmX12, rfl, by decide +kernel⟩
theorem kf_X12_17 : am_fl RX12 17 10 5 := ⟨RX12, TX12, 41, "LoadsUnseenModel", rfl, by decide, iw_X12, am_in 832 (by decide +kernel) rfl, Or.inl rfl⟩
theorem kf_X12_20 : am_fl RX12 20 10 6 := ⟨RX12, TX12, 41, "LoadsUnseenModel", rfl, by decide, iw_X12, am_in 833 (by decide +kernel) rfl, Or.inl rfl⟩
theorem kf_X12_23 : am_fl RX12 23 10 7 := ⟨RX12, TX12, 41, "LoadsUnseenModel", rfl, by decide, iw_X12, am_in 834 (by decide +kernel) rfl, Or.inl rfl⟩
theorem kf_X12_26 : am_fl RX12 26 10 8 := ⟨RX12, TX12, 41, "LoadsUnseenModel", rfl, by decide, iw_X12, am_in 835 (by decide +kernel) rfl, Or.inl rfl⟩
theorem kf_X12_30 : am_fl RX12 30 10 9 := ⟨RX12, TX12, 41, "LoadsUnseenModel", rfl, by decide, iw_X12, am_in 836 (by decide +kernel) rfl, Or.inl rfl⟩
theorem kf_X12_33 : am_fl RX12 33 10 10 := ⟨RX12, TX12, 41, "LoadsUnseenModel", rfl, by decide, iw_X12, am_in 837 (by decide +kernel) rfl, Or.inl rfl⟩
theorem kf_X12_36 : am_fl RX12 36 10 11 := ⟨RX12, TX12, 41, "LoadsUnseenModel", rfl, by decide, iw_X12, am_in 838 (by decide +kernel) rfl, Or.inl rfl⟩
theorem kf_X12_39 : am_fl RX12 39 10 12 := ⟨RX12, TX12, 41, "LoadsUnseenModel", rfl, by decide, iw_X12, am_in 839 (by decide +kernel) rfl, Or.inl rfl⟩
theorem kf_X12_42 : am_fl RX12 42 10 13 := ⟨RX12, TX12, 41, "LoadsUnseenModel", rfl, by decide, iw_X12, am_in 840 (by decide +kernel) rfl, Or.inl rfl⟩
theorem kf_X12_45 : am_fl RX12 45 10 14 := ⟨RX12, TX12, 41, "LoadsUnseenModel", rfl, by decide, iw_X12, am_in 841 (by decide +kernel) rfl, Or.inl rfl⟩
theorem kf_X12_118 : am_fl RX12 118 10 15 := ⟨RX12, TX12, 41, "LoadsUnseenModel", rfl, by decide, iw_X12, am_in 842 (by decide +kernel) rfl, Or.inl rfl⟩
theorem kp_X12_118 : am_flp RX12 118 10 15 .boolean := ⟨RX12, TX12, 41, "LoadsUnseenModel", tyX12, rfl, by decide, iw_X12, am_in 842 (by decide +kernel) rfl, Or.inl rfl, tyX12_ok, nmX12, rfl, by decide +kernel⟩
theorem kf_X12_48 : am_fl RX12 48 10 16 := ⟨RX12, TX12, 41, "LoadsUnseenModel", rfl, by decide, iw_X12, am_in 843 (by decide +kernel) rfl, Or.inl rfl⟩
theorem kf_X12_51 : am_fl RX12 51 10 17 := ⟨RX12, TX12, 41, "LoadsUnseenModel", rfl, by decide, iw_X12, am_in 844 (by decide +kernel) rfl, Or.inl rfl⟩
theorem kf_X12_168 : am_fl RX12 168 10 18 := ⟨RX12, TX12, 41, "LoadsUnseenModel", rfl, by decide, iw_X12, am_in 845 (by decide +kernel) rfl, Or.inl rfl⟩
theorem kp_X12_168 : am_flp RX12 168 10 18 .int := ⟨RX12, TX12, 41, "LoadsUnseenModel", tyX12, rfl, by decide, iw_X12, am_in 845 (by decide +kernel) rfl, Or.inl rfl, tyX12_ok, nmX12, rfl, by decide +kernel⟩
theorem kf_X12_171 : am_fl RX12 171 10 19 := ⟨RX12, TX12, 41, "LoadsUnseenModel", rfl, by decide, iw_X12, am_in 846 (by decide +kernel) rfl, Or.inl rfl⟩
theorem kp_X12_171 : am_flp RX12 171 10 19 .int := ⟨RX12, TX12, 41, "LoadsUnseenModel", tyX12, rfl, by decide, iw_X12, am_in 846 (by decide +kernel) rfl, Or.inl rfl, tyX12_ok, nmX12, rfl, by decide +kernel⟩
theorem kf_X12_178 : am_fl RX12 178 10 20 := ⟨RX12, TX12, 41, "LoadsUnseenModel", rfl, by decide, iw_X12, am_in 847 (by decide +kernel) rfl, Or.inl rfl⟩
theorem kp_X12_178 : am_flp RX12 178 10 20 .int := ⟨RX12, TX12, 41, "LoadsUnseenModel", tyX12, rfl, by decide, iw_X12, am_in 847 (by decide +kernel) rfl, Or.inl rfl, tyX12_ok, nmX12, rfl, by decide +kernel⟩
theorem kf_X12_54 : am_fl RX12 54 10 21 := ⟨RX12, TX12, 41, "LoadsUnseenModel", rfl, by decide, iw_X12, am_in 848 (by decide +kernel) rfl, Or.inl rfl⟩
theorem kf_X12_57 : am_fl RX12 57 10 22 := ⟨RX12, TX12, 41, "LoadsUnseenModel", rfl, by decide, iw_X12, am_in 849 (by decide +kernel) rfl, Or.inl rfl⟩
theorem kf_X12_60 : am_fl RX12 60 10 23 := ⟨RX12, TX12, 41, "LoadsUnseenModel", rfl, by decide, iw_X12, am_in 850 (by decide +kernel) rfl, Or.inl rfl⟩
theorem kf_X12_63 : am_fl RX12 63 10 24 := ⟨RX12, TX12, 41, "LoadsUnseenModel", rfl, by decide, iw_X12, am_in 851 (by decide +kernel) rfl, Or.inl rfl⟩
theorem kf_X12_66 : am_fl RX12 66 10 25 := ⟨RX12, TX12, 41, "LoadsUnseenModel", rfl, by decide, iw_X12, am_in 852 (by decide +kernel) rfl, Or.inl rfl⟩
theorem kf_X12_69 : am_fl RX12 69 10 26 := ⟨RX12, TX12, 41, "LoadsUnseenModel", rfl, by decide, iw_X12, am_in 853 (by decide +kernel) rfl, Or.inl rfl⟩
theorem kf_X12_72 : am_fl RX12 72 10 27 := ⟨RX12, TX12, 41, "LoadsUnseenModel", rfl, by decide, iw_X12, am_in 854 (by decide +kernel) rfl, Or.inl rfl⟩
theorem kf_X12_75 : am_fl RX12 75 10 28 := ⟨RX12, TX12, 41, "LoadsUnseenModel", rfl, by decide, iw_X12, am_in 855 (by decide +kernel) rfl, Or.inl rfl⟩
theorem kf_X12_197 : am_fl RX12 197 10 29 := ⟨RX12, TX12, 41, "LoadsUnseenModel", rfl, by decide, iw_X12, am_in 856 (by decide +kernel) rfl, Or.inl rfl⟩
theorem kp_X12_197 : am_flp RX12 197 10 29 .int := ⟨RX12, TX12, 41, "LoadsUnseenModel", tyX12, rfl, by decide, iw_X12, am_in 856 (by decide +kernel) rfl, Or.inl rfl, tyX12_ok, nmX12, rfl, by decide +kernel⟩
theorem kf_X12_200 : am_fl RX12 200 10 30 := ⟨RX12, TX12, 41, "LoadsUnseenModel", rfl, by decide, iw_X12, am_in 857 (by decide +kernel) rfl, Or.inl rfl⟩
theorem kp_X12_200 : am_flp RX12 200 10 30 .int := ⟨RX12, TX12, 41, "LoadsUnseenModel", tyX12, rfl, by decide, iw_X12, am_in 857 (by decide +kernel) rfl, Or.inl rfl, tyX12_ok, nmX12, rfl, by decide +kernel⟩
theorem kf_X12_181 : am_fl RX12 181 10 31 := ⟨RX12, TX12, 41, "LoadsUnseenModel", rfl, by decide, iw_X12, am_in 858 (by decide +kernel) rfl, Or.inl rfl⟩
theorem kp_X12_181 : am_flp RX12 181 10 31 .int := ⟨RX12, TX12, 41, "LoadsUnseenModel", tyX12, rfl, by decide, iw_X12, am_in 858 (by decide +kernel) rfl, Or.inl rfl, tyX12_ok, nmX12, rfl, by decide +kernel⟩
theorem kf_X12_78 : am_fl RX12 78 10 32 := ⟨RX12, TX12, 41, "LoadsUnseenModel", rfl, by decide, iw_X12, am_in 859 (by decide +kernel) rfl, Or.inl rfl⟩
theorem kf_X12_81 : am_fl RX12 81 10 33 := ⟨RX12, TX12, 41, "LoadsUnseenModel", rfl, by decide, iw_X12, am_in 860 (by decide +kernel) rfl, Or.inl rfl⟩
theorem kf_X12_84 : am_fl RX12 84 10 34 := ⟨RX12, TX12, 41, "LoadsUnseenModel", rfl, by decide, iw_X12, am_in 861 (by decide +kernel) rfl, Or.inl rfl⟩
theorem kf_X12_87 : am_fl RX12 87 10 35 := ⟨RX12, TX12, 41, "LoadsUnseenModel", rfl, by decide, iw_X12, am_in 862 (by decide +kernel) rfl, Or.inl rfl⟩
theorem kf_X12_90 : am_fl RX12 90 10 36 := ⟨RX12, TX12, 41, "LoadsUnseenModel", rfl, by decide, iw_X12, am_in 863 (by decide +kernel) rfl, Or.inl rfl⟩
theorem kf_X12_93 : am_fl RX12 93 10 37 := ⟨RX12, TX12, 41, "LoadsUnseenModel", rfl, by decide, iw_X12, am_in 864 (by decide +kernel) rfl, Or.inl rfl⟩
theorem kf_X12_96 : am_fl RX12 96 10 38 := ⟨RX12, TX12, 41, "LoadsUnseenModel", rfl, by decide, iw_X12, am_in 865 (by decide +kernel) rfl, Or.inl rfl⟩
theorem kf_X12_99 : am_fl RX12 99 10 39 := ⟨RX12, TX12, 41, "LoadsUnseenModel", rfl, by decide, iw_X12, am_in 866 (by decide +kernel) rfl, Or.inl rfl⟩
theorem kf_X12_102 : am_fl RX12 102 10 40 := ⟨RX12, TX12, 41, "LoadsUnseenModel", rfl, by decide, iw_X12, am_in 867 (by decide +kernel) rfl, Or.inl rfl⟩
theorem km_X5_32 : am_mS RX5 32 yJ7_fill_53178 2 := ⟨am_in 123 (by decide +kernel) rfl, am_in 124 (by decide +kernel) rfl, am_in 50 (by decide +kernel) rfl, ⟨by decide +kernel, by decide +kernel, by decide +kernel⟩⟩
theorem km_X9_20 : am_mS RX9 20 yJ7_fill_53178 2 := ⟨am_in 318 (by decide +kernel) rfl, am_in 124 (by decide +kernel) rfl, am_in 50 (by decide +kernel) rfl, ⟨by decide +kernel, by decide +kernel, by decide +kernel⟩⟩
theorem km_X11_97 : am_mV RX11 97 RX7 yX7_find 2 := ⟨am_in 329 (by decide +kernel) rfl, am_in 330 (by decide +kernel) rfl, am_in 331 (by decide +kernel) rfl, am_in 51 (by decide +kernel) rfl, ⟨by decide +kernel, by decide +kernel, by decide +kernel⟩⟩
theorem km_X7_30 : am_mV RX7 30 RX7 yX7_measure 3 := ⟨am_in 333 (by decide +kernel) rfl, am_in 335 (by decide +kernel) rfl, am_in 0 (by decide +kernel) rfl, am_in 51 (by decide +kernel) rfl, ⟨by decide +kernel, by decide +kernel, by decide +kernel⟩⟩
theorem km_X7_49 : am_mS RX7 49 yJ7_fill_53178 2 := ⟨am_in 337 (by decide +kernel) rfl, am_in 124 (by decide +kernel) rfl, am_in 50 (by decide +kernel) rfl, ⟨by decide +kernel, by decide +kernel, by decide +kernel⟩⟩
theorem km_X7_58 : am_mS RX7 58 yX7_isShut 3 := ⟨am_in 338 (by decide +kernel) rfl, am_in 339 (by decide +kernel) rfl, am_in 51 (by decide +kernel) rfl, ⟨by decide +kernel, by decide +kernel, by decide +kernel⟩⟩
theorem km_X7_74 : am_mS RX7 74 yJ9_min_7cf53 2 := ⟨am_in 341 (by decide +kernel) rfl, am_in 342 (by decide +kernel) rfl, am_in 60 (by decide +kernel) rfl, ⟨by decide +kernel, by decide +kernel, by decide +kernel⟩⟩
theorem km_X7_34 : am_mV RX7 34 RX5 yX5_pairNumber 2 := ⟨am_in 344 (by decide +kernel) rfl, am_in 345 (by decide +kernel) rfl, am_in 346 (by decide +kernel) rfl, am_in 48 (by decide +kernel) rfl, ⟨by decide +kernel, by decide +kernel, by decide +kernel⟩⟩
theorem km_X7_38 : am_mV RX7 38 RX7 yX7_walk 4 := ⟨am_in 348 (by decide +kernel) rfl, am_in 350 (by decide +kernel) rfl, am_in 1 (by decide +kernel) rfl, am_in 51 (by decide +kernel) rfl, ⟨by decide +kernel, by decide +kernel, by decide +kernel⟩⟩
theorem km_L_13 : am_mV RL 13 RX11 yX11_net 1 := ⟨am_in 398 (by decide +kernel) rfl, am_in 399 (by decide +kernel) rfl, am_in 400 (by decide +kernel) rfl, am_in 47 (by decide +kernel) rfl, ⟨by decide +kernel, by decide +kernel, by decide +kernel⟩⟩
theorem km_X11_101 : am_mV RX11 101 RX5 yX5_begin 1 := ⟨am_in 402 (by decide +kernel) rfl, am_in 403 (by decide +kernel) rfl, am_in 404 (by decide +kernel) rfl, am_in 48 (by decide +kernel) rfl, ⟨by decide +kernel, by decide +kernel, by decide +kernel⟩⟩
theorem km_L_18 : am_mV RL 18 RX11 yX11_line 3 := ⟨am_in 406 (by decide +kernel) rfl, am_in 407 (by decide +kernel) rfl, am_in 408 (by decide +kernel) rfl, am_in 47 (by decide +kernel) rfl, ⟨by decide +kernel, by decide +kernel, by decide +kernel⟩⟩
theorem km_X11_105 : am_mV RX11 105 RX5 yX5_isPair 2 := ⟨am_in 410 (by decide +kernel) rfl, am_in 411 (by decide +kernel) rfl, am_in 412 (by decide +kernel) rfl, am_in 48 (by decide +kernel) rfl, ⟨by decide +kernel, by decide +kernel, by decide +kernel⟩⟩
theorem km_X11_112 : am_mV RX11 112 RX5 yX5_addLine 3 := ⟨am_in 414 (by decide +kernel) rfl, am_in 415 (by decide +kernel) rfl, am_in 416 (by decide +kernel) rfl, am_in 48 (by decide +kernel) rfl, ⟨by decide +kernel, by decide +kernel, by decide +kernel⟩⟩
theorem km_X5_38 : am_mV RX5 38 RX4 yX4_begin 3 := ⟨am_in 418 (by decide +kernel) rfl, am_in 419 (by decide +kernel) rfl, am_in 420 (by decide +kernel) rfl, am_in 49 (by decide +kernel) rfl, ⟨by decide +kernel, by decide +kernel, by decide +kernel⟩⟩
theorem km_X4_35 : am_mS RX4 35 yJ7_fill_53178 2 := ⟨am_in 422 (by decide +kernel) rfl, am_in 124 (by decide +kernel) rfl, am_in 50 (by decide +kernel) rfl, ⟨by decide +kernel, by decide +kernel, by decide +kernel⟩⟩
theorem km_L_23 : am_mV RL 23 RX11 yX11_told 2 := ⟨am_in 423 (by decide +kernel) rfl, am_in 424 (by decide +kernel) rfl, am_in 425 (by decide +kernel) rfl, am_in 47 (by decide +kernel) rfl, ⟨by decide +kernel, by decide +kernel, by decide +kernel⟩⟩
theorem km_X11_116 : am_mV RX11 116 RX5 yX5_isLine 1 := ⟨am_in 427 (by decide +kernel) rfl, am_in 428 (by decide +kernel) rfl, am_in 429 (by decide +kernel) rfl, am_in 48 (by decide +kernel) rfl, ⟨by decide +kernel, by decide +kernel, by decide +kernel⟩⟩
theorem km_L_28 : am_mV RL 28 RX11 yX11_mark 2 := ⟨am_in 431 (by decide +kernel) rfl, am_in 432 (by decide +kernel) rfl, am_in 433 (by decide +kernel) rfl, am_in 47 (by decide +kernel) rfl, ⟨by decide +kernel, by decide +kernel, by decide +kernel⟩⟩
theorem km_X11_144 : am_mV RX11 144 RX4 yX4_isOf 1 := ⟨am_in 435 (by decide +kernel) rfl, am_in 436 (by decide +kernel) rfl, am_in 437 (by decide +kernel) rfl, am_in 49 (by decide +kernel) rfl, ⟨by decide +kernel, by decide +kernel, by decide +kernel⟩⟩
theorem km_X11_147 : am_mV RX11 147 RX11 yX11_found 1 := ⟨am_in 439 (by decide +kernel) rfl, am_in 441 (by decide +kernel) rfl, am_in 2 (by decide +kernel) rfl, am_in 47 (by decide +kernel) rfl, ⟨by decide +kernel, by decide +kernel, by decide +kernel⟩⟩
theorem km_X11_151 : am_mV RX11 151 RX4 yX4_counterSize 0 := ⟨am_in 443 (by decide +kernel) rfl, am_in 444 (by decide +kernel) rfl, am_in 445 (by decide +kernel) rfl, am_in 49 (by decide +kernel) rfl, ⟨by decide +kernel, by decide +kernel, by decide +kernel⟩⟩
theorem km_X11_155 : am_mV RX11 155 RX4 yX4_readingsKept 0 := ⟨am_in 448 (by decide +kernel) rfl, am_in 449 (by decide +kernel) rfl, am_in 450 (by decide +kernel) rfl, am_in 49 (by decide +kernel) rfl, ⟨by decide +kernel, by decide +kernel, by decide +kernel⟩⟩
theorem km_X11_158 : am_mV RX11 158 RX7 yX7_pairsOn 1 := ⟨am_in 452 (by decide +kernel) rfl, am_in 453 (by decide +kernel) rfl, am_in 454 (by decide +kernel) rfl, am_in 51 (by decide +kernel) rfl, ⟨by decide +kernel, by decide +kernel, by decide +kernel⟩⟩
theorem km_X7_45 : am_mV RX7 45 RX7 yX7_goesBy 2 := ⟨am_in 456 (by decide +kernel) rfl, am_in 457 (by decide +kernel) rfl, am_in 458 (by decide +kernel) rfl, am_in 51 (by decide +kernel) rfl, ⟨by decide +kernel, by decide +kernel, by decide +kernel⟩⟩
theorem km_X7_42 : am_mV RX7 42 RX7 yX7_lineAt 2 := ⟨am_in 460 (by decide +kernel) rfl, am_in 461 (by decide +kernel) rfl, am_in 462 (by decide +kernel) rfl, am_in 51 (by decide +kernel) rfl, ⟨by decide +kernel, by decide +kernel, by decide +kernel⟩⟩
theorem km_L_32 : am_mV RL 32 RX11 yX11_down 2 := ⟨am_in 464 (by decide +kernel) rfl, am_in 465 (by decide +kernel) rfl, am_in 466 (by decide +kernel) rfl, am_in 47 (by decide +kernel) rfl, ⟨by decide +kernel, by decide +kernel, by decide +kernel⟩⟩
theorem km_L_37 : am_mV RL 37 RX11 yX11_rate 2 := ⟨am_in 468 (by decide +kernel) rfl, am_in 469 (by decide +kernel) rfl, am_in 470 (by decide +kernel) rfl, am_in 47 (by decide +kernel) rfl, ⟨by decide +kernel, by decide +kernel, by decide +kernel⟩⟩
theorem km_L_41 : am_mV RL 41 RX11 yX11_reading 3 := ⟨am_in 473 (by decide +kernel) rfl, am_in 474 (by decide +kernel) rfl, am_in 475 (by decide +kernel) rfl, am_in 47 (by decide +kernel) rfl, ⟨by decide +kernel, by decide +kernel, by decide +kernel⟩⟩
theorem km_X11_162 : am_mS RX11 162 yX11_isHour 1 := ⟨am_in 477 (by decide +kernel) rfl, am_in 478 (by decide +kernel) rfl, am_in 47 (by decide +kernel) rfl, ⟨by decide +kernel, by decide +kernel, by decide +kernel⟩⟩
theorem km_X11_168 : am_mV RX11 168 RX4 yX4_keepReading 2 := ⟨am_in 480 (by decide +kernel) rfl, am_in 481 (by decide +kernel) rfl, am_in 482 (by decide +kernel) rfl, am_in 49 (by decide +kernel) rfl, ⟨by decide +kernel, by decide +kernel, by decide +kernel⟩⟩
theorem km_X4_42 : am_mV RX4 42 RX4 yX4_cutToCounter 1 := ⟨am_in 484 (by decide +kernel) rfl, am_in 486 (by decide +kernel) rfl, am_in 3 (by decide +kernel) rfl, am_in 49 (by decide +kernel) rfl, ⟨by decide +kernel, by decide +kernel, by decide +kernel⟩⟩
theorem km_X4_46 : am_mV RX4 46 RX4 yX4_counterSize 0 := ⟨am_in 488 (by decide +kernel) rfl, am_in 444 (by decide +kernel) rfl, am_in 445 (by decide +kernel) rfl, am_in 49 (by decide +kernel) rfl, ⟨by decide +kernel, by decide +kernel, by decide +kernel⟩⟩
theorem km_L_45 : am_mV RL 45 RX11 yX11_load 3 := ⟨am_in 489 (by decide +kernel) rfl, am_in 490 (by decide +kernel) rfl, am_in 491 (by decide +kernel) rfl, am_in 47 (by decide +kernel) rfl, ⟨by decide +kernel, by decide +kernel, by decide +kernel⟩⟩
theorem km_X11_172 : am_mV RX11 172 RX4 yX4_loadBetween 2 := ⟨am_in 493 (by decide +kernel) rfl, am_in 494 (by decide +kernel) rfl, am_in 495 (by decide +kernel) rfl, am_in 49 (by decide +kernel) rfl, ⟨by decide +kernel, by decide +kernel, by decide +kernel⟩⟩
theorem km_X11_176 : am_mV RX11 176 RX4 yX4_isSureBetween 2 := ⟨am_in 497 (by decide +kernel) rfl, am_in 498 (by decide +kernel) rfl, am_in 499 (by decide +kernel) rfl, am_in 49 (by decide +kernel) rfl, ⟨by decide +kernel, by decide +kernel, by decide +kernel⟩⟩
theorem km_L_49 : am_mV RL 49 RX11 yX11_mean 1 := ⟨am_in 501 (by decide +kernel) rfl, am_in 502 (by decide +kernel) rfl, am_in 503 (by decide +kernel) rfl, am_in 47 (by decide +kernel) rfl, ⟨by decide +kernel, by decide +kernel, by decide +kernel⟩⟩
theorem km_X11_179 : am_mV RX11 179 RX4 yX4_meanLoad 0 := ⟨am_in 505 (by decide +kernel) rfl, am_in 506 (by decide +kernel) rfl, am_in 507 (by decide +kernel) rfl, am_in 49 (by decide +kernel) rfl, ⟨by decide +kernel, by decide +kernel, by decide +kernel⟩⟩
theorem km_X4_50 : am_mV RX4 50 RX4 yX4_loadBetween 2 := ⟨am_in 509 (by decide +kernel) rfl, am_in 494 (by decide +kernel) rfl, am_in 495 (by decide +kernel) rfl, am_in 49 (by decide +kernel) rfl, ⟨by decide +kernel, by decide +kernel, by decide +kernel⟩⟩
theorem km_L_53 : am_mV RL 53 RX11 yX11_route 3 := ⟨am_in 510 (by decide +kernel) rfl, am_in 511 (by decide +kernel) rfl, am_in 512 (by decide +kernel) rfl, am_in 47 (by decide +kernel) rfl, ⟨by decide +kernel, by decide +kernel, by decide +kernel⟩⟩
theorem km_X11_182 : am_mV RX11 182 RX5 yX5_pairNumber 2 := ⟨am_in 514 (by decide +kernel) rfl, am_in 345 (by decide +kernel) rfl, am_in 346 (by decide +kernel) rfl, am_in 48 (by decide +kernel) rfl, ⟨by decide +kernel, by decide +kernel, by decide +kernel⟩⟩
theorem km_X11_188 : am_mV RX11 188 RX7 yX7_lineAt 2 := ⟨am_in 515 (by decide +kernel) rfl, am_in 461 (by decide +kernel) rfl, am_in 462 (by decide +kernel) rfl, am_in 51 (by decide +kernel) rfl, ⟨by decide +kernel, by decide +kernel, by decide +kernel⟩⟩
theorem km_L_57 : am_mV RL 57 RX11 yX11_carried 2 := ⟨am_in 516 (by decide +kernel) rfl, am_in 517 (by decide +kernel) rfl, am_in 518 (by decide +kernel) rfl, am_in 47 (by decide +kernel) rfl, ⟨by decide +kernel, by decide +kernel, by decide +kernel⟩⟩
theorem km_X11_191 : am_mS RX11 191 yX11_isLoadOrNone 1 := ⟨am_in 520 (by decide +kernel) rfl, am_in 521 (by decide +kernel) rfl, am_in 47 (by decide +kernel) rfl, ⟨by decide +kernel, by decide +kernel, by decide +kernel⟩⟩
theorem km_L_61 : am_mV RL 61 RX11 yX11_meter 3 := ⟨am_in 523 (by decide +kernel) rfl, am_in 524 (by decide +kernel) rfl, am_in 525 (by decide +kernel) rfl, am_in 47 (by decide +kernel) rfl, ⟨by decide +kernel, by decide +kernel, by decide +kernel⟩⟩
theorem km_L_65 : am_mV RL 65 RX11 yX11_fits 1 := ⟨am_in 527 (by decide +kernel) rfl, am_in 528 (by decide +kernel) rfl, am_in 529 (by decide +kernel) rfl, am_in 47 (by decide +kernel) rfl, ⟨by decide +kernel, by decide +kernel, by decide +kernel⟩⟩
theorem km_X11_197 : am_mS RX11 197 yX11_isTries 1 := ⟨am_in 531 (by decide +kernel) rfl, am_in 532 (by decide +kernel) rfl, am_in 47 (by decide +kernel) rfl, ⟨by decide +kernel, by decide +kernel, by decide +kernel⟩⟩
theorem km_X11_200 : am_mV RX11 200 RX10 yX10_begin 1 := ⟨am_in 534 (by decide +kernel) rfl, am_in 535 (by decide +kernel) rfl, am_in 536 (by decide +kernel) rfl, am_in 54 (by decide +kernel) rfl, ⟨by decide +kernel, by decide +kernel, by decide +kernel⟩⟩
theorem km_X11_201 : am_mV RX11 201 RX11 yX11_seekAll 2 := ⟨am_in 538 (by decide +kernel) rfl, am_in 540 (by decide +kernel) rfl, am_in 4 (by decide +kernel) rfl, am_in 47 (by decide +kernel) rfl, ⟨by decide +kernel, by decide +kernel, by decide +kernel⟩⟩
theorem km_X11_319 : am_mV RX11 319 RX8 yX8_begin 1 := ⟨am_in 542 (by decide +kernel) rfl, am_in 543 (by decide +kernel) rfl, am_in 544 (by decide +kernel) rfl, am_in 52 (by decide +kernel) rfl, ⟨by decide +kernel, by decide +kernel, by decide +kernel⟩⟩
theorem km_X8_52 : am_mS RX8 52 yJ7_fill_53178 2 := ⟨am_in 546 (by decide +kernel) rfl, am_in 124 (by decide +kernel) rfl, am_in 50 (by decide +kernel) rfl, ⟨by decide +kernel, by decide +kernel, by decide +kernel⟩⟩
theorem km_X8_86 : am_mV RX8 86 RX8 yX8_isSought 1 := ⟨am_in 550 (by decide +kernel) rfl, am_in 552 (by decide +kernel) rfl, am_in 5 (by decide +kernel) rfl, am_in 52 (by decide +kernel) rfl, ⟨by decide +kernel, by decide +kernel, by decide +kernel⟩⟩
theorem km_X8_129 : am_mV RX8 129 RX7 yX7_isRouted 1 := ⟨am_in 554 (by decide +kernel) rfl, am_in 555 (by decide +kernel) rfl, am_in 556 (by decide +kernel) rfl, am_in 51 (by decide +kernel) rfl, ⟨by decide +kernel, by decide +kernel, by decide +kernel⟩⟩
theorem km_X8_135 : am_mV RX8 135 RX7 yX7_lineAt 2 := ⟨am_in 558 (by decide +kernel) rfl, am_in 461 (by decide +kernel) rfl, am_in 462 (by decide +kernel) rfl, am_in 51 (by decide +kernel) rfl, ⟨by decide +kernel, by decide +kernel, by decide +kernel⟩⟩
theorem km_X8_90 : am_mV RX8 90 RX8 yX8_addSought 1 := ⟨am_in 559 (by decide +kernel) rfl, am_in 561 (by decide +kernel) rfl, am_in 6 (by decide +kernel) rfl, am_in 52 (by decide +kernel) rfl, ⟨by decide +kernel, by decide +kernel, by decide +kernel⟩⟩
theorem km_X11_320 : am_mV RX11 320 RX8 yX8_seek 1 := ⟨am_in 563 (by decide +kernel) rfl, am_in 564 (by decide +kernel) rfl, am_in 565 (by decide +kernel) rfl, am_in 52 (by decide +kernel) rfl, ⟨by decide +kernel, by decide +kernel, by decide +kernel⟩⟩
theorem km_X8_94 : am_mV RX8 94 RX8 yX8_goesOn 2 := ⟨am_in 567 (by decide +kernel) rfl, am_in 569 (by decide +kernel) rfl, am_in 7 (by decide +kernel) rfl, am_in 52 (by decide +kernel) rfl, ⟨by decide +kernel, by decide +kernel, by decide +kernel⟩⟩
theorem km_X8_139 : am_mV RX8 139 RX8 yX8_isNothingLeft 0 := ⟨am_in 571 (by decide +kernel) rfl, am_in 573 (by decide +kernel) rfl, am_in 8 (by decide +kernel) rfl, am_in 52 (by decide +kernel) rfl, ⟨by decide +kernel, by decide +kernel, by decide +kernel⟩⟩
theorem ku_X8_143_X1 : am_mU RX8 143 RX1 "LoadsUnseen$Goal" ⟨"LoadsUnseen$Goal", "hasEnough", "([I)Z"⟩ yX0_hasEnough 1 := ⟨am_in 575 (by decide +kernel) rfl, am_in 577 (by decide +kernel) rfl, am_in 578 (by decide +kernel) rfl, am_in 579 (by decide +kernel) rfl, am_in 56 (by decide +kernel) rfl, ⟨by decide +kernel, by decide +kernel, by decide +kernel⟩, Or.inl rfl⟩
theorem ku_X8_143_X3 : am_mU RX8 143 RX3 "LoadsUnseen$Goal" ⟨"LoadsUnseen$Goal", "hasEnough", "([I)Z"⟩ yX0_hasEnough 1 := ⟨am_in 575 (by decide +kernel) rfl, am_in 577 (by decide +kernel) rfl, am_in 591 (by decide +kernel) rfl, am_in 579 (by decide +kernel) rfl, am_in 56 (by decide +kernel) rfl, ⟨by decide +kernel, by decide +kernel, by decide +kernel⟩, Or.inl rfl⟩
theorem ku_X8_143_X6 : am_mU RX8 143 RX6 "LoadsUnseen$Goal" ⟨"LoadsUnseen$Goal", "hasEnough", "([I)Z"⟩ yX6_hasEnough 1 := ⟨am_in 575 (by decide +kernel) rfl, am_in 577 (by decide +kernel) rfl, am_in 592 (by decide +kernel) rfl, am_in 593 (by decide +kernel) rfl, am_in 55 (by decide +kernel) rfl, ⟨by decide +kernel, by decide +kernel, by decide +kernel⟩, Or.inl rfl⟩
theorem ku_X8_143_X10 : am_mU RX8 143 RX10 "LoadsUnseen$Goal" ⟨"LoadsUnseen$Goal", "hasEnough", "([I)Z"⟩ yX10_hasEnough 1 := ⟨am_in 575 (by decide +kernel) rfl, am_in 577 (by decide +kernel) rfl, am_in 599 (by decide +kernel) rfl, am_in 600 (by decide +kernel) rfl, am_in 54 (by decide +kernel) rfl, ⟨by decide +kernel, by decide +kernel, by decide +kernel⟩, Or.inl rfl⟩
theorem ku_X0_23_X1 : am_mU RX0 23 RX1 "LoadsUnseen$Best" ⟨"LoadsUnseen$Best", "costOf", "([I)I"⟩ yX1_costOf 1 := ⟨am_in 581 (by decide +kernel) rfl, am_in 583 (by decide +kernel) rfl, am_in 584 (by decide +kernel) rfl, am_in 585 (by decide +kernel) rfl, am_in 57 (by decide +kernel) rfl, ⟨by decide +kernel, by decide +kernel, by decide +kernel⟩, Or.inr (Or.inl rfl)⟩
theorem ku_X0_23_X3 : am_mU RX0 23 RX3 "LoadsUnseen$Best" ⟨"LoadsUnseen$Best", "costOf", "([I)I"⟩ yX3_costOf 1 := ⟨am_in 581 (by decide +kernel) rfl, am_in 583 (by decide +kernel) rfl, am_in 587 (by decide +kernel) rfl, am_in 588 (by decide +kernel) rfl, am_in 58 (by decide +kernel) rfl, ⟨by decide +kernel, by decide +kernel, by decide +kernel⟩, Or.inr (Or.inl rfl)⟩
theorem km_X6_28 : am_mS RX6 28 yJ9_min_7cf53 2 := ⟨am_in 595 (by decide +kernel) rfl, am_in 342 (by decide +kernel) rfl, am_in 60 (by decide +kernel) rfl, ⟨by decide +kernel, by decide +kernel, by decide +kernel⟩⟩
theorem km_X6_34 : am_mS RX6 34 yJ9_max_7cf53 2 := ⟨am_in 596 (by decide +kernel) rfl, am_in 597 (by decide +kernel) rfl, am_in 60 (by decide +kernel) rfl, ⟨by decide +kernel, by decide +kernel, by decide +kernel⟩⟩
theorem km_X8_149 : am_mV RX8 149 RX8 yX8_leastNumber 2 := ⟨am_in 603 (by decide +kernel) rfl, am_in 605 (by decide +kernel) rfl, am_in 9 (by decide +kernel) rfl, am_in 52 (by decide +kernel) rfl, ⟨by decide +kernel, by decide +kernel, by decide +kernel⟩⟩
theorem km_X8_160 : am_mS RX8 160 yJ9_max_7cf53 2 := ⟨am_in 607 (by decide +kernel) rfl, am_in 597 (by decide +kernel) rfl, am_in 60 (by decide +kernel) rfl, ⟨by decide +kernel, by decide +kernel, by decide +kernel⟩⟩
theorem km_X8_152 : am_mV RX8 152 RX8 yX8_mostNumber 1 := ⟨am_in 608 (by decide +kernel) rfl, am_in 610 (by decide +kernel) rfl, am_in 10 (by decide +kernel) rfl, am_in 52 (by decide +kernel) rfl, ⟨by decide +kernel, by decide +kernel, by decide +kernel⟩⟩
theorem km_X8_165 : am_mS RX8 165 yJ9_min_7cf53 2 := ⟨am_in 612 (by decide +kernel) rfl, am_in 342 (by decide +kernel) rfl, am_in 60 (by decide +kernel) rfl, ⟨by decide +kernel, by decide +kernel, by decide +kernel⟩⟩
theorem km_X8_156 : am_mV RX8 156 RX8 yX8_take 2 := ⟨am_in 613 (by decide +kernel) rfl, am_in 615 (by decide +kernel) rfl, am_in 11 (by decide +kernel) rfl, am_in 52 (by decide +kernel) rfl, ⟨by decide +kernel, by decide +kernel, by decide +kernel⟩⟩
theorem km_X11_211 : am_mV RX11 211 RX11 yX11_keepFit 1 := ⟨am_in 617 (by decide +kernel) rfl, am_in 619 (by decide +kernel) rfl, am_in 12 (by decide +kernel) rfl, am_in 47 (by decide +kernel) rfl, ⟨by decide +kernel, by decide +kernel, by decide +kernel⟩⟩
theorem km_L_69 : am_mV RL 69 RX11 yX11_fit 2 := ⟨am_in 622 (by decide +kernel) rfl, am_in 623 (by decide +kernel) rfl, am_in 624 (by decide +kernel) rfl, am_in 47 (by decide +kernel) rfl, ⟨by decide +kernel, by decide +kernel, by decide +kernel⟩⟩
theorem km_L_73 : am_mV RL 73 RX11 yX11_many 1 := ⟨am_in 626 (by decide +kernel) rfl, am_in 627 (by decide +kernel) rfl, am_in 628 (by decide +kernel) rfl, am_in 47 (by decide +kernel) rfl, ⟨by decide +kernel, by decide +kernel, by decide +kernel⟩⟩
theorem km_L_77 : am_mV RL 77 RX11 yX11_bound 4 := ⟨am_in 631 (by decide +kernel) rfl, am_in 632 (by decide +kernel) rfl, am_in 633 (by decide +kernel) rfl, am_in 47 (by decide +kernel) rfl, ⟨by decide +kernel, by decide +kernel, by decide +kernel⟩⟩
theorem km_X11_217 : am_mV RX11 217 RX6 yX6_begin 0 := ⟨am_in 635 (by decide +kernel) rfl, am_in 636 (by decide +kernel) rfl, am_in 637 (by decide +kernel) rfl, am_in 55 (by decide +kernel) rfl, ⟨by decide +kernel, by decide +kernel, by decide +kernel⟩⟩
theorem km_X6_22 : am_mS RX6 22 yJ7_fill_53178 2 := ⟨am_in 639 (by decide +kernel) rfl, am_in 124 (by decide +kernel) rfl, am_in 50 (by decide +kernel) rfl, ⟨by decide +kernel, by decide +kernel, by decide +kernel⟩⟩
theorem km_L_82 : am_mV RL 82 RX11 yX11_sure 1 := ⟨am_in 640 (by decide +kernel) rfl, am_in 641 (by decide +kernel) rfl, am_in 642 (by decide +kernel) rfl, am_in 47 (by decide +kernel) rfl, ⟨by decide +kernel, by decide +kernel, by decide +kernel⟩⟩
theorem km_X11_227 : am_mV RX11 227 RX11 yX11_surePairs 0 := ⟨am_in 644 (by decide +kernel) rfl, am_in 646 (by decide +kernel) rfl, am_in 13 (by decide +kernel) rfl, am_in 47 (by decide +kernel) rfl, ⟨by decide +kernel, by decide +kernel, by decide +kernel⟩⟩
theorem km_X11_333 : am_mV RX11 333 RX7 yX7_isRouted 1 := ⟨am_in 648 (by decide +kernel) rfl, am_in 555 (by decide +kernel) rfl, am_in 556 (by decide +kernel) rfl, am_in 51 (by decide +kernel) rfl, ⟨by decide +kernel, by decide +kernel, by decide +kernel⟩⟩
theorem km_L_86 : am_mV RL 86 RX11 yX11_tries 0 := ⟨am_in 649 (by decide +kernel) rfl, am_in 650 (by decide +kernel) rfl, am_in 651 (by decide +kernel) rfl, am_in 47 (by decide +kernel) rfl, ⟨by decide +kernel, by decide +kernel, by decide +kernel⟩⟩
theorem km_L_91 : am_mV RL 91 RX11 yX11_guess 2 := ⟨am_in 653 (by decide +kernel) rfl, am_in 654 (by decide +kernel) rfl, am_in 655 (by decide +kernel) rfl, am_in 47 (by decide +kernel) rfl, ⟨by decide +kernel, by decide +kernel, by decide +kernel⟩⟩
theorem km_X11_230 : am_mV RX11 230 RX5 yX5_allCarried 0 := ⟨am_in 657 (by decide +kernel) rfl, am_in 658 (by decide +kernel) rfl, am_in 659 (by decide +kernel) rfl, am_in 48 (by decide +kernel) rfl, ⟨by decide +kernel, by decide +kernel, by decide +kernel⟩⟩
theorem km_X5_51 : am_mV RX5 51 RX5 yX5_carriedFrom 1 := ⟨am_in 661 (by decide +kernel) rfl, am_in 662 (by decide +kernel) rfl, am_in 663 (by decide +kernel) rfl, am_in 48 (by decide +kernel) rfl, ⟨by decide +kernel, by decide +kernel, by decide +kernel⟩⟩
theorem km_X11_233 : am_mV RX11 233 RX5 yX5_carriedFrom 1 := ⟨am_in 665 (by decide +kernel) rfl, am_in 662 (by decide +kernel) rfl, am_in 663 (by decide +kernel) rfl, am_in 48 (by decide +kernel) rfl, ⟨by decide +kernel, by decide +kernel, by decide +kernel⟩⟩
theorem km_X11_236 : am_mV RX11 236 RX5 yX5_carriedTo 1 := ⟨am_in 666 (by decide +kernel) rfl, am_in 667 (by decide +kernel) rfl, am_in 668 (by decide +kernel) rfl, am_in 48 (by decide +kernel) rfl, ⟨by decide +kernel, by decide +kernel, by decide +kernel⟩⟩
theorem km_L_95 : am_mV RL 95 RX11 yX11_base 3 := ⟨am_in 670 (by decide +kernel) rfl, am_in 671 (by decide +kernel) rfl, am_in 672 (by decide +kernel) rfl, am_in 47 (by decide +kernel) rfl, ⟨by decide +kernel, by decide +kernel, by decide +kernel⟩⟩
theorem km_L_99 : am_mV RL 99 RX11 yX11_changed 1 := ⟨am_in 674 (by decide +kernel) rfl, am_in 675 (by decide +kernel) rfl, am_in 676 (by decide +kernel) rfl, am_in 47 (by decide +kernel) rfl, ⟨by decide +kernel, by decide +kernel, by decide +kernel⟩⟩
theorem ku_X11_239_X1 : am_mU RX11 239 RX1 "LoadsUnseen$Best" ⟨"LoadsUnseen$Fewest", "begin", "()V"⟩ yX0_begin 0 := ⟨am_in 678 (by decide +kernel) rfl, am_in 679 (by decide +kernel) rfl, am_in 681 (by decide +kernel) rfl, am_in 682 (by decide +kernel) rfl, am_in 56 (by decide +kernel) rfl, ⟨by decide +kernel, by decide +kernel, by decide +kernel⟩, Or.inr (Or.inr rfl)⟩
theorem km_X11_240 : am_mV RX11 240 RX11 yX11_seekBest 2 := ⟨am_in 684 (by decide +kernel) rfl, am_in 686 (by decide +kernel) rfl, am_in 14 (by decide +kernel) rfl, am_in 47 (by decide +kernel) rfl, ⟨by decide +kernel, by decide +kernel, by decide +kernel⟩⟩
theorem km_L_103 : am_mV RL 103 RX11 yX11_worst 3 := ⟨am_in 688 (by decide +kernel) rfl, am_in 689 (by decide +kernel) rfl, am_in 690 (by decide +kernel) rfl, am_in 47 (by decide +kernel) rfl, ⟨by decide +kernel, by decide +kernel, by decide +kernel⟩⟩
theorem km_X11_248 : am_mV RX11 248 RX3 yX3_beginOn 2 := ⟨am_in 692 (by decide +kernel) rfl, am_in 693 (by decide +kernel) rfl, am_in 694 (by decide +kernel) rfl, am_in 58 (by decide +kernel) rfl, ⟨by decide +kernel, by decide +kernel, by decide +kernel⟩⟩
theorem ku_X3_15_X3 : am_mU RX3 15 RX3 "LoadsUnseen$Best" ⟨"LoadsUnseen$Heaviest", "begin", "()V"⟩ yX0_begin 0 := ⟨am_in 696 (by decide +kernel) rfl, am_in 697 (by decide +kernel) rfl, am_in 698 (by decide +kernel) rfl, am_in 682 (by decide +kernel) rfl, am_in 56 (by decide +kernel) rfl, ⟨by decide +kernel, by decide +kernel, by decide +kernel⟩, Or.inr (Or.inr rfl)⟩
theorem km_X3_24 : am_mV RX3 24 RX7 yX7_goesBy 2 := ⟨am_in 699 (by decide +kernel) rfl, am_in 457 (by decide +kernel) rfl, am_in 458 (by decide +kernel) rfl, am_in 51 (by decide +kernel) rfl, ⟨by decide +kernel, by decide +kernel, by decide +kernel⟩⟩
theorem km_L_107 : am_mV RL 107 RX11 yX11_meters 1 := ⟨am_in 700 (by decide +kernel) rfl, am_in 701 (by decide +kernel) rfl, am_in 702 (by decide +kernel) rfl, am_in 47 (by decide +kernel) rfl, ⟨by decide +kernel, by decide +kernel, by decide +kernel⟩⟩
theorem km_X11_254 : am_mV RX11 254 RX8 yX8_fewestMeters 1 := ⟨am_in 704 (by decide +kernel) rfl, am_in 705 (by decide +kernel) rfl, am_in 706 (by decide +kernel) rfl, am_in 52 (by decide +kernel) rfl, ⟨by decide +kernel, by decide +kernel, by decide +kernel⟩⟩
theorem km_X8_98 : am_mV RX8 98 RX8 yX8_findFree 0 := ⟨am_in 708 (by decide +kernel) rfl, am_in 710 (by decide +kernel) rfl, am_in 15 (by decide +kernel) rfl, am_in 52 (by decide +kernel) rfl, ⟨by decide +kernel, by decide +kernel, by decide +kernel⟩⟩
theorem km_X8_107 : am_mV RX8 107 RX8 yX8_fix 3 := ⟨am_in 712 (by decide +kernel) rfl, am_in 714 (by decide +kernel) rfl, am_in 16 (by decide +kernel) rfl, am_in 52 (by decide +kernel) rfl, ⟨by decide +kernel, by decide +kernel, by decide +kernel⟩⟩
theorem km_X8_111 : am_mV RX8 111 RX10 yX10_begin 1 := ⟨am_in 716 (by decide +kernel) rfl, am_in 535 (by decide +kernel) rfl, am_in 536 (by decide +kernel) rfl, am_in 54 (by decide +kernel) rfl, ⟨by decide +kernel, by decide +kernel, by decide +kernel⟩⟩
theorem km_X8_114 : am_mV RX8 114 RX8 yX8_seek 1 := ⟨am_in 717 (by decide +kernel) rfl, am_in 564 (by decide +kernel) rfl, am_in 565 (by decide +kernel) rfl, am_in 52 (by decide +kernel) rfl, ⟨by decide +kernel, by decide +kernel, by decide +kernel⟩⟩
theorem km_X8_121 : am_mV RX8 121 RX8 yX8_bitsOf 2 := ⟨am_in 718 (by decide +kernel) rfl, am_in 720 (by decide +kernel) rfl, am_in 17 (by decide +kernel) rfl, am_in 52 (by decide +kernel) rfl, ⟨by decide +kernel, by decide +kernel, by decide +kernel⟩⟩
theorem km_X8_125 : am_mS RX8 125 yX8_nextSet 1 := ⟨am_in 722 (by decide +kernel) rfl, am_in 723 (by decide +kernel) rfl, am_in 52 (by decide +kernel) rfl, ⟨by decide +kernel, by decide +kernel, by decide +kernel⟩⟩
theorem km_X8_172 : am_mS RX8 172 yJ13_numberOfTrailingZeros_95d88 1 := ⟨am_in 726 (by decide +kernel) rfl, am_in 727 (by decide +kernel) rfl, am_in 63 (by decide +kernel) rfl, ⟨by decide +kernel, by decide +kernel, by decide +kernel⟩⟩
theorem km_J13_311 : am_mS RJ13 311 yJ6_numberOfTrailingZeros_0f7a4 1 := ⟨am_in 729 (by decide +kernel) rfl, am_in 730 (by decide +kernel) rfl, am_in 64 (by decide +kernel) rfl, ⟨by decide +kernel, by decide +kernel, by decide +kernel⟩⟩
theorem km_X11_264 : am_mS RX11 264 yJ13_bitCount_95d88 1 := ⟨am_in 733 (by decide +kernel) rfl, am_in 734 (by decide +kernel) rfl, am_in 63 (by decide +kernel) rfl, ⟨by decide +kernel, by decide +kernel, by decide +kernel⟩⟩
theorem km_L_111 : am_mV RL 111 RX11 yX11_sheet 2 := ⟨am_in 739 (by decide +kernel) rfl, am_in 740 (by decide +kernel) rfl, am_in 741 (by decide +kernel) rfl, am_in 47 (by decide +kernel) rfl, ⟨by decide +kernel, by decide +kernel, by decide +kernel⟩⟩
theorem km_X11_270 : am_mS RX11 270 yX11_isSheet 1 := ⟨am_in 743 (by decide +kernel) rfl, am_in 744 (by decide +kernel) rfl, am_in 47 (by decide +kernel) rfl, ⟨by decide +kernel, by decide +kernel, by decide +kernel⟩⟩
theorem km_X11_273 : am_mV RX11 273 RX9 yX9_put 2 := ⟨am_in 746 (by decide +kernel) rfl, am_in 747 (by decide +kernel) rfl, am_in 748 (by decide +kernel) rfl, am_in 59 (by decide +kernel) rfl, ⟨by decide +kernel, by decide +kernel, by decide +kernel⟩⟩
theorem km_X9_26 : am_mS RX9 26 yJ7_fill_031fb 2 := ⟨am_in 750 (by decide +kernel) rfl, am_in 751 (by decide +kernel) rfl, am_in 50 (by decide +kernel) rfl, ⟨by decide +kernel, by decide +kernel, by decide +kernel⟩⟩
theorem km_L_115 : am_mV RL 115 RX11 yX11_lay 3 := ⟨am_in 753 (by decide +kernel) rfl, am_in 754 (by decide +kernel) rfl, am_in 755 (by decide +kernel) rfl, am_in 47 (by decide +kernel) rfl, ⟨by decide +kernel, by decide +kernel, by decide +kernel⟩⟩
theorem km_L_119 : am_mV RL 119 RX11 yX11_play 2 := ⟨am_in 757 (by decide +kernel) rfl, am_in 758 (by decide +kernel) rfl, am_in 759 (by decide +kernel) rfl, am_in 47 (by decide +kernel) rfl, ⟨by decide +kernel, by decide +kernel, by decide +kernel⟩⟩
theorem km_L_123 : am_mV RL 123 RX11 yX11_tear 1 := ⟨am_in 761 (by decide +kernel) rfl, am_in 762 (by decide +kernel) rfl, am_in 763 (by decide +kernel) rfl, am_in 47 (by decide +kernel) rfl, ⟨by decide +kernel, by decide +kernel, by decide +kernel⟩⟩
theorem km_L_127 : am_mV RL 127 RX11 yX11_copy 5 := ⟨am_in 765 (by decide +kernel) rfl, am_in 766 (by decide +kernel) rfl, am_in 767 (by decide +kernel) rfl, am_in 47 (by decide +kernel) rfl, ⟨by decide +kernel, by decide +kernel, by decide +kernel⟩⟩
theorem km_X11_283 : am_mV RX11 283 RX9 yX9_hasRun 3 := ⟨am_in 769 (by decide +kernel) rfl, am_in 770 (by decide +kernel) rfl, am_in 771 (by decide +kernel) rfl, am_in 59 (by decide +kernel) rfl, ⟨by decide +kernel, by decide +kernel, by decide +kernel⟩⟩
theorem km_L_132 : am_mV RL 132 RX11 yX11_asked 0 := ⟨am_in 773 (by decide +kernel) rfl, am_in 774 (by decide +kernel) rfl, am_in 775 (by decide +kernel) rfl, am_in 47 (by decide +kernel) rfl, ⟨by decide +kernel, by decide +kernel, by decide +kernel⟩⟩
theorem km_L_137 : am_mV RL 137 RX11 yX11_count 1 := ⟨am_in 777 (by decide +kernel) rfl, am_in 778 (by decide +kernel) rfl, am_in 779 (by decide +kernel) rfl, am_in 47 (by decide +kernel) rfl, ⟨by decide +kernel, by decide +kernel, by decide +kernel⟩⟩
theorem km_X11_296 : am_mV RX11 296 RX5 yX5_linesTold 0 := ⟨am_in 781 (by decide +kernel) rfl, am_in 782 (by decide +kernel) rfl, am_in 783 (by decide +kernel) rfl, am_in 48 (by decide +kernel) rfl, ⟨by decide +kernel, by decide +kernel, by decide +kernel⟩⟩
theorem km_X11_299 : am_mV RX11 299 RX5 yX5_pairsMetered 0 := ⟨am_in 785 (by decide +kernel) rfl, am_in 786 (by decide +kernel) rfl, am_in 787 (by decide +kernel) rfl, am_in 48 (by decide +kernel) rfl, ⟨by decide +kernel, by decide +kernel, by decide +kernel⟩⟩
theorem km_X11_302 : am_mV RX11 302 RX7 yX7_pairsCut 0 := ⟨am_in 789 (by decide +kernel) rfl, am_in 790 (by decide +kernel) rfl, am_in 791 (by decide +kernel) rfl, am_in 51 (by decide +kernel) rfl, ⟨by decide +kernel, by decide +kernel, by decide +kernel⟩⟩
theorem km_L_141 : am_mV RL 141 RX11 yX11_finding 0 := ⟨am_in 793 (by decide +kernel) rfl, am_in 794 (by decide +kernel) rfl, am_in 795 (by decide +kernel) rfl, am_in 47 (by decide +kernel) rfl, ⟨by decide +kernel, by decide +kernel, by decide +kernel⟩⟩
theorem km_L_145 : am_mV RL 145 RX11 yX11_findings 1 := ⟨am_in 797 (by decide +kernel) rfl, am_in 798 (by decide +kernel) rfl, am_in 799 (by decide +kernel) rfl, am_in 47 (by decide +kernel) rfl, ⟨by decide +kernel, by decide +kernel, by decide +kernel⟩⟩
theorem km_L_149 : am_mV RL 149 RX11 yX11_digest 0 := ⟨am_in 801 (by decide +kernel) rfl, am_in 802 (by decide +kernel) rfl, am_in 803 (by decide +kernel) rfl, am_in 47 (by decide +kernel) rfl, ⟨by decide +kernel, by decide +kernel, by decide +kernel⟩⟩
theorem km_X11_309 : am_mV RX11 309 RX11 yX11_count 1 := ⟨am_in 807 (by decide +kernel) rfl, am_in 778 (by decide +kernel) rfl, am_in 779 (by decide +kernel) rfl, am_in 47 (by decide +kernel) rfl, ⟨by decide +kernel, by decide +kernel, by decide +kernel⟩⟩
theorem km_X11_312 : am_mV RX11 312 RX11 yX11_digestLine 2 := ⟨am_in 808 (by decide +kernel) rfl, am_in 810 (by decide +kernel) rfl, am_in 18 (by decide +kernel) rfl, am_in 47 (by decide +kernel) rfl, ⟨by decide +kernel, by decide +kernel, by decide +kernel⟩⟩
theorem km_X11_336 : am_mV RX11 336 RX11 yX11_told 2 := ⟨am_in 812 (by decide +kernel) rfl, am_in 424 (by decide +kernel) rfl, am_in 425 (by decide +kernel) rfl, am_in 47 (by decide +kernel) rfl, ⟨by decide +kernel, by decide +kernel, by decide +kernel⟩⟩
theorem km_X11_316 : am_mV RX11 316 RX11 yX11_digestSheet 2 := ⟨am_in 813 (by decide +kernel) rfl, am_in 815 (by decide +kernel) rfl, am_in 19 (by decide +kernel) rfl, am_in 47 (by decide +kernel) rfl, ⟨by decide +kernel, by decide +kernel, by decide +kernel⟩⟩
theorem km_X12_105 : am_mV RX12 105 RX12 yX12_forget 0 := ⟨am_in 823 (by decide +kernel) rfl, am_in 825 (by decide +kernel) rfl, am_in 20 (by decide +kernel) rfl, am_in 61 (by decide +kernel) rfl, ⟨by decide +kernel, by decide +kernel, by decide +kernel⟩⟩
theorem km_L_17 : am_mV RL 17 RX12 yX12_net 1 := ⟨am_in 951 (by decide +kernel) rfl, am_in 952 (by decide +kernel) rfl, am_in 953 (by decide +kernel) rfl, am_in 61 (by decide +kernel) rfl, ⟨by decide +kernel, by decide +kernel, by decide +kernel⟩⟩
theorem km_X12_122 : am_mS RX12 122 yX12_in 3 := ⟨am_in 955 (by decide +kernel) rfl, am_in 956 (by decide +kernel) rfl, am_in 61 (by decide +kernel) rfl, ⟨by decide +kernel, by decide +kernel, by decide +kernel⟩⟩
theorem km_L_22 : am_mV RL 22 RX12 yX12_line 3 := ⟨am_in 958 (by decide +kernel) rfl, am_in 959 (by decide +kernel) rfl, am_in 960 (by decide +kernel) rfl, am_in 61 (by decide +kernel) rfl, ⟨by decide +kernel, by decide +kernel, by decide +kernel⟩⟩
theorem km_X12_126 : am_mV RX12 126 RX12 yX12_isKnot 1 := ⟨am_in 962 (by decide +kernel) rfl, am_in 964 (by decide +kernel) rfl, am_in 21 (by decide +kernel) rfl, am_in 61 (by decide +kernel) rfl, ⟨by decide +kernel, by decide +kernel, by decide +kernel⟩⟩
theorem km_L_27 : am_mV RL 27 RX12 yX12_told 2 := ⟨am_in 966 (by decide +kernel) rfl, am_in 967 (by decide +kernel) rfl, am_in 968 (by decide +kernel) rfl, am_in 61 (by decide +kernel) rfl, ⟨by decide +kernel, by decide +kernel, by decide +kernel⟩⟩
theorem km_X12_130 : am_mV RX12 130 RX12 yX12_isLine 1 := ⟨am_in 970 (by decide +kernel) rfl, am_in 972 (by decide +kernel) rfl, am_in 22 (by decide +kernel) rfl, am_in 61 (by decide +kernel) rfl, ⟨by decide +kernel, by decide +kernel, by decide +kernel⟩⟩
theorem km_X12_133 : am_mV RX12 133 RX12 yX12_tells 2 := ⟨am_in 974 (by decide +kernel) rfl, am_in 976 (by decide +kernel) rfl, am_in 23 (by decide +kernel) rfl, am_in 61 (by decide +kernel) rfl, ⟨by decide +kernel, by decide +kernel, by decide +kernel⟩⟩
theorem km_L_31 : am_mV RL 31 RX12 yX12_mark 2 := ⟨am_in 978 (by decide +kernel) rfl, am_in 979 (by decide +kernel) rfl, am_in 980 (by decide +kernel) rfl, am_in 61 (by decide +kernel) rfl, ⟨by decide +kernel, by decide +kernel, by decide +kernel⟩⟩
theorem km_X12_138 : am_mV RX12 138 RX12 yX12_meets 1 := ⟨am_in 982 (by decide +kernel) rfl, am_in 984 (by decide +kernel) rfl, am_in 24 (by decide +kernel) rfl, am_in 61 (by decide +kernel) rfl, ⟨by decide +kernel, by decide +kernel, by decide +kernel⟩⟩
theorem km_X12_142 : am_mV RX12 142 RX12 yX12_counterOf 1 := ⟨am_in 986 (by decide +kernel) rfl, am_in 988 (by decide +kernel) rfl, am_in 25 (by decide +kernel) rfl, am_in 61 (by decide +kernel) rfl, ⟨by decide +kernel, by decide +kernel, by decide +kernel⟩⟩
theorem km_X12_145 : am_mV RX12 145 RX12 yX12_had 1 := ⟨am_in 991 (by decide +kernel) rfl, am_in 993 (by decide +kernel) rfl, am_in 26 (by decide +kernel) rfl, am_in 61 (by decide +kernel) rfl, ⟨by decide +kernel, by decide +kernel, by decide +kernel⟩⟩
theorem km_X12_148 : am_mV RX12 148 RX12 yX12_setRoutes 1 := ⟨am_in 995 (by decide +kernel) rfl, am_in 997 (by decide +kernel) rfl, am_in 27 (by decide +kernel) rfl, am_in 61 (by decide +kernel) rfl, ⟨by decide +kernel, by decide +kernel, by decide +kernel⟩⟩
theorem km_X12_164 : am_mV RX12 164 RX12 yX12_routeOf 4 := ⟨am_in 999 (by decide +kernel) rfl, am_in 1001 (by decide +kernel) rfl, am_in 28 (by decide +kernel) rfl, am_in 61 (by decide +kernel) rfl, ⟨by decide +kernel, by decide +kernel, by decide +kernel⟩⟩
theorem km_L_36 : am_mV RL 36 RX12 yX12_down 2 := ⟨am_in 1003 (by decide +kernel) rfl, am_in 1004 (by decide +kernel) rfl, am_in 1005 (by decide +kernel) rfl, am_in 61 (by decide +kernel) rfl, ⟨by decide +kernel, by decide +kernel, by decide +kernel⟩⟩
theorem km_L_40 : am_mV RL 40 RX12 yX12_rate 2 := ⟨am_in 1007 (by decide +kernel) rfl, am_in 1008 (by decide +kernel) rfl, am_in 1009 (by decide +kernel) rfl, am_in 61 (by decide +kernel) rfl, ⟨by decide +kernel, by decide +kernel, by decide +kernel⟩⟩
theorem km_L_44 : am_mV RL 44 RX12 yX12_reading 3 := ⟨am_in 1012 (by decide +kernel) rfl, am_in 1013 (by decide +kernel) rfl, am_in 1014 (by decide +kernel) rfl, am_in 61 (by decide +kernel) rfl, ⟨by decide +kernel, by decide +kernel, by decide +kernel⟩⟩
theorem km_X12_153 : am_mV RX12 153 RX12 yX12_counts 1 := ⟨am_in 1016 (by decide +kernel) rfl, am_in 1018 (by decide +kernel) rfl, am_in 29 (by decide +kernel) rfl, am_in 61 (by decide +kernel) rfl, ⟨by decide +kernel, by decide +kernel, by decide +kernel⟩⟩
theorem km_L_48 : am_mV RL 48 RX12 yX12_load 3 := ⟨am_in 1020 (by decide +kernel) rfl, am_in 1021 (by decide +kernel) rfl, am_in 1022 (by decide +kernel) rfl, am_in 61 (by decide +kernel) rfl, ⟨by decide +kernel, by decide +kernel, by decide +kernel⟩⟩
theorem km_X12_156 : am_mV RX12 156 RX12 yX12_loadOf 3 := ⟨am_in 1024 (by decide +kernel) rfl, am_in 1026 (by decide +kernel) rfl, am_in 30 (by decide +kernel) rfl, am_in 61 (by decide +kernel) rfl, ⟨by decide +kernel, by decide +kernel, by decide +kernel⟩⟩
theorem km_X12_160 : am_mV RX12 160 RX12 yX12_tell 2 := ⟨am_in 1028 (by decide +kernel) rfl, am_in 1030 (by decide +kernel) rfl, am_in 31 (by decide +kernel) rfl, am_in 61 (by decide +kernel) rfl, ⟨by decide +kernel, by decide +kernel, by decide +kernel⟩⟩
theorem km_L_52 : am_mV RL 52 RX12 yX12_mean 1 := ⟨am_in 1032 (by decide +kernel) rfl, am_in 1033 (by decide +kernel) rfl, am_in 1034 (by decide +kernel) rfl, am_in 61 (by decide +kernel) rfl, ⟨by decide +kernel, by decide +kernel, by decide +kernel⟩⟩
theorem km_L_56 : am_mV RL 56 RX12 yX12_route 3 := ⟨am_in 1036 (by decide +kernel) rfl, am_in 1037 (by decide +kernel) rfl, am_in 1038 (by decide +kernel) rfl, am_in 61 (by decide +kernel) rfl, ⟨by decide +kernel, by decide +kernel, by decide +kernel⟩⟩
theorem km_X12_174 : am_mV RX12 174 RX12 yX12_isPair 2 := ⟨am_in 1040 (by decide +kernel) rfl, am_in 1042 (by decide +kernel) rfl, am_in 32 (by decide +kernel) rfl, am_in 61 (by decide +kernel) rfl, ⟨by decide +kernel, by decide +kernel, by decide +kernel⟩⟩
theorem km_L_60 : am_mV RL 60 RX12 yX12_carried 2 := ⟨am_in 1044 (by decide +kernel) rfl, am_in 1045 (by decide +kernel) rfl, am_in 1046 (by decide +kernel) rfl, am_in 61 (by decide +kernel) rfl, ⟨by decide +kernel, by decide +kernel, by decide +kernel⟩⟩
theorem km_L_64 : am_mV RL 64 RX12 yX12_meter 3 := ⟨am_in 1048 (by decide +kernel) rfl, am_in 1049 (by decide +kernel) rfl, am_in 1050 (by decide +kernel) rfl, am_in 61 (by decide +kernel) rfl, ⟨by decide +kernel, by decide +kernel, by decide +kernel⟩⟩
theorem km_L_98 : am_mV RL 98 RX12 yX12_base 3 := ⟨am_in 1052 (by decide +kernel) rfl, am_in 1053 (by decide +kernel) rfl, am_in 1054 (by decide +kernel) rfl, am_in 61 (by decide +kernel) rfl, ⟨by decide +kernel, by decide +kernel, by decide +kernel⟩⟩
theorem km_L_94 : am_mV RL 94 RX12 yX12_guess 2 := ⟨am_in 1056 (by decide +kernel) rfl, am_in 1057 (by decide +kernel) rfl, am_in 1058 (by decide +kernel) rfl, am_in 61 (by decide +kernel) rfl, ⟨by decide +kernel, by decide +kernel, by decide +kernel⟩⟩
theorem km_L_68 : am_mV RL 68 RX12 yX12_fits 1 := ⟨am_in 1060 (by decide +kernel) rfl, am_in 1061 (by decide +kernel) rfl, am_in 1062 (by decide +kernel) rfl, am_in 61 (by decide +kernel) rfl, ⟨by decide +kernel, by decide +kernel, by decide +kernel⟩⟩
theorem km_X12_206 : am_mS RX12 206 yX12_areTries 1 := ⟨am_in 1064 (by decide +kernel) rfl, am_in 1065 (by decide +kernel) rfl, am_in 61 (by decide +kernel) rfl, ⟨by decide +kernel, by decide +kernel, by decide +kernel⟩⟩
theorem km_X12_209 : am_mV RX12 209 RX12 yX12_open 1 := ⟨am_in 1067 (by decide +kernel) rfl, am_in 1069 (by decide +kernel) rfl, am_in 33 (by decide +kernel) rfl, am_in 61 (by decide +kernel) rfl, ⟨by decide +kernel, by decide +kernel, by decide +kernel⟩⟩
theorem km_X12_203 : am_mV RX12 203 RX12 yX12_setSeeking 0 := ⟨am_in 1071 (by decide +kernel) rfl, am_in 1073 (by decide +kernel) rfl, am_in 34 (by decide +kernel) rfl, am_in 61 (by decide +kernel) rfl, ⟨by decide +kernel, by decide +kernel, by decide +kernel⟩⟩
theorem km_X12_212 : am_mV RX12 212 RX12 yX12_next 1 := ⟨am_in 1075 (by decide +kernel) rfl, am_in 1077 (by decide +kernel) rfl, am_in 35 (by decide +kernel) rfl, am_in 61 (by decide +kernel) rfl, ⟨by decide +kernel, by decide +kernel, by decide +kernel⟩⟩
theorem km_X12_187 : am_mV RX12 187 RX12 yX12_beginSeeking 0 := ⟨am_in 1079 (by decide +kernel) rfl, am_in 1081 (by decide +kernel) rfl, am_in 36 (by decide +kernel) rfl, am_in 61 (by decide +kernel) rfl, ⟨by decide +kernel, by decide +kernel, by decide +kernel⟩⟩
theorem km_X12_184 : am_mV RX12 184 RX12 yX12_begin 0 := ⟨am_in 1083 (by decide +kernel) rfl, am_in 1085 (by decide +kernel) rfl, am_in 37 (by decide +kernel) rfl, am_in 61 (by decide +kernel) rfl, ⟨by decide +kernel, by decide +kernel, by decide +kernel⟩⟩
theorem km_X12_190 : am_mV RX12 190 RX12 yX12_isNothingLeft 0 := ⟨am_in 1087 (by decide +kernel) rfl, am_in 1089 (by decide +kernel) rfl, am_in 38 (by decide +kernel) rfl, am_in 61 (by decide +kernel) rfl, ⟨by decide +kernel, by decide +kernel, by decide +kernel⟩⟩
theorem km_X12_194 : am_mV RX12 194 RX12 yX12_take 1 := ⟨am_in 1091 (by decide +kernel) rfl, am_in 1093 (by decide +kernel) rfl, am_in 39 (by decide +kernel) rfl, am_in 61 (by decide +kernel) rfl, ⟨by decide +kernel, by decide +kernel, by decide +kernel⟩⟩
theorem km_X12_216 : am_mV RX12 216 RX12 yX12_keep 0 := ⟨am_in 1095 (by decide +kernel) rfl, am_in 1097 (by decide +kernel) rfl, am_in 40 (by decide +kernel) rfl, am_in 61 (by decide +kernel) rfl, ⟨by decide +kernel, by decide +kernel, by decide +kernel⟩⟩
theorem km_L_72 : am_mV RL 72 RX12 yX12_fit 2 := ⟨am_in 1099 (by decide +kernel) rfl, am_in 1100 (by decide +kernel) rfl, am_in 1101 (by decide +kernel) rfl, am_in 61 (by decide +kernel) rfl, ⟨by decide +kernel, by decide +kernel, by decide +kernel⟩⟩
theorem km_L_76 : am_mV RL 76 RX12 yX12_many 1 := ⟨am_in 1103 (by decide +kernel) rfl, am_in 1104 (by decide +kernel) rfl, am_in 1105 (by decide +kernel) rfl, am_in 61 (by decide +kernel) rfl, ⟨by decide +kernel, by decide +kernel, by decide +kernel⟩⟩
theorem km_L_81 : am_mV RL 81 RX12 yX12_bound 4 := ⟨am_in 1107 (by decide +kernel) rfl, am_in 1108 (by decide +kernel) rfl, am_in 1109 (by decide +kernel) rfl, am_in 61 (by decide +kernel) rfl, ⟨by decide +kernel, by decide +kernel, by decide +kernel⟩⟩
theorem km_X12_219 : am_mV RX12 219 RX12 yX12_setBounds 1 := ⟨am_in 1111 (by decide +kernel) rfl, am_in 1113 (by decide +kernel) rfl, am_in 41 (by decide +kernel) rfl, am_in 61 (by decide +kernel) rfl, ⟨by decide +kernel, by decide +kernel, by decide +kernel⟩⟩
theorem km_L_85 : am_mV RL 85 RX12 yX12_sure 1 := ⟨am_in 1115 (by decide +kernel) rfl, am_in 1116 (by decide +kernel) rfl, am_in 1117 (by decide +kernel) rfl, am_in 61 (by decide +kernel) rfl, ⟨by decide +kernel, by decide +kernel, by decide +kernel⟩⟩
theorem km_L_90 : am_mV RL 90 RX12 yX12_tries 0 := ⟨am_in 1119 (by decide +kernel) rfl, am_in 1120 (by decide +kernel) rfl, am_in 1121 (by decide +kernel) rfl, am_in 61 (by decide +kernel) rfl, ⟨by decide +kernel, by decide +kernel, by decide +kernel⟩⟩
theorem km_L_102 : am_mV RL 102 RX12 yX12_changed 1 := ⟨am_in 1123 (by decide +kernel) rfl, am_in 1124 (by decide +kernel) rfl, am_in 1125 (by decide +kernel) rfl, am_in 61 (by decide +kernel) rfl, ⟨by decide +kernel, by decide +kernel, by decide +kernel⟩⟩
theorem km_X12_222 : am_mV RX12 222 RX12 yX12_changes 0 := ⟨am_in 1127 (by decide +kernel) rfl, am_in 1129 (by decide +kernel) rfl, am_in 42 (by decide +kernel) rfl, am_in 61 (by decide +kernel) rfl, ⟨by decide +kernel, by decide +kernel, by decide +kernel⟩⟩
theorem km_L_106 : am_mV RL 106 RX12 yX12_worst 3 := ⟨am_in 1131 (by decide +kernel) rfl, am_in 1132 (by decide +kernel) rfl, am_in 1133 (by decide +kernel) rfl, am_in 61 (by decide +kernel) rfl, ⟨by decide +kernel, by decide +kernel, by decide +kernel⟩⟩
theorem km_L_110 : am_mV RL 110 RX12 yX12_meters 1 := ⟨am_in 1135 (by decide +kernel) rfl, am_in 1136 (by decide +kernel) rfl, am_in 1137 (by decide +kernel) rfl, am_in 61 (by decide +kernel) rfl, ⟨by decide +kernel, by decide +kernel, by decide +kernel⟩⟩
theorem km_X12_226 : am_mV RX12 226 RX12 yX12_isAlone 2 := ⟨am_in 1139 (by decide +kernel) rfl, am_in 1141 (by decide +kernel) rfl, am_in 43 (by decide +kernel) rfl, am_in 61 (by decide +kernel) rfl, ⟨by decide +kernel, by decide +kernel, by decide +kernel⟩⟩
theorem km_X12_229 : am_mS RX12 229 yX12_later 1 := ⟨am_in 1143 (by decide +kernel) rfl, am_in 1144 (by decide +kernel) rfl, am_in 61 (by decide +kernel) rfl, ⟨by decide +kernel, by decide +kernel, by decide +kernel⟩⟩
theorem km_L_114 : am_mV RL 114 RX12 yX12_sheet 2 := ⟨am_in 1146 (by decide +kernel) rfl, am_in 1147 (by decide +kernel) rfl, am_in 1148 (by decide +kernel) rfl, am_in 61 (by decide +kernel) rfl, ⟨by decide +kernel, by decide +kernel, by decide +kernel⟩⟩
theorem km_X12_233 : am_mS RX12 233 yX12_isSheet 1 := ⟨am_in 1150 (by decide +kernel) rfl, am_in 1151 (by decide +kernel) rfl, am_in 61 (by decide +kernel) rfl, ⟨by decide +kernel, by decide +kernel, by decide +kernel⟩⟩
theorem km_L_118 : am_mV RL 118 RX12 yX12_lay 3 := ⟨am_in 1153 (by decide +kernel) rfl, am_in 1154 (by decide +kernel) rfl, am_in 1155 (by decide +kernel) rfl, am_in 61 (by decide +kernel) rfl, ⟨by decide +kernel, by decide +kernel, by decide +kernel⟩⟩
theorem km_X12_236 : am_mV RX12 236 RX12 yX12_looked 1 := ⟨am_in 1157 (by decide +kernel) rfl, am_in 1159 (by decide +kernel) rfl, am_in 44 (by decide +kernel) rfl, am_in 61 (by decide +kernel) rfl, ⟨by decide +kernel, by decide +kernel, by decide +kernel⟩⟩
theorem km_L_122 : am_mV RL 122 RX12 yX12_play 2 := ⟨am_in 1161 (by decide +kernel) rfl, am_in 1162 (by decide +kernel) rfl, am_in 1163 (by decide +kernel) rfl, am_in 61 (by decide +kernel) rfl, ⟨by decide +kernel, by decide +kernel, by decide +kernel⟩⟩
theorem km_L_126 : am_mV RL 126 RX12 yX12_tear 1 := ⟨am_in 1165 (by decide +kernel) rfl, am_in 1166 (by decide +kernel) rfl, am_in 1167 (by decide +kernel) rfl, am_in 61 (by decide +kernel) rfl, ⟨by decide +kernel, by decide +kernel, by decide +kernel⟩⟩
theorem km_L_131 : am_mV RL 131 RX12 yX12_copy 5 := ⟨am_in 1169 (by decide +kernel) rfl, am_in 1170 (by decide +kernel) rfl, am_in 1171 (by decide +kernel) rfl, am_in 61 (by decide +kernel) rfl, ⟨by decide +kernel, by decide +kernel, by decide +kernel⟩⟩
theorem km_L_136 : am_mV RL 136 RX12 yX12_asked 0 := ⟨am_in 1173 (by decide +kernel) rfl, am_in 1174 (by decide +kernel) rfl, am_in 1175 (by decide +kernel) rfl, am_in 61 (by decide +kernel) rfl, ⟨by decide +kernel, by decide +kernel, by decide +kernel⟩⟩
theorem km_L_140 : am_mV RL 140 RX12 yX12_count 1 := ⟨am_in 1177 (by decide +kernel) rfl, am_in 1178 (by decide +kernel) rfl, am_in 1179 (by decide +kernel) rfl, am_in 61 (by decide +kernel) rfl, ⟨by decide +kernel, by decide +kernel, by decide +kernel⟩⟩
theorem km_X12_239 : am_mV RX12 239 RX12 yX12_tellsCount 1 := ⟨am_in 1181 (by decide +kernel) rfl, am_in 1183 (by decide +kernel) rfl, am_in 45 (by decide +kernel) rfl, am_in 61 (by decide +kernel) rfl, ⟨by decide +kernel, by decide +kernel, by decide +kernel⟩⟩
theorem km_L_144 : am_mV RL 144 RX12 yX12_finding 0 := ⟨am_in 1185 (by decide +kernel) rfl, am_in 1186 (by decide +kernel) rfl, am_in 1187 (by decide +kernel) rfl, am_in 61 (by decide +kernel) rfl, ⟨by decide +kernel, by decide +kernel, by decide +kernel⟩⟩
theorem km_L_148 : am_mV RL 148 RX12 yX12_findings 1 := ⟨am_in 1189 (by decide +kernel) rfl, am_in 1190 (by decide +kernel) rfl, am_in 1191 (by decide +kernel) rfl, am_in 61 (by decide +kernel) rfl, ⟨by decide +kernel, by decide +kernel, by decide +kernel⟩⟩
theorem km_L_152 : am_mV RL 152 RX12 yX12_digest 0 := ⟨am_in 1193 (by decide +kernel) rfl, am_in 1194 (by decide +kernel) rfl, am_in 1195 (by decide +kernel) rfl, am_in 61 (by decide +kernel) rfl, ⟨by decide +kernel, by decide +kernel, by decide +kernel⟩⟩
theorem kk_X4_41 : Cond.constant RX4 41 (65536) ∈ am_ws := am_in 447 (by decide +kernel) rfl
theorem kk_X11_161 : Cond.constant RX11 161 (60000) ∈ am_ws := am_in 472 (by decide +kernel) rfl
theorem kk_X11_216 : Cond.constant RX11 216 (2147483647) ∈ am_ws := am_in 630 (by decide +kernel) rfl
theorem kk_X8_170 : Cond.constantLong RX8 170 (9223372036854775807) ∈ am_ws := am_in 725 (by decide +kernel) rfl
theorem kk_J6_264 : Cond.constant RJ6 264 (65536) ∈ am_ws := am_in 732 (by decide +kernel) rfl
theorem kk_J13_314 : Cond.constantLong RJ13 314 (6148914691236517205) ∈ am_ws := am_in 736 (by decide +kernel) rfl
theorem kk_J13_316 : Cond.constantLong RJ13 316 (3689348814741910323) ∈ am_ws := am_in 737 (by decide +kernel) rfl
theorem kk_J13_318 : Cond.constantLong RJ13 318 (1085102592571150095) ∈ am_ws := am_in 738 (by decide +kernel) rfl
theorem kk_X11_305 : Cond.constantLong RX11 305 (17) ∈ am_ws := am_in 805 (by decide +kernel) rfl
theorem kk_X11_307 : Cond.constantLong RX11 307 (31) ∈ am_ws := am_in 806 (by decide +kernel) rfl
theorem kk_X12_137 : Cond.constant RX12 137 (65536) ∈ am_ws := am_in 990 (by decide +kernel) rfl
theorem kk_X12_152 : Cond.constant RX12 152 (60000) ∈ am_ws := am_in 1011 (by decide +kernel) rfl
theorem kk_X12_242 : Cond.constantLong RX12 242 (17) ∈ am_ws := am_in 1197 (by decide +kernel) rfl
theorem kk_X12_244 : Cond.constantLong RX12 244 (31) ∈ am_ws := am_in 1198 (by decide +kernel) rfl
theorem kcX0_init : Cond.code yX0_init cX0_init 1 none ∈ am_ws := am_in 271 (by decide +kernel) rfl
theorem kcX0_begin : Cond.code yX0_begin cX0_begin 1 none ∈ am_ws := am_in 683 (by decide +kernel) rfl
theorem kcX0_hasEnough : Cond.code yX0_hasEnough cX0_hasEnough 3 (some .boolean) ∈ am_ws := am_in 580 (by decide +kernel) rfl
theorem kcX1_init : Cond.code yX1_init cX1_init 2 none ∈ am_ws := am_in 268 (by decide +kernel) rfl
theorem kcX1_costOf : Cond.code yX1_costOf cX1_costOf 4 (some .int) ∈ am_ws := am_in 586 (by decide +kernel) rfl
theorem kcX2_init : Cond.code yX2_init cX2_init 1 none ∈ am_ws := am_in 229 (by decide +kernel) rfl
theorem kcX3_init : Cond.code yX3_init cX3_init 1 none ∈ am_ws := am_in 300 (by decide +kernel) rfl
theorem kcX3_beginOn : Cond.code yX3_beginOn cX3_beginOn 4 none ∈ am_ws := am_in 695 (by decide +kernel) rfl
theorem kcX3_costOf : Cond.code yX3_costOf cX3_costOf 4 (some .int) ∈ am_ws := am_in 589 (by decide +kernel) rfl
theorem kcX4_init : Cond.code yX4_init cX4_init 1 none ∈ am_ws := am_in 84 (by decide +kernel) rfl
theorem kcX4_begin : Cond.code yX4_begin cX4_begin 4 none ∈ am_ws := am_in 421 (by decide +kernel) rfl
theorem kcX4_isOf : Cond.code yX4_isOf cX4_isOf 2 (some .boolean) ∈ am_ws := am_in 438 (by decide +kernel) rfl
theorem kcX4_counterSize : Cond.code yX4_counterSize cX4_counterSize 1 (some .int) ∈ am_ws := am_in 446 (by decide +kernel) rfl
theorem kcX4_keepReading : Cond.code yX4_keepReading cX4_keepReading 3 none ∈ am_ws := am_in 483 (by decide +kernel) rfl
theorem kcX4_cutToCounter : Cond.code yX4_cutToCounter cX4_cutToCounter 2 (some .int) ∈ am_ws := am_in 487 (by decide +kernel) rfl
theorem kcX4_readingsKept : Cond.code yX4_readingsKept cX4_readingsKept 3 (some .int) ∈ am_ws := am_in 451 (by decide +kernel) rfl
theorem kcX4_loadBetween : Cond.code yX4_loadBetween cX4_loadBetween 3 (some .int) ∈ am_ws := am_in 496 (by decide +kernel) rfl
theorem kcX4_isSureBetween : Cond.code yX4_isSureBetween cX4_isSureBetween 3 (some .boolean) ∈ am_ws := am_in 500 (by decide +kernel) rfl
theorem kcX4_meanLoad : Cond.code yX4_meanLoad cX4_meanLoad 5 (some .int) ∈ am_ws := am_in 508 (by decide +kernel) rfl
theorem kcX5_init : Cond.code yX5_init cX5_init 2 none ∈ am_ws := am_in 77 (by decide +kernel) rfl
theorem kcX5_begin : Cond.code yX5_begin cX5_begin 2 none ∈ am_ws := am_in 405 (by decide +kernel) rfl
theorem kcX5_addLine : Cond.code yX5_addLine cX5_addLine 4 (some .int) ∈ am_ws := am_in 417 (by decide +kernel) rfl
theorem kcX5_isLine : Cond.code yX5_isLine cX5_isLine 2 (some .boolean) ∈ am_ws := am_in 430 (by decide +kernel) rfl
theorem kcX5_isPair : Cond.code yX5_isPair cX5_isPair 3 (some .boolean) ∈ am_ws := am_in 413 (by decide +kernel) rfl
theorem kcX5_pairNumber : Cond.code yX5_pairNumber cX5_pairNumber 3 (some .int) ∈ am_ws := am_in 347 (by decide +kernel) rfl
theorem kcX5_linesTold : Cond.code yX5_linesTold cX5_linesTold 3 (some .int) ∈ am_ws := am_in 784 (by decide +kernel) rfl
theorem kcX5_pairsMetered : Cond.code yX5_pairsMetered cX5_pairsMetered 3 (some .int) ∈ am_ws := am_in 788 (by decide +kernel) rfl
theorem kcX5_carriedFrom : Cond.code yX5_carriedFrom cX5_carriedFrom 4 (some .int) ∈ am_ws := am_in 664 (by decide +kernel) rfl
theorem kcX5_carriedTo : Cond.code yX5_carriedTo cX5_carriedTo 4 (some .int) ∈ am_ws := am_in 669 (by decide +kernel) rfl
theorem kcX5_allCarried : Cond.code yX5_allCarried cX5_allCarried 3 (some .int) ∈ am_ws := am_in 660 (by decide +kernel) rfl
theorem kcX6_init : Cond.code yX6_init cX6_init 1 none ∈ am_ws := am_in 249 (by decide +kernel) rfl
theorem kcX6_begin : Cond.code yX6_begin cX6_begin 1 none ∈ am_ws := am_in 638 (by decide +kernel) rfl
theorem kcX6_hasEnough : Cond.code yX6_hasEnough cX6_hasEnough 3 (some .boolean) ∈ am_ws := am_in 594 (by decide +kernel) rfl
theorem kcX7_init : Cond.code yX7_init cX7_init 1 none ∈ am_ws := am_in 157 (by decide +kernel) rfl
theorem kcX7_find : Cond.code yX7_find cX7_find 5 none ∈ am_ws := am_in 332 (by decide +kernel) rfl
theorem kcX7_isRouted : Cond.code yX7_isRouted cX7_isRouted 2 (some .boolean) ∈ am_ws := am_in 557 (by decide +kernel) rfl
theorem kcX7_lineAt : Cond.code yX7_lineAt cX7_lineAt 3 (some .int) ∈ am_ws := am_in 463 (by decide +kernel) rfl
theorem kcX7_goesBy : Cond.code yX7_goesBy cX7_goesBy 4 (some .boolean) ∈ am_ws := am_in 459 (by decide +kernel) rfl
theorem kcX7_pairsOn : Cond.code yX7_pairsOn cX7_pairsOn 4 (some .int) ∈ am_ws := am_in 455 (by decide +kernel) rfl
theorem kcX7_pairsCut : Cond.code yX7_pairsCut cX7_pairsCut 3 (some .int) ∈ am_ws := am_in 792 (by decide +kernel) rfl
theorem kcX7_measure : Cond.code yX7_measure cX7_measure 7 none ∈ am_ws := am_in 336 (by decide +kernel) rfl
theorem kcX7_isShut : Cond.code yX7_isShut cX7_isShut 3 (some .boolean) ∈ am_ws := am_in 340 (by decide +kernel) rfl
theorem kcX7_walk : Cond.code yX7_walk cX7_walk 8 none ∈ am_ws := am_in 351 (by decide +kernel) rfl
theorem kcX8_init : Cond.code yX8_init cX8_init 3 none ∈ am_ws := am_in 181 (by decide +kernel) rfl
theorem kcX8_begin : Cond.code yX8_begin cX8_begin 3 none ∈ am_ws := am_in 545 (by decide +kernel) rfl
theorem kcX8_seek : Cond.code yX8_seek cX8_seek 2 none ∈ am_ws := am_in 566 (by decide +kernel) rfl
theorem kcX8_fewestMeters : Cond.code yX8_fewestMeters cX8_fewestMeters 8 (some .long) ∈ am_ws := am_in 707 (by decide +kernel) rfl
theorem kcX8_isSought : Cond.code yX8_isSought cX8_isSought 3 (some .boolean) ∈ am_ws := am_in 553 (by decide +kernel) rfl
theorem kcX8_addSought : Cond.code yX8_addSought cX8_addSought 3 none ∈ am_ws := am_in 562 (by decide +kernel) rfl
theorem kcX8_goesOn : Cond.code yX8_goesOn cX8_goesOn 8 (some .boolean) ∈ am_ws := am_in 570 (by decide +kernel) rfl
theorem kcX8_leastNumber : Cond.code yX8_leastNumber cX8_leastNumber 6 (some .int) ∈ am_ws := am_in 606 (by decide +kernel) rfl
theorem kcX8_mostNumber : Cond.code yX8_mostNumber cX8_mostNumber 5 (some .int) ∈ am_ws := am_in 611 (by decide +kernel) rfl
theorem kcX8_take : Cond.code yX8_take cX8_take 5 none ∈ am_ws := am_in 616 (by decide +kernel) rfl
theorem kcX8_isNothingLeft : Cond.code yX8_isNothingLeft cX8_isNothingLeft 2 (some .boolean) ∈ am_ws := am_in 574 (by decide +kernel) rfl
theorem kcX8_findFree : Cond.code yX8_findFree cX8_findFree 3 (some .int) ∈ am_ws := am_in 711 (by decide +kernel) rfl
theorem kcX8_fix : Cond.code yX8_fix cX8_fix 6 none ∈ am_ws := am_in 715 (by decide +kernel) rfl
theorem kcX8_bitsOf : Cond.code yX8_bitsOf cX8_bitsOf 7 (some .long) ∈ am_ws := am_in 721 (by decide +kernel) rfl
theorem kcX8_nextSet : Cond.code yX8_nextSet cX8_nextSet 6 (some .long) ∈ am_ws := am_in 724 (by decide +kernel) rfl
theorem kcX9_init : Cond.code yX9_init cX9_init 1 none ∈ am_ws := am_in 314 (by decide +kernel) rfl
theorem kcX9_put : Cond.code yX9_put cX9_put 3 none ∈ am_ws := am_in 749 (by decide +kernel) rfl
theorem kcX9_hasRun : Cond.code yX9_hasRun cX9_hasRun 4 (some .boolean) ∈ am_ws := am_in 772 (by decide +kernel) rfl
theorem kcX10_init : Cond.code yX10_init cX10_init 1 none ∈ am_ws := am_in 226 (by decide +kernel) rfl
theorem kcX10_begin : Cond.code yX10_begin cX10_begin 2 none ∈ am_ws := am_in 537 (by decide +kernel) rfl
theorem kcX10_hasEnough : Cond.code yX10_hasEnough cX10_hasEnough 2 (some .boolean) ∈ am_ws := am_in 601 (by decide +kernel) rfl
theorem kcX11_init : Cond.code yX11_init cX11_init 1 none ∈ am_ws := am_in 69 (by decide +kernel) rfl
theorem kcX11_net : Cond.code yX11_net cX11_net 2 (some .int) ∈ am_ws := am_in 401 (by decide +kernel) rfl
theorem kcX11_line : Cond.code yX11_line cX11_line 5 (some .int) ∈ am_ws := am_in 409 (by decide +kernel) rfl
theorem kcX11_told : Cond.code yX11_told cX11_told 4 (some .int) ∈ am_ws := am_in 426 (by decide +kernel) rfl
theorem kcX11_mark : Cond.code yX11_mark cX11_mark 4 (some .int) ∈ am_ws := am_in 434 (by decide +kernel) rfl
theorem kcX11_down : Cond.code yX11_down cX11_down 4 (some .int) ∈ am_ws := am_in 467 (by decide +kernel) rfl
theorem kcX11_rate : Cond.code yX11_rate cX11_rate 4 (some .int) ∈ am_ws := am_in 471 (by decide +kernel) rfl
theorem kcX11_reading : Cond.code yX11_reading cX11_reading 6 (some .int) ∈ am_ws := am_in 476 (by decide +kernel) rfl
theorem kcX11_load : Cond.code yX11_load cX11_load 5 (some .int) ∈ am_ws := am_in 492 (by decide +kernel) rfl
theorem kcX11_mean : Cond.code yX11_mean cX11_mean 3 (some .int) ∈ am_ws := am_in 504 (by decide +kernel) rfl
theorem kcX11_route : Cond.code yX11_route cX11_route 6 (some .int) ∈ am_ws := am_in 513 (by decide +kernel) rfl
theorem kcX11_carried : Cond.code yX11_carried cX11_carried 5 (some .int) ∈ am_ws := am_in 519 (by decide +kernel) rfl
theorem kcX11_meter : Cond.code yX11_meter cX11_meter 6 (some .int) ∈ am_ws := am_in 526 (by decide +kernel) rfl
theorem kcX11_fits : Cond.code yX11_fits cX11_fits 2 (some .int) ∈ am_ws := am_in 530 (by decide +kernel) rfl
theorem kcX11_fit : Cond.code yX11_fit cX11_fit 3 (some .int) ∈ am_ws := am_in 625 (by decide +kernel) rfl
theorem kcX11_many : Cond.code yX11_many cX11_many 2 (some .int) ∈ am_ws := am_in 629 (by decide +kernel) rfl
theorem kcX11_bound : Cond.code yX11_bound cX11_bound 6 (some .int) ∈ am_ws := am_in 634 (by decide +kernel) rfl
theorem kcX11_sure : Cond.code yX11_sure cX11_sure 2 (some .int) ∈ am_ws := am_in 643 (by decide +kernel) rfl
theorem kcX11_tries : Cond.code yX11_tries cX11_tries 1 (some .int) ∈ am_ws := am_in 652 (by decide +kernel) rfl
theorem kcX11_guess : Cond.code yX11_guess cX11_guess 4 (some .int) ∈ am_ws := am_in 656 (by decide +kernel) rfl
theorem kcX11_base : Cond.code yX11_base cX11_base 6 (some .int) ∈ am_ws := am_in 673 (by decide +kernel) rfl
theorem kcX11_changed : Cond.code yX11_changed cX11_changed 2 (some .int) ∈ am_ws := am_in 677 (by decide +kernel) rfl
theorem kcX11_worst : Cond.code yX11_worst cX11_worst 4 (some .int) ∈ am_ws := am_in 691 (by decide +kernel) rfl
theorem kcX11_meters : Cond.code yX11_meters cX11_meters 4 (some .int) ∈ am_ws := am_in 703 (by decide +kernel) rfl
theorem kcX11_sheet : Cond.code yX11_sheet cX11_sheet 3 (some .int) ∈ am_ws := am_in 742 (by decide +kernel) rfl
theorem kcX11_lay : Cond.code yX11_lay cX11_lay 5 (some .int) ∈ am_ws := am_in 756 (by decide +kernel) rfl
theorem kcX11_play : Cond.code yX11_play cX11_play 5 (some .int) ∈ am_ws := am_in 760 (by decide +kernel) rfl
theorem kcX11_tear : Cond.code yX11_tear cX11_tear 2 (some .int) ∈ am_ws := am_in 764 (by decide +kernel) rfl
theorem kcX11_copy : Cond.code yX11_copy cX11_copy 6 (some .int) ∈ am_ws := am_in 768 (by decide +kernel) rfl
theorem kcX11_asked : Cond.code yX11_asked cX11_asked 1 (some .long) ∈ am_ws := am_in 776 (by decide +kernel) rfl
theorem kcX11_count : Cond.code yX11_count cX11_count 2 (some .int) ∈ am_ws := am_in 780 (by decide +kernel) rfl
theorem kcX11_finding : Cond.code yX11_finding cX11_finding 1 (some .int) ∈ am_ws := am_in 796 (by decide +kernel) rfl
theorem kcX11_findings : Cond.code yX11_findings cX11_findings 2 (some .int) ∈ am_ws := am_in 800 (by decide +kernel) rfl
theorem kcX11_digest : Cond.code yX11_digest cX11_digest 6 (some .long) ∈ am_ws := am_in 804 (by decide +kernel) rfl
theorem kcX11_isHour : Cond.code yX11_isHour cX11_isHour 1 (some .boolean) ∈ am_ws := am_in 479 (by decide +kernel) rfl
theorem kcX11_isLoadOrNone : Cond.code yX11_isLoadOrNone cX11_isLoadOrNone 1 (some .boolean) ∈ am_ws := am_in 522 (by decide +kernel) rfl
theorem kcX11_isTries : Cond.code yX11_isTries cX11_isTries 1 (some .boolean) ∈ am_ws := am_in 533 (by decide +kernel) rfl
theorem kcX11_isSheet : Cond.code yX11_isSheet cX11_isSheet 1 (some .boolean) ∈ am_ws := am_in 745 (by decide +kernel) rfl
theorem kcX11_found : Cond.code yX11_found cX11_found 2 (some .int) ∈ am_ws := am_in 442 (by decide +kernel) rfl
theorem kcX11_seekAll : Cond.code yX11_seekAll cX11_seekAll 3 (some .boolean) ∈ am_ws := am_in 541 (by decide +kernel) rfl
theorem kcX11_seekBest : Cond.code yX11_seekBest cX11_seekBest 3 (some .boolean) ∈ am_ws := am_in 687 (by decide +kernel) rfl
theorem kcX11_keepFit : Cond.code yX11_keepFit cX11_keepFit 2 none ∈ am_ws := am_in 620 (by decide +kernel) rfl
theorem kcX11_surePairs : Cond.code yX11_surePairs cX11_surePairs 3 (some .int) ∈ am_ws := am_in 647 (by decide +kernel) rfl
theorem kcX11_digestLine : Cond.code yX11_digestLine cX11_digestLine 7 (some .long) ∈ am_ws := am_in 811 (by decide +kernel) rfl
theorem kcX11_digestSheet : Cond.code yX11_digestSheet cX11_digestSheet 7 (some .long) ∈ am_ws := am_in 816 (by decide +kernel) rfl
theorem kcX12_init : Cond.code yX12_init cX12_init 2 none ∈ am_ws := am_in 821 (by decide +kernel) rfl
theorem kcX12_in : Cond.code yX12_in cX12_in 3 (some .boolean) ∈ am_ws := am_in 957 (by decide +kernel) rfl
theorem kcX12_meets : Cond.code yX12_meets cX12_meets 2 (some .int) ∈ am_ws := am_in 985 (by decide +kernel) rfl
theorem kcX12_tell : Cond.code yX12_tell cX12_tell 4 (some .int) ∈ am_ws := am_in 1031 (by decide +kernel) rfl
theorem kcX12_forget : Cond.code yX12_forget cX12_forget 2 none ∈ am_ws := am_in 826 (by decide +kernel) rfl
theorem kcX12_net : Cond.code yX12_net cX12_net 2 (some .int) ∈ am_ws := am_in 954 (by decide +kernel) rfl
theorem kcX12_isKnot : Cond.code yX12_isKnot cX12_isKnot 2 (some .boolean) ∈ am_ws := am_in 965 (by decide +kernel) rfl
theorem kcX12_isLine : Cond.code yX12_isLine cX12_isLine 2 (some .boolean) ∈ am_ws := am_in 973 (by decide +kernel) rfl
theorem kcX12_line : Cond.code yX12_line cX12_line 5 (some .int) ∈ am_ws := am_in 961 (by decide +kernel) rfl
theorem kcX12_tells : Cond.code yX12_tells cX12_tells 3 (some .int) ∈ am_ws := am_in 977 (by decide +kernel) rfl
theorem kcX12_told : Cond.code yX12_told cX12_told 3 (some .int) ∈ am_ws := am_in 969 (by decide +kernel) rfl
theorem kcX12_counts : Cond.code yX12_counts cX12_counts 2 (some .boolean) ∈ am_ws := am_in 1019 (by decide +kernel) rfl
theorem kcX12_counterOf : Cond.code yX12_counterOf cX12_counterOf 2 (some .int) ∈ am_ws := am_in 989 (by decide +kernel) rfl
theorem kcX12_had : Cond.code yX12_had cX12_had 4 (some .int) ∈ am_ws := am_in 994 (by decide +kernel) rfl
theorem kcX12_mark : Cond.code yX12_mark cX12_mark 6 (some .int) ∈ am_ws := am_in 981 (by decide +kernel) rfl
theorem kcX12_down : Cond.code yX12_down cX12_down 4 (some .int) ∈ am_ws := am_in 1006 (by decide +kernel) rfl
theorem kcX12_rate : Cond.code yX12_rate cX12_rate 4 (some .int) ∈ am_ws := am_in 1010 (by decide +kernel) rfl
theorem kcX12_reading : Cond.code yX12_reading cX12_reading 5 (some .int) ∈ am_ws := am_in 1015 (by decide +kernel) rfl
theorem kcX12_loadOf : Cond.code yX12_loadOf cX12_loadOf 5 (some .int) ∈ am_ws := am_in 1027 (by decide +kernel) rfl
theorem kcX12_load : Cond.code yX12_load cX12_load 4 (some .int) ∈ am_ws := am_in 1023 (by decide +kernel) rfl
theorem kcX12_mean : Cond.code yX12_mean cX12_mean 6 (some .int) ∈ am_ws := am_in 1035 (by decide +kernel) rfl
theorem kcX12_setRoutes : Cond.code yX12_setRoutes cX12_setRoutes 6 none ∈ am_ws := am_in 998 (by decide +kernel) rfl
theorem kcX12_routeOf : Cond.code yX12_routeOf cX12_routeOf 8 (some .int) ∈ am_ws := am_in 1002 (by decide +kernel) rfl
theorem kcX12_isPair : Cond.code yX12_isPair cX12_isPair 3 (some .boolean) ∈ am_ws := am_in 1043 (by decide +kernel) rfl
theorem kcX12_route : Cond.code yX12_route cX12_route 5 (some .int) ∈ am_ws := am_in 1039 (by decide +kernel) rfl
theorem kcX12_carried : Cond.code yX12_carried cX12_carried 4 (some .int) ∈ am_ws := am_in 1047 (by decide +kernel) rfl
theorem kcX12_meter : Cond.code yX12_meter cX12_meter 5 (some .int) ∈ am_ws := am_in 1051 (by decide +kernel) rfl
theorem kcX12_base : Cond.code yX12_base cX12_base 5 (some .int) ∈ am_ws := am_in 1055 (by decide +kernel) rfl
theorem kcX12_guess : Cond.code yX12_guess cX12_guess 8 (some .int) ∈ am_ws := am_in 1059 (by decide +kernel) rfl
theorem kcX12_setSeeking : Cond.code yX12_setSeeking cX12_setSeeking 4 none ∈ am_ws := am_in 1074 (by decide +kernel) rfl
theorem kcX12_beginSeeking : Cond.code yX12_beginSeeking cX12_beginSeeking 2 none ∈ am_ws := am_in 1082 (by decide +kernel) rfl
theorem kcX12_begin : Cond.code yX12_begin cX12_begin 5 none ∈ am_ws := am_in 1086 (by decide +kernel) rfl
theorem kcX12_take : Cond.code yX12_take cX12_take 3 none ∈ am_ws := am_in 1094 (by decide +kernel) rfl
theorem kcX12_next : Cond.code yX12_next cX12_next 2 (some .int) ∈ am_ws := am_in 1078 (by decide +kernel) rfl
theorem kcX12_isNothingLeft : Cond.code yX12_isNothingLeft cX12_isNothingLeft 3 (some .boolean) ∈ am_ws := am_in 1090 (by decide +kernel) rfl
theorem kcX12_open : Cond.code yX12_open cX12_open 3 none ∈ am_ws := am_in 1070 (by decide +kernel) rfl
theorem kcX12_areTries : Cond.code yX12_areTries cX12_areTries 1 (some .boolean) ∈ am_ws := am_in 1066 (by decide +kernel) rfl
theorem kcX12_keep : Cond.code yX12_keep cX12_keep 2 none ∈ am_ws := am_in 1098 (by decide +kernel) rfl
theorem kcX12_fits : Cond.code yX12_fits cX12_fits 3 (some .int) ∈ am_ws := am_in 1063 (by decide +kernel) rfl
theorem kcX12_fit : Cond.code yX12_fit cX12_fit 3 (some .int) ∈ am_ws := am_in 1102 (by decide +kernel) rfl
theorem kcX12_many : Cond.code yX12_many cX12_many 5 (some .int) ∈ am_ws := am_in 1106 (by decide +kernel) rfl
theorem kcX12_setBounds : Cond.code yX12_setBounds cX12_setBounds 6 (some .int) ∈ am_ws := am_in 1114 (by decide +kernel) rfl
theorem kcX12_bound : Cond.code yX12_bound cX12_bound 6 (some .int) ∈ am_ws := am_in 1110 (by decide +kernel) rfl
theorem kcX12_sure : Cond.code yX12_sure cX12_sure 5 (some .int) ∈ am_ws := am_in 1118 (by decide +kernel) rfl
theorem kcX12_tries : Cond.code yX12_tries cX12_tries 1 (some .int) ∈ am_ws := am_in 1122 (by decide +kernel) rfl
theorem kcX12_changes : Cond.code yX12_changes cX12_changes 4 (some .int) ∈ am_ws := am_in 1130 (by decide +kernel) rfl
theorem kcX12_changed : Cond.code yX12_changed cX12_changed 5 (some .int) ∈ am_ws := am_in 1126 (by decide +kernel) rfl
theorem kcX12_worst : Cond.code yX12_worst cX12_worst 8 (some .int) ∈ am_ws := am_in 1134 (by decide +kernel) rfl
theorem kcX12_meters : Cond.code yX12_meters cX12_meters 11 (some .int) ∈ am_ws := am_in 1138 (by decide +kernel) rfl
theorem kcX12_later : Cond.code yX12_later cX12_later 6 (some .long) ∈ am_ws := am_in 1145 (by decide +kernel) rfl
theorem kcX12_isAlone : Cond.code yX12_isAlone cX12_isAlone 5 (some .int) ∈ am_ws := am_in 1142 (by decide +kernel) rfl
theorem kcX12_isSheet : Cond.code yX12_isSheet cX12_isSheet 1 (some .boolean) ∈ am_ws := am_in 1152 (by decide +kernel) rfl
theorem kcX12_looked : Cond.code yX12_looked cX12_looked 2 (some .int) ∈ am_ws := am_in 1160 (by decide +kernel) rfl
theorem kcX12_sheet : Cond.code yX12_sheet cX12_sheet 4 (some .int) ∈ am_ws := am_in 1149 (by decide +kernel) rfl
theorem kcX12_lay : Cond.code yX12_lay cX12_lay 6 (some .int) ∈ am_ws := am_in 1156 (by decide +kernel) rfl
theorem kcX12_play : Cond.code yX12_play cX12_play 4 (some .int) ∈ am_ws := am_in 1164 (by decide +kernel) rfl
theorem kcX12_tear : Cond.code yX12_tear cX12_tear 3 (some .int) ∈ am_ws := am_in 1168 (by decide +kernel) rfl
theorem kcX12_copy : Cond.code yX12_copy cX12_copy 7 (some .int) ∈ am_ws := am_in 1172 (by decide +kernel) rfl
theorem kcX12_asked : Cond.code yX12_asked cX12_asked 1 (some .long) ∈ am_ws := am_in 1176 (by decide +kernel) rfl
theorem kcX12_tellsCount : Cond.code yX12_tellsCount cX12_tellsCount 6 (some .int) ∈ am_ws := am_in 1184 (by decide +kernel) rfl
theorem kcX12_count : Cond.code yX12_count cX12_count 2 (some .int) ∈ am_ws := am_in 1180 (by decide +kernel) rfl
theorem kcX12_finding : Cond.code yX12_finding cX12_finding 1 (some .int) ∈ am_ws := am_in 1188 (by decide +kernel) rfl
theorem kcX12_findings : Cond.code yX12_findings cX12_findings 2 (some .int) ∈ am_ws := am_in 1192 (by decide +kernel) rfl
theorem kcX12_digest : Cond.code yX12_digest cX12_digest 5 (some .long) ∈ am_ws := am_in 1196 (by decide +kernel) rfl
theorem kcJ6_numberOfTrailingZeros_0f7a4 : Cond.code yJ6_numberOfTrailingZeros_0f7a4 cJ6_numberOfTrailingZeros_0f7a4 2 (some .int) ∈ am_ws := am_in 731 (by decide +kernel) rfl
theorem kcJ13_numberOfTrailingZeros_95d88 : Cond.code yJ13_numberOfTrailingZeros_95d88 cJ13_numberOfTrailingZeros_95d88 3 (some .int) ∈ am_ws := am_in 728 (by decide +kernel) rfl
theorem kcJ13_bitCount_95d88 : Cond.code yJ13_bitCount_95d88 cJ13_bitCount_95d88 2 (some .int) ∈ am_ws := am_in 735 (by decide +kernel) rfl
theorem kcJ9_max_7cf53 : Cond.code yJ9_max_7cf53 cJ9_max_7cf53 2 (some .int) ∈ am_ws := am_in 598 (by decide +kernel) rfl
theorem kcJ9_min_7cf53 : Cond.code yJ9_min_7cf53 cJ9_min_7cf53 2 (some .int) ∈ am_ws := am_in 343 (by decide +kernel) rfl
theorem kcJ7_fill_53178 : Cond.code yJ7_fill_53178 cJ7_fill_53178 4 none ∈ am_ws := am_in 125 (by decide +kernel) rfl
theorem kcJ7_fill_031fb : Cond.code yJ7_fill_031fb cJ7_fill_031fb 4 none ∈ am_ws := am_in 752 (by decide +kernel) rfl
theorem ks_max : Cond.static Lib.Math.max.name ∈ am_ws := am_in 597 (by decide +kernel) rfl
theorem kc_max : Cond.code Lib.Math.max.name Lib.Math.max.code 2 (some .int) ∈ am_ws := am_in 598 (by decide +kernel) rfl
theorem kl_X6_34 : Cond.methodLink RX6 34 Lib.Math.max.name ∈ am_ws := am_in 596 (by decide +kernel) rfl
theorem kl_X8_160 : Cond.methodLink RX8 160 Lib.Math.max.name ∈ am_ws := am_in 607 (by decide +kernel) rfl
theorem ks_min : Cond.static Lib.Math.min.name ∈ am_ws := am_in 342 (by decide +kernel) rfl
theorem kc_min : Cond.code Lib.Math.min.name Lib.Math.min.code 2 (some .int) ∈ am_ws := am_in 343 (by decide +kernel) rfl
theorem kl_X7_74 : Cond.methodLink RX7 74 Lib.Math.min.name ∈ am_ws := am_in 341 (by decide +kernel) rfl
theorem kl_X6_28 : Cond.methodLink RX6 28 Lib.Math.min.name ∈ am_ws := am_in 595 (by decide +kernel) rfl
theorem kl_X8_165 : Cond.methodLink RX8 165 Lib.Math.min.name ∈ am_ws := am_in 612 (by decide +kernel) rfl
theorem ki_Math : Cond.initialized "java/lang/Math" ∈ am_ws := am_in 60 (by decide +kernel) rfl
theorem ki_System : Cond.initialized "java/lang/System" ∈ am_ws := am_in 62 (by decide +kernel) rfl
theorem kn_copy : Cond.native arraycopyName ∈ am_ws := am_in 549 (by decide +kernel) rfl
theorem ks_copy : Cond.static arraycopyName ∈ am_ws := am_in 548 (by decide +kernel) rfl
theorem kl_X8_63 : Cond.methodLink RX8 63 arraycopyName ∈ am_ws := am_in 547 (by decide +kernel) rfl
theorem kl_X0_27 : Cond.methodLink RX0 27 arraycopyName ∈ am_ws := am_in 590 (by decide +kernel) rfl
theorem kl_X10_22 : Cond.methodLink RX10 22 arraycopyName ∈ am_ws := am_in 602 (by decide +kernel) rfl
theorem kl_X11_287 : Cond.methodLink RX11 287 arraycopyName ∈ am_ws := am_in 621 (by decide +kernel) rfl
end
section
/-! decode rows -/
theorem dJ6_numberOfTrailingZeros_0f7a4_0 : decode cJ6_numberOfTrailingZeros_0f7a4 0 = .ok (.iload_n 0, 1) := by decide +kernel
theorem dJ6_numberOfTrailingZeros_0f7a4_1 : decode cJ6_numberOfTrailingZeros_0f7a4 1 = .ok (.iconst (-1), 1) := by decide +kernel
theorem dJ6_numberOfTrailingZeros_0f7a4_2 : decode cJ6_numberOfTrailingZeros_0f7a4 2 = .ok (.ixor, 1) := by decide +kernel
theorem dJ6_numberOfTrailingZeros_0f7a4_3 : decode cJ6_numberOfTrailingZeros_0f7a4 3 = .ok (.iload_n 0, 1) := by decide +kernel
theorem dJ6_numberOfTrailingZeros_0f7a4_4 : decode cJ6_numberOfTrailingZeros_0f7a4 4 = .ok (.iconst 1, 1) := by decide +kernel
theorem dJ6_numberOfTrailingZeros_0f7a4_5 : decode cJ6_numberOfTrailingZeros_0f7a4 5 = .ok (.isub, 1) := by decide +kernel
theorem dJ6_numberOfTrailingZeros_0f7a4_6 : decode cJ6_numberOfTrailingZeros_0f7a4 6 = .ok (.iand, 1) := by decide +kernel
theorem dJ6_numberOfTrailingZeros_0f7a4_7 : decode cJ6_numberOfTrailingZeros_0f7a4 7 = .ok (.istore_n 0, 1) := by decide +kernel
theorem dJ6_numberOfTrailingZeros_0f7a4_8 : decode cJ6_numberOfTrailingZeros_0f7a4 8 = .ok (.iload_n 0, 1) := by decide +kernel
theorem dJ6_numberOfTrailingZeros_0f7a4_9 : decode cJ6_numberOfTrailingZeros_0f7a4 9 = .ok (.ifCond .gt 8, 3) := by decide +kernel
theorem dJ6_numberOfTrailingZeros_0f7a4_12 : decode cJ6_numberOfTrailingZeros_0f7a4 12 = .ok (.iload_n 0, 1) := by decide +kernel
theorem dJ6_numberOfTrailingZeros_0f7a4_13 : decode cJ6_numberOfTrailingZeros_0f7a4 13 = .ok (.bipush 32, 2) := by decide +kernel
theorem dJ6_numberOfTrailingZeros_0f7a4_15 : decode cJ6_numberOfTrailingZeros_0f7a4 15 = .ok (.iand, 1) := by decide +kernel
theorem dJ6_numberOfTrailingZeros_0f7a4_16 : decode cJ6_numberOfTrailingZeros_0f7a4 16 = .ok (.ireturn, 1) := by decide +kernel
theorem dJ6_numberOfTrailingZeros_0f7a4_17 : decode cJ6_numberOfTrailingZeros_0f7a4 17 = .ok (.iconst 1, 1) := by decide +kernel
theorem dJ6_numberOfTrailingZeros_0f7a4_18 : decode cJ6_numberOfTrailingZeros_0f7a4 18 = .ok (.istore_n 1, 1) := by decide +kernel
theorem dJ6_numberOfTrailingZeros_0f7a4_19 : decode cJ6_numberOfTrailingZeros_0f7a4 19 = .ok (.iload_n 0, 1) := by decide +kernel
theorem dJ6_numberOfTrailingZeros_0f7a4_20 : decode cJ6_numberOfTrailingZeros_0f7a4 20 = .ok (.ldc_w 264, 3) := by decide +kernel
theorem dJ6_numberOfTrailingZeros_0f7a4_23 : decode cJ6_numberOfTrailingZeros_0f7a4 23 = .ok (.if_icmp .le 11, 3) := by decide +kernel
theorem dJ6_numberOfTrailingZeros_0f7a4_26 : decode cJ6_numberOfTrailingZeros_0f7a4 26 = .ok (.iinc 1 16, 3) := by decide +kernel
theorem dJ6_numberOfTrailingZeros_0f7a4_29 : decode cJ6_numberOfTrailingZeros_0f7a4 29 = .ok (.iload_n 0, 1) := by decide +kernel
theorem dJ6_numberOfTrailingZeros_0f7a4_30 : decode cJ6_numberOfTrailingZeros_0f7a4 30 = .ok (.bipush 16, 2) := by decide +kernel
theorem dJ6_numberOfTrailingZeros_0f7a4_32 : decode cJ6_numberOfTrailingZeros_0f7a4 32 = .ok (.iushr, 1) := by decide +kernel
theorem dJ6_numberOfTrailingZeros_0f7a4_33 : decode cJ6_numberOfTrailingZeros_0f7a4 33 = .ok (.istore_n 0, 1) := by decide +kernel
theorem dJ6_numberOfTrailingZeros_0f7a4_34 : decode cJ6_numberOfTrailingZeros_0f7a4 34 = .ok (.iload_n 0, 1) := by decide +kernel
theorem dJ6_numberOfTrailingZeros_0f7a4_35 : decode cJ6_numberOfTrailingZeros_0f7a4 35 = .ok (.sipush 256, 3) := by decide +kernel
theorem dJ6_numberOfTrailingZeros_0f7a4_38 : decode cJ6_numberOfTrailingZeros_0f7a4 38 = .ok (.if_icmp .le 11, 3) := by decide +kernel
theorem dJ6_numberOfTrailingZeros_0f7a4_41 : decode cJ6_numberOfTrailingZeros_0f7a4 41 = .ok (.iinc 1 8, 3) := by decide +kernel
theorem dJ6_numberOfTrailingZeros_0f7a4_44 : decode cJ6_numberOfTrailingZeros_0f7a4 44 = .ok (.iload_n 0, 1) := by decide +kernel
theorem dJ6_numberOfTrailingZeros_0f7a4_45 : decode cJ6_numberOfTrailingZeros_0f7a4 45 = .ok (.bipush 8, 2) := by decide +kernel
theorem dJ6_numberOfTrailingZeros_0f7a4_47 : decode cJ6_numberOfTrailingZeros_0f7a4 47 = .ok (.iushr, 1) := by decide +kernel
theorem dJ6_numberOfTrailingZeros_0f7a4_48 : decode cJ6_numberOfTrailingZeros_0f7a4 48 = .ok (.istore_n 0, 1) := by decide +kernel
theorem dJ6_numberOfTrailingZeros_0f7a4_49 : decode cJ6_numberOfTrailingZeros_0f7a4 49 = .ok (.iload_n 0, 1) := by decide +kernel
theorem dJ6_numberOfTrailingZeros_0f7a4_50 : decode cJ6_numberOfTrailingZeros_0f7a4 50 = .ok (.bipush 16, 2) := by decide +kernel
theorem dJ6_numberOfTrailingZeros_0f7a4_52 : decode cJ6_numberOfTrailingZeros_0f7a4 52 = .ok (.if_icmp .le 10, 3) := by decide +kernel
theorem dJ6_numberOfTrailingZeros_0f7a4_55 : decode cJ6_numberOfTrailingZeros_0f7a4 55 = .ok (.iinc 1 4, 3) := by decide +kernel
theorem dJ6_numberOfTrailingZeros_0f7a4_58 : decode cJ6_numberOfTrailingZeros_0f7a4 58 = .ok (.iload_n 0, 1) := by decide +kernel
theorem dJ6_numberOfTrailingZeros_0f7a4_59 : decode cJ6_numberOfTrailingZeros_0f7a4 59 = .ok (.iconst 4, 1) := by decide +kernel
theorem dJ6_numberOfTrailingZeros_0f7a4_60 : decode cJ6_numberOfTrailingZeros_0f7a4 60 = .ok (.iushr, 1) := by decide +kernel
theorem dJ6_numberOfTrailingZeros_0f7a4_61 : decode cJ6_numberOfTrailingZeros_0f7a4 61 = .ok (.istore_n 0, 1) := by decide +kernel
theorem dJ6_numberOfTrailingZeros_0f7a4_62 : decode cJ6_numberOfTrailingZeros_0f7a4 62 = .ok (.iload_n 0, 1) := by decide +kernel
theorem dJ6_numberOfTrailingZeros_0f7a4_63 : decode cJ6_numberOfTrailingZeros_0f7a4 63 = .ok (.iconst 4, 1) := by decide +kernel
theorem dJ6_numberOfTrailingZeros_0f7a4_64 : decode cJ6_numberOfTrailingZeros_0f7a4 64 = .ok (.if_icmp .le 10, 3) := by decide +kernel
theorem dJ6_numberOfTrailingZeros_0f7a4_67 : decode cJ6_numberOfTrailingZeros_0f7a4 67 = .ok (.iinc 1 2, 3) := by decide +kernel
theorem dJ6_numberOfTrailingZeros_0f7a4_70 : decode cJ6_numberOfTrailingZeros_0f7a4 70 = .ok (.iload_n 0, 1) := by decide +kernel
theorem dJ6_numberOfTrailingZeros_0f7a4_71 : decode cJ6_numberOfTrailingZeros_0f7a4 71 = .ok (.iconst 2, 1) := by decide +kernel
theorem dJ6_numberOfTrailingZeros_0f7a4_72 : decode cJ6_numberOfTrailingZeros_0f7a4 72 = .ok (.iushr, 1) := by decide +kernel
theorem dJ6_numberOfTrailingZeros_0f7a4_73 : decode cJ6_numberOfTrailingZeros_0f7a4 73 = .ok (.istore_n 0, 1) := by decide +kernel
theorem dJ6_numberOfTrailingZeros_0f7a4_74 : decode cJ6_numberOfTrailingZeros_0f7a4 74 = .ok (.iload_n 1, 1) := by decide +kernel
theorem dJ6_numberOfTrailingZeros_0f7a4_75 : decode cJ6_numberOfTrailingZeros_0f7a4 75 = .ok (.iload_n 0, 1) := by decide +kernel
theorem dJ6_numberOfTrailingZeros_0f7a4_76 : decode cJ6_numberOfTrailingZeros_0f7a4 76 = .ok (.iconst 1, 1) := by decide +kernel
theorem dJ6_numberOfTrailingZeros_0f7a4_77 : decode cJ6_numberOfTrailingZeros_0f7a4 77 = .ok (.iushr, 1) := by decide +kernel
theorem dJ6_numberOfTrailingZeros_0f7a4_78 : decode cJ6_numberOfTrailingZeros_0f7a4 78 = .ok (.iadd, 1) := by decide +kernel
theorem dJ6_numberOfTrailingZeros_0f7a4_79 : decode cJ6_numberOfTrailingZeros_0f7a4 79 = .ok (.ireturn, 1) := by decide +kernel
theorem dJ13_numberOfTrailingZeros_95d88_0 : decode cJ13_numberOfTrailingZeros_95d88 0 = .ok (.lload_n 0, 1) := by decide +kernel
theorem dJ13_numberOfTrailingZeros_95d88_1 : decode cJ13_numberOfTrailingZeros_95d88 1 = .ok (.l2i, 1) := by decide +kernel
theorem dJ13_numberOfTrailingZeros_95d88_2 : decode cJ13_numberOfTrailingZeros_95d88 2 = .ok (.istore_n 2, 1) := by decide +kernel
theorem dJ13_numberOfTrailingZeros_95d88_3 : decode cJ13_numberOfTrailingZeros_95d88 3 = .ok (.iload_n 2, 1) := by decide +kernel
theorem dJ13_numberOfTrailingZeros_95d88_4 : decode cJ13_numberOfTrailingZeros_95d88 4 = .ok (.ifCond .ne 17, 3) := by decide +kernel
theorem dJ13_numberOfTrailingZeros_95d88_7 : decode cJ13_numberOfTrailingZeros_95d88 7 = .ok (.bipush 32, 2) := by decide +kernel
theorem dJ13_numberOfTrailingZeros_95d88_9 : decode cJ13_numberOfTrailingZeros_95d88 9 = .ok (.lload_n 0, 1) := by decide +kernel
theorem dJ13_numberOfTrailingZeros_95d88_10 : decode cJ13_numberOfTrailingZeros_95d88 10 = .ok (.bipush 32, 2) := by decide +kernel
theorem dJ13_numberOfTrailingZeros_95d88_12 : decode cJ13_numberOfTrailingZeros_95d88 12 = .ok (.lushr, 1) := by decide +kernel
theorem dJ13_numberOfTrailingZeros_95d88_13 : decode cJ13_numberOfTrailingZeros_95d88 13 = .ok (.l2i, 1) := by decide +kernel
theorem dJ13_numberOfTrailingZeros_95d88_14 : decode cJ13_numberOfTrailingZeros_95d88 14 = .ok (.invokestatic 311, 3) := by decide +kernel
theorem dJ13_numberOfTrailingZeros_95d88_17 : decode cJ13_numberOfTrailingZeros_95d88 17 = .ok (.iadd, 1) := by decide +kernel
theorem dJ13_numberOfTrailingZeros_95d88_18 : decode cJ13_numberOfTrailingZeros_95d88 18 = .ok (.goto 7, 3) := by decide +kernel
theorem dJ13_numberOfTrailingZeros_95d88_21 : decode cJ13_numberOfTrailingZeros_95d88 21 = .ok (.iload_n 2, 1) := by decide +kernel
theorem dJ13_numberOfTrailingZeros_95d88_22 : decode cJ13_numberOfTrailingZeros_95d88 22 = .ok (.invokestatic 311, 3) := by decide +kernel
theorem dJ13_numberOfTrailingZeros_95d88_25 : decode cJ13_numberOfTrailingZeros_95d88 25 = .ok (.ireturn, 1) := by decide +kernel
theorem dJ13_bitCount_95d88_0 : decode cJ13_bitCount_95d88 0 = .ok (.lload_n 0, 1) := by decide +kernel
theorem dJ13_bitCount_95d88_1 : decode cJ13_bitCount_95d88 1 = .ok (.lload_n 0, 1) := by decide +kernel
theorem dJ13_bitCount_95d88_2 : decode cJ13_bitCount_95d88 2 = .ok (.iconst 1, 1) := by decide +kernel
theorem dJ13_bitCount_95d88_3 : decode cJ13_bitCount_95d88 3 = .ok (.lushr, 1) := by decide +kernel
theorem dJ13_bitCount_95d88_4 : decode cJ13_bitCount_95d88 4 = .ok (.ldc2_w 314, 3) := by decide +kernel
theorem dJ13_bitCount_95d88_7 : decode cJ13_bitCount_95d88 7 = .ok (.land, 1) := by decide +kernel
theorem dJ13_bitCount_95d88_8 : decode cJ13_bitCount_95d88 8 = .ok (.lsub, 1) := by decide +kernel
theorem dJ13_bitCount_95d88_9 : decode cJ13_bitCount_95d88 9 = .ok (.lstore_n 0, 1) := by decide +kernel
theorem dJ13_bitCount_95d88_10 : decode cJ13_bitCount_95d88 10 = .ok (.lload_n 0, 1) := by decide +kernel
theorem dJ13_bitCount_95d88_11 : decode cJ13_bitCount_95d88 11 = .ok (.ldc2_w 316, 3) := by decide +kernel
theorem dJ13_bitCount_95d88_14 : decode cJ13_bitCount_95d88 14 = .ok (.land, 1) := by decide +kernel
theorem dJ13_bitCount_95d88_15 : decode cJ13_bitCount_95d88 15 = .ok (.lload_n 0, 1) := by decide +kernel
theorem dJ13_bitCount_95d88_16 : decode cJ13_bitCount_95d88 16 = .ok (.iconst 2, 1) := by decide +kernel
theorem dJ13_bitCount_95d88_17 : decode cJ13_bitCount_95d88 17 = .ok (.lushr, 1) := by decide +kernel
theorem dJ13_bitCount_95d88_18 : decode cJ13_bitCount_95d88 18 = .ok (.ldc2_w 316, 3) := by decide +kernel
theorem dJ13_bitCount_95d88_21 : decode cJ13_bitCount_95d88 21 = .ok (.land, 1) := by decide +kernel
theorem dJ13_bitCount_95d88_22 : decode cJ13_bitCount_95d88 22 = .ok (.ladd, 1) := by decide +kernel
theorem dJ13_bitCount_95d88_23 : decode cJ13_bitCount_95d88 23 = .ok (.lstore_n 0, 1) := by decide +kernel
theorem dJ13_bitCount_95d88_24 : decode cJ13_bitCount_95d88 24 = .ok (.lload_n 0, 1) := by decide +kernel
theorem dJ13_bitCount_95d88_25 : decode cJ13_bitCount_95d88 25 = .ok (.lload_n 0, 1) := by decide +kernel
theorem dJ13_bitCount_95d88_26 : decode cJ13_bitCount_95d88 26 = .ok (.iconst 4, 1) := by decide +kernel
theorem dJ13_bitCount_95d88_27 : decode cJ13_bitCount_95d88 27 = .ok (.lushr, 1) := by decide +kernel
theorem dJ13_bitCount_95d88_28 : decode cJ13_bitCount_95d88 28 = .ok (.ladd, 1) := by decide +kernel
theorem dJ13_bitCount_95d88_29 : decode cJ13_bitCount_95d88 29 = .ok (.ldc2_w 318, 3) := by decide +kernel
theorem dJ13_bitCount_95d88_32 : decode cJ13_bitCount_95d88 32 = .ok (.land, 1) := by decide +kernel
theorem dJ13_bitCount_95d88_33 : decode cJ13_bitCount_95d88 33 = .ok (.lstore_n 0, 1) := by decide +kernel
theorem dJ13_bitCount_95d88_34 : decode cJ13_bitCount_95d88 34 = .ok (.lload_n 0, 1) := by decide +kernel
theorem dJ13_bitCount_95d88_35 : decode cJ13_bitCount_95d88 35 = .ok (.lload_n 0, 1) := by decide +kernel
theorem dJ13_bitCount_95d88_36 : decode cJ13_bitCount_95d88 36 = .ok (.bipush 8, 2) := by decide +kernel
theorem dJ13_bitCount_95d88_38 : decode cJ13_bitCount_95d88 38 = .ok (.lushr, 1) := by decide +kernel
theorem dJ13_bitCount_95d88_39 : decode cJ13_bitCount_95d88 39 = .ok (.ladd, 1) := by decide +kernel
theorem dJ13_bitCount_95d88_40 : decode cJ13_bitCount_95d88 40 = .ok (.lstore_n 0, 1) := by decide +kernel
theorem dJ13_bitCount_95d88_41 : decode cJ13_bitCount_95d88 41 = .ok (.lload_n 0, 1) := by decide +kernel
theorem dJ13_bitCount_95d88_42 : decode cJ13_bitCount_95d88 42 = .ok (.lload_n 0, 1) := by decide +kernel
theorem dJ13_bitCount_95d88_43 : decode cJ13_bitCount_95d88 43 = .ok (.bipush 16, 2) := by decide +kernel
theorem dJ13_bitCount_95d88_45 : decode cJ13_bitCount_95d88 45 = .ok (.lushr, 1) := by decide +kernel
theorem dJ13_bitCount_95d88_46 : decode cJ13_bitCount_95d88 46 = .ok (.ladd, 1) := by decide +kernel
theorem dJ13_bitCount_95d88_47 : decode cJ13_bitCount_95d88 47 = .ok (.lstore_n 0, 1) := by decide +kernel
theorem dJ13_bitCount_95d88_48 : decode cJ13_bitCount_95d88 48 = .ok (.lload_n 0, 1) := by decide +kernel
theorem dJ13_bitCount_95d88_49 : decode cJ13_bitCount_95d88 49 = .ok (.lload_n 0, 1) := by decide +kernel
theorem dJ13_bitCount_95d88_50 : decode cJ13_bitCount_95d88 50 = .ok (.bipush 32, 2) := by decide +kernel
theorem dJ13_bitCount_95d88_52 : decode cJ13_bitCount_95d88 52 = .ok (.lushr, 1) := by decide +kernel
theorem dJ13_bitCount_95d88_53 : decode cJ13_bitCount_95d88 53 = .ok (.ladd, 1) := by decide +kernel
theorem dJ13_bitCount_95d88_54 : decode cJ13_bitCount_95d88 54 = .ok (.lstore_n 0, 1) := by decide +kernel
theorem dJ13_bitCount_95d88_55 : decode cJ13_bitCount_95d88 55 = .ok (.lload_n 0, 1) := by decide +kernel
theorem dJ13_bitCount_95d88_56 : decode cJ13_bitCount_95d88 56 = .ok (.l2i, 1) := by decide +kernel
theorem dJ13_bitCount_95d88_57 : decode cJ13_bitCount_95d88 57 = .ok (.bipush 127, 2) := by decide +kernel
theorem dJ13_bitCount_95d88_59 : decode cJ13_bitCount_95d88 59 = .ok (.iand, 1) := by decide +kernel
theorem dJ13_bitCount_95d88_60 : decode cJ13_bitCount_95d88 60 = .ok (.ireturn, 1) := by decide +kernel
theorem dJ9_max_7cf53_0 : decode cJ9_max_7cf53 0 = .ok (.iload_n 0, 1) := by decide +kernel
theorem dJ9_max_7cf53_1 : decode cJ9_max_7cf53 1 = .ok (.iload_n 1, 1) := by decide +kernel
theorem dJ9_max_7cf53_2 : decode cJ9_max_7cf53 2 = .ok (.if_icmp .lt 7, 3) := by decide +kernel
theorem dJ9_max_7cf53_5 : decode cJ9_max_7cf53 5 = .ok (.iload_n 0, 1) := by decide +kernel
theorem dJ9_max_7cf53_6 : decode cJ9_max_7cf53 6 = .ok (.goto 4, 3) := by decide +kernel
theorem dJ9_max_7cf53_9 : decode cJ9_max_7cf53 9 = .ok (.iload_n 1, 1) := by decide +kernel
theorem dJ9_max_7cf53_10 : decode cJ9_max_7cf53 10 = .ok (.ireturn, 1) := by decide +kernel
theorem dJ9_min_7cf53_0 : decode cJ9_min_7cf53 0 = .ok (.iload_n 0, 1) := by decide +kernel
theorem dJ9_min_7cf53_1 : decode cJ9_min_7cf53 1 = .ok (.iload_n 1, 1) := by decide +kernel
theorem dJ9_min_7cf53_2 : decode cJ9_min_7cf53 2 = .ok (.if_icmp .gt 7, 3) := by decide +kernel
theorem dJ9_min_7cf53_5 : decode cJ9_min_7cf53 5 = .ok (.iload_n 0, 1) := by decide +kernel
theorem dJ9_min_7cf53_6 : decode cJ9_min_7cf53 6 = .ok (.goto 4, 3) := by decide +kernel
theorem dJ9_min_7cf53_9 : decode cJ9_min_7cf53 9 = .ok (.iload_n 1, 1) := by decide +kernel
theorem dJ9_min_7cf53_10 : decode cJ9_min_7cf53 10 = .ok (.ireturn, 1) := by decide +kernel
theorem dJ7_fill_53178_0 : decode cJ7_fill_53178 0 = .ok (.iconst 0, 1) := by decide +kernel
theorem dJ7_fill_53178_1 : decode cJ7_fill_53178 1 = .ok (.istore_n 2, 1) := by decide +kernel
theorem dJ7_fill_53178_2 : decode cJ7_fill_53178 2 = .ok (.aload_n 0, 1) := by decide +kernel
theorem dJ7_fill_53178_3 : decode cJ7_fill_53178 3 = .ok (.arraylength, 1) := by decide +kernel
theorem dJ7_fill_53178_4 : decode cJ7_fill_53178 4 = .ok (.istore_n 3, 1) := by decide +kernel
theorem dJ7_fill_53178_5 : decode cJ7_fill_53178 5 = .ok (.iload_n 2, 1) := by decide +kernel
theorem dJ7_fill_53178_6 : decode cJ7_fill_53178 6 = .ok (.iload_n 3, 1) := by decide +kernel
theorem dJ7_fill_53178_7 : decode cJ7_fill_53178 7 = .ok (.if_icmp .ge 13, 3) := by decide +kernel
theorem dJ7_fill_53178_10 : decode cJ7_fill_53178 10 = .ok (.aload_n 0, 1) := by decide +kernel
theorem dJ7_fill_53178_11 : decode cJ7_fill_53178 11 = .ok (.iload_n 2, 1) := by decide +kernel
theorem dJ7_fill_53178_12 : decode cJ7_fill_53178 12 = .ok (.iload_n 1, 1) := by decide +kernel
theorem dJ7_fill_53178_13 : decode cJ7_fill_53178 13 = .ok (.iastore, 1) := by decide +kernel
theorem dJ7_fill_53178_14 : decode cJ7_fill_53178 14 = .ok (.iinc 2 1, 3) := by decide +kernel
theorem dJ7_fill_53178_17 : decode cJ7_fill_53178 17 = .ok (.goto (-12), 3) := by decide +kernel
theorem dJ7_fill_53178_20 : decode cJ7_fill_53178 20 = .ok (.return_, 1) := by decide +kernel
theorem dJ7_fill_031fb_0 : decode cJ7_fill_031fb 0 = .ok (.iconst 0, 1) := by decide +kernel
theorem dJ7_fill_031fb_1 : decode cJ7_fill_031fb 1 = .ok (.istore_n 2, 1) := by decide +kernel
theorem dJ7_fill_031fb_2 : decode cJ7_fill_031fb 2 = .ok (.aload_n 0, 1) := by decide +kernel
theorem dJ7_fill_031fb_3 : decode cJ7_fill_031fb 3 = .ok (.arraylength, 1) := by decide +kernel
theorem dJ7_fill_031fb_4 : decode cJ7_fill_031fb 4 = .ok (.istore_n 3, 1) := by decide +kernel
theorem dJ7_fill_031fb_5 : decode cJ7_fill_031fb 5 = .ok (.iload_n 2, 1) := by decide +kernel
theorem dJ7_fill_031fb_6 : decode cJ7_fill_031fb 6 = .ok (.iload_n 3, 1) := by decide +kernel
theorem dJ7_fill_031fb_7 : decode cJ7_fill_031fb 7 = .ok (.if_icmp .ge 13, 3) := by decide +kernel
theorem dJ7_fill_031fb_10 : decode cJ7_fill_031fb 10 = .ok (.aload_n 0, 1) := by decide +kernel
theorem dJ7_fill_031fb_11 : decode cJ7_fill_031fb 11 = .ok (.iload_n 2, 1) := by decide +kernel
theorem dJ7_fill_031fb_12 : decode cJ7_fill_031fb 12 = .ok (.iload_n 1, 1) := by decide +kernel
theorem dJ7_fill_031fb_13 : decode cJ7_fill_031fb 13 = .ok (.bastore, 1) := by decide +kernel
theorem dJ7_fill_031fb_14 : decode cJ7_fill_031fb 14 = .ok (.iinc 2 1, 3) := by decide +kernel
theorem dJ7_fill_031fb_17 : decode cJ7_fill_031fb 17 = .ok (.goto (-12), 3) := by decide +kernel
theorem dJ7_fill_031fb_20 : decode cJ7_fill_031fb 20 = .ok (.return_, 1) := by decide +kernel
theorem dX12_init_0 : decode cX12_init 0 = .ok (.aload_n 0, 1) := by decide +kernel
theorem dX12_init_1 : decode cX12_init 1 = .ok (.invokespecial 1, 3) := by decide +kernel
theorem dX12_init_4 : decode cX12_init 4 = .ok (.aload_n 0, 1) := by decide +kernel
theorem dX12_init_5 : decode cX12_init 5 = .ok (.bipush 6, 2) := by decide +kernel
theorem dX12_init_7 : decode cX12_init 7 = .ok (.newarray .int, 2) := by decide +kernel
theorem dX12_init_9 : decode cX12_init 9 = .ok (.putfield 7, 3) := by decide +kernel
theorem dX12_init_12 : decode cX12_init 12 = .ok (.aload_n 0, 1) := by decide +kernel
theorem dX12_init_13 : decode cX12_init 13 = .ok (.iconst 2, 1) := by decide +kernel
theorem dX12_init_14 : decode cX12_init 14 = .ok (.putfield 13, 3) := by decide +kernel
theorem dX12_init_17 : decode cX12_init 17 = .ok (.aload_n 0, 1) := by decide +kernel
theorem dX12_init_18 : decode cX12_init 18 = .ok (.bipush 12, 2) := by decide +kernel
theorem dX12_init_20 : decode cX12_init 20 = .ok (.newarray .int, 2) := by decide +kernel
theorem dX12_init_22 : decode cX12_init 22 = .ok (.putfield 17, 3) := by decide +kernel
theorem dX12_init_25 : decode cX12_init 25 = .ok (.aload_n 0, 1) := by decide +kernel
theorem dX12_init_26 : decode cX12_init 26 = .ok (.bipush 12, 2) := by decide +kernel
theorem dX12_init_28 : decode cX12_init 28 = .ok (.newarray .int, 2) := by decide +kernel
theorem dX12_init_30 : decode cX12_init 30 = .ok (.putfield 20, 3) := by decide +kernel
theorem dX12_init_33 : decode cX12_init 33 = .ok (.aload_n 0, 1) := by decide +kernel
theorem dX12_init_34 : decode cX12_init 34 = .ok (.bipush 12, 2) := by decide +kernel
theorem dX12_init_36 : decode cX12_init 36 = .ok (.newarray .int, 2) := by decide +kernel
theorem dX12_init_38 : decode cX12_init 38 = .ok (.putfield 23, 3) := by decide +kernel
theorem dX12_init_41 : decode cX12_init 41 = .ok (.aload_n 0, 1) := by decide +kernel
theorem dX12_init_42 : decode cX12_init 42 = .ok (.bipush 12, 2) := by decide +kernel
theorem dX12_init_44 : decode cX12_init 44 = .ok (.newarray .boolean, 2) := by decide +kernel
theorem dX12_init_46 : decode cX12_init 46 = .ok (.putfield 26, 3) := by decide +kernel
theorem dX12_init_49 : decode cX12_init 49 = .ok (.aload_n 0, 1) := by decide +kernel
theorem dX12_init_50 : decode cX12_init 50 = .ok (.bipush 12, 2) := by decide +kernel
theorem dX12_init_52 : decode cX12_init 52 = .ok (.newarray .int, 2) := by decide +kernel
theorem dX12_init_54 : decode cX12_init 54 = .ok (.putfield 30, 3) := by decide +kernel
theorem dX12_init_57 : decode cX12_init 57 = .ok (.aload_n 0, 1) := by decide +kernel
theorem dX12_init_58 : decode cX12_init 58 = .ok (.bipush 12, 2) := by decide +kernel
theorem dX12_init_60 : decode cX12_init 60 = .ok (.newarray .int, 2) := by decide +kernel
theorem dX12_init_62 : decode cX12_init 62 = .ok (.putfield 33, 3) := by decide +kernel
theorem dX12_init_65 : decode cX12_init 65 = .ok (.aload_n 0, 1) := by decide +kernel
theorem dX12_init_66 : decode cX12_init 66 = .ok (.sipush 288, 3) := by decide +kernel
theorem dX12_init_69 : decode cX12_init 69 = .ok (.newarray .int, 2) := by decide +kernel
theorem dX12_init_71 : decode cX12_init 71 = .ok (.putfield 36, 3) := by decide +kernel
theorem dX12_init_74 : decode cX12_init 74 = .ok (.aload_n 0, 1) := by decide +kernel
theorem dX12_init_75 : decode cX12_init 75 = .ok (.bipush 36, 2) := by decide +kernel
theorem dX12_init_77 : decode cX12_init 77 = .ok (.newarray .int, 2) := by decide +kernel
theorem dX12_init_79 : decode cX12_init 79 = .ok (.putfield 39, 3) := by decide +kernel
theorem dX12_init_82 : decode cX12_init 82 = .ok (.aload_n 0, 1) := by decide +kernel
theorem dX12_init_83 : decode cX12_init 83 = .ok (.bipush 36, 2) := by decide +kernel
theorem dX12_init_85 : decode cX12_init 85 = .ok (.newarray .int, 2) := by decide +kernel
theorem dX12_init_87 : decode cX12_init 87 = .ok (.putfield 42, 3) := by decide +kernel
theorem dX12_init_90 : decode cX12_init 90 = .ok (.aload_n 0, 1) := by decide +kernel
theorem dX12_init_91 : decode cX12_init 91 = .ok (.bipush 36, 2) := by decide +kernel
theorem dX12_init_93 : decode cX12_init 93 = .ok (.newarray .int, 2) := by decide +kernel
theorem dX12_init_95 : decode cX12_init 95 = .ok (.putfield 45, 3) := by decide +kernel
theorem dX12_init_98 : decode cX12_init 98 = .ok (.aload_n 0, 1) := by decide +kernel
theorem dX12_init_99 : decode cX12_init 99 = .ok (.bipush 36, 2) := by decide +kernel
theorem dX12_init_101 : decode cX12_init 101 = .ok (.newarray .int, 2) := by decide +kernel
theorem dX12_init_103 : decode cX12_init 103 = .ok (.putfield 48, 3) := by decide +kernel
theorem dX12_init_106 : decode cX12_init 106 = .ok (.aload_n 0, 1) := by decide +kernel
theorem dX12_init_107 : decode cX12_init 107 = .ok (.bipush 36, 2) := by decide +kernel
theorem dX12_init_109 : decode cX12_init 109 = .ok (.newarray .int, 2) := by decide +kernel
theorem dX12_init_111 : decode cX12_init 111 = .ok (.putfield 51, 3) := by decide +kernel
theorem dX12_init_114 : decode cX12_init 114 = .ok (.aload_n 0, 1) := by decide +kernel
theorem dX12_init_115 : decode cX12_init 115 = .ok (.bipush 36, 2) := by decide +kernel
theorem dX12_init_117 : decode cX12_init 117 = .ok (.newarray .int, 2) := by decide +kernel
theorem dX12_init_119 : decode cX12_init 119 = .ok (.putfield 54, 3) := by decide +kernel
theorem dX12_init_122 : decode cX12_init 122 = .ok (.aload_n 0, 1) := by decide +kernel
theorem dX12_init_123 : decode cX12_init 123 = .ok (.bipush 36, 2) := by decide +kernel
theorem dX12_init_125 : decode cX12_init 125 = .ok (.newarray .int, 2) := by decide +kernel
theorem dX12_init_127 : decode cX12_init 127 = .ok (.putfield 57, 3) := by decide +kernel
theorem dX12_init_130 : decode cX12_init 130 = .ok (.aload_n 0, 1) := by decide +kernel
theorem dX12_init_131 : decode cX12_init 131 = .ok (.bipush 36, 2) := by decide +kernel
theorem dX12_init_133 : decode cX12_init 133 = .ok (.newarray .int, 2) := by decide +kernel
theorem dX12_init_135 : decode cX12_init 135 = .ok (.putfield 60, 3) := by decide +kernel
theorem dX12_init_138 : decode cX12_init 138 = .ok (.aload_n 0, 1) := by decide +kernel
theorem dX12_init_139 : decode cX12_init 139 = .ok (.bipush 36, 2) := by decide +kernel
theorem dX12_init_141 : decode cX12_init 141 = .ok (.newarray .int, 2) := by decide +kernel
theorem dX12_init_143 : decode cX12_init 143 = .ok (.putfield 63, 3) := by decide +kernel
theorem dX12_init_146 : decode cX12_init 146 = .ok (.aload_n 0, 1) := by decide +kernel
theorem dX12_init_147 : decode cX12_init 147 = .ok (.bipush 36, 2) := by decide +kernel
theorem dX12_init_149 : decode cX12_init 149 = .ok (.newarray .int, 2) := by decide +kernel
theorem dX12_init_151 : decode cX12_init 151 = .ok (.putfield 66, 3) := by decide +kernel
theorem dX12_init_154 : decode cX12_init 154 = .ok (.aload_n 0, 1) := by decide +kernel
theorem dX12_init_155 : decode cX12_init 155 = .ok (.bipush 12, 2) := by decide +kernel
theorem dX12_init_157 : decode cX12_init 157 = .ok (.newarray .int, 2) := by decide +kernel
theorem dX12_init_159 : decode cX12_init 159 = .ok (.putfield 69, 3) := by decide +kernel
theorem dX12_init_162 : decode cX12_init 162 = .ok (.aload_n 0, 1) := by decide +kernel
theorem dX12_init_163 : decode cX12_init 163 = .ok (.bipush 36, 2) := by decide +kernel
theorem dX12_init_165 : decode cX12_init 165 = .ok (.newarray .int, 2) := by decide +kernel
theorem dX12_init_167 : decode cX12_init 167 = .ok (.putfield 72, 3) := by decide +kernel
theorem dX12_init_170 : decode cX12_init 170 = .ok (.aload_n 0, 1) := by decide +kernel
theorem dX12_init_171 : decode cX12_init 171 = .ok (.bipush 36, 2) := by decide +kernel
theorem dX12_init_173 : decode cX12_init 173 = .ok (.newarray .int, 2) := by decide +kernel
theorem dX12_init_175 : decode cX12_init 175 = .ok (.putfield 75, 3) := by decide +kernel
theorem dX12_init_178 : decode cX12_init 178 = .ok (.aload_n 0, 1) := by decide +kernel
theorem dX12_init_179 : decode cX12_init 179 = .ok (.bipush 36, 2) := by decide +kernel
theorem dX12_init_181 : decode cX12_init 181 = .ok (.newarray .boolean, 2) := by decide +kernel
theorem dX12_init_183 : decode cX12_init 183 = .ok (.putfield 78, 3) := by decide +kernel
theorem dX12_init_186 : decode cX12_init 186 = .ok (.aload_n 0, 1) := by decide +kernel
theorem dX12_init_187 : decode cX12_init 187 = .ok (.bipush 36, 2) := by decide +kernel
theorem dX12_init_189 : decode cX12_init 189 = .ok (.newarray .int, 2) := by decide +kernel
theorem dX12_init_191 : decode cX12_init 191 = .ok (.putfield 81, 3) := by decide +kernel
theorem dX12_init_194 : decode cX12_init 194 = .ok (.aload_n 0, 1) := by decide +kernel
theorem dX12_init_195 : decode cX12_init 195 = .ok (.bipush 36, 2) := by decide +kernel
theorem dX12_init_197 : decode cX12_init 197 = .ok (.newarray .int, 2) := by decide +kernel
theorem dX12_init_199 : decode cX12_init 199 = .ok (.putfield 84, 3) := by decide +kernel
theorem dX12_init_202 : decode cX12_init 202 = .ok (.aload_n 0, 1) := by decide +kernel
theorem dX12_init_203 : decode cX12_init 203 = .ok (.bipush 36, 2) := by decide +kernel
theorem dX12_init_205 : decode cX12_init 205 = .ok (.newarray .int, 2) := by decide +kernel
theorem dX12_init_207 : decode cX12_init 207 = .ok (.putfield 87, 3) := by decide +kernel
theorem dX12_init_210 : decode cX12_init 210 = .ok (.aload_n 0, 1) := by decide +kernel
theorem dX12_init_211 : decode cX12_init 211 = .ok (.bipush 36, 2) := by decide +kernel
theorem dX12_init_213 : decode cX12_init 213 = .ok (.newarray .int, 2) := by decide +kernel
theorem dX12_init_215 : decode cX12_init 215 = .ok (.putfield 90, 3) := by decide +kernel
theorem dX12_init_218 : decode cX12_init 218 = .ok (.aload_n 0, 1) := by decide +kernel
theorem dX12_init_219 : decode cX12_init 219 = .ok (.bipush 36, 2) := by decide +kernel
theorem dX12_init_221 : decode cX12_init 221 = .ok (.newarray .int, 2) := by decide +kernel
theorem dX12_init_223 : decode cX12_init 223 = .ok (.putfield 93, 3) := by decide +kernel
theorem dX12_init_226 : decode cX12_init 226 = .ok (.aload_n 0, 1) := by decide +kernel
theorem dX12_init_227 : decode cX12_init 227 = .ok (.iconst 4, 1) := by decide +kernel
theorem dX12_init_228 : decode cX12_init 228 = .ok (.newarray .int, 2) := by decide +kernel
theorem dX12_init_230 : decode cX12_init 230 = .ok (.putfield 96, 3) := by decide +kernel
theorem dX12_init_233 : decode cX12_init 233 = .ok (.aload_n 0, 1) := by decide +kernel
theorem dX12_init_234 : decode cX12_init 234 = .ok (.bipush 96, 2) := by decide +kernel
theorem dX12_init_236 : decode cX12_init 236 = .ok (.newarray .int, 2) := by decide +kernel
theorem dX12_init_238 : decode cX12_init 238 = .ok (.putfield 99, 3) := by decide +kernel
theorem dX12_init_241 : decode cX12_init 241 = .ok (.aload_n 0, 1) := by decide +kernel
theorem dX12_init_242 : decode cX12_init 242 = .ok (.bipush 24, 2) := by decide +kernel
theorem dX12_init_244 : decode cX12_init 244 = .ok (.newarray .int, 2) := by decide +kernel
theorem dX12_init_246 : decode cX12_init 246 = .ok (.putfield 102, 3) := by decide +kernel
theorem dX12_init_249 : decode cX12_init 249 = .ok (.aload_n 0, 1) := by decide +kernel
theorem dX12_init_250 : decode cX12_init 250 = .ok (.invokevirtual 105, 3) := by decide +kernel
theorem dX12_init_253 : decode cX12_init 253 = .ok (.iconst 0, 1) := by decide +kernel
theorem dX12_init_254 : decode cX12_init 254 = .ok (.istore_n 1, 1) := by decide +kernel
theorem dX12_init_255 : decode cX12_init 255 = .ok (.iload_n 1, 1) := by decide +kernel
theorem dX12_init_256 : decode cX12_init 256 = .ok (.iconst 4, 1) := by decide +kernel
theorem dX12_init_257 : decode cX12_init 257 = .ok (.if_icmp .ge 17, 3) := by decide +kernel
theorem dX12_init_260 : decode cX12_init 260 = .ok (.aload_n 0, 1) := by decide +kernel
theorem dX12_init_261 : decode cX12_init 261 = .ok (.getfield 96, 3) := by decide +kernel
theorem dX12_init_264 : decode cX12_init 264 = .ok (.iload_n 1, 1) := by decide +kernel
theorem dX12_init_265 : decode cX12_init 265 = .ok (.bipush (-9), 2) := by decide +kernel
theorem dX12_init_267 : decode cX12_init 267 = .ok (.iastore, 1) := by decide +kernel
theorem dX12_init_268 : decode cX12_init 268 = .ok (.iinc 1 1, 3) := by decide +kernel
theorem dX12_init_271 : decode cX12_init 271 = .ok (.goto (-16), 3) := by decide +kernel
theorem dX12_init_274 : decode cX12_init 274 = .ok (.return_, 1) := by decide +kernel
theorem dX12_in_0 : decode cX12_in 0 = .ok (.iload_n 0, 1) := by decide +kernel
theorem dX12_in_1 : decode cX12_in 1 = .ok (.iload_n 1, 1) := by decide +kernel
theorem dX12_in_2 : decode cX12_in 2 = .ok (.if_icmp .lt 12, 3) := by decide +kernel
theorem dX12_in_5 : decode cX12_in 5 = .ok (.iload_n 0, 1) := by decide +kernel
theorem dX12_in_6 : decode cX12_in 6 = .ok (.iload_n 2, 1) := by decide +kernel
theorem dX12_in_7 : decode cX12_in 7 = .ok (.if_icmp .gt 7, 3) := by decide +kernel
theorem dX12_in_10 : decode cX12_in 10 = .ok (.iconst 1, 1) := by decide +kernel
theorem dX12_in_11 : decode cX12_in 11 = .ok (.goto 4, 3) := by decide +kernel
theorem dX12_in_14 : decode cX12_in 14 = .ok (.iconst 0, 1) := by decide +kernel
theorem dX12_in_15 : decode cX12_in 15 = .ok (.ireturn, 1) := by decide +kernel
theorem dX12_meets_0 : decode cX12_meets 0 = .ok (.aload_n 0, 1) := by decide +kernel
theorem dX12_meets_1 : decode cX12_meets 1 = .ok (.iload_n 1, 1) := by decide +kernel
theorem dX12_meets_2 : decode cX12_meets 2 = .ok (.putfield 108, 3) := by decide +kernel
theorem dX12_meets_5 : decode cX12_meets 5 = .ok (.aload_n 0, 1) := by decide +kernel
theorem dX12_meets_6 : decode cX12_meets 6 = .ok (.getfield 7, 3) := by decide +kernel
theorem dX12_meets_9 : decode cX12_meets 9 = .ok (.iload_n 1, 1) := by decide +kernel
theorem dX12_meets_10 : decode cX12_meets 10 = .ok (.dup2, 1) := by decide +kernel
theorem dX12_meets_11 : decode cX12_meets 11 = .ok (.iaload, 1) := by decide +kernel
theorem dX12_meets_12 : decode cX12_meets 12 = .ok (.iconst 1, 1) := by decide +kernel
theorem dX12_meets_13 : decode cX12_meets 13 = .ok (.iadd, 1) := by decide +kernel
theorem dX12_meets_14 : decode cX12_meets 14 = .ok (.iastore, 1) := by decide +kernel
theorem dX12_meets_15 : decode cX12_meets 15 = .ok (.bipush (-3), 2) := by decide +kernel
theorem dX12_meets_17 : decode cX12_meets 17 = .ok (.ireturn, 1) := by decide +kernel
theorem dX12_tell_0 : decode cX12_tell 0 = .ok (.aload_n 0, 1) := by decide +kernel
theorem dX12_tell_1 : decode cX12_tell 1 = .ok (.lload_n 1, 1) := by decide +kernel
theorem dX12_tell_2 : decode cX12_tell 2 = .ok (.putfield 111, 3) := by decide +kernel
theorem dX12_tell_5 : decode cX12_tell 5 = .ok (.iload_n 3, 1) := by decide +kernel
theorem dX12_tell_6 : decode cX12_tell 6 = .ok (.ireturn, 1) := by decide +kernel
theorem dX12_forget_0 : decode cX12_forget 0 = .ok (.aload_n 0, 1) := by decide +kernel
theorem dX12_forget_1 : decode cX12_forget 1 = .ok (.iconst 0, 1) := by decide +kernel
theorem dX12_forget_2 : decode cX12_forget 2 = .ok (.putfield 115, 3) := by decide +kernel
theorem dX12_forget_5 : decode cX12_forget 5 = .ok (.aload_n 0, 1) := by decide +kernel
theorem dX12_forget_6 : decode cX12_forget 6 = .ok (.iconst 0, 1) := by decide +kernel
theorem dX12_forget_7 : decode cX12_forget 7 = .ok (.putfield 118, 3) := by decide +kernel
theorem dX12_forget_10 : decode cX12_forget 10 = .ok (.iconst 0, 1) := by decide +kernel
theorem dX12_forget_11 : decode cX12_forget 11 = .ok (.istore_n 1, 1) := by decide +kernel
theorem dX12_forget_12 : decode cX12_forget 12 = .ok (.iload_n 1, 1) := by decide +kernel
theorem dX12_forget_13 : decode cX12_forget 13 = .ok (.bipush 36, 2) := by decide +kernel
theorem dX12_forget_15 : decode cX12_forget 15 = .ok (.if_icmp .ge 24, 3) := by decide +kernel
theorem dX12_forget_18 : decode cX12_forget 18 = .ok (.aload_n 0, 1) := by decide +kernel
theorem dX12_forget_19 : decode cX12_forget 19 = .ok (.getfield 39, 3) := by decide +kernel
theorem dX12_forget_22 : decode cX12_forget 22 = .ok (.iload_n 1, 1) := by decide +kernel
theorem dX12_forget_23 : decode cX12_forget 23 = .ok (.bipush (-9), 2) := by decide +kernel
theorem dX12_forget_25 : decode cX12_forget 25 = .ok (.iastore, 1) := by decide +kernel
theorem dX12_forget_26 : decode cX12_forget 26 = .ok (.aload_n 0, 1) := by decide +kernel
theorem dX12_forget_27 : decode cX12_forget 27 = .ok (.getfield 42, 3) := by decide +kernel
theorem dX12_forget_30 : decode cX12_forget 30 = .ok (.iload_n 1, 1) := by decide +kernel
theorem dX12_forget_31 : decode cX12_forget 31 = .ok (.iconst 0, 1) := by decide +kernel
theorem dX12_forget_32 : decode cX12_forget 32 = .ok (.iastore, 1) := by decide +kernel
theorem dX12_forget_33 : decode cX12_forget 33 = .ok (.iinc 1 1, 3) := by decide +kernel
theorem dX12_forget_36 : decode cX12_forget 36 = .ok (.goto (-24), 3) := by decide +kernel
theorem dX12_forget_39 : decode cX12_forget 39 = .ok (.return_, 1) := by decide +kernel
theorem dX12_net_0 : decode cX12_net 0 = .ok (.iload_n 1, 1) := by decide +kernel
theorem dX12_net_1 : decode cX12_net 1 = .ok (.iconst 2, 1) := by decide +kernel
theorem dX12_net_2 : decode cX12_net 2 = .ok (.bipush 6, 2) := by decide +kernel
theorem dX12_net_4 : decode cX12_net 4 = .ok (.invokestatic 122, 3) := by decide +kernel
theorem dX12_net_7 : decode cX12_net 7 = .ok (.ifCond .ne 5, 3) := by decide +kernel
theorem dX12_net_10 : decode cX12_net 10 = .ok (.iconst (-1), 1) := by decide +kernel
theorem dX12_net_11 : decode cX12_net 11 = .ok (.ireturn, 1) := by decide +kernel
theorem dX12_net_12 : decode cX12_net 12 = .ok (.aload_n 0, 1) := by decide +kernel
theorem dX12_net_13 : decode cX12_net 13 = .ok (.iload_n 1, 1) := by decide +kernel
theorem dX12_net_14 : decode cX12_net 14 = .ok (.putfield 13, 3) := by decide +kernel
theorem dX12_net_17 : decode cX12_net 17 = .ok (.aload_n 0, 1) := by decide +kernel
theorem dX12_net_18 : decode cX12_net 18 = .ok (.invokevirtual 105, 3) := by decide +kernel
theorem dX12_net_21 : decode cX12_net 21 = .ok (.iload_n 1, 1) := by decide +kernel
theorem dX12_net_22 : decode cX12_net 22 = .ok (.ireturn, 1) := by decide +kernel
theorem dX12_isKnot_0 : decode cX12_isKnot 0 = .ok (.iload_n 1, 1) := by decide +kernel
theorem dX12_isKnot_1 : decode cX12_isKnot 1 = .ok (.iconst 0, 1) := by decide +kernel
theorem dX12_isKnot_2 : decode cX12_isKnot 2 = .ok (.aload_n 0, 1) := by decide +kernel
theorem dX12_isKnot_3 : decode cX12_isKnot 3 = .ok (.getfield 13, 3) := by decide +kernel
theorem dX12_isKnot_6 : decode cX12_isKnot 6 = .ok (.iconst 1, 1) := by decide +kernel
theorem dX12_isKnot_7 : decode cX12_isKnot 7 = .ok (.isub, 1) := by decide +kernel
theorem dX12_isKnot_8 : decode cX12_isKnot 8 = .ok (.invokestatic 122, 3) := by decide +kernel
theorem dX12_isKnot_11 : decode cX12_isKnot 11 = .ok (.ireturn, 1) := by decide +kernel
theorem dX12_isLine_0 : decode cX12_isLine 0 = .ok (.iload_n 1, 1) := by decide +kernel
theorem dX12_isLine_1 : decode cX12_isLine 1 = .ok (.iconst 0, 1) := by decide +kernel
theorem dX12_isLine_2 : decode cX12_isLine 2 = .ok (.aload_n 0, 1) := by decide +kernel
theorem dX12_isLine_3 : decode cX12_isLine 3 = .ok (.getfield 115, 3) := by decide +kernel
theorem dX12_isLine_6 : decode cX12_isLine 6 = .ok (.iconst 1, 1) := by decide +kernel
theorem dX12_isLine_7 : decode cX12_isLine 7 = .ok (.isub, 1) := by decide +kernel
theorem dX12_isLine_8 : decode cX12_isLine 8 = .ok (.invokestatic 122, 3) := by decide +kernel
theorem dX12_isLine_11 : decode cX12_isLine 11 = .ok (.ireturn, 1) := by decide +kernel
theorem dX12_line_0 : decode cX12_line 0 = .ok (.iload_n 1, 1) := by decide +kernel
theorem dX12_line_1 : decode cX12_line 1 = .ok (.iconst 0, 1) := by decide +kernel
theorem dX12_line_2 : decode cX12_line 2 = .ok (.iconst 3, 1) := by decide +kernel
theorem dX12_line_3 : decode cX12_line 3 = .ok (.invokestatic 122, 3) := by decide +kernel
theorem dX12_line_6 : decode cX12_line 6 = .ok (.ifCond .eq 24, 3) := by decide +kernel
theorem dX12_line_9 : decode cX12_line 9 = .ok (.aload_n 0, 1) := by decide +kernel
theorem dX12_line_10 : decode cX12_line 10 = .ok (.iload_n 2, 1) := by decide +kernel
theorem dX12_line_11 : decode cX12_line 11 = .ok (.invokevirtual 126, 3) := by decide +kernel
theorem dX12_line_14 : decode cX12_line 14 = .ok (.ifCond .eq 16, 3) := by decide +kernel
theorem dX12_line_17 : decode cX12_line 17 = .ok (.aload_n 0, 1) := by decide +kernel
theorem dX12_line_18 : decode cX12_line 18 = .ok (.iload_n 3, 1) := by decide +kernel
theorem dX12_line_19 : decode cX12_line 19 = .ok (.invokevirtual 126, 3) := by decide +kernel
theorem dX12_line_22 : decode cX12_line 22 = .ok (.ifCond .eq 8, 3) := by decide +kernel
theorem dX12_line_25 : decode cX12_line 25 = .ok (.iload_n 2, 1) := by decide +kernel
theorem dX12_line_26 : decode cX12_line 26 = .ok (.iload_n 3, 1) := by decide +kernel
theorem dX12_line_27 : decode cX12_line 27 = .ok (.if_icmp .ne 5, 3) := by decide +kernel
theorem dX12_line_30 : decode cX12_line 30 = .ok (.iconst (-1), 1) := by decide +kernel
theorem dX12_line_31 : decode cX12_line 31 = .ok (.ireturn, 1) := by decide +kernel
theorem dX12_line_32 : decode cX12_line 32 = .ok (.aload_n 0, 1) := by decide +kernel
theorem dX12_line_33 : decode cX12_line 33 = .ok (.getfield 115, 3) := by decide +kernel
theorem dX12_line_36 : decode cX12_line 36 = .ok (.bipush 12, 2) := by decide +kernel
theorem dX12_line_38 : decode cX12_line 38 = .ok (.if_icmp .ne 6, 3) := by decide +kernel
theorem dX12_line_41 : decode cX12_line 41 = .ok (.bipush (-2), 2) := by decide +kernel
theorem dX12_line_43 : decode cX12_line 43 = .ok (.ireturn, 1) := by decide +kernel
theorem dX12_line_44 : decode cX12_line 44 = .ok (.aload_n 0, 1) := by decide +kernel
theorem dX12_line_45 : decode cX12_line 45 = .ok (.getfield 17, 3) := by decide +kernel
theorem dX12_line_48 : decode cX12_line 48 = .ok (.aload_n 0, 1) := by decide +kernel
theorem dX12_line_49 : decode cX12_line 49 = .ok (.getfield 115, 3) := by decide +kernel
theorem dX12_line_52 : decode cX12_line 52 = .ok (.iload_n 1, 1) := by decide +kernel
theorem dX12_line_53 : decode cX12_line 53 = .ok (.iastore, 1) := by decide +kernel
theorem dX12_line_54 : decode cX12_line 54 = .ok (.aload_n 0, 1) := by decide +kernel
theorem dX12_line_55 : decode cX12_line 55 = .ok (.getfield 20, 3) := by decide +kernel
theorem dX12_line_58 : decode cX12_line 58 = .ok (.aload_n 0, 1) := by decide +kernel
theorem dX12_line_59 : decode cX12_line 59 = .ok (.getfield 115, 3) := by decide +kernel
theorem dX12_line_62 : decode cX12_line 62 = .ok (.iload_n 2, 1) := by decide +kernel
theorem dX12_line_63 : decode cX12_line 63 = .ok (.iastore, 1) := by decide +kernel
theorem dX12_line_64 : decode cX12_line 64 = .ok (.aload_n 0, 1) := by decide +kernel
theorem dX12_line_65 : decode cX12_line 65 = .ok (.getfield 23, 3) := by decide +kernel
theorem dX12_line_68 : decode cX12_line 68 = .ok (.aload_n 0, 1) := by decide +kernel
theorem dX12_line_69 : decode cX12_line 69 = .ok (.getfield 115, 3) := by decide +kernel
theorem dX12_line_72 : decode cX12_line 72 = .ok (.iload_n 3, 1) := by decide +kernel
theorem dX12_line_73 : decode cX12_line 73 = .ok (.iastore, 1) := by decide +kernel
theorem dX12_line_74 : decode cX12_line 74 = .ok (.aload_n 0, 1) := by decide +kernel
theorem dX12_line_75 : decode cX12_line 75 = .ok (.getfield 26, 3) := by decide +kernel
theorem dX12_line_78 : decode cX12_line 78 = .ok (.aload_n 0, 1) := by decide +kernel
theorem dX12_line_79 : decode cX12_line 79 = .ok (.getfield 115, 3) := by decide +kernel
theorem dX12_line_82 : decode cX12_line 82 = .ok (.iconst 0, 1) := by decide +kernel
theorem dX12_line_83 : decode cX12_line 83 = .ok (.bastore, 1) := by decide +kernel
theorem dX12_line_84 : decode cX12_line 84 = .ok (.aload_n 0, 1) := by decide +kernel
theorem dX12_line_85 : decode cX12_line 85 = .ok (.getfield 30, 3) := by decide +kernel
theorem dX12_line_88 : decode cX12_line 88 = .ok (.aload_n 0, 1) := by decide +kernel
theorem dX12_line_89 : decode cX12_line 89 = .ok (.getfield 115, 3) := by decide +kernel
theorem dX12_line_92 : decode cX12_line 92 = .ok (.bipush 100, 2) := by decide +kernel
theorem dX12_line_94 : decode cX12_line 94 = .ok (.iastore, 1) := by decide +kernel
theorem dX12_line_95 : decode cX12_line 95 = .ok (.aload_n 0, 1) := by decide +kernel
theorem dX12_line_96 : decode cX12_line 96 = .ok (.getfield 33, 3) := by decide +kernel
theorem dX12_line_99 : decode cX12_line 99 = .ok (.aload_n 0, 1) := by decide +kernel
theorem dX12_line_100 : decode cX12_line 100 = .ok (.getfield 115, 3) := by decide +kernel
theorem dX12_line_103 : decode cX12_line 103 = .ok (.bipush (-9), 2) := by decide +kernel
theorem dX12_line_105 : decode cX12_line 105 = .ok (.iastore, 1) := by decide +kernel
theorem dX12_line_106 : decode cX12_line 106 = .ok (.iconst 0, 1) := by decide +kernel
theorem dX12_line_107 : decode cX12_line 107 = .ok (.istore 4, 2) := by decide +kernel
theorem dX12_line_109 : decode cX12_line 109 = .ok (.iload 4, 2) := by decide +kernel
theorem dX12_line_111 : decode cX12_line 111 = .ok (.bipush 24, 2) := by decide +kernel
theorem dX12_line_113 : decode cX12_line 113 = .ok (.if_icmp .ge 26, 3) := by decide +kernel
theorem dX12_line_116 : decode cX12_line 116 = .ok (.aload_n 0, 1) := by decide +kernel
theorem dX12_line_117 : decode cX12_line 117 = .ok (.getfield 36, 3) := by decide +kernel
theorem dX12_line_120 : decode cX12_line 120 = .ok (.bipush 24, 2) := by decide +kernel
theorem dX12_line_122 : decode cX12_line 122 = .ok (.aload_n 0, 1) := by decide +kernel
theorem dX12_line_123 : decode cX12_line 123 = .ok (.getfield 115, 3) := by decide +kernel
theorem dX12_line_126 : decode cX12_line 126 = .ok (.imul, 1) := by decide +kernel
theorem dX12_line_127 : decode cX12_line 127 = .ok (.iload 4, 2) := by decide +kernel
theorem dX12_line_129 : decode cX12_line 129 = .ok (.iadd, 1) := by decide +kernel
theorem dX12_line_130 : decode cX12_line 130 = .ok (.bipush (-9), 2) := by decide +kernel
theorem dX12_line_132 : decode cX12_line 132 = .ok (.iastore, 1) := by decide +kernel
theorem dX12_line_133 : decode cX12_line 133 = .ok (.iinc 4 1, 3) := by decide +kernel
theorem dX12_line_136 : decode cX12_line 136 = .ok (.goto (-27), 3) := by decide +kernel
theorem dX12_line_139 : decode cX12_line 139 = .ok (.aload_n 0, 1) := by decide +kernel
theorem dX12_line_140 : decode cX12_line 140 = .ok (.dup, 1) := by decide +kernel
theorem dX12_line_141 : decode cX12_line 141 = .ok (.getfield 115, 3) := by decide +kernel
theorem dX12_line_144 : decode cX12_line 144 = .ok (.iconst 1, 1) := by decide +kernel
theorem dX12_line_145 : decode cX12_line 145 = .ok (.iadd, 1) := by decide +kernel
theorem dX12_line_146 : decode cX12_line 146 = .ok (.putfield 115, 3) := by decide +kernel
theorem dX12_line_149 : decode cX12_line 149 = .ok (.aload_n 0, 1) := by decide +kernel
theorem dX12_line_150 : decode cX12_line 150 = .ok (.getfield 115, 3) := by decide +kernel
theorem dX12_line_153 : decode cX12_line 153 = .ok (.iconst 1, 1) := by decide +kernel
theorem dX12_line_154 : decode cX12_line 154 = .ok (.isub, 1) := by decide +kernel
theorem dX12_line_155 : decode cX12_line 155 = .ok (.ireturn, 1) := by decide +kernel
theorem dX12_tells_0 : decode cX12_tells 0 = .ok (.iload_n 2, 1) := by decide +kernel
theorem dX12_tells_1 : decode cX12_tells 1 = .ok (.tableswitch 78 0 4 #[35, 42, 49, 56, 71], 35) := by decide +kernel
theorem dX12_tells_36 : decode cX12_tells 36 = .ok (.aload_n 0, 1) := by decide +kernel
theorem dX12_tells_37 : decode cX12_tells 37 = .ok (.getfield 17, 3) := by decide +kernel
theorem dX12_tells_40 : decode cX12_tells 40 = .ok (.iload_n 1, 1) := by decide +kernel
theorem dX12_tells_41 : decode cX12_tells 41 = .ok (.iaload, 1) := by decide +kernel
theorem dX12_tells_42 : decode cX12_tells 42 = .ok (.ireturn, 1) := by decide +kernel
theorem dX12_tells_43 : decode cX12_tells 43 = .ok (.aload_n 0, 1) := by decide +kernel
theorem dX12_tells_44 : decode cX12_tells 44 = .ok (.getfield 20, 3) := by decide +kernel
theorem dX12_tells_47 : decode cX12_tells 47 = .ok (.iload_n 1, 1) := by decide +kernel
theorem dX12_tells_48 : decode cX12_tells 48 = .ok (.iaload, 1) := by decide +kernel
theorem dX12_tells_49 : decode cX12_tells 49 = .ok (.ireturn, 1) := by decide +kernel
theorem dX12_tells_50 : decode cX12_tells 50 = .ok (.aload_n 0, 1) := by decide +kernel
theorem dX12_tells_51 : decode cX12_tells 51 = .ok (.getfield 23, 3) := by decide +kernel
theorem dX12_tells_54 : decode cX12_tells 54 = .ok (.iload_n 1, 1) := by decide +kernel
theorem dX12_tells_55 : decode cX12_tells 55 = .ok (.iaload, 1) := by decide +kernel
theorem dX12_tells_56 : decode cX12_tells 56 = .ok (.ireturn, 1) := by decide +kernel
theorem dX12_tells_57 : decode cX12_tells 57 = .ok (.aload_n 0, 1) := by decide +kernel
theorem dX12_tells_58 : decode cX12_tells 58 = .ok (.getfield 26, 3) := by decide +kernel
theorem dX12_tells_61 : decode cX12_tells 61 = .ok (.iload_n 1, 1) := by decide +kernel
theorem dX12_tells_62 : decode cX12_tells 62 = .ok (.baload, 1) := by decide +kernel
theorem dX12_tells_63 : decode cX12_tells 63 = .ok (.ifCond .eq 7, 3) := by decide +kernel
theorem dX12_tells_66 : decode cX12_tells 66 = .ok (.iconst 1, 1) := by decide +kernel
theorem dX12_tells_67 : decode cX12_tells 67 = .ok (.goto 4, 3) := by decide +kernel
theorem dX12_tells_70 : decode cX12_tells 70 = .ok (.iconst 0, 1) := by decide +kernel
theorem dX12_tells_71 : decode cX12_tells 71 = .ok (.ireturn, 1) := by decide +kernel
theorem dX12_tells_72 : decode cX12_tells 72 = .ok (.aload_n 0, 1) := by decide +kernel
theorem dX12_tells_73 : decode cX12_tells 73 = .ok (.getfield 33, 3) := by decide +kernel
theorem dX12_tells_76 : decode cX12_tells 76 = .ok (.iload_n 1, 1) := by decide +kernel
theorem dX12_tells_77 : decode cX12_tells 77 = .ok (.iaload, 1) := by decide +kernel
theorem dX12_tells_78 : decode cX12_tells 78 = .ok (.ireturn, 1) := by decide +kernel
theorem dX12_tells_79 : decode cX12_tells 79 = .ok (.aload_n 0, 1) := by decide +kernel
theorem dX12_tells_80 : decode cX12_tells 80 = .ok (.getfield 30, 3) := by decide +kernel
theorem dX12_tells_83 : decode cX12_tells 83 = .ok (.iload_n 1, 1) := by decide +kernel
theorem dX12_tells_84 : decode cX12_tells 84 = .ok (.iaload, 1) := by decide +kernel
theorem dX12_tells_85 : decode cX12_tells 85 = .ok (.ireturn, 1) := by decide +kernel
theorem dX12_told_0 : decode cX12_told 0 = .ok (.aload_n 0, 1) := by decide +kernel
theorem dX12_told_1 : decode cX12_told 1 = .ok (.iload_n 1, 1) := by decide +kernel
theorem dX12_told_2 : decode cX12_told 2 = .ok (.invokevirtual 130, 3) := by decide +kernel
theorem dX12_told_5 : decode cX12_told 5 = .ok (.ifCond .eq 21, 3) := by decide +kernel
theorem dX12_told_8 : decode cX12_told 8 = .ok (.iload_n 2, 1) := by decide +kernel
theorem dX12_told_9 : decode cX12_told 9 = .ok (.iconst 0, 1) := by decide +kernel
theorem dX12_told_10 : decode cX12_told 10 = .ok (.iconst 5, 1) := by decide +kernel
theorem dX12_told_11 : decode cX12_told 11 = .ok (.invokestatic 122, 3) := by decide +kernel
theorem dX12_told_14 : decode cX12_told 14 = .ok (.ifCond .eq 12, 3) := by decide +kernel
theorem dX12_told_17 : decode cX12_told 17 = .ok (.aload_n 0, 1) := by decide +kernel
theorem dX12_told_18 : decode cX12_told 18 = .ok (.iload_n 1, 1) := by decide +kernel
theorem dX12_told_19 : decode cX12_told 19 = .ok (.iload_n 2, 1) := by decide +kernel
theorem dX12_told_20 : decode cX12_told 20 = .ok (.invokevirtual 133, 3) := by decide +kernel
theorem dX12_told_23 : decode cX12_told 23 = .ok (.goto 4, 3) := by decide +kernel
theorem dX12_told_26 : decode cX12_told 26 = .ok (.iconst (-1), 1) := by decide +kernel
theorem dX12_told_27 : decode cX12_told 27 = .ok (.ireturn, 1) := by decide +kernel
theorem dX12_counts_0 : decode cX12_counts 0 = .ok (.aload_n 0, 1) := by decide +kernel
theorem dX12_counts_1 : decode cX12_counts 1 = .ok (.getfield 17, 3) := by decide +kernel
theorem dX12_counts_4 : decode cX12_counts 4 = .ok (.iload_n 1, 1) := by decide +kernel
theorem dX12_counts_5 : decode cX12_counts 5 = .ok (.iaload, 1) := by decide +kernel
theorem dX12_counts_6 : decode cX12_counts 6 = .ok (.iconst 1, 1) := by decide +kernel
theorem dX12_counts_7 : decode cX12_counts 7 = .ok (.if_icmp .eq 13, 3) := by decide +kernel
theorem dX12_counts_10 : decode cX12_counts 10 = .ok (.aload_n 0, 1) := by decide +kernel
theorem dX12_counts_11 : decode cX12_counts 11 = .ok (.getfield 17, 3) := by decide +kernel
theorem dX12_counts_14 : decode cX12_counts 14 = .ok (.iload_n 1, 1) := by decide +kernel
theorem dX12_counts_15 : decode cX12_counts 15 = .ok (.iaload, 1) := by decide +kernel
theorem dX12_counts_16 : decode cX12_counts 16 = .ok (.iconst 2, 1) := by decide +kernel
theorem dX12_counts_17 : decode cX12_counts 17 = .ok (.if_icmp .ne 7, 3) := by decide +kernel
theorem dX12_counts_20 : decode cX12_counts 20 = .ok (.iconst 1, 1) := by decide +kernel
theorem dX12_counts_21 : decode cX12_counts 21 = .ok (.goto 4, 3) := by decide +kernel
theorem dX12_counts_24 : decode cX12_counts 24 = .ok (.iconst 0, 1) := by decide +kernel
theorem dX12_counts_25 : decode cX12_counts 25 = .ok (.ireturn, 1) := by decide +kernel
theorem dX12_counterOf_0 : decode cX12_counterOf 0 = .ok (.aload_n 0, 1) := by decide +kernel
theorem dX12_counterOf_1 : decode cX12_counterOf 1 = .ok (.getfield 17, 3) := by decide +kernel
theorem dX12_counterOf_4 : decode cX12_counterOf 4 = .ok (.iload_n 1, 1) := by decide +kernel
theorem dX12_counterOf_5 : decode cX12_counterOf 5 = .ok (.iaload, 1) := by decide +kernel
theorem dX12_counterOf_6 : decode cX12_counterOf 6 = .ok (.iconst 1, 1) := by decide +kernel
theorem dX12_counterOf_7 : decode cX12_counterOf 7 = .ok (.if_icmp .ne 9, 3) := by decide +kernel
theorem dX12_counterOf_10 : decode cX12_counterOf 10 = .ok (.sipush 256, 3) := by decide +kernel
theorem dX12_counterOf_13 : decode cX12_counterOf 13 = .ok (.goto 5, 3) := by decide +kernel
theorem dX12_counterOf_16 : decode cX12_counterOf 16 = .ok (.ldc 137, 2) := by decide +kernel
theorem dX12_counterOf_18 : decode cX12_counterOf 18 = .ok (.ireturn, 1) := by decide +kernel
theorem dX12_had_0 : decode cX12_had 0 = .ok (.iconst 0, 1) := by decide +kernel
theorem dX12_had_1 : decode cX12_had 1 = .ok (.istore_n 2, 1) := by decide +kernel
theorem dX12_had_2 : decode cX12_had 2 = .ok (.iconst 0, 1) := by decide +kernel
theorem dX12_had_3 : decode cX12_had 3 = .ok (.istore_n 3, 1) := by decide +kernel
theorem dX12_had_4 : decode cX12_had 4 = .ok (.iload_n 3, 1) := by decide +kernel
theorem dX12_had_5 : decode cX12_had 5 = .ok (.bipush 24, 2) := by decide +kernel
theorem dX12_had_7 : decode cX12_had 7 = .ok (.if_icmp .ge 33, 3) := by decide +kernel
theorem dX12_had_10 : decode cX12_had 10 = .ok (.iload_n 2, 1) := by decide +kernel
theorem dX12_had_11 : decode cX12_had 11 = .ok (.aload_n 0, 1) := by decide +kernel
theorem dX12_had_12 : decode cX12_had 12 = .ok (.getfield 36, 3) := by decide +kernel
theorem dX12_had_15 : decode cX12_had 15 = .ok (.bipush 24, 2) := by decide +kernel
theorem dX12_had_17 : decode cX12_had 17 = .ok (.iload_n 1, 1) := by decide +kernel
theorem dX12_had_18 : decode cX12_had 18 = .ok (.imul, 1) := by decide +kernel
theorem dX12_had_19 : decode cX12_had 19 = .ok (.iload_n 3, 1) := by decide +kernel
theorem dX12_had_20 : decode cX12_had 20 = .ok (.iadd, 1) := by decide +kernel
theorem dX12_had_21 : decode cX12_had 21 = .ok (.iaload, 1) := by decide +kernel
theorem dX12_had_22 : decode cX12_had 22 = .ok (.bipush (-9), 2) := by decide +kernel
theorem dX12_had_24 : decode cX12_had 24 = .ok (.if_icmp .eq 7, 3) := by decide +kernel
theorem dX12_had_27 : decode cX12_had 27 = .ok (.iconst 1, 1) := by decide +kernel
theorem dX12_had_28 : decode cX12_had 28 = .ok (.goto 4, 3) := by decide +kernel
theorem dX12_had_31 : decode cX12_had 31 = .ok (.iconst 0, 1) := by decide +kernel
theorem dX12_had_32 : decode cX12_had 32 = .ok (.iadd, 1) := by decide +kernel
theorem dX12_had_33 : decode cX12_had 33 = .ok (.istore_n 2, 1) := by decide +kernel
theorem dX12_had_34 : decode cX12_had 34 = .ok (.iinc 3 1, 3) := by decide +kernel
theorem dX12_had_37 : decode cX12_had 37 = .ok (.goto (-33), 3) := by decide +kernel
theorem dX12_had_40 : decode cX12_had 40 = .ok (.iload_n 2, 1) := by decide +kernel
theorem dX12_had_41 : decode cX12_had 41 = .ok (.ireturn, 1) := by decide +kernel
theorem dX12_mark_0 : decode cX12_mark 0 = .ok (.aload_n 0, 1) := by decide +kernel
theorem dX12_mark_1 : decode cX12_mark 1 = .ok (.iload_n 1, 1) := by decide +kernel
theorem dX12_mark_2 : decode cX12_mark 2 = .ok (.invokevirtual 130, 3) := by decide +kernel
theorem dX12_mark_5 : decode cX12_mark 5 = .ok (.ifCond .eq 12, 3) := by decide +kernel
theorem dX12_mark_8 : decode cX12_mark 8 = .ok (.iload_n 2, 1) := by decide +kernel
theorem dX12_mark_9 : decode cX12_mark 9 = .ok (.iconst 1, 1) := by decide +kernel
theorem dX12_mark_10 : decode cX12_mark 10 = .ok (.iconst 3, 1) := by decide +kernel
theorem dX12_mark_11 : decode cX12_mark 11 = .ok (.invokestatic 122, 3) := by decide +kernel
theorem dX12_mark_14 : decode cX12_mark 14 = .ok (.ifCond .ne 5, 3) := by decide +kernel
theorem dX12_mark_17 : decode cX12_mark 17 = .ok (.iconst (-1), 1) := by decide +kernel
theorem dX12_mark_18 : decode cX12_mark 18 = .ok (.ireturn, 1) := by decide +kernel
theorem dX12_mark_19 : decode cX12_mark 19 = .ok (.aload_n 0, 1) := by decide +kernel
theorem dX12_mark_20 : decode cX12_mark 20 = .ok (.getfield 17, 3) := by decide +kernel
theorem dX12_mark_23 : decode cX12_mark 23 = .ok (.iload_n 1, 1) := by decide +kernel
theorem dX12_mark_24 : decode cX12_mark 24 = .ok (.iaload, 1) := by decide +kernel
theorem dX12_mark_25 : decode cX12_mark 25 = .ok (.istore_n 3, 1) := by decide +kernel
theorem dX12_mark_26 : decode cX12_mark 26 = .ok (.iload_n 2, 1) := by decide +kernel
theorem dX12_mark_27 : decode cX12_mark 27 = .ok (.iload_n 3, 1) := by decide +kernel
theorem dX12_mark_28 : decode cX12_mark 28 = .ok (.if_icmp .eq 19, 3) := by decide +kernel
theorem dX12_mark_31 : decode cX12_mark 31 = .ok (.iload_n 2, 1) := by decide +kernel
theorem dX12_mark_32 : decode cX12_mark 32 = .ok (.iconst 1, 1) := by decide +kernel
theorem dX12_mark_33 : decode cX12_mark 33 = .ok (.if_icmp .ne 8, 3) := by decide +kernel
theorem dX12_mark_36 : decode cX12_mark 36 = .ok (.iload_n 3, 1) := by decide +kernel
theorem dX12_mark_37 : decode cX12_mark 37 = .ok (.iconst 2, 1) := by decide +kernel
theorem dX12_mark_38 : decode cX12_mark 38 = .ok (.if_icmp .eq 9, 3) := by decide +kernel
theorem dX12_mark_41 : decode cX12_mark 41 = .ok (.aload_n 0, 1) := by decide +kernel
theorem dX12_mark_42 : decode cX12_mark 42 = .ok (.iconst 3, 1) := by decide +kernel
theorem dX12_mark_43 : decode cX12_mark 43 = .ok (.invokevirtual 138, 3) := by decide +kernel
theorem dX12_mark_46 : decode cX12_mark 46 = .ok (.ireturn, 1) := by decide +kernel
theorem dX12_mark_47 : decode cX12_mark 47 = .ok (.iload_n 2, 1) := by decide +kernel
theorem dX12_mark_48 : decode cX12_mark 48 = .ok (.iconst 1, 1) := by decide +kernel
theorem dX12_mark_49 : decode cX12_mark 49 = .ok (.if_icmp .ne 9, 3) := by decide +kernel
theorem dX12_mark_52 : decode cX12_mark 52 = .ok (.aload_n 0, 1) := by decide +kernel
theorem dX12_mark_53 : decode cX12_mark 53 = .ok (.iload_n 1, 1) := by decide +kernel
theorem dX12_mark_54 : decode cX12_mark 54 = .ok (.invokevirtual 142, 3) := by decide +kernel
theorem dX12_mark_57 : decode cX12_mark 57 = .ok (.ireturn, 1) := by decide +kernel
theorem dX12_mark_58 : decode cX12_mark 58 = .ok (.iload_n 2, 1) := by decide +kernel
theorem dX12_mark_59 : decode cX12_mark 59 = .ok (.iconst 2, 1) := by decide +kernel
theorem dX12_mark_60 : decode cX12_mark 60 = .ok (.if_icmp .ne 9, 3) := by decide +kernel
theorem dX12_mark_63 : decode cX12_mark 63 = .ok (.aload_n 0, 1) := by decide +kernel
theorem dX12_mark_64 : decode cX12_mark 64 = .ok (.iload_n 1, 1) := by decide +kernel
theorem dX12_mark_65 : decode cX12_mark 65 = .ok (.invokevirtual 145, 3) := by decide +kernel
theorem dX12_mark_68 : decode cX12_mark 68 = .ok (.ireturn, 1) := by decide +kernel
theorem dX12_mark_69 : decode cX12_mark 69 = .ok (.iconst 0, 1) := by decide +kernel
theorem dX12_mark_70 : decode cX12_mark 70 = .ok (.istore 4, 2) := by decide +kernel
theorem dX12_mark_72 : decode cX12_mark 72 = .ok (.aload_n 0, 1) := by decide +kernel
theorem dX12_mark_73 : decode cX12_mark 73 = .ok (.bipush (-9), 2) := by decide +kernel
theorem dX12_mark_75 : decode cX12_mark 75 = .ok (.invokevirtual 148, 3) := by decide +kernel
theorem dX12_mark_78 : decode cX12_mark 78 = .ok (.iconst 0, 1) := by decide +kernel
theorem dX12_mark_79 : decode cX12_mark 79 = .ok (.istore 5, 2) := by decide +kernel
theorem dX12_mark_81 : decode cX12_mark 81 = .ok (.iload 5, 2) := by decide +kernel
theorem dX12_mark_83 : decode cX12_mark 83 = .ok (.aload_n 0, 1) := by decide +kernel
theorem dX12_mark_84 : decode cX12_mark 84 = .ok (.getfield 13, 3) := by decide +kernel
theorem dX12_mark_87 : decode cX12_mark 87 = .ok (.aload_n 0, 1) := by decide +kernel
theorem dX12_mark_88 : decode cX12_mark 88 = .ok (.getfield 13, 3) := by decide +kernel
theorem dX12_mark_91 : decode cX12_mark 91 = .ok (.imul, 1) := by decide +kernel
theorem dX12_mark_92 : decode cX12_mark 92 = .ok (.if_icmp .ge 44, 3) := by decide +kernel
theorem dX12_mark_95 : decode cX12_mark 95 = .ok (.iload 4, 2) := by decide +kernel
theorem dX12_mark_97 : decode cX12_mark 97 = .ok (.aload_n 0, 1) := by decide +kernel
theorem dX12_mark_98 : decode cX12_mark 98 = .ok (.getfield 48, 3) := by decide +kernel
theorem dX12_mark_101 : decode cX12_mark 101 = .ok (.iload 5, 2) := by decide +kernel
theorem dX12_mark_103 : decode cX12_mark 103 = .ok (.iaload, 1) := by decide +kernel
theorem dX12_mark_104 : decode cX12_mark 104 = .ok (.ifCond .lt 22, 3) := by decide +kernel
theorem dX12_mark_107 : decode cX12_mark 107 = .ok (.aload_n 0, 1) := by decide +kernel
theorem dX12_mark_108 : decode cX12_mark 108 = .ok (.getfield 48, 3) := by decide +kernel
theorem dX12_mark_111 : decode cX12_mark 111 = .ok (.iload 5, 2) := by decide +kernel
theorem dX12_mark_113 : decode cX12_mark 113 = .ok (.iaload, 1) := by decide +kernel
theorem dX12_mark_114 : decode cX12_mark 114 = .ok (.iload_n 1, 1) := by decide +kernel
theorem dX12_mark_115 : decode cX12_mark 115 = .ok (.ishr, 1) := by decide +kernel
theorem dX12_mark_116 : decode cX12_mark 116 = .ok (.iconst 1, 1) := by decide +kernel
theorem dX12_mark_117 : decode cX12_mark 117 = .ok (.iand, 1) := by decide +kernel
theorem dX12_mark_118 : decode cX12_mark 118 = .ok (.iconst 1, 1) := by decide +kernel
theorem dX12_mark_119 : decode cX12_mark 119 = .ok (.if_icmp .ne 7, 3) := by decide +kernel
theorem dX12_mark_122 : decode cX12_mark 122 = .ok (.iconst 1, 1) := by decide +kernel
theorem dX12_mark_123 : decode cX12_mark 123 = .ok (.goto 4, 3) := by decide +kernel
theorem dX12_mark_126 : decode cX12_mark 126 = .ok (.iconst 0, 1) := by decide +kernel
theorem dX12_mark_127 : decode cX12_mark 127 = .ok (.iadd, 1) := by decide +kernel
theorem dX12_mark_128 : decode cX12_mark 128 = .ok (.istore 4, 2) := by decide +kernel
theorem dX12_mark_130 : decode cX12_mark 130 = .ok (.iinc 5 1, 3) := by decide +kernel
theorem dX12_mark_133 : decode cX12_mark 133 = .ok (.goto (-52), 3) := by decide +kernel
theorem dX12_mark_136 : decode cX12_mark 136 = .ok (.iload 4, 2) := by decide +kernel
theorem dX12_mark_138 : decode cX12_mark 138 = .ok (.ireturn, 1) := by decide +kernel
theorem dX12_down_0 : decode cX12_down 0 = .ok (.aload_n 0, 1) := by decide +kernel
theorem dX12_down_1 : decode cX12_down 1 = .ok (.iload_n 1, 1) := by decide +kernel
theorem dX12_down_2 : decode cX12_down 2 = .ok (.invokevirtual 130, 3) := by decide +kernel
theorem dX12_down_5 : decode cX12_down 5 = .ok (.ifCond .ne 5, 3) := by decide +kernel
theorem dX12_down_8 : decode cX12_down 8 = .ok (.iconst (-1), 1) := by decide +kernel
theorem dX12_down_9 : decode cX12_down 9 = .ok (.ireturn, 1) := by decide +kernel
theorem dX12_down_10 : decode cX12_down 10 = .ok (.aload_n 0, 1) := by decide +kernel
theorem dX12_down_11 : decode cX12_down 11 = .ok (.getfield 26, 3) := by decide +kernel
theorem dX12_down_14 : decode cX12_down 14 = .ok (.iload_n 1, 1) := by decide +kernel
theorem dX12_down_15 : decode cX12_down 15 = .ok (.baload, 1) := by decide +kernel
theorem dX12_down_16 : decode cX12_down 16 = .ok (.ifCond .eq 7, 3) := by decide +kernel
theorem dX12_down_19 : decode cX12_down 19 = .ok (.iconst 1, 1) := by decide +kernel
theorem dX12_down_20 : decode cX12_down 20 = .ok (.goto 4, 3) := by decide +kernel
theorem dX12_down_23 : decode cX12_down 23 = .ok (.iconst 0, 1) := by decide +kernel
theorem dX12_down_24 : decode cX12_down 24 = .ok (.istore_n 3, 1) := by decide +kernel
theorem dX12_down_25 : decode cX12_down 25 = .ok (.aload_n 0, 1) := by decide +kernel
theorem dX12_down_26 : decode cX12_down 26 = .ok (.getfield 26, 3) := by decide +kernel
theorem dX12_down_29 : decode cX12_down 29 = .ok (.iload_n 1, 1) := by decide +kernel
theorem dX12_down_30 : decode cX12_down 30 = .ok (.iload_n 2, 1) := by decide +kernel
theorem dX12_down_31 : decode cX12_down 31 = .ok (.bastore, 1) := by decide +kernel
theorem dX12_down_32 : decode cX12_down 32 = .ok (.iload_n 3, 1) := by decide +kernel
theorem dX12_down_33 : decode cX12_down 33 = .ok (.ireturn, 1) := by decide +kernel
theorem dX12_rate_0 : decode cX12_rate 0 = .ok (.aload_n 0, 1) := by decide +kernel
theorem dX12_rate_1 : decode cX12_rate 1 = .ok (.iload_n 1, 1) := by decide +kernel
theorem dX12_rate_2 : decode cX12_rate 2 = .ok (.invokevirtual 130, 3) := by decide +kernel
theorem dX12_rate_5 : decode cX12_rate 5 = .ok (.ifCond .eq 13, 3) := by decide +kernel
theorem dX12_rate_8 : decode cX12_rate 8 = .ok (.iload_n 2, 1) := by decide +kernel
theorem dX12_rate_9 : decode cX12_rate 9 = .ok (.iconst 0, 1) := by decide +kernel
theorem dX12_rate_10 : decode cX12_rate 10 = .ok (.ldc 152, 2) := by decide +kernel
theorem dX12_rate_12 : decode cX12_rate 12 = .ok (.invokestatic 122, 3) := by decide +kernel
theorem dX12_rate_15 : decode cX12_rate 15 = .ok (.ifCond .ne 5, 3) := by decide +kernel
theorem dX12_rate_18 : decode cX12_rate 18 = .ok (.iconst (-1), 1) := by decide +kernel
theorem dX12_rate_19 : decode cX12_rate 19 = .ok (.ireturn, 1) := by decide +kernel
theorem dX12_rate_20 : decode cX12_rate 20 = .ok (.aload_n 0, 1) := by decide +kernel
theorem dX12_rate_21 : decode cX12_rate 21 = .ok (.getfield 30, 3) := by decide +kernel
theorem dX12_rate_24 : decode cX12_rate 24 = .ok (.iload_n 1, 1) := by decide +kernel
theorem dX12_rate_25 : decode cX12_rate 25 = .ok (.iaload, 1) := by decide +kernel
theorem dX12_rate_26 : decode cX12_rate 26 = .ok (.istore_n 3, 1) := by decide +kernel
theorem dX12_rate_27 : decode cX12_rate 27 = .ok (.aload_n 0, 1) := by decide +kernel
theorem dX12_rate_28 : decode cX12_rate 28 = .ok (.getfield 30, 3) := by decide +kernel
theorem dX12_rate_31 : decode cX12_rate 31 = .ok (.iload_n 1, 1) := by decide +kernel
theorem dX12_rate_32 : decode cX12_rate 32 = .ok (.iload_n 2, 1) := by decide +kernel
theorem dX12_rate_33 : decode cX12_rate 33 = .ok (.iastore, 1) := by decide +kernel
theorem dX12_rate_34 : decode cX12_rate 34 = .ok (.iload_n 3, 1) := by decide +kernel
theorem dX12_rate_35 : decode cX12_rate 35 = .ok (.ireturn, 1) := by decide +kernel
theorem dX12_reading_0 : decode cX12_reading 0 = .ok (.aload_n 0, 1) := by decide +kernel
theorem dX12_reading_1 : decode cX12_reading 1 = .ok (.iload_n 1, 1) := by decide +kernel
theorem dX12_reading_2 : decode cX12_reading 2 = .ok (.invokevirtual 130, 3) := by decide +kernel
theorem dX12_reading_5 : decode cX12_reading 5 = .ok (.ifCond .eq 13, 3) := by decide +kernel
theorem dX12_reading_8 : decode cX12_reading 8 = .ok (.iload_n 3, 1) := by decide +kernel
theorem dX12_reading_9 : decode cX12_reading 9 = .ok (.ifCond .ge 11, 3) := by decide +kernel
theorem dX12_reading_12 : decode cX12_reading 12 = .ok (.iload_n 3, 1) := by decide +kernel
theorem dX12_reading_13 : decode cX12_reading 13 = .ok (.bipush (-9), 2) := by decide +kernel
theorem dX12_reading_15 : decode cX12_reading 15 = .ok (.if_icmp .eq 5, 3) := by decide +kernel
theorem dX12_reading_18 : decode cX12_reading 18 = .ok (.iconst (-1), 1) := by decide +kernel
theorem dX12_reading_19 : decode cX12_reading 19 = .ok (.ireturn, 1) := by decide +kernel
theorem dX12_reading_20 : decode cX12_reading 20 = .ok (.aload_n 0, 1) := by decide +kernel
theorem dX12_reading_21 : decode cX12_reading 21 = .ok (.iload_n 1, 1) := by decide +kernel
theorem dX12_reading_22 : decode cX12_reading 22 = .ok (.invokevirtual 153, 3) := by decide +kernel
theorem dX12_reading_25 : decode cX12_reading 25 = .ok (.ifCond .ne 9, 3) := by decide +kernel
theorem dX12_reading_28 : decode cX12_reading 28 = .ok (.aload_n 0, 1) := by decide +kernel
theorem dX12_reading_29 : decode cX12_reading 29 = .ok (.iconst 3, 1) := by decide +kernel
theorem dX12_reading_30 : decode cX12_reading 30 = .ok (.invokevirtual 138, 3) := by decide +kernel
theorem dX12_reading_33 : decode cX12_reading 33 = .ok (.ireturn, 1) := by decide +kernel
theorem dX12_reading_34 : decode cX12_reading 34 = .ok (.iload_n 2, 1) := by decide +kernel
theorem dX12_reading_35 : decode cX12_reading 35 = .ok (.iconst 0, 1) := by decide +kernel
theorem dX12_reading_36 : decode cX12_reading 36 = .ok (.bipush 23, 2) := by decide +kernel
theorem dX12_reading_38 : decode cX12_reading 38 = .ok (.invokestatic 122, 3) := by decide +kernel
theorem dX12_reading_41 : decode cX12_reading 41 = .ok (.ifCond .ne 9, 3) := by decide +kernel
theorem dX12_reading_44 : decode cX12_reading 44 = .ok (.aload_n 0, 1) := by decide +kernel
theorem dX12_reading_45 : decode cX12_reading 45 = .ok (.iconst 2, 1) := by decide +kernel
theorem dX12_reading_46 : decode cX12_reading 46 = .ok (.invokevirtual 138, 3) := by decide +kernel
theorem dX12_reading_49 : decode cX12_reading 49 = .ok (.ireturn, 1) := by decide +kernel
theorem dX12_reading_50 : decode cX12_reading 50 = .ok (.aload_n 0, 1) := by decide +kernel
theorem dX12_reading_51 : decode cX12_reading 51 = .ok (.getfield 36, 3) := by decide +kernel
theorem dX12_reading_54 : decode cX12_reading 54 = .ok (.bipush 24, 2) := by decide +kernel
theorem dX12_reading_56 : decode cX12_reading 56 = .ok (.iload_n 1, 1) := by decide +kernel
theorem dX12_reading_57 : decode cX12_reading 57 = .ok (.imul, 1) := by decide +kernel
theorem dX12_reading_58 : decode cX12_reading 58 = .ok (.iload_n 2, 1) := by decide +kernel
theorem dX12_reading_59 : decode cX12_reading 59 = .ok (.iadd, 1) := by decide +kernel
theorem dX12_reading_60 : decode cX12_reading 60 = .ok (.iaload, 1) := by decide +kernel
theorem dX12_reading_61 : decode cX12_reading 61 = .ok (.istore 4, 2) := by decide +kernel
theorem dX12_reading_63 : decode cX12_reading 63 = .ok (.aload_n 0, 1) := by decide +kernel
theorem dX12_reading_64 : decode cX12_reading 64 = .ok (.getfield 36, 3) := by decide +kernel
theorem dX12_reading_67 : decode cX12_reading 67 = .ok (.bipush 24, 2) := by decide +kernel
theorem dX12_reading_69 : decode cX12_reading 69 = .ok (.iload_n 1, 1) := by decide +kernel
theorem dX12_reading_70 : decode cX12_reading 70 = .ok (.imul, 1) := by decide +kernel
theorem dX12_reading_71 : decode cX12_reading 71 = .ok (.iload_n 2, 1) := by decide +kernel
theorem dX12_reading_72 : decode cX12_reading 72 = .ok (.iadd, 1) := by decide +kernel
theorem dX12_reading_73 : decode cX12_reading 73 = .ok (.iload_n 3, 1) := by decide +kernel
theorem dX12_reading_74 : decode cX12_reading 74 = .ok (.bipush (-9), 2) := by decide +kernel
theorem dX12_reading_76 : decode cX12_reading 76 = .ok (.if_icmp .ne 8, 3) := by decide +kernel
theorem dX12_reading_79 : decode cX12_reading 79 = .ok (.bipush (-9), 2) := by decide +kernel
theorem dX12_reading_81 : decode cX12_reading 81 = .ok (.goto 10, 3) := by decide +kernel
theorem dX12_reading_84 : decode cX12_reading 84 = .ok (.iload_n 3, 1) := by decide +kernel
theorem dX12_reading_85 : decode cX12_reading 85 = .ok (.aload_n 0, 1) := by decide +kernel
theorem dX12_reading_86 : decode cX12_reading 86 = .ok (.iload_n 1, 1) := by decide +kernel
theorem dX12_reading_87 : decode cX12_reading 87 = .ok (.invokevirtual 142, 3) := by decide +kernel
theorem dX12_reading_90 : decode cX12_reading 90 = .ok (.irem, 1) := by decide +kernel
theorem dX12_reading_91 : decode cX12_reading 91 = .ok (.iastore, 1) := by decide +kernel
theorem dX12_reading_92 : decode cX12_reading 92 = .ok (.iload 4, 2) := by decide +kernel
theorem dX12_reading_94 : decode cX12_reading 94 = .ok (.ireturn, 1) := by decide +kernel
theorem dX12_loadOf_0 : decode cX12_loadOf 0 = .ok (.aload_n 0, 1) := by decide +kernel
theorem dX12_loadOf_1 : decode cX12_loadOf 1 = .ok (.getfield 36, 3) := by decide +kernel
theorem dX12_loadOf_4 : decode cX12_loadOf 4 = .ok (.bipush 24, 2) := by decide +kernel
theorem dX12_loadOf_6 : decode cX12_loadOf 6 = .ok (.iload_n 1, 1) := by decide +kernel
theorem dX12_loadOf_7 : decode cX12_loadOf 7 = .ok (.imul, 1) := by decide +kernel
theorem dX12_loadOf_8 : decode cX12_loadOf 8 = .ok (.iload_n 3, 1) := by decide +kernel
theorem dX12_loadOf_9 : decode cX12_loadOf 9 = .ok (.iadd, 1) := by decide +kernel
theorem dX12_loadOf_10 : decode cX12_loadOf 10 = .ok (.iaload, 1) := by decide +kernel
theorem dX12_loadOf_11 : decode cX12_loadOf 11 = .ok (.aload_n 0, 1) := by decide +kernel
theorem dX12_loadOf_12 : decode cX12_loadOf 12 = .ok (.getfield 36, 3) := by decide +kernel
theorem dX12_loadOf_15 : decode cX12_loadOf 15 = .ok (.bipush 24, 2) := by decide +kernel
theorem dX12_loadOf_17 : decode cX12_loadOf 17 = .ok (.iload_n 1, 1) := by decide +kernel
theorem dX12_loadOf_18 : decode cX12_loadOf 18 = .ok (.imul, 1) := by decide +kernel
theorem dX12_loadOf_19 : decode cX12_loadOf 19 = .ok (.iload_n 2, 1) := by decide +kernel
theorem dX12_loadOf_20 : decode cX12_loadOf 20 = .ok (.iadd, 1) := by decide +kernel
theorem dX12_loadOf_21 : decode cX12_loadOf 21 = .ok (.iaload, 1) := by decide +kernel
theorem dX12_loadOf_22 : decode cX12_loadOf 22 = .ok (.isub, 1) := by decide +kernel
theorem dX12_loadOf_23 : decode cX12_loadOf 23 = .ok (.istore 4, 2) := by decide +kernel
theorem dX12_loadOf_25 : decode cX12_loadOf 25 = .ok (.iload 4, 2) := by decide +kernel
theorem dX12_loadOf_27 : decode cX12_loadOf 27 = .ok (.ifCond .ge 14, 3) := by decide +kernel
theorem dX12_loadOf_30 : decode cX12_loadOf 30 = .ok (.iload 4, 2) := by decide +kernel
theorem dX12_loadOf_32 : decode cX12_loadOf 32 = .ok (.aload_n 0, 1) := by decide +kernel
theorem dX12_loadOf_33 : decode cX12_loadOf 33 = .ok (.iload_n 1, 1) := by decide +kernel
theorem dX12_loadOf_34 : decode cX12_loadOf 34 = .ok (.invokevirtual 142, 3) := by decide +kernel
theorem dX12_loadOf_37 : decode cX12_loadOf 37 = .ok (.iadd, 1) := by decide +kernel
theorem dX12_loadOf_38 : decode cX12_loadOf 38 = .ok (.goto 5, 3) := by decide +kernel
theorem dX12_loadOf_41 : decode cX12_loadOf 41 = .ok (.iload 4, 2) := by decide +kernel
theorem dX12_loadOf_43 : decode cX12_loadOf 43 = .ok (.ireturn, 1) := by decide +kernel
theorem dX12_load_0 : decode cX12_load 0 = .ok (.aload_n 0, 1) := by decide +kernel
theorem dX12_load_1 : decode cX12_load 1 = .ok (.iload_n 1, 1) := by decide +kernel
theorem dX12_load_2 : decode cX12_load 2 = .ok (.invokevirtual 130, 3) := by decide +kernel
theorem dX12_load_5 : decode cX12_load 5 = .ok (.ifCond .ne 5, 3) := by decide +kernel
theorem dX12_load_8 : decode cX12_load 8 = .ok (.iconst (-1), 1) := by decide +kernel
theorem dX12_load_9 : decode cX12_load 9 = .ok (.ireturn, 1) := by decide +kernel
theorem dX12_load_10 : decode cX12_load 10 = .ok (.aload_n 0, 1) := by decide +kernel
theorem dX12_load_11 : decode cX12_load 11 = .ok (.iload_n 1, 1) := by decide +kernel
theorem dX12_load_12 : decode cX12_load 12 = .ok (.invokevirtual 153, 3) := by decide +kernel
theorem dX12_load_15 : decode cX12_load 15 = .ok (.ifCond .ne 9, 3) := by decide +kernel
theorem dX12_load_18 : decode cX12_load 18 = .ok (.aload_n 0, 1) := by decide +kernel
theorem dX12_load_19 : decode cX12_load 19 = .ok (.iconst 3, 1) := by decide +kernel
theorem dX12_load_20 : decode cX12_load 20 = .ok (.invokevirtual 138, 3) := by decide +kernel
theorem dX12_load_23 : decode cX12_load 23 = .ok (.ireturn, 1) := by decide +kernel
theorem dX12_load_24 : decode cX12_load 24 = .ok (.iload_n 2, 1) := by decide +kernel
theorem dX12_load_25 : decode cX12_load 25 = .ok (.iconst 0, 1) := by decide +kernel
theorem dX12_load_26 : decode cX12_load 26 = .ok (.bipush 23, 2) := by decide +kernel
theorem dX12_load_28 : decode cX12_load 28 = .ok (.invokestatic 122, 3) := by decide +kernel
theorem dX12_load_31 : decode cX12_load 31 = .ok (.ifCond .eq 18, 3) := by decide +kernel
theorem dX12_load_34 : decode cX12_load 34 = .ok (.iload_n 3, 1) := by decide +kernel
theorem dX12_load_35 : decode cX12_load 35 = .ok (.iconst 0, 1) := by decide +kernel
theorem dX12_load_36 : decode cX12_load 36 = .ok (.bipush 23, 2) := by decide +kernel
theorem dX12_load_38 : decode cX12_load 38 = .ok (.invokestatic 122, 3) := by decide +kernel
theorem dX12_load_41 : decode cX12_load 41 = .ok (.ifCond .eq 8, 3) := by decide +kernel
theorem dX12_load_44 : decode cX12_load 44 = .ok (.iload_n 2, 1) := by decide +kernel
theorem dX12_load_45 : decode cX12_load 45 = .ok (.iload_n 3, 1) := by decide +kernel
theorem dX12_load_46 : decode cX12_load 46 = .ok (.if_icmp .lt 9, 3) := by decide +kernel
theorem dX12_load_49 : decode cX12_load 49 = .ok (.aload_n 0, 1) := by decide +kernel
theorem dX12_load_50 : decode cX12_load 50 = .ok (.iconst 2, 1) := by decide +kernel
theorem dX12_load_51 : decode cX12_load 51 = .ok (.invokevirtual 138, 3) := by decide +kernel
theorem dX12_load_54 : decode cX12_load 54 = .ok (.ireturn, 1) := by decide +kernel
theorem dX12_load_55 : decode cX12_load 55 = .ok (.aload_n 0, 1) := by decide +kernel
theorem dX12_load_56 : decode cX12_load 56 = .ok (.getfield 36, 3) := by decide +kernel
theorem dX12_load_59 : decode cX12_load 59 = .ok (.bipush 24, 2) := by decide +kernel
theorem dX12_load_61 : decode cX12_load 61 = .ok (.iload_n 1, 1) := by decide +kernel
theorem dX12_load_62 : decode cX12_load 62 = .ok (.imul, 1) := by decide +kernel
theorem dX12_load_63 : decode cX12_load 63 = .ok (.iload_n 2, 1) := by decide +kernel
theorem dX12_load_64 : decode cX12_load 64 = .ok (.iadd, 1) := by decide +kernel
theorem dX12_load_65 : decode cX12_load 65 = .ok (.iaload, 1) := by decide +kernel
theorem dX12_load_66 : decode cX12_load 66 = .ok (.bipush (-9), 2) := by decide +kernel
theorem dX12_load_68 : decode cX12_load 68 = .ok (.if_icmp .eq 19, 3) := by decide +kernel
theorem dX12_load_71 : decode cX12_load 71 = .ok (.aload_n 0, 1) := by decide +kernel
theorem dX12_load_72 : decode cX12_load 72 = .ok (.getfield 36, 3) := by decide +kernel
theorem dX12_load_75 : decode cX12_load 75 = .ok (.bipush 24, 2) := by decide +kernel
theorem dX12_load_77 : decode cX12_load 77 = .ok (.iload_n 1, 1) := by decide +kernel
theorem dX12_load_78 : decode cX12_load 78 = .ok (.imul, 1) := by decide +kernel
theorem dX12_load_79 : decode cX12_load 79 = .ok (.iload_n 3, 1) := by decide +kernel
theorem dX12_load_80 : decode cX12_load 80 = .ok (.iadd, 1) := by decide +kernel
theorem dX12_load_81 : decode cX12_load 81 = .ok (.iaload, 1) := by decide +kernel
theorem dX12_load_82 : decode cX12_load 82 = .ok (.bipush (-9), 2) := by decide +kernel
theorem dX12_load_84 : decode cX12_load 84 = .ok (.if_icmp .ne 9, 3) := by decide +kernel
theorem dX12_load_87 : decode cX12_load 87 = .ok (.aload_n 0, 1) := by decide +kernel
theorem dX12_load_88 : decode cX12_load 88 = .ok (.iconst 1, 1) := by decide +kernel
theorem dX12_load_89 : decode cX12_load 89 = .ok (.invokevirtual 138, 3) := by decide +kernel
theorem dX12_load_92 : decode cX12_load 92 = .ok (.ireturn, 1) := by decide +kernel
theorem dX12_load_93 : decode cX12_load 93 = .ok (.aload_n 0, 1) := by decide +kernel
theorem dX12_load_94 : decode cX12_load 94 = .ok (.aload_n 0, 1) := by decide +kernel
theorem dX12_load_95 : decode cX12_load 95 = .ok (.iload_n 1, 1) := by decide +kernel
theorem dX12_load_96 : decode cX12_load 96 = .ok (.iload_n 2, 1) := by decide +kernel
theorem dX12_load_97 : decode cX12_load 97 = .ok (.iload_n 3, 1) := by decide +kernel
theorem dX12_load_98 : decode cX12_load 98 = .ok (.invokevirtual 156, 3) := by decide +kernel
theorem dX12_load_101 : decode cX12_load 101 = .ok (.i2l, 1) := by decide +kernel
theorem dX12_load_102 : decode cX12_load 102 = .ok (.aload_n 0, 1) := by decide +kernel
theorem dX12_load_103 : decode cX12_load 103 = .ok (.getfield 30, 3) := by decide +kernel
theorem dX12_load_106 : decode cX12_load 106 = .ok (.iload_n 1, 1) := by decide +kernel
theorem dX12_load_107 : decode cX12_load 107 = .ok (.iaload, 1) := by decide +kernel
theorem dX12_load_108 : decode cX12_load 108 = .ok (.iload_n 3, 1) := by decide +kernel
theorem dX12_load_109 : decode cX12_load 109 = .ok (.iload_n 2, 1) := by decide +kernel
theorem dX12_load_110 : decode cX12_load 110 = .ok (.isub, 1) := by decide +kernel
theorem dX12_load_111 : decode cX12_load 111 = .ok (.imul, 1) := by decide +kernel
theorem dX12_load_112 : decode cX12_load 112 = .ok (.aload_n 0, 1) := by decide +kernel
theorem dX12_load_113 : decode cX12_load 113 = .ok (.iload_n 1, 1) := by decide +kernel
theorem dX12_load_114 : decode cX12_load 114 = .ok (.invokevirtual 142, 3) := by decide +kernel
theorem dX12_load_117 : decode cX12_load 117 = .ok (.if_icmp .ge 7, 3) := by decide +kernel
theorem dX12_load_120 : decode cX12_load 120 = .ok (.iconst 1, 1) := by decide +kernel
theorem dX12_load_121 : decode cX12_load 121 = .ok (.goto 4, 3) := by decide +kernel
theorem dX12_load_124 : decode cX12_load 124 = .ok (.iconst 0, 1) := by decide +kernel
theorem dX12_load_125 : decode cX12_load 125 = .ok (.invokevirtual 160, 3) := by decide +kernel
theorem dX12_load_128 : decode cX12_load 128 = .ok (.ireturn, 1) := by decide +kernel
theorem dX12_mean_0 : decode cX12_mean 0 = .ok (.aload_n 0, 1) := by decide +kernel
theorem dX12_mean_1 : decode cX12_mean 1 = .ok (.iload_n 1, 1) := by decide +kernel
theorem dX12_mean_2 : decode cX12_mean 2 = .ok (.invokevirtual 130, 3) := by decide +kernel
theorem dX12_mean_5 : decode cX12_mean 5 = .ok (.ifCond .ne 5, 3) := by decide +kernel
theorem dX12_mean_8 : decode cX12_mean 8 = .ok (.iconst (-1), 1) := by decide +kernel
theorem dX12_mean_9 : decode cX12_mean 9 = .ok (.ireturn, 1) := by decide +kernel
theorem dX12_mean_10 : decode cX12_mean 10 = .ok (.aload_n 0, 1) := by decide +kernel
theorem dX12_mean_11 : decode cX12_mean 11 = .ok (.iload_n 1, 1) := by decide +kernel
theorem dX12_mean_12 : decode cX12_mean 12 = .ok (.invokevirtual 153, 3) := by decide +kernel
theorem dX12_mean_15 : decode cX12_mean 15 = .ok (.ifCond .ne 9, 3) := by decide +kernel
theorem dX12_mean_18 : decode cX12_mean 18 = .ok (.aload_n 0, 1) := by decide +kernel
theorem dX12_mean_19 : decode cX12_mean 19 = .ok (.iconst 3, 1) := by decide +kernel
theorem dX12_mean_20 : decode cX12_mean 20 = .ok (.invokevirtual 138, 3) := by decide +kernel
theorem dX12_mean_23 : decode cX12_mean 23 = .ok (.ireturn, 1) := by decide +kernel
theorem dX12_mean_24 : decode cX12_mean 24 = .ok (.bipush (-9), 2) := by decide +kernel
theorem dX12_mean_26 : decode cX12_mean 26 = .ok (.istore_n 2, 1) := by decide +kernel
theorem dX12_mean_27 : decode cX12_mean 27 = .ok (.bipush (-9), 2) := by decide +kernel
theorem dX12_mean_29 : decode cX12_mean 29 = .ok (.istore_n 3, 1) := by decide +kernel
theorem dX12_mean_30 : decode cX12_mean 30 = .ok (.iconst 0, 1) := by decide +kernel
theorem dX12_mean_31 : decode cX12_mean 31 = .ok (.istore 4, 2) := by decide +kernel
theorem dX12_mean_33 : decode cX12_mean 33 = .ok (.iconst 0, 1) := by decide +kernel
theorem dX12_mean_34 : decode cX12_mean 34 = .ok (.istore 5, 2) := by decide +kernel
theorem dX12_mean_36 : decode cX12_mean 36 = .ok (.iload 5, 2) := by decide +kernel
theorem dX12_mean_38 : decode cX12_mean 38 = .ok (.bipush 24, 2) := by decide +kernel
theorem dX12_mean_40 : decode cX12_mean 40 = .ok (.if_icmp .ge 61, 3) := by decide +kernel
theorem dX12_mean_43 : decode cX12_mean 43 = .ok (.aload_n 0, 1) := by decide +kernel
theorem dX12_mean_44 : decode cX12_mean 44 = .ok (.getfield 36, 3) := by decide +kernel
theorem dX12_mean_47 : decode cX12_mean 47 = .ok (.bipush 24, 2) := by decide +kernel
theorem dX12_mean_49 : decode cX12_mean 49 = .ok (.iload_n 1, 1) := by decide +kernel
theorem dX12_mean_50 : decode cX12_mean 50 = .ok (.imul, 1) := by decide +kernel
theorem dX12_mean_51 : decode cX12_mean 51 = .ok (.iload 5, 2) := by decide +kernel
theorem dX12_mean_53 : decode cX12_mean 53 = .ok (.iadd, 1) := by decide +kernel
theorem dX12_mean_54 : decode cX12_mean 54 = .ok (.iaload, 1) := by decide +kernel
theorem dX12_mean_55 : decode cX12_mean 55 = .ok (.bipush (-9), 2) := by decide +kernel
theorem dX12_mean_57 : decode cX12_mean 57 = .ok (.if_icmp .eq 38, 3) := by decide +kernel
theorem dX12_mean_60 : decode cX12_mean 60 = .ok (.iload 4, 2) := by decide +kernel
theorem dX12_mean_62 : decode cX12_mean 62 = .ok (.iload_n 3, 1) := by decide +kernel
theorem dX12_mean_63 : decode cX12_mean 63 = .ok (.ifCond .lt 14, 3) := by decide +kernel
theorem dX12_mean_66 : decode cX12_mean 66 = .ok (.aload_n 0, 1) := by decide +kernel
theorem dX12_mean_67 : decode cX12_mean 67 = .ok (.iload_n 1, 1) := by decide +kernel
theorem dX12_mean_68 : decode cX12_mean 68 = .ok (.iload_n 3, 1) := by decide +kernel
theorem dX12_mean_69 : decode cX12_mean 69 = .ok (.iload 5, 2) := by decide +kernel
theorem dX12_mean_71 : decode cX12_mean 71 = .ok (.invokevirtual 156, 3) := by decide +kernel
theorem dX12_mean_74 : decode cX12_mean 74 = .ok (.goto 4, 3) := by decide +kernel
theorem dX12_mean_77 : decode cX12_mean 77 = .ok (.iconst 0, 1) := by decide +kernel
theorem dX12_mean_78 : decode cX12_mean 78 = .ok (.iadd, 1) := by decide +kernel
theorem dX12_mean_79 : decode cX12_mean 79 = .ok (.istore 4, 2) := by decide +kernel
theorem dX12_mean_81 : decode cX12_mean 81 = .ok (.iload_n 2, 1) := by decide +kernel
theorem dX12_mean_82 : decode cX12_mean 82 = .ok (.ifCond .ge 8, 3) := by decide +kernel
theorem dX12_mean_85 : decode cX12_mean 85 = .ok (.iload 5, 2) := by decide +kernel
theorem dX12_mean_87 : decode cX12_mean 87 = .ok (.goto 4, 3) := by decide +kernel
theorem dX12_mean_90 : decode cX12_mean 90 = .ok (.iload_n 2, 1) := by decide +kernel
theorem dX12_mean_91 : decode cX12_mean 91 = .ok (.istore_n 2, 1) := by decide +kernel
theorem dX12_mean_92 : decode cX12_mean 92 = .ok (.iload 5, 2) := by decide +kernel
theorem dX12_mean_94 : decode cX12_mean 94 = .ok (.istore_n 3, 1) := by decide +kernel
theorem dX12_mean_95 : decode cX12_mean 95 = .ok (.iinc 5 1, 3) := by decide +kernel
theorem dX12_mean_98 : decode cX12_mean 98 = .ok (.goto (-62), 3) := by decide +kernel
theorem dX12_mean_101 : decode cX12_mean 101 = .ok (.iload_n 2, 1) := by decide +kernel
theorem dX12_mean_102 : decode cX12_mean 102 = .ok (.iload_n 3, 1) := by decide +kernel
theorem dX12_mean_103 : decode cX12_mean 103 = .ok (.if_icmp .ne 11, 3) := by decide +kernel
theorem dX12_mean_106 : decode cX12_mean 106 = .ok (.aload_n 0, 1) := by decide +kernel
theorem dX12_mean_107 : decode cX12_mean 107 = .ok (.iconst 4, 1) := by decide +kernel
theorem dX12_mean_108 : decode cX12_mean 108 = .ok (.invokevirtual 138, 3) := by decide +kernel
theorem dX12_mean_111 : decode cX12_mean 111 = .ok (.goto 9, 3) := by decide +kernel
theorem dX12_mean_114 : decode cX12_mean 114 = .ok (.iload 4, 2) := by decide +kernel
theorem dX12_mean_116 : decode cX12_mean 116 = .ok (.iload_n 3, 1) := by decide +kernel
theorem dX12_mean_117 : decode cX12_mean 117 = .ok (.iload_n 2, 1) := by decide +kernel
theorem dX12_mean_118 : decode cX12_mean 118 = .ok (.isub, 1) := by decide +kernel
theorem dX12_mean_119 : decode cX12_mean 119 = .ok (.idiv, 1) := by decide +kernel
theorem dX12_mean_120 : decode cX12_mean 120 = .ok (.ireturn, 1) := by decide +kernel
theorem dX12_setRoutes_0 : decode cX12_setRoutes 0 = .ok (.iconst 0, 1) := by decide +kernel
theorem dX12_setRoutes_1 : decode cX12_setRoutes 1 = .ok (.istore_n 2, 1) := by decide +kernel
theorem dX12_setRoutes_2 : decode cX12_setRoutes 2 = .ok (.iload_n 2, 1) := by decide +kernel
theorem dX12_setRoutes_3 : decode cX12_setRoutes 3 = .ok (.bipush 36, 2) := by decide +kernel
theorem dX12_setRoutes_5 : decode cX12_setRoutes 5 = .ok (.if_icmp .ge 32, 3) := by decide +kernel
theorem dX12_setRoutes_8 : decode cX12_setRoutes 8 = .ok (.aload_n 0, 1) := by decide +kernel
theorem dX12_setRoutes_9 : decode cX12_setRoutes 9 = .ok (.getfield 51, 3) := by decide +kernel
theorem dX12_setRoutes_12 : decode cX12_setRoutes 12 = .ok (.iload_n 2, 1) := by decide +kernel
theorem dX12_setRoutes_13 : decode cX12_setRoutes 13 = .ok (.iload_n 2, 1) := by decide +kernel
theorem dX12_setRoutes_14 : decode cX12_setRoutes 14 = .ok (.bipush 6, 2) := by decide +kernel
theorem dX12_setRoutes_16 : decode cX12_setRoutes 16 = .ok (.idiv, 1) := by decide +kernel
theorem dX12_setRoutes_17 : decode cX12_setRoutes 17 = .ok (.iload_n 2, 1) := by decide +kernel
theorem dX12_setRoutes_18 : decode cX12_setRoutes 18 = .ok (.bipush 6, 2) := by decide +kernel
theorem dX12_setRoutes_20 : decode cX12_setRoutes 20 = .ok (.irem, 1) := by decide +kernel
theorem dX12_setRoutes_21 : decode cX12_setRoutes 21 = .ok (.if_icmp .ne 7, 3) := by decide +kernel
theorem dX12_setRoutes_24 : decode cX12_setRoutes 24 = .ok (.iconst 0, 1) := by decide +kernel
theorem dX12_setRoutes_25 : decode cX12_setRoutes 25 = .ok (.goto 5, 3) := by decide +kernel
theorem dX12_setRoutes_28 : decode cX12_setRoutes 28 = .ok (.bipush 100, 2) := by decide +kernel
theorem dX12_setRoutes_30 : decode cX12_setRoutes 30 = .ok (.iastore, 1) := by decide +kernel
theorem dX12_setRoutes_31 : decode cX12_setRoutes 31 = .ok (.iinc 2 1, 3) := by decide +kernel
theorem dX12_setRoutes_34 : decode cX12_setRoutes 34 = .ok (.goto (-32), 3) := by decide +kernel
theorem dX12_setRoutes_37 : decode cX12_setRoutes 37 = .ok (.iconst 0, 1) := by decide +kernel
theorem dX12_setRoutes_38 : decode cX12_setRoutes 38 = .ok (.istore_n 2, 1) := by decide +kernel
theorem dX12_setRoutes_39 : decode cX12_setRoutes 39 = .ok (.iload_n 2, 1) := by decide +kernel
theorem dX12_setRoutes_40 : decode cX12_setRoutes 40 = .ok (.aload_n 0, 1) := by decide +kernel
theorem dX12_setRoutes_41 : decode cX12_setRoutes 41 = .ok (.getfield 13, 3) := by decide +kernel
theorem dX12_setRoutes_44 : decode cX12_setRoutes 44 = .ok (.if_icmp .ge 139, 3) := by decide +kernel
theorem dX12_setRoutes_47 : decode cX12_setRoutes 47 = .ok (.iconst 0, 1) := by decide +kernel
theorem dX12_setRoutes_48 : decode cX12_setRoutes 48 = .ok (.istore_n 3, 1) := by decide +kernel
theorem dX12_setRoutes_49 : decode cX12_setRoutes 49 = .ok (.iload_n 3, 1) := by decide +kernel
theorem dX12_setRoutes_50 : decode cX12_setRoutes 50 = .ok (.aload_n 0, 1) := by decide +kernel
theorem dX12_setRoutes_51 : decode cX12_setRoutes 51 = .ok (.getfield 115, 3) := by decide +kernel
theorem dX12_setRoutes_54 : decode cX12_setRoutes 54 = .ok (.if_icmp .ge 123, 3) := by decide +kernel
theorem dX12_setRoutes_57 : decode cX12_setRoutes 57 = .ok (.iconst 0, 1) := by decide +kernel
theorem dX12_setRoutes_58 : decode cX12_setRoutes 58 = .ok (.istore 4, 2) := by decide +kernel
theorem dX12_setRoutes_60 : decode cX12_setRoutes 60 = .ok (.iload 4, 2) := by decide +kernel
theorem dX12_setRoutes_62 : decode cX12_setRoutes 62 = .ok (.aload_n 0, 1) := by decide +kernel
theorem dX12_setRoutes_63 : decode cX12_setRoutes 63 = .ok (.getfield 13, 3) := by decide +kernel
theorem dX12_setRoutes_66 : decode cX12_setRoutes 66 = .ok (.if_icmp .ge 105, 3) := by decide +kernel
theorem dX12_setRoutes_69 : decode cX12_setRoutes 69 = .ok (.aload_n 0, 1) := by decide +kernel
theorem dX12_setRoutes_70 : decode cX12_setRoutes 70 = .ok (.getfield 26, 3) := by decide +kernel
theorem dX12_setRoutes_73 : decode cX12_setRoutes 73 = .ok (.iload_n 3, 1) := by decide +kernel
theorem dX12_setRoutes_74 : decode cX12_setRoutes 74 = .ok (.baload, 1) := by decide +kernel
theorem dX12_setRoutes_75 : decode cX12_setRoutes 75 = .ok (.ifCond .ne 96, 3) := by decide +kernel
theorem dX12_setRoutes_78 : decode cX12_setRoutes 78 = .ok (.iload_n 3, 1) := by decide +kernel
theorem dX12_setRoutes_79 : decode cX12_setRoutes 79 = .ok (.iload_n 1, 1) := by decide +kernel
theorem dX12_setRoutes_80 : decode cX12_setRoutes 80 = .ok (.if_icmp .eq 91, 3) := by decide +kernel
theorem dX12_setRoutes_83 : decode cX12_setRoutes 83 = .ok (.aload_n 0, 1) := by decide +kernel
theorem dX12_setRoutes_84 : decode cX12_setRoutes 84 = .ok (.getfield 51, 3) := by decide +kernel
theorem dX12_setRoutes_87 : decode cX12_setRoutes 87 = .ok (.bipush 6, 2) := by decide +kernel
theorem dX12_setRoutes_89 : decode cX12_setRoutes 89 = .ok (.aload_n 0, 1) := by decide +kernel
theorem dX12_setRoutes_90 : decode cX12_setRoutes 90 = .ok (.getfield 23, 3) := by decide +kernel
theorem dX12_setRoutes_93 : decode cX12_setRoutes 93 = .ok (.iload_n 3, 1) := by decide +kernel
theorem dX12_setRoutes_94 : decode cX12_setRoutes 94 = .ok (.iaload, 1) := by decide +kernel
theorem dX12_setRoutes_95 : decode cX12_setRoutes 95 = .ok (.imul, 1) := by decide +kernel
theorem dX12_setRoutes_96 : decode cX12_setRoutes 96 = .ok (.iload 4, 2) := by decide +kernel
theorem dX12_setRoutes_98 : decode cX12_setRoutes 98 = .ok (.iadd, 1) := by decide +kernel
theorem dX12_setRoutes_99 : decode cX12_setRoutes 99 = .ok (.iaload, 1) := by decide +kernel
theorem dX12_setRoutes_100 : decode cX12_setRoutes 100 = .ok (.iconst 1, 1) := by decide +kernel
theorem dX12_setRoutes_101 : decode cX12_setRoutes 101 = .ok (.iadd, 1) := by decide +kernel
theorem dX12_setRoutes_102 : decode cX12_setRoutes 102 = .ok (.istore 5, 2) := by decide +kernel
theorem dX12_setRoutes_104 : decode cX12_setRoutes 104 = .ok (.aload_n 0, 1) := by decide +kernel
theorem dX12_setRoutes_105 : decode cX12_setRoutes 105 = .ok (.getfield 51, 3) := by decide +kernel
theorem dX12_setRoutes_108 : decode cX12_setRoutes 108 = .ok (.bipush 6, 2) := by decide +kernel
theorem dX12_setRoutes_110 : decode cX12_setRoutes 110 = .ok (.aload_n 0, 1) := by decide +kernel
theorem dX12_setRoutes_111 : decode cX12_setRoutes 111 = .ok (.getfield 20, 3) := by decide +kernel
theorem dX12_setRoutes_114 : decode cX12_setRoutes 114 = .ok (.iload_n 3, 1) := by decide +kernel
theorem dX12_setRoutes_115 : decode cX12_setRoutes 115 = .ok (.iaload, 1) := by decide +kernel
theorem dX12_setRoutes_116 : decode cX12_setRoutes 116 = .ok (.imul, 1) := by decide +kernel
theorem dX12_setRoutes_117 : decode cX12_setRoutes 117 = .ok (.iload 4, 2) := by decide +kernel
theorem dX12_setRoutes_119 : decode cX12_setRoutes 119 = .ok (.iadd, 1) := by decide +kernel
theorem dX12_setRoutes_120 : decode cX12_setRoutes 120 = .ok (.iload 5, 2) := by decide +kernel
theorem dX12_setRoutes_122 : decode cX12_setRoutes 122 = .ok (.aload_n 0, 1) := by decide +kernel
theorem dX12_setRoutes_123 : decode cX12_setRoutes 123 = .ok (.getfield 51, 3) := by decide +kernel
theorem dX12_setRoutes_126 : decode cX12_setRoutes 126 = .ok (.bipush 6, 2) := by decide +kernel
theorem dX12_setRoutes_128 : decode cX12_setRoutes 128 = .ok (.aload_n 0, 1) := by decide +kernel
theorem dX12_setRoutes_129 : decode cX12_setRoutes 129 = .ok (.getfield 20, 3) := by decide +kernel
theorem dX12_setRoutes_132 : decode cX12_setRoutes 132 = .ok (.iload_n 3, 1) := by decide +kernel
theorem dX12_setRoutes_133 : decode cX12_setRoutes 133 = .ok (.iaload, 1) := by decide +kernel
theorem dX12_setRoutes_134 : decode cX12_setRoutes 134 = .ok (.imul, 1) := by decide +kernel
theorem dX12_setRoutes_135 : decode cX12_setRoutes 135 = .ok (.iload 4, 2) := by decide +kernel
theorem dX12_setRoutes_137 : decode cX12_setRoutes 137 = .ok (.iadd, 1) := by decide +kernel
theorem dX12_setRoutes_138 : decode cX12_setRoutes 138 = .ok (.iaload, 1) := by decide +kernel
theorem dX12_setRoutes_139 : decode cX12_setRoutes 139 = .ok (.if_icmp .ge 8, 3) := by decide +kernel
theorem dX12_setRoutes_142 : decode cX12_setRoutes 142 = .ok (.iload 5, 2) := by decide +kernel
theorem dX12_setRoutes_144 : decode cX12_setRoutes 144 = .ok (.goto 20, 3) := by decide +kernel
theorem dX12_setRoutes_147 : decode cX12_setRoutes 147 = .ok (.aload_n 0, 1) := by decide +kernel
theorem dX12_setRoutes_148 : decode cX12_setRoutes 148 = .ok (.getfield 51, 3) := by decide +kernel
theorem dX12_setRoutes_151 : decode cX12_setRoutes 151 = .ok (.bipush 6, 2) := by decide +kernel
theorem dX12_setRoutes_153 : decode cX12_setRoutes 153 = .ok (.aload_n 0, 1) := by decide +kernel
theorem dX12_setRoutes_154 : decode cX12_setRoutes 154 = .ok (.getfield 20, 3) := by decide +kernel
theorem dX12_setRoutes_157 : decode cX12_setRoutes 157 = .ok (.iload_n 3, 1) := by decide +kernel
theorem dX12_setRoutes_158 : decode cX12_setRoutes 158 = .ok (.iaload, 1) := by decide +kernel
theorem dX12_setRoutes_159 : decode cX12_setRoutes 159 = .ok (.imul, 1) := by decide +kernel
theorem dX12_setRoutes_160 : decode cX12_setRoutes 160 = .ok (.iload 4, 2) := by decide +kernel
theorem dX12_setRoutes_162 : decode cX12_setRoutes 162 = .ok (.iadd, 1) := by decide +kernel
theorem dX12_setRoutes_163 : decode cX12_setRoutes 163 = .ok (.iaload, 1) := by decide +kernel
theorem dX12_setRoutes_164 : decode cX12_setRoutes 164 = .ok (.iastore, 1) := by decide +kernel
theorem dX12_setRoutes_165 : decode cX12_setRoutes 165 = .ok (.iinc 4 1, 3) := by decide +kernel
theorem dX12_setRoutes_168 : decode cX12_setRoutes 168 = .ok (.goto (-108), 3) := by decide +kernel
theorem dX12_setRoutes_171 : decode cX12_setRoutes 171 = .ok (.iinc 3 1, 3) := by decide +kernel
theorem dX12_setRoutes_174 : decode cX12_setRoutes 174 = .ok (.goto (-125), 3) := by decide +kernel
theorem dX12_setRoutes_177 : decode cX12_setRoutes 177 = .ok (.iinc 2 1, 3) := by decide +kernel
theorem dX12_setRoutes_180 : decode cX12_setRoutes 180 = .ok (.goto (-141), 3) := by decide +kernel
theorem dX12_setRoutes_183 : decode cX12_setRoutes 183 = .ok (.iconst 0, 1) := by decide +kernel
theorem dX12_setRoutes_184 : decode cX12_setRoutes 184 = .ok (.istore_n 2, 1) := by decide +kernel
theorem dX12_setRoutes_185 : decode cX12_setRoutes 185 = .ok (.iload_n 2, 1) := by decide +kernel
theorem dX12_setRoutes_186 : decode cX12_setRoutes 186 = .ok (.aload_n 0, 1) := by decide +kernel
theorem dX12_setRoutes_187 : decode cX12_setRoutes 187 = .ok (.getfield 13, 3) := by decide +kernel
theorem dX12_setRoutes_190 : decode cX12_setRoutes 190 = .ok (.if_icmp .ge 73, 3) := by decide +kernel
theorem dX12_setRoutes_193 : decode cX12_setRoutes 193 = .ok (.iconst 0, 1) := by decide +kernel
theorem dX12_setRoutes_194 : decode cX12_setRoutes 194 = .ok (.istore_n 3, 1) := by decide +kernel
theorem dX12_setRoutes_195 : decode cX12_setRoutes 195 = .ok (.iload_n 3, 1) := by decide +kernel
theorem dX12_setRoutes_196 : decode cX12_setRoutes 196 = .ok (.aload_n 0, 1) := by decide +kernel
theorem dX12_setRoutes_197 : decode cX12_setRoutes 197 = .ok (.getfield 13, 3) := by decide +kernel
theorem dX12_setRoutes_200 : decode cX12_setRoutes 200 = .ok (.if_icmp .ge 57, 3) := by decide +kernel
theorem dX12_setRoutes_203 : decode cX12_setRoutes 203 = .ok (.aload_n 0, 1) := by decide +kernel
theorem dX12_setRoutes_204 : decode cX12_setRoutes 204 = .ok (.getfield 48, 3) := by decide +kernel
theorem dX12_setRoutes_207 : decode cX12_setRoutes 207 = .ok (.aload_n 0, 1) := by decide +kernel
theorem dX12_setRoutes_208 : decode cX12_setRoutes 208 = .ok (.getfield 13, 3) := by decide +kernel
theorem dX12_setRoutes_211 : decode cX12_setRoutes 211 = .ok (.iload_n 2, 1) := by decide +kernel
theorem dX12_setRoutes_212 : decode cX12_setRoutes 212 = .ok (.imul, 1) := by decide +kernel
theorem dX12_setRoutes_213 : decode cX12_setRoutes 213 = .ok (.iload_n 3, 1) := by decide +kernel
theorem dX12_setRoutes_214 : decode cX12_setRoutes 214 = .ok (.iadd, 1) := by decide +kernel
theorem dX12_setRoutes_215 : decode cX12_setRoutes 215 = .ok (.iload_n 2, 1) := by decide +kernel
theorem dX12_setRoutes_216 : decode cX12_setRoutes 216 = .ok (.iload_n 3, 1) := by decide +kernel
theorem dX12_setRoutes_217 : decode cX12_setRoutes 217 = .ok (.if_icmp .eq 19, 3) := by decide +kernel
theorem dX12_setRoutes_220 : decode cX12_setRoutes 220 = .ok (.aload_n 0, 1) := by decide +kernel
theorem dX12_setRoutes_221 : decode cX12_setRoutes 221 = .ok (.getfield 51, 3) := by decide +kernel
theorem dX12_setRoutes_224 : decode cX12_setRoutes 224 = .ok (.bipush 6, 2) := by decide +kernel
theorem dX12_setRoutes_226 : decode cX12_setRoutes 226 = .ok (.iload_n 2, 1) := by decide +kernel
theorem dX12_setRoutes_227 : decode cX12_setRoutes 227 = .ok (.imul, 1) := by decide +kernel
theorem dX12_setRoutes_228 : decode cX12_setRoutes 228 = .ok (.iload_n 3, 1) := by decide +kernel
theorem dX12_setRoutes_229 : decode cX12_setRoutes 229 = .ok (.iadd, 1) := by decide +kernel
theorem dX12_setRoutes_230 : decode cX12_setRoutes 230 = .ok (.iaload, 1) := by decide +kernel
theorem dX12_setRoutes_231 : decode cX12_setRoutes 231 = .ok (.bipush 100, 2) := by decide +kernel
theorem dX12_setRoutes_233 : decode cX12_setRoutes 233 = .ok (.if_icmp .lt 8, 3) := by decide +kernel
theorem dX12_setRoutes_236 : decode cX12_setRoutes 236 = .ok (.bipush (-9), 2) := by decide +kernel
theorem dX12_setRoutes_238 : decode cX12_setRoutes 238 = .ok (.goto 12, 3) := by decide +kernel
theorem dX12_setRoutes_241 : decode cX12_setRoutes 241 = .ok (.aload_n 0, 1) := by decide +kernel
theorem dX12_setRoutes_242 : decode cX12_setRoutes 242 = .ok (.iload_n 2, 1) := by decide +kernel
theorem dX12_setRoutes_243 : decode cX12_setRoutes 243 = .ok (.iload_n 3, 1) := by decide +kernel
theorem dX12_setRoutes_244 : decode cX12_setRoutes 244 = .ok (.iload_n 1, 1) := by decide +kernel
theorem dX12_setRoutes_245 : decode cX12_setRoutes 245 = .ok (.bipush (-9), 2) := by decide +kernel
theorem dX12_setRoutes_247 : decode cX12_setRoutes 247 = .ok (.invokevirtual 164, 3) := by decide +kernel
theorem dX12_setRoutes_250 : decode cX12_setRoutes 250 = .ok (.iastore, 1) := by decide +kernel
theorem dX12_setRoutes_251 : decode cX12_setRoutes 251 = .ok (.iinc 3 1, 3) := by decide +kernel
theorem dX12_setRoutes_254 : decode cX12_setRoutes 254 = .ok (.goto (-59), 3) := by decide +kernel
theorem dX12_setRoutes_257 : decode cX12_setRoutes 257 = .ok (.iinc 2 1, 3) := by decide +kernel
theorem dX12_setRoutes_260 : decode cX12_setRoutes 260 = .ok (.goto (-75), 3) := by decide +kernel
theorem dX12_setRoutes_263 : decode cX12_setRoutes 263 = .ok (.return_, 1) := by decide +kernel
theorem dX12_routeOf_0 : decode cX12_routeOf 0 = .ok (.iconst 0, 1) := by decide +kernel
theorem dX12_routeOf_1 : decode cX12_routeOf 1 = .ok (.istore 5, 2) := by decide +kernel
theorem dX12_routeOf_3 : decode cX12_routeOf 3 = .ok (.iload_n 1, 1) := by decide +kernel
theorem dX12_routeOf_4 : decode cX12_routeOf 4 = .ok (.istore 6, 2) := by decide +kernel
theorem dX12_routeOf_6 : decode cX12_routeOf 6 = .ok (.aload_n 0, 1) := by decide +kernel
theorem dX12_routeOf_7 : decode cX12_routeOf 7 = .ok (.iconst 0, 1) := by decide +kernel
theorem dX12_routeOf_8 : decode cX12_routeOf 8 = .ok (.putfield 168, 3) := by decide +kernel
theorem dX12_routeOf_11 : decode cX12_routeOf 11 = .ok (.aload_n 0, 1) := by decide +kernel
theorem dX12_routeOf_12 : decode cX12_routeOf 12 = .ok (.bipush (-9), 2) := by decide +kernel
theorem dX12_routeOf_14 : decode cX12_routeOf 14 = .ok (.putfield 171, 3) := by decide +kernel
theorem dX12_routeOf_17 : decode cX12_routeOf 17 = .ok (.iload 6, 2) := by decide +kernel
theorem dX12_routeOf_19 : decode cX12_routeOf 19 = .ok (.iload_n 2, 1) := by decide +kernel
theorem dX12_routeOf_20 : decode cX12_routeOf 20 = .ok (.if_icmp .eq 127, 3) := by decide +kernel
theorem dX12_routeOf_23 : decode cX12_routeOf 23 = .ok (.iconst 0, 1) := by decide +kernel
theorem dX12_routeOf_24 : decode cX12_routeOf 24 = .ok (.istore 7, 2) := by decide +kernel
theorem dX12_routeOf_26 : decode cX12_routeOf 26 = .ok (.aload_n 0, 1) := by decide +kernel
theorem dX12_routeOf_27 : decode cX12_routeOf 27 = .ok (.getfield 26, 3) := by decide +kernel
theorem dX12_routeOf_30 : decode cX12_routeOf 30 = .ok (.iload 7, 2) := by decide +kernel
theorem dX12_routeOf_32 : decode cX12_routeOf 32 = .ok (.baload, 1) := by decide +kernel
theorem dX12_routeOf_33 : decode cX12_routeOf 33 = .ok (.ifCond .ne 55, 3) := by decide +kernel
theorem dX12_routeOf_36 : decode cX12_routeOf 36 = .ok (.iload 7, 2) := by decide +kernel
theorem dX12_routeOf_38 : decode cX12_routeOf 38 = .ok (.iload_n 3, 1) := by decide +kernel
theorem dX12_routeOf_39 : decode cX12_routeOf 39 = .ok (.if_icmp .eq 49, 3) := by decide +kernel
theorem dX12_routeOf_42 : decode cX12_routeOf 42 = .ok (.aload_n 0, 1) := by decide +kernel
theorem dX12_routeOf_43 : decode cX12_routeOf 43 = .ok (.getfield 20, 3) := by decide +kernel
theorem dX12_routeOf_46 : decode cX12_routeOf 46 = .ok (.iload 7, 2) := by decide +kernel
theorem dX12_routeOf_48 : decode cX12_routeOf 48 = .ok (.iaload, 1) := by decide +kernel
theorem dX12_routeOf_49 : decode cX12_routeOf 49 = .ok (.iload 6, 2) := by decide +kernel
theorem dX12_routeOf_51 : decode cX12_routeOf 51 = .ok (.if_icmp .ne 37, 3) := by decide +kernel
theorem dX12_routeOf_54 : decode cX12_routeOf 54 = .ok (.aload_n 0, 1) := by decide +kernel
theorem dX12_routeOf_55 : decode cX12_routeOf 55 = .ok (.getfield 51, 3) := by decide +kernel
theorem dX12_routeOf_58 : decode cX12_routeOf 58 = .ok (.bipush 6, 2) := by decide +kernel
theorem dX12_routeOf_60 : decode cX12_routeOf 60 = .ok (.aload_n 0, 1) := by decide +kernel
theorem dX12_routeOf_61 : decode cX12_routeOf 61 = .ok (.getfield 23, 3) := by decide +kernel
theorem dX12_routeOf_64 : decode cX12_routeOf 64 = .ok (.iload 7, 2) := by decide +kernel
theorem dX12_routeOf_66 : decode cX12_routeOf 66 = .ok (.iaload, 1) := by decide +kernel
theorem dX12_routeOf_67 : decode cX12_routeOf 67 = .ok (.imul, 1) := by decide +kernel
theorem dX12_routeOf_68 : decode cX12_routeOf 68 = .ok (.iload_n 2, 1) := by decide +kernel
theorem dX12_routeOf_69 : decode cX12_routeOf 69 = .ok (.iadd, 1) := by decide +kernel
theorem dX12_routeOf_70 : decode cX12_routeOf 70 = .ok (.iaload, 1) := by decide +kernel
theorem dX12_routeOf_71 : decode cX12_routeOf 71 = .ok (.aload_n 0, 1) := by decide +kernel
theorem dX12_routeOf_72 : decode cX12_routeOf 72 = .ok (.getfield 51, 3) := by decide +kernel
theorem dX12_routeOf_75 : decode cX12_routeOf 75 = .ok (.bipush 6, 2) := by decide +kernel
theorem dX12_routeOf_77 : decode cX12_routeOf 77 = .ok (.iload 6, 2) := by decide +kernel
theorem dX12_routeOf_79 : decode cX12_routeOf 79 = .ok (.imul, 1) := by decide +kernel
theorem dX12_routeOf_80 : decode cX12_routeOf 80 = .ok (.iload_n 2, 1) := by decide +kernel
theorem dX12_routeOf_81 : decode cX12_routeOf 81 = .ok (.iadd, 1) := by decide +kernel
theorem dX12_routeOf_82 : decode cX12_routeOf 82 = .ok (.iaload, 1) := by decide +kernel
theorem dX12_routeOf_83 : decode cX12_routeOf 83 = .ok (.iconst 1, 1) := by decide +kernel
theorem dX12_routeOf_84 : decode cX12_routeOf 84 = .ok (.isub, 1) := by decide +kernel
theorem dX12_routeOf_85 : decode cX12_routeOf 85 = .ok (.if_icmp .eq 9, 3) := by decide +kernel
theorem dX12_routeOf_88 : decode cX12_routeOf 88 = .ok (.iinc 7 1, 3) := by decide +kernel
theorem dX12_routeOf_91 : decode cX12_routeOf 91 = .ok (.goto (-65), 3) := by decide +kernel
theorem dX12_routeOf_94 : decode cX12_routeOf 94 = .ok (.aload_n 0, 1) := by decide +kernel
theorem dX12_routeOf_95 : decode cX12_routeOf 95 = .ok (.aload_n 0, 1) := by decide +kernel
theorem dX12_routeOf_96 : decode cX12_routeOf 96 = .ok (.getfield 168, 3) := by decide +kernel
theorem dX12_routeOf_99 : decode cX12_routeOf 99 = .ok (.iload 4, 2) := by decide +kernel
theorem dX12_routeOf_101 : decode cX12_routeOf 101 = .ok (.if_icmp .ne 8, 3) := by decide +kernel
theorem dX12_routeOf_104 : decode cX12_routeOf 104 = .ok (.iload 7, 2) := by decide +kernel
theorem dX12_routeOf_106 : decode cX12_routeOf 106 = .ok (.goto 7, 3) := by decide +kernel
theorem dX12_routeOf_109 : decode cX12_routeOf 109 = .ok (.aload_n 0, 1) := by decide +kernel
theorem dX12_routeOf_110 : decode cX12_routeOf 110 = .ok (.getfield 171, 3) := by decide +kernel
theorem dX12_routeOf_113 : decode cX12_routeOf 113 = .ok (.putfield 171, 3) := by decide +kernel
theorem dX12_routeOf_116 : decode cX12_routeOf 116 = .ok (.iload 5, 2) := by decide +kernel
theorem dX12_routeOf_118 : decode cX12_routeOf 118 = .ok (.iconst 1, 1) := by decide +kernel
theorem dX12_routeOf_119 : decode cX12_routeOf 119 = .ok (.iload 7, 2) := by decide +kernel
theorem dX12_routeOf_121 : decode cX12_routeOf 121 = .ok (.ishl, 1) := by decide +kernel
theorem dX12_routeOf_122 : decode cX12_routeOf 122 = .ok (.ior, 1) := by decide +kernel
theorem dX12_routeOf_123 : decode cX12_routeOf 123 = .ok (.istore 5, 2) := by decide +kernel
theorem dX12_routeOf_125 : decode cX12_routeOf 125 = .ok (.aload_n 0, 1) := by decide +kernel
theorem dX12_routeOf_126 : decode cX12_routeOf 126 = .ok (.getfield 23, 3) := by decide +kernel
theorem dX12_routeOf_129 : decode cX12_routeOf 129 = .ok (.iload 7, 2) := by decide +kernel
theorem dX12_routeOf_131 : decode cX12_routeOf 131 = .ok (.iaload, 1) := by decide +kernel
theorem dX12_routeOf_132 : decode cX12_routeOf 132 = .ok (.istore 6, 2) := by decide +kernel
theorem dX12_routeOf_134 : decode cX12_routeOf 134 = .ok (.aload_n 0, 1) := by decide +kernel
theorem dX12_routeOf_135 : decode cX12_routeOf 135 = .ok (.dup, 1) := by decide +kernel
theorem dX12_routeOf_136 : decode cX12_routeOf 136 = .ok (.getfield 168, 3) := by decide +kernel
theorem dX12_routeOf_139 : decode cX12_routeOf 139 = .ok (.iconst 1, 1) := by decide +kernel
theorem dX12_routeOf_140 : decode cX12_routeOf 140 = .ok (.iadd, 1) := by decide +kernel
theorem dX12_routeOf_141 : decode cX12_routeOf 141 = .ok (.putfield 168, 3) := by decide +kernel
theorem dX12_routeOf_144 : decode cX12_routeOf 144 = .ok (.goto (-127), 3) := by decide +kernel
theorem dX12_routeOf_147 : decode cX12_routeOf 147 = .ok (.iload 5, 2) := by decide +kernel
theorem dX12_routeOf_149 : decode cX12_routeOf 149 = .ok (.ireturn, 1) := by decide +kernel
theorem dX12_isPair_0 : decode cX12_isPair 0 = .ok (.aload_n 0, 1) := by decide +kernel
theorem dX12_isPair_1 : decode cX12_isPair 1 = .ok (.iload_n 1, 1) := by decide +kernel
theorem dX12_isPair_2 : decode cX12_isPair 2 = .ok (.invokevirtual 126, 3) := by decide +kernel
theorem dX12_isPair_5 : decode cX12_isPair 5 = .ok (.ifCond .eq 20, 3) := by decide +kernel
theorem dX12_isPair_8 : decode cX12_isPair 8 = .ok (.aload_n 0, 1) := by decide +kernel
theorem dX12_isPair_9 : decode cX12_isPair 9 = .ok (.iload_n 2, 1) := by decide +kernel
theorem dX12_isPair_10 : decode cX12_isPair 10 = .ok (.invokevirtual 126, 3) := by decide +kernel
theorem dX12_isPair_13 : decode cX12_isPair 13 = .ok (.ifCond .eq 12, 3) := by decide +kernel
theorem dX12_isPair_16 : decode cX12_isPair 16 = .ok (.iload_n 1, 1) := by decide +kernel
theorem dX12_isPair_17 : decode cX12_isPair 17 = .ok (.iload_n 2, 1) := by decide +kernel
theorem dX12_isPair_18 : decode cX12_isPair 18 = .ok (.if_icmp .eq 7, 3) := by decide +kernel
theorem dX12_isPair_21 : decode cX12_isPair 21 = .ok (.iconst 1, 1) := by decide +kernel
theorem dX12_isPair_22 : decode cX12_isPair 22 = .ok (.goto 4, 3) := by decide +kernel
theorem dX12_isPair_25 : decode cX12_isPair 25 = .ok (.iconst 0, 1) := by decide +kernel
theorem dX12_isPair_26 : decode cX12_isPair 26 = .ok (.ireturn, 1) := by decide +kernel
theorem dX12_route_0 : decode cX12_route 0 = .ok (.aload_n 0, 1) := by decide +kernel
theorem dX12_route_1 : decode cX12_route 1 = .ok (.iload_n 1, 1) := by decide +kernel
theorem dX12_route_2 : decode cX12_route 2 = .ok (.iload_n 2, 1) := by decide +kernel
theorem dX12_route_3 : decode cX12_route 3 = .ok (.invokevirtual 174, 3) := by decide +kernel
theorem dX12_route_6 : decode cX12_route 6 = .ok (.ifCond .ne 5, 3) := by decide +kernel
theorem dX12_route_9 : decode cX12_route 9 = .ok (.iconst (-1), 1) := by decide +kernel
theorem dX12_route_10 : decode cX12_route 10 = .ok (.ireturn, 1) := by decide +kernel
theorem dX12_route_11 : decode cX12_route 11 = .ok (.aload_n 0, 1) := by decide +kernel
theorem dX12_route_12 : decode cX12_route 12 = .ok (.bipush (-9), 2) := by decide +kernel
theorem dX12_route_14 : decode cX12_route 14 = .ok (.invokevirtual 148, 3) := by decide +kernel
theorem dX12_route_17 : decode cX12_route 17 = .ok (.aload_n 0, 1) := by decide +kernel
theorem dX12_route_18 : decode cX12_route 18 = .ok (.getfield 48, 3) := by decide +kernel
theorem dX12_route_21 : decode cX12_route 21 = .ok (.aload_n 0, 1) := by decide +kernel
theorem dX12_route_22 : decode cX12_route 22 = .ok (.getfield 13, 3) := by decide +kernel
theorem dX12_route_25 : decode cX12_route 25 = .ok (.iload_n 1, 1) := by decide +kernel
theorem dX12_route_26 : decode cX12_route 26 = .ok (.imul, 1) := by decide +kernel
theorem dX12_route_27 : decode cX12_route 27 = .ok (.iload_n 2, 1) := by decide +kernel
theorem dX12_route_28 : decode cX12_route 28 = .ok (.iadd, 1) := by decide +kernel
theorem dX12_route_29 : decode cX12_route 29 = .ok (.iaload, 1) := by decide +kernel
theorem dX12_route_30 : decode cX12_route 30 = .ok (.ifCond .ge 6, 3) := by decide +kernel
theorem dX12_route_33 : decode cX12_route 33 = .ok (.bipush (-9), 2) := by decide +kernel
theorem dX12_route_35 : decode cX12_route 35 = .ok (.ireturn, 1) := by decide +kernel
theorem dX12_route_36 : decode cX12_route 36 = .ok (.aload_n 0, 1) := by decide +kernel
theorem dX12_route_37 : decode cX12_route 37 = .ok (.iload_n 1, 1) := by decide +kernel
theorem dX12_route_38 : decode cX12_route 38 = .ok (.iload_n 2, 1) := by decide +kernel
theorem dX12_route_39 : decode cX12_route 39 = .ok (.bipush (-9), 2) := by decide +kernel
theorem dX12_route_41 : decode cX12_route 41 = .ok (.iload_n 3, 1) := by decide +kernel
theorem dX12_route_42 : decode cX12_route 42 = .ok (.invokevirtual 164, 3) := by decide +kernel
theorem dX12_route_45 : decode cX12_route 45 = .ok (.istore 4, 2) := by decide +kernel
theorem dX12_route_47 : decode cX12_route 47 = .ok (.iload_n 3, 1) := by decide +kernel
theorem dX12_route_48 : decode cX12_route 48 = .ok (.iconst (-1), 1) := by decide +kernel
theorem dX12_route_49 : decode cX12_route 49 = .ok (.if_icmp .ne 10, 3) := by decide +kernel
theorem dX12_route_52 : decode cX12_route 52 = .ok (.aload_n 0, 1) := by decide +kernel
theorem dX12_route_53 : decode cX12_route 53 = .ok (.getfield 168, 3) := by decide +kernel
theorem dX12_route_56 : decode cX12_route 56 = .ok (.goto 7, 3) := by decide +kernel
theorem dX12_route_59 : decode cX12_route 59 = .ok (.aload_n 0, 1) := by decide +kernel
theorem dX12_route_60 : decode cX12_route 60 = .ok (.getfield 171, 3) := by decide +kernel
theorem dX12_route_63 : decode cX12_route 63 = .ok (.ireturn, 1) := by decide +kernel
theorem dX12_carried_0 : decode cX12_carried 0 = .ok (.aload_n 0, 1) := by decide +kernel
theorem dX12_carried_1 : decode cX12_carried 1 = .ok (.iload_n 1, 1) := by decide +kernel
theorem dX12_carried_2 : decode cX12_carried 2 = .ok (.invokevirtual 130, 3) := by decide +kernel
theorem dX12_carried_5 : decode cX12_carried 5 = .ok (.ifCond .eq 20, 3) := by decide +kernel
theorem dX12_carried_8 : decode cX12_carried 8 = .ok (.iload_n 2, 1) := by decide +kernel
theorem dX12_carried_9 : decode cX12_carried 9 = .ok (.bipush (-9), 2) := by decide +kernel
theorem dX12_carried_11 : decode cX12_carried 11 = .ok (.if_icmp .eq 16, 3) := by decide +kernel
theorem dX12_carried_14 : decode cX12_carried 14 = .ok (.iload_n 2, 1) := by decide +kernel
theorem dX12_carried_15 : decode cX12_carried 15 = .ok (.iconst 0, 1) := by decide +kernel
theorem dX12_carried_16 : decode cX12_carried 16 = .ok (.sipush 200, 3) := by decide +kernel
theorem dX12_carried_19 : decode cX12_carried 19 = .ok (.invokestatic 122, 3) := by decide +kernel
theorem dX12_carried_22 : decode cX12_carried 22 = .ok (.ifCond .ne 5, 3) := by decide +kernel
theorem dX12_carried_25 : decode cX12_carried 25 = .ok (.iconst (-1), 1) := by decide +kernel
theorem dX12_carried_26 : decode cX12_carried 26 = .ok (.ireturn, 1) := by decide +kernel
theorem dX12_carried_27 : decode cX12_carried 27 = .ok (.aload_n 0, 1) := by decide +kernel
theorem dX12_carried_28 : decode cX12_carried 28 = .ok (.getfield 17, 3) := by decide +kernel
theorem dX12_carried_31 : decode cX12_carried 31 = .ok (.iload_n 1, 1) := by decide +kernel
theorem dX12_carried_32 : decode cX12_carried 32 = .ok (.iaload, 1) := by decide +kernel
theorem dX12_carried_33 : decode cX12_carried 33 = .ok (.iconst 3, 1) := by decide +kernel
theorem dX12_carried_34 : decode cX12_carried 34 = .ok (.if_icmp .ne 9, 3) := by decide +kernel
theorem dX12_carried_37 : decode cX12_carried 37 = .ok (.aload_n 0, 1) := by decide +kernel
theorem dX12_carried_38 : decode cX12_carried 38 = .ok (.iconst 3, 1) := by decide +kernel
theorem dX12_carried_39 : decode cX12_carried 39 = .ok (.invokevirtual 138, 3) := by decide +kernel
theorem dX12_carried_42 : decode cX12_carried 42 = .ok (.ireturn, 1) := by decide +kernel
theorem dX12_carried_43 : decode cX12_carried 43 = .ok (.aload_n 0, 1) := by decide +kernel
theorem dX12_carried_44 : decode cX12_carried 44 = .ok (.getfield 33, 3) := by decide +kernel
theorem dX12_carried_47 : decode cX12_carried 47 = .ok (.iload_n 1, 1) := by decide +kernel
theorem dX12_carried_48 : decode cX12_carried 48 = .ok (.iaload, 1) := by decide +kernel
theorem dX12_carried_49 : decode cX12_carried 49 = .ok (.istore_n 3, 1) := by decide +kernel
theorem dX12_carried_50 : decode cX12_carried 50 = .ok (.aload_n 0, 1) := by decide +kernel
theorem dX12_carried_51 : decode cX12_carried 51 = .ok (.getfield 33, 3) := by decide +kernel
theorem dX12_carried_54 : decode cX12_carried 54 = .ok (.iload_n 1, 1) := by decide +kernel
theorem dX12_carried_55 : decode cX12_carried 55 = .ok (.iload_n 2, 1) := by decide +kernel
theorem dX12_carried_56 : decode cX12_carried 56 = .ok (.iastore, 1) := by decide +kernel
theorem dX12_carried_57 : decode cX12_carried 57 = .ok (.iload_n 3, 1) := by decide +kernel
theorem dX12_carried_58 : decode cX12_carried 58 = .ok (.ireturn, 1) := by decide +kernel
theorem dX12_meter_0 : decode cX12_meter 0 = .ok (.aload_n 0, 1) := by decide +kernel
theorem dX12_meter_1 : decode cX12_meter 1 = .ok (.iload_n 1, 1) := by decide +kernel
theorem dX12_meter_2 : decode cX12_meter 2 = .ok (.iload_n 2, 1) := by decide +kernel
theorem dX12_meter_3 : decode cX12_meter 3 = .ok (.invokevirtual 174, 3) := by decide +kernel
theorem dX12_meter_6 : decode cX12_meter 6 = .ok (.ifCond .eq 20, 3) := by decide +kernel
theorem dX12_meter_9 : decode cX12_meter 9 = .ok (.iload_n 3, 1) := by decide +kernel
theorem dX12_meter_10 : decode cX12_meter 10 = .ok (.bipush (-9), 2) := by decide +kernel
theorem dX12_meter_12 : decode cX12_meter 12 = .ok (.if_icmp .eq 16, 3) := by decide +kernel
theorem dX12_meter_15 : decode cX12_meter 15 = .ok (.iload_n 3, 1) := by decide +kernel
theorem dX12_meter_16 : decode cX12_meter 16 = .ok (.iconst 0, 1) := by decide +kernel
theorem dX12_meter_17 : decode cX12_meter 17 = .ok (.sipush 200, 3) := by decide +kernel
theorem dX12_meter_20 : decode cX12_meter 20 = .ok (.invokestatic 122, 3) := by decide +kernel
theorem dX12_meter_23 : decode cX12_meter 23 = .ok (.ifCond .ne 5, 3) := by decide +kernel
theorem dX12_meter_26 : decode cX12_meter 26 = .ok (.iconst (-1), 1) := by decide +kernel
theorem dX12_meter_27 : decode cX12_meter 27 = .ok (.ireturn, 1) := by decide +kernel
theorem dX12_meter_28 : decode cX12_meter 28 = .ok (.aload_n 0, 1) := by decide +kernel
theorem dX12_meter_29 : decode cX12_meter 29 = .ok (.getfield 39, 3) := by decide +kernel
theorem dX12_meter_32 : decode cX12_meter 32 = .ok (.aload_n 0, 1) := by decide +kernel
theorem dX12_meter_33 : decode cX12_meter 33 = .ok (.getfield 13, 3) := by decide +kernel
theorem dX12_meter_36 : decode cX12_meter 36 = .ok (.iload_n 1, 1) := by decide +kernel
theorem dX12_meter_37 : decode cX12_meter 37 = .ok (.imul, 1) := by decide +kernel
theorem dX12_meter_38 : decode cX12_meter 38 = .ok (.iload_n 2, 1) := by decide +kernel
theorem dX12_meter_39 : decode cX12_meter 39 = .ok (.iadd, 1) := by decide +kernel
theorem dX12_meter_40 : decode cX12_meter 40 = .ok (.iaload, 1) := by decide +kernel
theorem dX12_meter_41 : decode cX12_meter 41 = .ok (.istore 4, 2) := by decide +kernel
theorem dX12_meter_43 : decode cX12_meter 43 = .ok (.aload_n 0, 1) := by decide +kernel
theorem dX12_meter_44 : decode cX12_meter 44 = .ok (.getfield 39, 3) := by decide +kernel
theorem dX12_meter_47 : decode cX12_meter 47 = .ok (.aload_n 0, 1) := by decide +kernel
theorem dX12_meter_48 : decode cX12_meter 48 = .ok (.getfield 13, 3) := by decide +kernel
theorem dX12_meter_51 : decode cX12_meter 51 = .ok (.iload_n 1, 1) := by decide +kernel
theorem dX12_meter_52 : decode cX12_meter 52 = .ok (.imul, 1) := by decide +kernel
theorem dX12_meter_53 : decode cX12_meter 53 = .ok (.iload_n 2, 1) := by decide +kernel
theorem dX12_meter_54 : decode cX12_meter 54 = .ok (.iadd, 1) := by decide +kernel
theorem dX12_meter_55 : decode cX12_meter 55 = .ok (.iload_n 3, 1) := by decide +kernel
theorem dX12_meter_56 : decode cX12_meter 56 = .ok (.iastore, 1) := by decide +kernel
theorem dX12_meter_57 : decode cX12_meter 57 = .ok (.iload 4, 2) := by decide +kernel
theorem dX12_meter_59 : decode cX12_meter 59 = .ok (.ireturn, 1) := by decide +kernel
end
section
/-! decode rows -/
theorem dX12_base_0 : decode cX12_base 0 = .ok (.aload_n 0, 1) := by decide +kernel
theorem dX12_base_1 : decode cX12_base 1 = .ok (.iload_n 1, 1) := by decide +kernel
theorem dX12_base_2 : decode cX12_base 2 = .ok (.iload_n 2, 1) := by decide +kernel
theorem dX12_base_3 : decode cX12_base 3 = .ok (.invokevirtual 174, 3) := by decide +kernel
theorem dX12_base_6 : decode cX12_base 6 = .ok (.ifCond .eq 14, 3) := by decide +kernel
theorem dX12_base_9 : decode cX12_base 9 = .ok (.iload_n 3, 1) := by decide +kernel
theorem dX12_base_10 : decode cX12_base 10 = .ok (.iconst 0, 1) := by decide +kernel
theorem dX12_base_11 : decode cX12_base 11 = .ok (.sipush 200, 3) := by decide +kernel
theorem dX12_base_14 : decode cX12_base 14 = .ok (.invokestatic 122, 3) := by decide +kernel
theorem dX12_base_17 : decode cX12_base 17 = .ok (.ifCond .ne 5, 3) := by decide +kernel
theorem dX12_base_20 : decode cX12_base 20 = .ok (.iconst (-1), 1) := by decide +kernel
theorem dX12_base_21 : decode cX12_base 21 = .ok (.ireturn, 1) := by decide +kernel
theorem dX12_base_22 : decode cX12_base 22 = .ok (.aload_n 0, 1) := by decide +kernel
theorem dX12_base_23 : decode cX12_base 23 = .ok (.getfield 42, 3) := by decide +kernel
theorem dX12_base_26 : decode cX12_base 26 = .ok (.aload_n 0, 1) := by decide +kernel
theorem dX12_base_27 : decode cX12_base 27 = .ok (.getfield 13, 3) := by decide +kernel
theorem dX12_base_30 : decode cX12_base 30 = .ok (.iload_n 1, 1) := by decide +kernel
theorem dX12_base_31 : decode cX12_base 31 = .ok (.imul, 1) := by decide +kernel
theorem dX12_base_32 : decode cX12_base 32 = .ok (.iload_n 2, 1) := by decide +kernel
theorem dX12_base_33 : decode cX12_base 33 = .ok (.iadd, 1) := by decide +kernel
theorem dX12_base_34 : decode cX12_base 34 = .ok (.iaload, 1) := by decide +kernel
theorem dX12_base_35 : decode cX12_base 35 = .ok (.istore 4, 2) := by decide +kernel
theorem dX12_base_37 : decode cX12_base 37 = .ok (.aload_n 0, 1) := by decide +kernel
theorem dX12_base_38 : decode cX12_base 38 = .ok (.getfield 42, 3) := by decide +kernel
theorem dX12_base_41 : decode cX12_base 41 = .ok (.aload_n 0, 1) := by decide +kernel
theorem dX12_base_42 : decode cX12_base 42 = .ok (.getfield 13, 3) := by decide +kernel
theorem dX12_base_45 : decode cX12_base 45 = .ok (.iload_n 1, 1) := by decide +kernel
theorem dX12_base_46 : decode cX12_base 46 = .ok (.imul, 1) := by decide +kernel
theorem dX12_base_47 : decode cX12_base 47 = .ok (.iload_n 2, 1) := by decide +kernel
theorem dX12_base_48 : decode cX12_base 48 = .ok (.iadd, 1) := by decide +kernel
theorem dX12_base_49 : decode cX12_base 49 = .ok (.iload_n 3, 1) := by decide +kernel
theorem dX12_base_50 : decode cX12_base 50 = .ok (.iastore, 1) := by decide +kernel
theorem dX12_base_51 : decode cX12_base 51 = .ok (.iload 4, 2) := by decide +kernel
theorem dX12_base_53 : decode cX12_base 53 = .ok (.ireturn, 1) := by decide +kernel
theorem dX12_guess_0 : decode cX12_guess 0 = .ok (.aload_n 0, 1) := by decide +kernel
theorem dX12_guess_1 : decode cX12_guess 1 = .ok (.iload_n 1, 1) := by decide +kernel
theorem dX12_guess_2 : decode cX12_guess 2 = .ok (.iload_n 2, 1) := by decide +kernel
theorem dX12_guess_3 : decode cX12_guess 3 = .ok (.invokevirtual 174, 3) := by decide +kernel
theorem dX12_guess_6 : decode cX12_guess 6 = .ok (.ifCond .ne 5, 3) := by decide +kernel
theorem dX12_guess_9 : decode cX12_guess 9 = .ok (.iconst (-1), 1) := by decide +kernel
theorem dX12_guess_10 : decode cX12_guess 10 = .ok (.ireturn, 1) := by decide +kernel
theorem dX12_guess_11 : decode cX12_guess 11 = .ok (.iconst 0, 1) := by decide +kernel
theorem dX12_guess_12 : decode cX12_guess 12 = .ok (.istore_n 3, 1) := by decide +kernel
theorem dX12_guess_13 : decode cX12_guess 13 = .ok (.iconst 0, 1) := by decide +kernel
theorem dX12_guess_14 : decode cX12_guess 14 = .ok (.istore 4, 2) := by decide +kernel
theorem dX12_guess_16 : decode cX12_guess 16 = .ok (.iconst 0, 1) := by decide +kernel
theorem dX12_guess_17 : decode cX12_guess 17 = .ok (.istore 5, 2) := by decide +kernel
theorem dX12_guess_19 : decode cX12_guess 19 = .ok (.iconst 0, 1) := by decide +kernel
theorem dX12_guess_20 : decode cX12_guess 20 = .ok (.istore 6, 2) := by decide +kernel
theorem dX12_guess_22 : decode cX12_guess 22 = .ok (.iload 6, 2) := by decide +kernel
theorem dX12_guess_24 : decode cX12_guess 24 = .ok (.aload_n 0, 1) := by decide +kernel
theorem dX12_guess_25 : decode cX12_guess 25 = .ok (.getfield 115, 3) := by decide +kernel
theorem dX12_guess_28 : decode cX12_guess 28 = .ok (.if_icmp .ge 83, 3) := by decide +kernel
theorem dX12_guess_31 : decode cX12_guess 31 = .ok (.aload_n 0, 1) := by decide +kernel
theorem dX12_guess_32 : decode cX12_guess 32 = .ok (.getfield 33, 3) := by decide +kernel
theorem dX12_guess_35 : decode cX12_guess 35 = .ok (.iload 6, 2) := by decide +kernel
theorem dX12_guess_37 : decode cX12_guess 37 = .ok (.iaload, 1) := by decide +kernel
theorem dX12_guess_38 : decode cX12_guess 38 = .ok (.bipush (-9), 2) := by decide +kernel
theorem dX12_guess_40 : decode cX12_guess 40 = .ok (.if_icmp .ne 7, 3) := by decide +kernel
theorem dX12_guess_43 : decode cX12_guess 43 = .ok (.iconst 0, 1) := by decide +kernel
theorem dX12_guess_44 : decode cX12_guess 44 = .ok (.goto 10, 3) := by decide +kernel
theorem dX12_guess_47 : decode cX12_guess 47 = .ok (.aload_n 0, 1) := by decide +kernel
theorem dX12_guess_48 : decode cX12_guess 48 = .ok (.getfield 33, 3) := by decide +kernel
theorem dX12_guess_51 : decode cX12_guess 51 = .ok (.iload 6, 2) := by decide +kernel
theorem dX12_guess_53 : decode cX12_guess 53 = .ok (.iaload, 1) := by decide +kernel
theorem dX12_guess_54 : decode cX12_guess 54 = .ok (.istore 7, 2) := by decide +kernel
theorem dX12_guess_56 : decode cX12_guess 56 = .ok (.iload_n 3, 1) := by decide +kernel
theorem dX12_guess_57 : decode cX12_guess 57 = .ok (.aload_n 0, 1) := by decide +kernel
theorem dX12_guess_58 : decode cX12_guess 58 = .ok (.getfield 20, 3) := by decide +kernel
theorem dX12_guess_61 : decode cX12_guess 61 = .ok (.iload 6, 2) := by decide +kernel
theorem dX12_guess_63 : decode cX12_guess 63 = .ok (.iaload, 1) := by decide +kernel
theorem dX12_guess_64 : decode cX12_guess 64 = .ok (.iload_n 1, 1) := by decide +kernel
theorem dX12_guess_65 : decode cX12_guess 65 = .ok (.if_icmp .ne 8, 3) := by decide +kernel
theorem dX12_guess_68 : decode cX12_guess 68 = .ok (.iload 7, 2) := by decide +kernel
theorem dX12_guess_70 : decode cX12_guess 70 = .ok (.goto 4, 3) := by decide +kernel
theorem dX12_guess_73 : decode cX12_guess 73 = .ok (.iconst 0, 1) := by decide +kernel
theorem dX12_guess_74 : decode cX12_guess 74 = .ok (.iadd, 1) := by decide +kernel
theorem dX12_guess_75 : decode cX12_guess 75 = .ok (.istore_n 3, 1) := by decide +kernel
theorem dX12_guess_76 : decode cX12_guess 76 = .ok (.iload 4, 2) := by decide +kernel
theorem dX12_guess_78 : decode cX12_guess 78 = .ok (.aload_n 0, 1) := by decide +kernel
theorem dX12_guess_79 : decode cX12_guess 79 = .ok (.getfield 23, 3) := by decide +kernel
theorem dX12_guess_82 : decode cX12_guess 82 = .ok (.iload 6, 2) := by decide +kernel
theorem dX12_guess_84 : decode cX12_guess 84 = .ok (.iaload, 1) := by decide +kernel
theorem dX12_guess_85 : decode cX12_guess 85 = .ok (.iload_n 2, 1) := by decide +kernel
theorem dX12_guess_86 : decode cX12_guess 86 = .ok (.if_icmp .ne 8, 3) := by decide +kernel
theorem dX12_guess_89 : decode cX12_guess 89 = .ok (.iload 7, 2) := by decide +kernel
theorem dX12_guess_91 : decode cX12_guess 91 = .ok (.goto 4, 3) := by decide +kernel
theorem dX12_guess_94 : decode cX12_guess 94 = .ok (.iconst 0, 1) := by decide +kernel
theorem dX12_guess_95 : decode cX12_guess 95 = .ok (.iadd, 1) := by decide +kernel
theorem dX12_guess_96 : decode cX12_guess 96 = .ok (.istore 4, 2) := by decide +kernel
theorem dX12_guess_98 : decode cX12_guess 98 = .ok (.iload 5, 2) := by decide +kernel
theorem dX12_guess_100 : decode cX12_guess 100 = .ok (.iload 7, 2) := by decide +kernel
theorem dX12_guess_102 : decode cX12_guess 102 = .ok (.iadd, 1) := by decide +kernel
theorem dX12_guess_103 : decode cX12_guess 103 = .ok (.istore 5, 2) := by decide +kernel
theorem dX12_guess_105 : decode cX12_guess 105 = .ok (.iinc 6 1, 3) := by decide +kernel
theorem dX12_guess_108 : decode cX12_guess 108 = .ok (.goto (-86), 3) := by decide +kernel
theorem dX12_guess_111 : decode cX12_guess 111 = .ok (.iload 5, 2) := by decide +kernel
theorem dX12_guess_113 : decode cX12_guess 113 = .ok (.ifCond .ne 11, 3) := by decide +kernel
theorem dX12_guess_116 : decode cX12_guess 116 = .ok (.aload_n 0, 1) := by decide +kernel
theorem dX12_guess_117 : decode cX12_guess 117 = .ok (.iconst 4, 1) := by decide +kernel
theorem dX12_guess_118 : decode cX12_guess 118 = .ok (.invokevirtual 138, 3) := by decide +kernel
theorem dX12_guess_121 : decode cX12_guess 121 = .ok (.goto 10, 3) := by decide +kernel
theorem dX12_guess_124 : decode cX12_guess 124 = .ok (.iload_n 3, 1) := by decide +kernel
theorem dX12_guess_125 : decode cX12_guess 125 = .ok (.iload 4, 2) := by decide +kernel
theorem dX12_guess_127 : decode cX12_guess 127 = .ok (.imul, 1) := by decide +kernel
theorem dX12_guess_128 : decode cX12_guess 128 = .ok (.iload 5, 2) := by decide +kernel
theorem dX12_guess_130 : decode cX12_guess 130 = .ok (.idiv, 1) := by decide +kernel
theorem dX12_guess_131 : decode cX12_guess 131 = .ok (.ireturn, 1) := by decide +kernel
theorem dX12_setSeeking_0 : decode cX12_setSeeking 0 = .ok (.aload_n 0, 1) := by decide +kernel
theorem dX12_setSeeking_1 : decode cX12_setSeeking 1 = .ok (.bipush (-9), 2) := by decide +kernel
theorem dX12_setSeeking_3 : decode cX12_setSeeking 3 = .ok (.invokevirtual 148, 3) := by decide +kernel
theorem dX12_setSeeking_6 : decode cX12_setSeeking 6 = .ok (.iconst 0, 1) := by decide +kernel
theorem dX12_setSeeking_7 : decode cX12_setSeeking 7 = .ok (.istore_n 1, 1) := by decide +kernel
theorem dX12_setSeeking_8 : decode cX12_setSeeking 8 = .ok (.iconst 0, 1) := by decide +kernel
theorem dX12_setSeeking_9 : decode cX12_setSeeking 9 = .ok (.istore_n 2, 1) := by decide +kernel
theorem dX12_setSeeking_10 : decode cX12_setSeeking 10 = .ok (.iload_n 2, 1) := by decide +kernel
theorem dX12_setSeeking_11 : decode cX12_setSeeking 11 = .ok (.aload_n 0, 1) := by decide +kernel
theorem dX12_setSeeking_12 : decode cX12_setSeeking 12 = .ok (.getfield 115, 3) := by decide +kernel
theorem dX12_setSeeking_15 : decode cX12_setSeeking 15 = .ok (.if_icmp .ge 30, 3) := by decide +kernel
theorem dX12_setSeeking_18 : decode cX12_setSeeking 18 = .ok (.iload_n 1, 1) := by decide +kernel
theorem dX12_setSeeking_19 : decode cX12_setSeeking 19 = .ok (.aload_n 0, 1) := by decide +kernel
theorem dX12_setSeeking_20 : decode cX12_setSeeking 20 = .ok (.getfield 33, 3) := by decide +kernel
theorem dX12_setSeeking_23 : decode cX12_setSeeking 23 = .ok (.iload_n 2, 1) := by decide +kernel
theorem dX12_setSeeking_24 : decode cX12_setSeeking 24 = .ok (.iaload, 1) := by decide +kernel
theorem dX12_setSeeking_25 : decode cX12_setSeeking 25 = .ok (.bipush (-9), 2) := by decide +kernel
theorem dX12_setSeeking_27 : decode cX12_setSeeking 27 = .ok (.if_icmp .eq 9, 3) := by decide +kernel
theorem dX12_setSeeking_30 : decode cX12_setSeeking 30 = .ok (.iconst 1, 1) := by decide +kernel
theorem dX12_setSeeking_31 : decode cX12_setSeeking 31 = .ok (.iload_n 2, 1) := by decide +kernel
theorem dX12_setSeeking_32 : decode cX12_setSeeking 32 = .ok (.ishl, 1) := by decide +kernel
theorem dX12_setSeeking_33 : decode cX12_setSeeking 33 = .ok (.goto 4, 3) := by decide +kernel
theorem dX12_setSeeking_36 : decode cX12_setSeeking 36 = .ok (.iconst 0, 1) := by decide +kernel
theorem dX12_setSeeking_37 : decode cX12_setSeeking 37 = .ok (.ior, 1) := by decide +kernel
theorem dX12_setSeeking_38 : decode cX12_setSeeking 38 = .ok (.istore_n 1, 1) := by decide +kernel
theorem dX12_setSeeking_39 : decode cX12_setSeeking 39 = .ok (.iinc 2 1, 3) := by decide +kernel
theorem dX12_setSeeking_42 : decode cX12_setSeeking 42 = .ok (.goto (-32), 3) := by decide +kernel
theorem dX12_setSeeking_45 : decode cX12_setSeeking 45 = .ok (.aload_n 0, 1) := by decide +kernel
theorem dX12_setSeeking_46 : decode cX12_setSeeking 46 = .ok (.iconst 0, 1) := by decide +kernel
theorem dX12_setSeeking_47 : decode cX12_setSeeking 47 = .ok (.putfield 178, 3) := by decide +kernel
theorem dX12_setSeeking_50 : decode cX12_setSeeking 50 = .ok (.iconst 0, 1) := by decide +kernel
theorem dX12_setSeeking_51 : decode cX12_setSeeking 51 = .ok (.istore_n 2, 1) := by decide +kernel
theorem dX12_setSeeking_52 : decode cX12_setSeeking 52 = .ok (.iload_n 2, 1) := by decide +kernel
theorem dX12_setSeeking_53 : decode cX12_setSeeking 53 = .ok (.aload_n 0, 1) := by decide +kernel
theorem dX12_setSeeking_54 : decode cX12_setSeeking 54 = .ok (.getfield 13, 3) := by decide +kernel
theorem dX12_setSeeking_57 : decode cX12_setSeeking 57 = .ok (.aload_n 0, 1) := by decide +kernel
theorem dX12_setSeeking_58 : decode cX12_setSeeking 58 = .ok (.getfield 13, 3) := by decide +kernel
theorem dX12_setSeeking_61 : decode cX12_setSeeking 61 = .ok (.imul, 1) := by decide +kernel
theorem dX12_setSeeking_62 : decode cX12_setSeeking 62 = .ok (.if_icmp .ge 101, 3) := by decide +kernel
theorem dX12_setSeeking_65 : decode cX12_setSeeking 65 = .ok (.aload_n 0, 1) := by decide +kernel
theorem dX12_setSeeking_66 : decode cX12_setSeeking 66 = .ok (.getfield 48, 3) := by decide +kernel
theorem dX12_setSeeking_69 : decode cX12_setSeeking 69 = .ok (.iload_n 2, 1) := by decide +kernel
theorem dX12_setSeeking_70 : decode cX12_setSeeking 70 = .ok (.iaload, 1) := by decide +kernel
theorem dX12_setSeeking_71 : decode cX12_setSeeking 71 = .ok (.ifCond .lt 62, 3) := by decide +kernel
theorem dX12_setSeeking_74 : decode cX12_setSeeking 74 = .ok (.aload_n 0, 1) := by decide +kernel
theorem dX12_setSeeking_75 : decode cX12_setSeeking 75 = .ok (.getfield 39, 3) := by decide +kernel
theorem dX12_setSeeking_78 : decode cX12_setSeeking 78 = .ok (.iload_n 2, 1) := by decide +kernel
theorem dX12_setSeeking_79 : decode cX12_setSeeking 79 = .ok (.iaload, 1) := by decide +kernel
theorem dX12_setSeeking_80 : decode cX12_setSeeking 80 = .ok (.bipush (-9), 2) := by decide +kernel
theorem dX12_setSeeking_82 : decode cX12_setSeeking 82 = .ok (.if_icmp .ne 14, 3) := by decide +kernel
theorem dX12_setSeeking_85 : decode cX12_setSeeking 85 = .ok (.aload_n 0, 1) := by decide +kernel
theorem dX12_setSeeking_86 : decode cX12_setSeeking 86 = .ok (.getfield 48, 3) := by decide +kernel
theorem dX12_setSeeking_89 : decode cX12_setSeeking 89 = .ok (.iload_n 2, 1) := by decide +kernel
theorem dX12_setSeeking_90 : decode cX12_setSeeking 90 = .ok (.iaload, 1) := by decide +kernel
theorem dX12_setSeeking_91 : decode cX12_setSeeking 91 = .ok (.iload_n 1, 1) := by decide +kernel
theorem dX12_setSeeking_92 : decode cX12_setSeeking 92 = .ok (.iand, 1) := by decide +kernel
theorem dX12_setSeeking_93 : decode cX12_setSeeking 93 = .ok (.ifCond .eq 40, 3) := by decide +kernel
theorem dX12_setSeeking_96 : decode cX12_setSeeking 96 = .ok (.aload_n 0, 1) := by decide +kernel
theorem dX12_setSeeking_97 : decode cX12_setSeeking 97 = .ok (.getfield 54, 3) := by decide +kernel
theorem dX12_setSeeking_100 : decode cX12_setSeeking 100 = .ok (.aload_n 0, 1) := by decide +kernel
theorem dX12_setSeeking_101 : decode cX12_setSeeking 101 = .ok (.getfield 178, 3) := by decide +kernel
theorem dX12_setSeeking_104 : decode cX12_setSeeking 104 = .ok (.iload_n 2, 1) := by decide +kernel
theorem dX12_setSeeking_105 : decode cX12_setSeeking 105 = .ok (.iastore, 1) := by decide +kernel
theorem dX12_setSeeking_106 : decode cX12_setSeeking 106 = .ok (.aload_n 0, 1) := by decide +kernel
theorem dX12_setSeeking_107 : decode cX12_setSeeking 107 = .ok (.getfield 60, 3) := by decide +kernel
theorem dX12_setSeeking_110 : decode cX12_setSeeking 110 = .ok (.aload_n 0, 1) := by decide +kernel
theorem dX12_setSeeking_111 : decode cX12_setSeeking 111 = .ok (.getfield 178, 3) := by decide +kernel
theorem dX12_setSeeking_114 : decode cX12_setSeeking 114 = .ok (.aload_n 0, 1) := by decide +kernel
theorem dX12_setSeeking_115 : decode cX12_setSeeking 115 = .ok (.getfield 48, 3) := by decide +kernel
theorem dX12_setSeeking_118 : decode cX12_setSeeking 118 = .ok (.iload_n 2, 1) := by decide +kernel
theorem dX12_setSeeking_119 : decode cX12_setSeeking 119 = .ok (.iaload, 1) := by decide +kernel
theorem dX12_setSeeking_120 : decode cX12_setSeeking 120 = .ok (.iload_n 1, 1) := by decide +kernel
theorem dX12_setSeeking_121 : decode cX12_setSeeking 121 = .ok (.iand, 1) := by decide +kernel
theorem dX12_setSeeking_122 : decode cX12_setSeeking 122 = .ok (.iastore, 1) := by decide +kernel
theorem dX12_setSeeking_123 : decode cX12_setSeeking 123 = .ok (.aload_n 0, 1) := by decide +kernel
theorem dX12_setSeeking_124 : decode cX12_setSeeking 124 = .ok (.dup, 1) := by decide +kernel
theorem dX12_setSeeking_125 : decode cX12_setSeeking 125 = .ok (.getfield 178, 3) := by decide +kernel
theorem dX12_setSeeking_128 : decode cX12_setSeeking 128 = .ok (.iconst 1, 1) := by decide +kernel
theorem dX12_setSeeking_129 : decode cX12_setSeeking 129 = .ok (.iadd, 1) := by decide +kernel
theorem dX12_setSeeking_130 : decode cX12_setSeeking 130 = .ok (.putfield 178, 3) := by decide +kernel
theorem dX12_setSeeking_133 : decode cX12_setSeeking 133 = .ok (.aload_n 0, 1) := by decide +kernel
theorem dX12_setSeeking_134 : decode cX12_setSeeking 134 = .ok (.getfield 57, 3) := by decide +kernel
theorem dX12_setSeeking_137 : decode cX12_setSeeking 137 = .ok (.iload_n 2, 1) := by decide +kernel
theorem dX12_setSeeking_138 : decode cX12_setSeeking 138 = .ok (.aload_n 0, 1) := by decide +kernel
theorem dX12_setSeeking_139 : decode cX12_setSeeking 139 = .ok (.getfield 48, 3) := by decide +kernel
theorem dX12_setSeeking_142 : decode cX12_setSeeking 142 = .ok (.iload_n 2, 1) := by decide +kernel
theorem dX12_setSeeking_143 : decode cX12_setSeeking 143 = .ok (.iaload, 1) := by decide +kernel
theorem dX12_setSeeking_144 : decode cX12_setSeeking 144 = .ok (.iastore, 1) := by decide +kernel
theorem dX12_setSeeking_145 : decode cX12_setSeeking 145 = .ok (.aload_n 0, 1) := by decide +kernel
theorem dX12_setSeeking_146 : decode cX12_setSeeking 146 = .ok (.getfield 66, 3) := by decide +kernel
theorem dX12_setSeeking_149 : decode cX12_setSeeking 149 = .ok (.iload_n 2, 1) := by decide +kernel
theorem dX12_setSeeking_150 : decode cX12_setSeeking 150 = .ok (.aload_n 0, 1) := by decide +kernel
theorem dX12_setSeeking_151 : decode cX12_setSeeking 151 = .ok (.getfield 39, 3) := by decide +kernel
theorem dX12_setSeeking_154 : decode cX12_setSeeking 154 = .ok (.iload_n 2, 1) := by decide +kernel
theorem dX12_setSeeking_155 : decode cX12_setSeeking 155 = .ok (.iaload, 1) := by decide +kernel
theorem dX12_setSeeking_156 : decode cX12_setSeeking 156 = .ok (.iastore, 1) := by decide +kernel
theorem dX12_setSeeking_157 : decode cX12_setSeeking 157 = .ok (.iinc 2 1, 3) := by decide +kernel
theorem dX12_setSeeking_160 : decode cX12_setSeeking 160 = .ok (.goto (-108), 3) := by decide +kernel
theorem dX12_setSeeking_163 : decode cX12_setSeeking 163 = .ok (.iconst 0, 1) := by decide +kernel
theorem dX12_setSeeking_164 : decode cX12_setSeeking 164 = .ok (.istore_n 2, 1) := by decide +kernel
theorem dX12_setSeeking_165 : decode cX12_setSeeking 165 = .ok (.aload_n 0, 1) := by decide +kernel
theorem dX12_setSeeking_166 : decode cX12_setSeeking 166 = .ok (.getfield 178, 3) := by decide +kernel
theorem dX12_setSeeking_169 : decode cX12_setSeeking 169 = .ok (.iconst 1, 1) := by decide +kernel
theorem dX12_setSeeking_170 : decode cX12_setSeeking 170 = .ok (.isub, 1) := by decide +kernel
theorem dX12_setSeeking_171 : decode cX12_setSeeking 171 = .ok (.istore_n 3, 1) := by decide +kernel
theorem dX12_setSeeking_172 : decode cX12_setSeeking 172 = .ok (.iload_n 3, 1) := by decide +kernel
theorem dX12_setSeeking_173 : decode cX12_setSeeking 173 = .ok (.ifCond .lt 34, 3) := by decide +kernel
theorem dX12_setSeeking_176 : decode cX12_setSeeking 176 = .ok (.aload_n 0, 1) := by decide +kernel
theorem dX12_setSeeking_177 : decode cX12_setSeeking 177 = .ok (.getfield 63, 3) := by decide +kernel
theorem dX12_setSeeking_180 : decode cX12_setSeeking 180 = .ok (.iload_n 3, 1) := by decide +kernel
theorem dX12_setSeeking_181 : decode cX12_setSeeking 181 = .ok (.aload_n 0, 1) := by decide +kernel
theorem dX12_setSeeking_182 : decode cX12_setSeeking 182 = .ok (.getfield 60, 3) := by decide +kernel
theorem dX12_setSeeking_185 : decode cX12_setSeeking 185 = .ok (.iload_n 3, 1) := by decide +kernel
theorem dX12_setSeeking_186 : decode cX12_setSeeking 186 = .ok (.iaload, 1) := by decide +kernel
theorem dX12_setSeeking_187 : decode cX12_setSeeking 187 = .ok (.iload_n 2, 1) := by decide +kernel
theorem dX12_setSeeking_188 : decode cX12_setSeeking 188 = .ok (.iconst (-1), 1) := by decide +kernel
theorem dX12_setSeeking_189 : decode cX12_setSeeking 189 = .ok (.ixor, 1) := by decide +kernel
theorem dX12_setSeeking_190 : decode cX12_setSeeking 190 = .ok (.iand, 1) := by decide +kernel
theorem dX12_setSeeking_191 : decode cX12_setSeeking 191 = .ok (.iastore, 1) := by decide +kernel
theorem dX12_setSeeking_192 : decode cX12_setSeeking 192 = .ok (.iload_n 2, 1) := by decide +kernel
theorem dX12_setSeeking_193 : decode cX12_setSeeking 193 = .ok (.aload_n 0, 1) := by decide +kernel
theorem dX12_setSeeking_194 : decode cX12_setSeeking 194 = .ok (.getfield 60, 3) := by decide +kernel
theorem dX12_setSeeking_197 : decode cX12_setSeeking 197 = .ok (.iload_n 3, 1) := by decide +kernel
theorem dX12_setSeeking_198 : decode cX12_setSeeking 198 = .ok (.iaload, 1) := by decide +kernel
theorem dX12_setSeeking_199 : decode cX12_setSeeking 199 = .ok (.ior, 1) := by decide +kernel
theorem dX12_setSeeking_200 : decode cX12_setSeeking 200 = .ok (.istore_n 2, 1) := by decide +kernel
theorem dX12_setSeeking_201 : decode cX12_setSeeking 201 = .ok (.iinc 3 (-1), 3) := by decide +kernel
theorem dX12_setSeeking_204 : decode cX12_setSeeking 204 = .ok (.goto (-32), 3) := by decide +kernel
theorem dX12_setSeeking_207 : decode cX12_setSeeking 207 = .ok (.return_, 1) := by decide +kernel
theorem dX12_beginSeeking_0 : decode cX12_beginSeeking 0 = .ok (.iconst 0, 1) := by decide +kernel
theorem dX12_beginSeeking_1 : decode cX12_beginSeeking 1 = .ok (.istore_n 1, 1) := by decide +kernel
theorem dX12_beginSeeking_2 : decode cX12_beginSeeking 2 = .ok (.iload_n 1, 1) := by decide +kernel
theorem dX12_beginSeeking_3 : decode cX12_beginSeeking 3 = .ok (.aload_n 0, 1) := by decide +kernel
theorem dX12_beginSeeking_4 : decode cX12_beginSeeking 4 = .ok (.getfield 115, 3) := by decide +kernel
theorem dX12_beginSeeking_7 : decode cX12_beginSeeking 7 = .ok (.if_icmp .ge 21, 3) := by decide +kernel
theorem dX12_beginSeeking_10 : decode cX12_beginSeeking 10 = .ok (.aload_n 0, 1) := by decide +kernel
theorem dX12_beginSeeking_11 : decode cX12_beginSeeking 11 = .ok (.getfield 69, 3) := by decide +kernel
theorem dX12_beginSeeking_14 : decode cX12_beginSeeking 14 = .ok (.iload_n 1, 1) := by decide +kernel
theorem dX12_beginSeeking_15 : decode cX12_beginSeeking 15 = .ok (.aload_n 0, 1) := by decide +kernel
theorem dX12_beginSeeking_16 : decode cX12_beginSeeking 16 = .ok (.getfield 33, 3) := by decide +kernel
theorem dX12_beginSeeking_19 : decode cX12_beginSeeking 19 = .ok (.iload_n 1, 1) := by decide +kernel
theorem dX12_beginSeeking_20 : decode cX12_beginSeeking 20 = .ok (.iaload, 1) := by decide +kernel
theorem dX12_beginSeeking_21 : decode cX12_beginSeeking 21 = .ok (.iastore, 1) := by decide +kernel
theorem dX12_beginSeeking_22 : decode cX12_beginSeeking 22 = .ok (.iinc 1 1, 3) := by decide +kernel
theorem dX12_beginSeeking_25 : decode cX12_beginSeeking 25 = .ok (.goto (-23), 3) := by decide +kernel
theorem dX12_beginSeeking_28 : decode cX12_beginSeeking 28 = .ok (.aload_n 0, 1) := by decide +kernel
theorem dX12_beginSeeking_29 : decode cX12_beginSeeking 29 = .ok (.iconst 0, 1) := by decide +kernel
theorem dX12_beginSeeking_30 : decode cX12_beginSeeking 30 = .ok (.putfield 181, 3) := by decide +kernel
theorem dX12_beginSeeking_33 : decode cX12_beginSeeking 33 = .ok (.aload_n 0, 1) := by decide +kernel
theorem dX12_beginSeeking_34 : decode cX12_beginSeeking 34 = .ok (.invokevirtual 184, 3) := by decide +kernel
theorem dX12_beginSeeking_37 : decode cX12_beginSeeking 37 = .ok (.return_, 1) := by decide +kernel
theorem dX12_begin_0 : decode cX12_begin 0 = .ok (.aload_n 0, 1) := by decide +kernel
theorem dX12_begin_1 : decode cX12_begin 1 = .ok (.getfield 181, 3) := by decide +kernel
theorem dX12_begin_4 : decode cX12_begin 4 = .ok (.aload_n 0, 1) := by decide +kernel
theorem dX12_begin_5 : decode cX12_begin 5 = .ok (.getfield 178, 3) := by decide +kernel
theorem dX12_begin_8 : decode cX12_begin 8 = .ok (.if_icmp .lt 4, 3) := by decide +kernel
theorem dX12_begin_11 : decode cX12_begin 11 = .ok (.return_, 1) := by decide +kernel
theorem dX12_begin_12 : decode cX12_begin 12 = .ok (.iconst 0, 1) := by decide +kernel
theorem dX12_begin_13 : decode cX12_begin 13 = .ok (.istore_n 1, 1) := by decide +kernel
theorem dX12_begin_14 : decode cX12_begin 14 = .ok (.sipush 200, 3) := by decide +kernel
theorem dX12_begin_17 : decode cX12_begin 17 = .ok (.istore_n 2, 1) := by decide +kernel
theorem dX12_begin_18 : decode cX12_begin 18 = .ok (.iconst 0, 1) := by decide +kernel
theorem dX12_begin_19 : decode cX12_begin 19 = .ok (.istore_n 3, 1) := by decide +kernel
theorem dX12_begin_20 : decode cX12_begin 20 = .ok (.iload_n 3, 1) := by decide +kernel
theorem dX12_begin_21 : decode cX12_begin 21 = .ok (.aload_n 0, 1) := by decide +kernel
theorem dX12_begin_22 : decode cX12_begin 22 = .ok (.getfield 115, 3) := by decide +kernel
theorem dX12_begin_25 : decode cX12_begin 25 = .ok (.if_icmp .ge 85, 3) := by decide +kernel
theorem dX12_begin_28 : decode cX12_begin 28 = .ok (.aload_n 0, 1) := by decide +kernel
theorem dX12_begin_29 : decode cX12_begin 29 = .ok (.getfield 60, 3) := by decide +kernel
theorem dX12_begin_32 : decode cX12_begin 32 = .ok (.aload_n 0, 1) := by decide +kernel
theorem dX12_begin_33 : decode cX12_begin 33 = .ok (.getfield 181, 3) := by decide +kernel
theorem dX12_begin_36 : decode cX12_begin 36 = .ok (.iaload, 1) := by decide +kernel
theorem dX12_begin_37 : decode cX12_begin 37 = .ok (.iload_n 3, 1) := by decide +kernel
theorem dX12_begin_38 : decode cX12_begin 38 = .ok (.ishr, 1) := by decide +kernel
theorem dX12_begin_39 : decode cX12_begin 39 = .ok (.iconst 1, 1) := by decide +kernel
theorem dX12_begin_40 : decode cX12_begin 40 = .ok (.iand, 1) := by decide +kernel
theorem dX12_begin_41 : decode cX12_begin 41 = .ok (.iconst 1, 1) := by decide +kernel
theorem dX12_begin_42 : decode cX12_begin 42 = .ok (.if_icmp .ne 62, 3) := by decide +kernel
theorem dX12_begin_45 : decode cX12_begin 45 = .ok (.aload_n 0, 1) := by decide +kernel
theorem dX12_begin_46 : decode cX12_begin 46 = .ok (.getfield 69, 3) := by decide +kernel
theorem dX12_begin_49 : decode cX12_begin 49 = .ok (.iload_n 3, 1) := by decide +kernel
theorem dX12_begin_50 : decode cX12_begin 50 = .ok (.iaload, 1) := by decide +kernel
theorem dX12_begin_51 : decode cX12_begin 51 = .ok (.iload_n 2, 1) := by decide +kernel
theorem dX12_begin_52 : decode cX12_begin 52 = .ok (.if_icmp .ge 12, 3) := by decide +kernel
theorem dX12_begin_55 : decode cX12_begin 55 = .ok (.aload_n 0, 1) := by decide +kernel
theorem dX12_begin_56 : decode cX12_begin 56 = .ok (.getfield 69, 3) := by decide +kernel
theorem dX12_begin_59 : decode cX12_begin 59 = .ok (.iload_n 3, 1) := by decide +kernel
theorem dX12_begin_60 : decode cX12_begin 60 = .ok (.iaload, 1) := by decide +kernel
theorem dX12_begin_61 : decode cX12_begin 61 = .ok (.goto 4, 3) := by decide +kernel
theorem dX12_begin_64 : decode cX12_begin 64 = .ok (.iload_n 2, 1) := by decide +kernel
theorem dX12_begin_65 : decode cX12_begin 65 = .ok (.istore_n 2, 1) := by decide +kernel
theorem dX12_begin_66 : decode cX12_begin 66 = .ok (.aload_n 0, 1) := by decide +kernel
theorem dX12_begin_67 : decode cX12_begin 67 = .ok (.getfield 63, 3) := by decide +kernel
theorem dX12_begin_70 : decode cX12_begin 70 = .ok (.aload_n 0, 1) := by decide +kernel
theorem dX12_begin_71 : decode cX12_begin 71 = .ok (.getfield 181, 3) := by decide +kernel
theorem dX12_begin_74 : decode cX12_begin 74 = .ok (.iaload, 1) := by decide +kernel
theorem dX12_begin_75 : decode cX12_begin 75 = .ok (.iload_n 3, 1) := by decide +kernel
theorem dX12_begin_76 : decode cX12_begin 76 = .ok (.ishr, 1) := by decide +kernel
theorem dX12_begin_77 : decode cX12_begin 77 = .ok (.iconst 1, 1) := by decide +kernel
theorem dX12_begin_78 : decode cX12_begin 78 = .ok (.iand, 1) := by decide +kernel
theorem dX12_begin_79 : decode cX12_begin 79 = .ok (.iconst 1, 1) := by decide +kernel
theorem dX12_begin_80 : decode cX12_begin 80 = .ok (.if_icmp .ne 22, 3) := by decide +kernel
theorem dX12_begin_83 : decode cX12_begin 83 = .ok (.aload_n 0, 1) := by decide +kernel
theorem dX12_begin_84 : decode cX12_begin 84 = .ok (.getfield 69, 3) := by decide +kernel
theorem dX12_begin_87 : decode cX12_begin 87 = .ok (.iload_n 3, 1) := by decide +kernel
theorem dX12_begin_88 : decode cX12_begin 88 = .ok (.iaload, 1) := by decide +kernel
theorem dX12_begin_89 : decode cX12_begin 89 = .ok (.iload_n 1, 1) := by decide +kernel
theorem dX12_begin_90 : decode cX12_begin 90 = .ok (.if_icmp .le 12, 3) := by decide +kernel
theorem dX12_begin_93 : decode cX12_begin 93 = .ok (.aload_n 0, 1) := by decide +kernel
theorem dX12_begin_94 : decode cX12_begin 94 = .ok (.getfield 69, 3) := by decide +kernel
theorem dX12_begin_97 : decode cX12_begin 97 = .ok (.iload_n 3, 1) := by decide +kernel
theorem dX12_begin_98 : decode cX12_begin 98 = .ok (.iaload, 1) := by decide +kernel
theorem dX12_begin_99 : decode cX12_begin 99 = .ok (.goto 4, 3) := by decide +kernel
theorem dX12_begin_102 : decode cX12_begin 102 = .ok (.iload_n 1, 1) := by decide +kernel
theorem dX12_begin_103 : decode cX12_begin 103 = .ok (.istore_n 1, 1) := by decide +kernel
theorem dX12_begin_104 : decode cX12_begin 104 = .ok (.iinc 3 1, 3) := by decide +kernel
theorem dX12_begin_107 : decode cX12_begin 107 = .ok (.goto (-87), 3) := by decide +kernel
theorem dX12_begin_110 : decode cX12_begin 110 = .ok (.aload_n 0, 1) := by decide +kernel
theorem dX12_begin_111 : decode cX12_begin 111 = .ok (.getfield 66, 3) := by decide +kernel
theorem dX12_begin_114 : decode cX12_begin 114 = .ok (.aload_n 0, 1) := by decide +kernel
theorem dX12_begin_115 : decode cX12_begin 115 = .ok (.getfield 54, 3) := by decide +kernel
theorem dX12_begin_118 : decode cX12_begin 118 = .ok (.aload_n 0, 1) := by decide +kernel
theorem dX12_begin_119 : decode cX12_begin 119 = .ok (.getfield 181, 3) := by decide +kernel
theorem dX12_begin_122 : decode cX12_begin 122 = .ok (.iaload, 1) := by decide +kernel
theorem dX12_begin_123 : decode cX12_begin 123 = .ok (.iaload, 1) := by decide +kernel
theorem dX12_begin_124 : decode cX12_begin 124 = .ok (.istore_n 3, 1) := by decide +kernel
theorem dX12_begin_125 : decode cX12_begin 125 = .ok (.iload_n 3, 1) := by decide +kernel
theorem dX12_begin_126 : decode cX12_begin 126 = .ok (.bipush (-9), 2) := by decide +kernel
theorem dX12_begin_128 : decode cX12_begin 128 = .ok (.if_icmp .eq 35, 3) := by decide +kernel
theorem dX12_begin_131 : decode cX12_begin 131 = .ok (.iload_n 3, 1) := by decide +kernel
theorem dX12_begin_132 : decode cX12_begin 132 = .ok (.iload_n 1, 1) := by decide +kernel
theorem dX12_begin_133 : decode cX12_begin 133 = .ok (.if_icmp .lt 12, 3) := by decide +kernel
theorem dX12_begin_136 : decode cX12_begin 136 = .ok (.iload_n 3, 1) := by decide +kernel
theorem dX12_begin_137 : decode cX12_begin 137 = .ok (.iload_n 2, 1) := by decide +kernel
theorem dX12_begin_138 : decode cX12_begin 138 = .ok (.if_icmp .gt 7, 3) := by decide +kernel
theorem dX12_begin_141 : decode cX12_begin 141 = .ok (.iconst 1, 1) := by decide +kernel
theorem dX12_begin_142 : decode cX12_begin 142 = .ok (.goto 4, 3) := by decide +kernel
theorem dX12_begin_145 : decode cX12_begin 145 = .ok (.iconst 0, 1) := by decide +kernel
theorem dX12_begin_146 : decode cX12_begin 146 = .ok (.istore 4, 2) := by decide +kernel
theorem dX12_begin_148 : decode cX12_begin 148 = .ok (.iload_n 3, 1) := by decide +kernel
theorem dX12_begin_149 : decode cX12_begin 149 = .ok (.istore_n 1, 1) := by decide +kernel
theorem dX12_begin_150 : decode cX12_begin 150 = .ok (.iload 4, 2) := by decide +kernel
theorem dX12_begin_152 : decode cX12_begin 152 = .ok (.ifCond .eq 7, 3) := by decide +kernel
theorem dX12_begin_155 : decode cX12_begin 155 = .ok (.iload_n 3, 1) := by decide +kernel
theorem dX12_begin_156 : decode cX12_begin 156 = .ok (.goto 6, 3) := by decide +kernel
theorem dX12_begin_159 : decode cX12_begin 159 = .ok (.iload_n 3, 1) := by decide +kernel
theorem dX12_begin_160 : decode cX12_begin 160 = .ok (.iconst 1, 1) := by decide +kernel
theorem dX12_begin_161 : decode cX12_begin 161 = .ok (.isub, 1) := by decide +kernel
theorem dX12_begin_162 : decode cX12_begin 162 = .ok (.istore_n 2, 1) := by decide +kernel
theorem dX12_begin_163 : decode cX12_begin 163 = .ok (.aload_n 0, 1) := by decide +kernel
theorem dX12_begin_164 : decode cX12_begin 164 = .ok (.getfield 72, 3) := by decide +kernel
theorem dX12_begin_167 : decode cX12_begin 167 = .ok (.aload_n 0, 1) := by decide +kernel
theorem dX12_begin_168 : decode cX12_begin 168 = .ok (.getfield 181, 3) := by decide +kernel
theorem dX12_begin_171 : decode cX12_begin 171 = .ok (.iload_n 1, 1) := by decide +kernel
theorem dX12_begin_172 : decode cX12_begin 172 = .ok (.iconst 1, 1) := by decide +kernel
theorem dX12_begin_173 : decode cX12_begin 173 = .ok (.isub, 1) := by decide +kernel
theorem dX12_begin_174 : decode cX12_begin 174 = .ok (.iastore, 1) := by decide +kernel
theorem dX12_begin_175 : decode cX12_begin 175 = .ok (.aload_n 0, 1) := by decide +kernel
theorem dX12_begin_176 : decode cX12_begin 176 = .ok (.getfield 75, 3) := by decide +kernel
theorem dX12_begin_179 : decode cX12_begin 179 = .ok (.aload_n 0, 1) := by decide +kernel
theorem dX12_begin_180 : decode cX12_begin 180 = .ok (.getfield 181, 3) := by decide +kernel
theorem dX12_begin_183 : decode cX12_begin 183 = .ok (.iload_n 2, 1) := by decide +kernel
theorem dX12_begin_184 : decode cX12_begin 184 = .ok (.iastore, 1) := by decide +kernel
theorem dX12_begin_185 : decode cX12_begin 185 = .ok (.return_, 1) := by decide +kernel
theorem dX12_take_0 : decode cX12_take 0 = .ok (.iconst 0, 1) := by decide +kernel
theorem dX12_take_1 : decode cX12_take 1 = .ok (.istore_n 2, 1) := by decide +kernel
theorem dX12_take_2 : decode cX12_take 2 = .ok (.iload_n 2, 1) := by decide +kernel
theorem dX12_take_3 : decode cX12_take 3 = .ok (.aload_n 0, 1) := by decide +kernel
theorem dX12_take_4 : decode cX12_take 4 = .ok (.getfield 115, 3) := by decide +kernel
theorem dX12_take_7 : decode cX12_take 7 = .ok (.if_icmp .ge 40, 3) := by decide +kernel
theorem dX12_take_10 : decode cX12_take 10 = .ok (.aload_n 0, 1) := by decide +kernel
theorem dX12_take_11 : decode cX12_take 11 = .ok (.getfield 69, 3) := by decide +kernel
theorem dX12_take_14 : decode cX12_take 14 = .ok (.iload_n 2, 1) := by decide +kernel
theorem dX12_take_15 : decode cX12_take 15 = .ok (.dup2, 1) := by decide +kernel
theorem dX12_take_16 : decode cX12_take 16 = .ok (.iaload, 1) := by decide +kernel
theorem dX12_take_17 : decode cX12_take 17 = .ok (.aload_n 0, 1) := by decide +kernel
theorem dX12_take_18 : decode cX12_take 18 = .ok (.getfield 60, 3) := by decide +kernel
theorem dX12_take_21 : decode cX12_take 21 = .ok (.aload_n 0, 1) := by decide +kernel
theorem dX12_take_22 : decode cX12_take 22 = .ok (.getfield 181, 3) := by decide +kernel
theorem dX12_take_25 : decode cX12_take 25 = .ok (.iaload, 1) := by decide +kernel
theorem dX12_take_26 : decode cX12_take 26 = .ok (.iload_n 2, 1) := by decide +kernel
theorem dX12_take_27 : decode cX12_take 27 = .ok (.ishr, 1) := by decide +kernel
theorem dX12_take_28 : decode cX12_take 28 = .ok (.iconst 1, 1) := by decide +kernel
theorem dX12_take_29 : decode cX12_take 29 = .ok (.iand, 1) := by decide +kernel
theorem dX12_take_30 : decode cX12_take 30 = .ok (.iconst 1, 1) := by decide +kernel
theorem dX12_take_31 : decode cX12_take 31 = .ok (.if_icmp .ne 7, 3) := by decide +kernel
theorem dX12_take_34 : decode cX12_take 34 = .ok (.iload_n 1, 1) := by decide +kernel
theorem dX12_take_35 : decode cX12_take 35 = .ok (.goto 4, 3) := by decide +kernel
theorem dX12_take_38 : decode cX12_take 38 = .ok (.iconst 0, 1) := by decide +kernel
theorem dX12_take_39 : decode cX12_take 39 = .ok (.isub, 1) := by decide +kernel
theorem dX12_take_40 : decode cX12_take 40 = .ok (.iastore, 1) := by decide +kernel
theorem dX12_take_41 : decode cX12_take 41 = .ok (.iinc 2 1, 3) := by decide +kernel
theorem dX12_take_44 : decode cX12_take 44 = .ok (.goto (-42), 3) := by decide +kernel
theorem dX12_take_47 : decode cX12_take 47 = .ok (.return_, 1) := by decide +kernel
theorem dX12_next_0 : decode cX12_next 0 = .ok (.iload_n 1, 1) := by decide +kernel
theorem dX12_next_1 : decode cX12_next 1 = .ok (.ifCond .eq 10, 3) := by decide +kernel
theorem dX12_next_4 : decode cX12_next 4 = .ok (.aload_n 0, 1) := by decide +kernel
theorem dX12_next_5 : decode cX12_next 5 = .ok (.invokevirtual 187, 3) := by decide +kernel
theorem dX12_next_8 : decode cX12_next 8 = .ok (.goto 13, 3) := by decide +kernel
theorem dX12_next_11 : decode cX12_next 11 = .ok (.aload_n 0, 1) := by decide +kernel
theorem dX12_next_12 : decode cX12_next 12 = .ok (.dup, 1) := by decide +kernel
theorem dX12_next_13 : decode cX12_next 13 = .ok (.getfield 181, 3) := by decide +kernel
theorem dX12_next_16 : decode cX12_next 16 = .ok (.iconst 1, 1) := by decide +kernel
theorem dX12_next_17 : decode cX12_next 17 = .ok (.isub, 1) := by decide +kernel
theorem dX12_next_18 : decode cX12_next 18 = .ok (.putfield 181, 3) := by decide +kernel
theorem dX12_next_21 : decode cX12_next 21 = .ok (.aload_n 0, 1) := by decide +kernel
theorem dX12_next_22 : decode cX12_next 22 = .ok (.getfield 181, 3) := by decide +kernel
theorem dX12_next_25 : decode cX12_next 25 = .ok (.ifCond .lt 237, 3) := by decide +kernel
theorem dX12_next_28 : decode cX12_next 28 = .ok (.aload_n 0, 1) := by decide +kernel
theorem dX12_next_29 : decode cX12_next 29 = .ok (.getfield 181, 3) := by decide +kernel
theorem dX12_next_32 : decode cX12_next 32 = .ok (.aload_n 0, 1) := by decide +kernel
theorem dX12_next_33 : decode cX12_next 33 = .ok (.getfield 178, 3) := by decide +kernel
theorem dX12_next_36 : decode cX12_next 36 = .ok (.if_icmp .ne 25, 3) := by decide +kernel
theorem dX12_next_39 : decode cX12_next 39 = .ok (.aload_n 0, 1) := by decide +kernel
theorem dX12_next_40 : decode cX12_next 40 = .ok (.invokevirtual 190, 3) := by decide +kernel
theorem dX12_next_43 : decode cX12_next 43 = .ok (.ifCond .eq 5, 3) := by decide +kernel
theorem dX12_next_46 : decode cX12_next 46 = .ok (.iconst 1, 1) := by decide +kernel
theorem dX12_next_47 : decode cX12_next 47 = .ok (.ireturn, 1) := by decide +kernel
theorem dX12_next_48 : decode cX12_next 48 = .ok (.aload_n 0, 1) := by decide +kernel
theorem dX12_next_49 : decode cX12_next 49 = .ok (.dup, 1) := by decide +kernel
theorem dX12_next_50 : decode cX12_next 50 = .ok (.getfield 181, 3) := by decide +kernel
theorem dX12_next_53 : decode cX12_next 53 = .ok (.iconst 1, 1) := by decide +kernel
theorem dX12_next_54 : decode cX12_next 54 = .ok (.isub, 1) := by decide +kernel
theorem dX12_next_55 : decode cX12_next 55 = .ok (.putfield 181, 3) := by decide +kernel
theorem dX12_next_58 : decode cX12_next 58 = .ok (.goto (-37), 3) := by decide +kernel
theorem dX12_next_61 : decode cX12_next 61 = .ok (.aload_n 0, 1) := by decide +kernel
theorem dX12_next_62 : decode cX12_next 62 = .ok (.getfield 72, 3) := by decide +kernel
theorem dX12_next_65 : decode cX12_next 65 = .ok (.aload_n 0, 1) := by decide +kernel
theorem dX12_next_66 : decode cX12_next 66 = .ok (.getfield 181, 3) := by decide +kernel
theorem dX12_next_69 : decode cX12_next 69 = .ok (.iaload, 1) := by decide +kernel
theorem dX12_next_70 : decode cX12_next 70 = .ok (.ifCond .lt 39, 3) := by decide +kernel
theorem dX12_next_73 : decode cX12_next 73 = .ok (.aload_n 0, 1) := by decide +kernel
theorem dX12_next_74 : decode cX12_next 74 = .ok (.getfield 78, 3) := by decide +kernel
theorem dX12_next_77 : decode cX12_next 77 = .ok (.aload_n 0, 1) := by decide +kernel
theorem dX12_next_78 : decode cX12_next 78 = .ok (.getfield 181, 3) := by decide +kernel
theorem dX12_next_81 : decode cX12_next 81 = .ok (.baload, 1) := by decide +kernel
theorem dX12_next_82 : decode cX12_next 82 = .ok (.ifCond .eq 27, 3) := by decide +kernel
theorem dX12_next_85 : decode cX12_next 85 = .ok (.aload_n 0, 1) := by decide +kernel
theorem dX12_next_86 : decode cX12_next 86 = .ok (.aload_n 0, 1) := by decide +kernel
theorem dX12_next_87 : decode cX12_next 87 = .ok (.getfield 72, 3) := by decide +kernel
theorem dX12_next_90 : decode cX12_next 90 = .ok (.aload_n 0, 1) := by decide +kernel
theorem dX12_next_91 : decode cX12_next 91 = .ok (.getfield 181, 3) := by decide +kernel
theorem dX12_next_94 : decode cX12_next 94 = .ok (.iaload, 1) := by decide +kernel
theorem dX12_next_95 : decode cX12_next 95 = .ok (.ineg, 1) := by decide +kernel
theorem dX12_next_96 : decode cX12_next 96 = .ok (.invokevirtual 194, 3) := by decide +kernel
theorem dX12_next_99 : decode cX12_next 99 = .ok (.aload_n 0, 1) := by decide +kernel
theorem dX12_next_100 : decode cX12_next 100 = .ok (.getfield 78, 3) := by decide +kernel
theorem dX12_next_103 : decode cX12_next 103 = .ok (.aload_n 0, 1) := by decide +kernel
theorem dX12_next_104 : decode cX12_next 104 = .ok (.getfield 181, 3) := by decide +kernel
theorem dX12_next_107 : decode cX12_next 107 = .ok (.iconst 0, 1) := by decide +kernel
theorem dX12_next_108 : decode cX12_next 108 = .ok (.bastore, 1) := by decide +kernel
theorem dX12_next_109 : decode cX12_next 109 = .ok (.aload_n 0, 1) := by decide +kernel
theorem dX12_next_110 : decode cX12_next 110 = .ok (.getfield 72, 3) := by decide +kernel
theorem dX12_next_113 : decode cX12_next 113 = .ok (.aload_n 0, 1) := by decide +kernel
theorem dX12_next_114 : decode cX12_next 114 = .ok (.getfield 181, 3) := by decide +kernel
theorem dX12_next_117 : decode cX12_next 117 = .ok (.iaload, 1) := by decide +kernel
theorem dX12_next_118 : decode cX12_next 118 = .ok (.aload_n 0, 1) := by decide +kernel
theorem dX12_next_119 : decode cX12_next 119 = .ok (.getfield 75, 3) := by decide +kernel
theorem dX12_next_122 : decode cX12_next 122 = .ok (.aload_n 0, 1) := by decide +kernel
theorem dX12_next_123 : decode cX12_next 123 = .ok (.getfield 181, 3) := by decide +kernel
theorem dX12_next_126 : decode cX12_next 126 = .ok (.iaload, 1) := by decide +kernel
theorem dX12_next_127 : decode cX12_next 127 = .ok (.if_icmp .eq 24, 3) := by decide +kernel
theorem dX12_next_130 : decode cX12_next 130 = .ok (.aload_n 0, 1) := by decide +kernel
theorem dX12_next_131 : decode cX12_next 131 = .ok (.getfield 72, 3) := by decide +kernel
theorem dX12_next_134 : decode cX12_next 134 = .ok (.aload_n 0, 1) := by decide +kernel
theorem dX12_next_135 : decode cX12_next 135 = .ok (.getfield 181, 3) := by decide +kernel
theorem dX12_next_138 : decode cX12_next 138 = .ok (.iaload, 1) := by decide +kernel
theorem dX12_next_139 : decode cX12_next 139 = .ok (.aload_n 0, 1) := by decide +kernel
theorem dX12_next_140 : decode cX12_next 140 = .ok (.getfield 75, 3) := by decide +kernel
theorem dX12_next_143 : decode cX12_next 143 = .ok (.aload_n 0, 1) := by decide +kernel
theorem dX12_next_144 : decode cX12_next 144 = .ok (.getfield 181, 3) := by decide +kernel
theorem dX12_next_147 : decode cX12_next 147 = .ok (.iaload, 1) := by decide +kernel
theorem dX12_next_148 : decode cX12_next 148 = .ok (.if_icmp .le 16, 3) := by decide +kernel
theorem dX12_next_151 : decode cX12_next 151 = .ok (.aload_n 0, 1) := by decide +kernel
theorem dX12_next_152 : decode cX12_next 152 = .ok (.dup, 1) := by decide +kernel
theorem dX12_next_153 : decode cX12_next 153 = .ok (.getfield 181, 3) := by decide +kernel
theorem dX12_next_156 : decode cX12_next 156 = .ok (.iconst 1, 1) := by decide +kernel
theorem dX12_next_157 : decode cX12_next 157 = .ok (.isub, 1) := by decide +kernel
theorem dX12_next_158 : decode cX12_next 158 = .ok (.putfield 181, 3) := by decide +kernel
theorem dX12_next_161 : decode cX12_next 161 = .ok (.goto (-140), 3) := by decide +kernel
theorem dX12_next_164 : decode cX12_next 164 = .ok (.aload_n 0, 1) := by decide +kernel
theorem dX12_next_165 : decode cX12_next 165 = .ok (.getfield 197, 3) := by decide +kernel
theorem dX12_next_168 : decode cX12_next 168 = .ok (.aload_n 0, 1) := by decide +kernel
theorem dX12_next_169 : decode cX12_next 169 = .ok (.getfield 200, 3) := by decide +kernel
theorem dX12_next_172 : decode cX12_next 172 = .ok (.if_icmp .ne 6, 3) := by decide +kernel
theorem dX12_next_175 : decode cX12_next 175 = .ok (.bipush (-6), 2) := by decide +kernel
theorem dX12_next_177 : decode cX12_next 177 = .ok (.ireturn, 1) := by decide +kernel
theorem dX12_next_178 : decode cX12_next 178 = .ok (.aload_n 0, 1) := by decide +kernel
theorem dX12_next_179 : decode cX12_next 179 = .ok (.dup, 1) := by decide +kernel
theorem dX12_next_180 : decode cX12_next 180 = .ok (.getfield 197, 3) := by decide +kernel
theorem dX12_next_183 : decode cX12_next 183 = .ok (.iconst 1, 1) := by decide +kernel
theorem dX12_next_184 : decode cX12_next 184 = .ok (.iadd, 1) := by decide +kernel
theorem dX12_next_185 : decode cX12_next 185 = .ok (.putfield 197, 3) := by decide +kernel
theorem dX12_next_188 : decode cX12_next 188 = .ok (.aload_n 0, 1) := by decide +kernel
theorem dX12_next_189 : decode cX12_next 189 = .ok (.getfield 72, 3) := by decide +kernel
theorem dX12_next_192 : decode cX12_next 192 = .ok (.aload_n 0, 1) := by decide +kernel
theorem dX12_next_193 : decode cX12_next 193 = .ok (.getfield 181, 3) := by decide +kernel
theorem dX12_next_196 : decode cX12_next 196 = .ok (.dup2, 1) := by decide +kernel
theorem dX12_next_197 : decode cX12_next 197 = .ok (.iaload, 1) := by decide +kernel
theorem dX12_next_198 : decode cX12_next 198 = .ok (.iconst 1, 1) := by decide +kernel
theorem dX12_next_199 : decode cX12_next 199 = .ok (.iadd, 1) := by decide +kernel
theorem dX12_next_200 : decode cX12_next 200 = .ok (.iastore, 1) := by decide +kernel
theorem dX12_next_201 : decode cX12_next 201 = .ok (.aload_n 0, 1) := by decide +kernel
theorem dX12_next_202 : decode cX12_next 202 = .ok (.aload_n 0, 1) := by decide +kernel
theorem dX12_next_203 : decode cX12_next 203 = .ok (.getfield 72, 3) := by decide +kernel
theorem dX12_next_206 : decode cX12_next 206 = .ok (.aload_n 0, 1) := by decide +kernel
theorem dX12_next_207 : decode cX12_next 207 = .ok (.getfield 181, 3) := by decide +kernel
theorem dX12_next_210 : decode cX12_next 210 = .ok (.iaload, 1) := by decide +kernel
theorem dX12_next_211 : decode cX12_next 211 = .ok (.invokevirtual 194, 3) := by decide +kernel
theorem dX12_next_214 : decode cX12_next 214 = .ok (.aload_n 0, 1) := by decide +kernel
theorem dX12_next_215 : decode cX12_next 215 = .ok (.getfield 78, 3) := by decide +kernel
theorem dX12_next_218 : decode cX12_next 218 = .ok (.aload_n 0, 1) := by decide +kernel
theorem dX12_next_219 : decode cX12_next 219 = .ok (.getfield 181, 3) := by decide +kernel
theorem dX12_next_222 : decode cX12_next 222 = .ok (.iconst 1, 1) := by decide +kernel
theorem dX12_next_223 : decode cX12_next 223 = .ok (.bastore, 1) := by decide +kernel
theorem dX12_next_224 : decode cX12_next 224 = .ok (.aload_n 0, 1) := by decide +kernel
theorem dX12_next_225 : decode cX12_next 225 = .ok (.dup, 1) := by decide +kernel
theorem dX12_next_226 : decode cX12_next 226 = .ok (.getfield 181, 3) := by decide +kernel
theorem dX12_next_229 : decode cX12_next 229 = .ok (.iconst 1, 1) := by decide +kernel
theorem dX12_next_230 : decode cX12_next 230 = .ok (.iadd, 1) := by decide +kernel
theorem dX12_next_231 : decode cX12_next 231 = .ok (.putfield 181, 3) := by decide +kernel
theorem dX12_next_234 : decode cX12_next 234 = .ok (.aload_n 0, 1) := by decide +kernel
theorem dX12_next_235 : decode cX12_next 235 = .ok (.getfield 181, 3) := by decide +kernel
theorem dX12_next_238 : decode cX12_next 238 = .ok (.aload_n 0, 1) := by decide +kernel
theorem dX12_next_239 : decode cX12_next 239 = .ok (.getfield 178, 3) := by decide +kernel
theorem dX12_next_242 : decode cX12_next 242 = .ok (.if_icmp .ge (-221), 3) := by decide +kernel
theorem dX12_next_245 : decode cX12_next 245 = .ok (.aload_n 0, 1) := by decide +kernel
theorem dX12_next_246 : decode cX12_next 246 = .ok (.getfield 78, 3) := by decide +kernel
theorem dX12_next_249 : decode cX12_next 249 = .ok (.aload_n 0, 1) := by decide +kernel
theorem dX12_next_250 : decode cX12_next 250 = .ok (.getfield 181, 3) := by decide +kernel
theorem dX12_next_253 : decode cX12_next 253 = .ok (.iconst 0, 1) := by decide +kernel
theorem dX12_next_254 : decode cX12_next 254 = .ok (.bastore, 1) := by decide +kernel
theorem dX12_next_255 : decode cX12_next 255 = .ok (.aload_n 0, 1) := by decide +kernel
theorem dX12_next_256 : decode cX12_next 256 = .ok (.invokevirtual 184, 3) := by decide +kernel
theorem dX12_next_259 : decode cX12_next 259 = .ok (.goto (-238), 3) := by decide +kernel
theorem dX12_next_262 : decode cX12_next 262 = .ok (.iconst 0, 1) := by decide +kernel
theorem dX12_next_263 : decode cX12_next 263 = .ok (.ireturn, 1) := by decide +kernel
theorem dX12_isNothingLeft_0 : decode cX12_isNothingLeft 0 = .ok (.iconst 1, 1) := by decide +kernel
theorem dX12_isNothingLeft_1 : decode cX12_isNothingLeft 1 = .ok (.istore_n 1, 1) := by decide +kernel
theorem dX12_isNothingLeft_2 : decode cX12_isNothingLeft 2 = .ok (.iconst 0, 1) := by decide +kernel
theorem dX12_isNothingLeft_3 : decode cX12_isNothingLeft 3 = .ok (.istore_n 2, 1) := by decide +kernel
theorem dX12_isNothingLeft_4 : decode cX12_isNothingLeft 4 = .ok (.iload_n 2, 1) := by decide +kernel
theorem dX12_isNothingLeft_5 : decode cX12_isNothingLeft 5 = .ok (.aload_n 0, 1) := by decide +kernel
theorem dX12_isNothingLeft_6 : decode cX12_isNothingLeft 6 = .ok (.getfield 115, 3) := by decide +kernel
theorem dX12_isNothingLeft_9 : decode cX12_isNothingLeft 9 = .ok (.if_icmp .ge 39, 3) := by decide +kernel
theorem dX12_isNothingLeft_12 : decode cX12_isNothingLeft 12 = .ok (.iload_n 1, 1) := by decide +kernel
theorem dX12_isNothingLeft_13 : decode cX12_isNothingLeft 13 = .ok (.ifCond .eq 27, 3) := by decide +kernel
theorem dX12_isNothingLeft_16 : decode cX12_isNothingLeft 16 = .ok (.aload_n 0, 1) := by decide +kernel
theorem dX12_isNothingLeft_17 : decode cX12_isNothingLeft 17 = .ok (.getfield 33, 3) := by decide +kernel
theorem dX12_isNothingLeft_20 : decode cX12_isNothingLeft 20 = .ok (.iload_n 2, 1) := by decide +kernel
theorem dX12_isNothingLeft_21 : decode cX12_isNothingLeft 21 = .ok (.iaload, 1) := by decide +kernel
theorem dX12_isNothingLeft_22 : decode cX12_isNothingLeft 22 = .ok (.bipush (-9), 2) := by decide +kernel
theorem dX12_isNothingLeft_24 : decode cX12_isNothingLeft 24 = .ok (.if_icmp .eq 12, 3) := by decide +kernel
theorem dX12_isNothingLeft_27 : decode cX12_isNothingLeft 27 = .ok (.aload_n 0, 1) := by decide +kernel
theorem dX12_isNothingLeft_28 : decode cX12_isNothingLeft 28 = .ok (.getfield 69, 3) := by decide +kernel
theorem dX12_isNothingLeft_31 : decode cX12_isNothingLeft 31 = .ok (.iload_n 2, 1) := by decide +kernel
theorem dX12_isNothingLeft_32 : decode cX12_isNothingLeft 32 = .ok (.iaload, 1) := by decide +kernel
theorem dX12_isNothingLeft_33 : decode cX12_isNothingLeft 33 = .ok (.ifCond .ne 7, 3) := by decide +kernel
theorem dX12_isNothingLeft_36 : decode cX12_isNothingLeft 36 = .ok (.iconst 1, 1) := by decide +kernel
theorem dX12_isNothingLeft_37 : decode cX12_isNothingLeft 37 = .ok (.goto 4, 3) := by decide +kernel
theorem dX12_isNothingLeft_40 : decode cX12_isNothingLeft 40 = .ok (.iconst 0, 1) := by decide +kernel
theorem dX12_isNothingLeft_41 : decode cX12_isNothingLeft 41 = .ok (.istore_n 1, 1) := by decide +kernel
theorem dX12_isNothingLeft_42 : decode cX12_isNothingLeft 42 = .ok (.iinc 2 1, 3) := by decide +kernel
theorem dX12_isNothingLeft_45 : decode cX12_isNothingLeft 45 = .ok (.goto (-41), 3) := by decide +kernel
theorem dX12_isNothingLeft_48 : decode cX12_isNothingLeft 48 = .ok (.iload_n 1, 1) := by decide +kernel
theorem dX12_isNothingLeft_49 : decode cX12_isNothingLeft 49 = .ok (.ireturn, 1) := by decide +kernel
theorem dX12_open_0 : decode cX12_open 0 = .ok (.aload_n 0, 1) := by decide +kernel
theorem dX12_open_1 : decode cX12_open 1 = .ok (.invokevirtual 203, 3) := by decide +kernel
theorem dX12_open_4 : decode cX12_open 4 = .ok (.iconst 0, 1) := by decide +kernel
theorem dX12_open_5 : decode cX12_open 5 = .ok (.istore_n 2, 1) := by decide +kernel
theorem dX12_open_6 : decode cX12_open 6 = .ok (.iload_n 2, 1) := by decide +kernel
theorem dX12_open_7 : decode cX12_open 7 = .ok (.bipush 36, 2) := by decide +kernel
theorem dX12_open_9 : decode cX12_open 9 = .ok (.if_icmp .ge 16, 3) := by decide +kernel
theorem dX12_open_12 : decode cX12_open 12 = .ok (.aload_n 0, 1) := by decide +kernel
theorem dX12_open_13 : decode cX12_open 13 = .ok (.getfield 78, 3) := by decide +kernel
theorem dX12_open_16 : decode cX12_open 16 = .ok (.iload_n 2, 1) := by decide +kernel
theorem dX12_open_17 : decode cX12_open 17 = .ok (.iconst 0, 1) := by decide +kernel
theorem dX12_open_18 : decode cX12_open 18 = .ok (.bastore, 1) := by decide +kernel
theorem dX12_open_19 : decode cX12_open 19 = .ok (.iinc 2 1, 3) := by decide +kernel
theorem dX12_open_22 : decode cX12_open 22 = .ok (.goto (-16), 3) := by decide +kernel
theorem dX12_open_25 : decode cX12_open 25 = .ok (.aload_n 0, 1) := by decide +kernel
theorem dX12_open_26 : decode cX12_open 26 = .ok (.iconst 0, 1) := by decide +kernel
theorem dX12_open_27 : decode cX12_open 27 = .ok (.putfield 197, 3) := by decide +kernel
theorem dX12_open_30 : decode cX12_open 30 = .ok (.aload_n 0, 1) := by decide +kernel
theorem dX12_open_31 : decode cX12_open 31 = .ok (.iload_n 1, 1) := by decide +kernel
theorem dX12_open_32 : decode cX12_open 32 = .ok (.putfield 200, 3) := by decide +kernel
theorem dX12_open_35 : decode cX12_open 35 = .ok (.return_, 1) := by decide +kernel
theorem dX12_areTries_0 : decode cX12_areTries 0 = .ok (.iload_n 0, 1) := by decide +kernel
theorem dX12_areTries_1 : decode cX12_areTries 1 = .ok (.iconst 1, 1) := by decide +kernel
theorem dX12_areTries_2 : decode cX12_areTries 2 = .ok (.sipush 20000, 3) := by decide +kernel
theorem dX12_areTries_5 : decode cX12_areTries 5 = .ok (.invokestatic 122, 3) := by decide +kernel
theorem dX12_areTries_8 : decode cX12_areTries 8 = .ok (.ireturn, 1) := by decide +kernel
theorem dX12_keep_0 : decode cX12_keep 0 = .ok (.iconst 0, 1) := by decide +kernel
theorem dX12_keep_1 : decode cX12_keep 1 = .ok (.istore_n 1, 1) := by decide +kernel
theorem dX12_keep_2 : decode cX12_keep 2 = .ok (.iload_n 1, 1) := by decide +kernel
theorem dX12_keep_3 : decode cX12_keep 3 = .ok (.bipush 36, 2) := by decide +kernel
theorem dX12_keep_5 : decode cX12_keep 5 = .ok (.if_icmp .ge 16, 3) := by decide +kernel
theorem dX12_keep_8 : decode cX12_keep 8 = .ok (.aload_n 0, 1) := by decide +kernel
theorem dX12_keep_9 : decode cX12_keep 9 = .ok (.getfield 45, 3) := by decide +kernel
theorem dX12_keep_12 : decode cX12_keep 12 = .ok (.iload_n 1, 1) := by decide +kernel
theorem dX12_keep_13 : decode cX12_keep 13 = .ok (.iconst 0, 1) := by decide +kernel
theorem dX12_keep_14 : decode cX12_keep 14 = .ok (.iastore, 1) := by decide +kernel
theorem dX12_keep_15 : decode cX12_keep 15 = .ok (.iinc 1 1, 3) := by decide +kernel
theorem dX12_keep_18 : decode cX12_keep 18 = .ok (.goto (-16), 3) := by decide +kernel
theorem dX12_keep_21 : decode cX12_keep 21 = .ok (.iconst 0, 1) := by decide +kernel
theorem dX12_keep_22 : decode cX12_keep 22 = .ok (.istore_n 1, 1) := by decide +kernel
theorem dX12_keep_23 : decode cX12_keep 23 = .ok (.iload_n 1, 1) := by decide +kernel
theorem dX12_keep_24 : decode cX12_keep 24 = .ok (.aload_n 0, 1) := by decide +kernel
theorem dX12_keep_25 : decode cX12_keep 25 = .ok (.getfield 178, 3) := by decide +kernel
theorem dX12_keep_28 : decode cX12_keep 28 = .ok (.if_icmp .ge 26, 3) := by decide +kernel
theorem dX12_keep_31 : decode cX12_keep 31 = .ok (.aload_n 0, 1) := by decide +kernel
theorem dX12_keep_32 : decode cX12_keep 32 = .ok (.getfield 45, 3) := by decide +kernel
theorem dX12_keep_35 : decode cX12_keep 35 = .ok (.aload_n 0, 1) := by decide +kernel
theorem dX12_keep_36 : decode cX12_keep 36 = .ok (.getfield 54, 3) := by decide +kernel
theorem dX12_keep_39 : decode cX12_keep 39 = .ok (.iload_n 1, 1) := by decide +kernel
theorem dX12_keep_40 : decode cX12_keep 40 = .ok (.iaload, 1) := by decide +kernel
theorem dX12_keep_41 : decode cX12_keep 41 = .ok (.aload_n 0, 1) := by decide +kernel
theorem dX12_keep_42 : decode cX12_keep 42 = .ok (.getfield 72, 3) := by decide +kernel
theorem dX12_keep_45 : decode cX12_keep 45 = .ok (.iload_n 1, 1) := by decide +kernel
theorem dX12_keep_46 : decode cX12_keep 46 = .ok (.iaload, 1) := by decide +kernel
theorem dX12_keep_47 : decode cX12_keep 47 = .ok (.iastore, 1) := by decide +kernel
theorem dX12_keep_48 : decode cX12_keep 48 = .ok (.iinc 1 1, 3) := by decide +kernel
theorem dX12_keep_51 : decode cX12_keep 51 = .ok (.goto (-28), 3) := by decide +kernel
theorem dX12_keep_54 : decode cX12_keep 54 = .ok (.aload_n 0, 1) := by decide +kernel
theorem dX12_keep_55 : decode cX12_keep 55 = .ok (.iconst 1, 1) := by decide +kernel
theorem dX12_keep_56 : decode cX12_keep 56 = .ok (.putfield 118, 3) := by decide +kernel
theorem dX12_keep_59 : decode cX12_keep 59 = .ok (.return_, 1) := by decide +kernel
theorem dX12_fits_0 : decode cX12_fits 0 = .ok (.iload_n 1, 1) := by decide +kernel
theorem dX12_fits_1 : decode cX12_fits 1 = .ok (.invokestatic 206, 3) := by decide +kernel
theorem dX12_fits_4 : decode cX12_fits 4 = .ok (.ifCond .ne 5, 3) := by decide +kernel
theorem dX12_fits_7 : decode cX12_fits 7 = .ok (.iconst (-1), 1) := by decide +kernel
theorem dX12_fits_8 : decode cX12_fits 8 = .ok (.ireturn, 1) := by decide +kernel
theorem dX12_fits_9 : decode cX12_fits 9 = .ok (.aload_n 0, 1) := by decide +kernel
theorem dX12_fits_10 : decode cX12_fits 10 = .ok (.iconst 0, 1) := by decide +kernel
theorem dX12_fits_11 : decode cX12_fits 11 = .ok (.putfield 118, 3) := by decide +kernel
theorem dX12_fits_14 : decode cX12_fits 14 = .ok (.aload_n 0, 1) := by decide +kernel
theorem dX12_fits_15 : decode cX12_fits 15 = .ok (.iload_n 1, 1) := by decide +kernel
theorem dX12_fits_16 : decode cX12_fits 16 = .ok (.invokevirtual 209, 3) := by decide +kernel
theorem dX12_fits_19 : decode cX12_fits 19 = .ok (.aload_n 0, 1) := by decide +kernel
theorem dX12_fits_20 : decode cX12_fits 20 = .ok (.iconst 1, 1) := by decide +kernel
theorem dX12_fits_21 : decode cX12_fits 21 = .ok (.invokevirtual 212, 3) := by decide +kernel
theorem dX12_fits_24 : decode cX12_fits 24 = .ok (.istore_n 2, 1) := by decide +kernel
theorem dX12_fits_25 : decode cX12_fits 25 = .ok (.iload_n 2, 1) := by decide +kernel
theorem dX12_fits_26 : decode cX12_fits 26 = .ok (.iconst 1, 1) := by decide +kernel
theorem dX12_fits_27 : decode cX12_fits 27 = .ok (.if_icmp .ne 7, 3) := by decide +kernel
theorem dX12_fits_30 : decode cX12_fits 30 = .ok (.aload_n 0, 1) := by decide +kernel
theorem dX12_fits_31 : decode cX12_fits 31 = .ok (.invokevirtual 216, 3) := by decide +kernel
theorem dX12_fits_34 : decode cX12_fits 34 = .ok (.iload_n 2, 1) := by decide +kernel
theorem dX12_fits_35 : decode cX12_fits 35 = .ok (.ireturn, 1) := by decide +kernel
theorem dX12_fit_0 : decode cX12_fit 0 = .ok (.aload_n 0, 1) := by decide +kernel
theorem dX12_fit_1 : decode cX12_fit 1 = .ok (.iload_n 1, 1) := by decide +kernel
theorem dX12_fit_2 : decode cX12_fit 2 = .ok (.iload_n 2, 1) := by decide +kernel
theorem dX12_fit_3 : decode cX12_fit 3 = .ok (.invokevirtual 174, 3) := by decide +kernel
theorem dX12_fit_6 : decode cX12_fit 6 = .ok (.ifCond .ne 7, 3) := by decide +kernel
theorem dX12_fit_9 : decode cX12_fit 9 = .ok (.iconst (-1), 1) := by decide +kernel
theorem dX12_fit_10 : decode cX12_fit 10 = .ok (.goto 28, 3) := by decide +kernel
theorem dX12_fit_13 : decode cX12_fit 13 = .ok (.aload_n 0, 1) := by decide +kernel
theorem dX12_fit_14 : decode cX12_fit 14 = .ok (.getfield 118, 3) := by decide +kernel
theorem dX12_fit_17 : decode cX12_fit 17 = .ok (.ifCond .eq 19, 3) := by decide +kernel
theorem dX12_fit_20 : decode cX12_fit 20 = .ok (.aload_n 0, 1) := by decide +kernel
theorem dX12_fit_21 : decode cX12_fit 21 = .ok (.getfield 45, 3) := by decide +kernel
theorem dX12_fit_24 : decode cX12_fit 24 = .ok (.aload_n 0, 1) := by decide +kernel
theorem dX12_fit_25 : decode cX12_fit 25 = .ok (.getfield 13, 3) := by decide +kernel
theorem dX12_fit_28 : decode cX12_fit 28 = .ok (.iload_n 1, 1) := by decide +kernel
theorem dX12_fit_29 : decode cX12_fit 29 = .ok (.imul, 1) := by decide +kernel
theorem dX12_fit_30 : decode cX12_fit 30 = .ok (.iload_n 2, 1) := by decide +kernel
theorem dX12_fit_31 : decode cX12_fit 31 = .ok (.iadd, 1) := by decide +kernel
theorem dX12_fit_32 : decode cX12_fit 32 = .ok (.iaload, 1) := by decide +kernel
theorem dX12_fit_33 : decode cX12_fit 33 = .ok (.goto 5, 3) := by decide +kernel
theorem dX12_fit_36 : decode cX12_fit 36 = .ok (.bipush (-9), 2) := by decide +kernel
theorem dX12_fit_38 : decode cX12_fit 38 = .ok (.ireturn, 1) := by decide +kernel
theorem dX12_many_0 : decode cX12_many 0 = .ok (.iload_n 1, 1) := by decide +kernel
theorem dX12_many_1 : decode cX12_many 1 = .ok (.invokestatic 206, 3) := by decide +kernel
theorem dX12_many_4 : decode cX12_many 4 = .ok (.ifCond .ne 5, 3) := by decide +kernel
theorem dX12_many_7 : decode cX12_many 7 = .ok (.iconst (-1), 1) := by decide +kernel
theorem dX12_many_8 : decode cX12_many 8 = .ok (.ireturn, 1) := by decide +kernel
theorem dX12_many_9 : decode cX12_many 9 = .ok (.aload_n 0, 1) := by decide +kernel
theorem dX12_many_10 : decode cX12_many 10 = .ok (.iload_n 1, 1) := by decide +kernel
theorem dX12_many_11 : decode cX12_many 11 = .ok (.invokevirtual 209, 3) := by decide +kernel
theorem dX12_many_14 : decode cX12_many 14 = .ok (.lconst 0, 1) := by decide +kernel
theorem dX12_many_15 : decode cX12_many 15 = .ok (.lstore_n 2, 1) := by decide +kernel
theorem dX12_many_16 : decode cX12_many 16 = .ok (.aload_n 0, 1) := by decide +kernel
theorem dX12_many_17 : decode cX12_many 17 = .ok (.iconst 1, 1) := by decide +kernel
theorem dX12_many_18 : decode cX12_many 18 = .ok (.invokevirtual 212, 3) := by decide +kernel
theorem dX12_many_21 : decode cX12_many 21 = .ok (.istore 4, 2) := by decide +kernel
theorem dX12_many_23 : decode cX12_many 23 = .ok (.iload 4, 2) := by decide +kernel
theorem dX12_many_25 : decode cX12_many 25 = .ok (.iconst 1, 1) := by decide +kernel
theorem dX12_many_26 : decode cX12_many 26 = .ok (.if_icmp .ne 17, 3) := by decide +kernel
theorem dX12_many_29 : decode cX12_many 29 = .ok (.lload_n 2, 1) := by decide +kernel
theorem dX12_many_30 : decode cX12_many 30 = .ok (.lconst 1, 1) := by decide +kernel
theorem dX12_many_31 : decode cX12_many 31 = .ok (.ladd, 1) := by decide +kernel
theorem dX12_many_32 : decode cX12_many 32 = .ok (.lstore_n 2, 1) := by decide +kernel
theorem dX12_many_33 : decode cX12_many 33 = .ok (.aload_n 0, 1) := by decide +kernel
theorem dX12_many_34 : decode cX12_many 34 = .ok (.iconst 0, 1) := by decide +kernel
theorem dX12_many_35 : decode cX12_many 35 = .ok (.invokevirtual 212, 3) := by decide +kernel
theorem dX12_many_38 : decode cX12_many 38 = .ok (.istore 4, 2) := by decide +kernel
theorem dX12_many_40 : decode cX12_many 40 = .ok (.goto (-17), 3) := by decide +kernel
theorem dX12_many_43 : decode cX12_many 43 = .ok (.iload 4, 2) := by decide +kernel
theorem dX12_many_45 : decode cX12_many 45 = .ok (.ifCond .ge 8, 3) := by decide +kernel
theorem dX12_many_48 : decode cX12_many 48 = .ok (.iload 4, 2) := by decide +kernel
theorem dX12_many_50 : decode cX12_many 50 = .ok (.goto 9, 3) := by decide +kernel
theorem dX12_many_53 : decode cX12_many 53 = .ok (.aload_n 0, 1) := by decide +kernel
theorem dX12_many_54 : decode cX12_many 54 = .ok (.lload_n 2, 1) := by decide +kernel
theorem dX12_many_55 : decode cX12_many 55 = .ok (.iconst 1, 1) := by decide +kernel
theorem dX12_many_56 : decode cX12_many 56 = .ok (.invokevirtual 160, 3) := by decide +kernel
theorem dX12_many_59 : decode cX12_many 59 = .ok (.ireturn, 1) := by decide +kernel
theorem dX12_setBounds_0 : decode cX12_setBounds 0 = .ok (.aload_n 0, 1) := by decide +kernel
theorem dX12_setBounds_1 : decode cX12_setBounds 1 = .ok (.iload_n 1, 1) := by decide +kernel
theorem dX12_setBounds_2 : decode cX12_setBounds 2 = .ok (.invokevirtual 209, 3) := by decide +kernel
theorem dX12_setBounds_5 : decode cX12_setBounds 5 = .ok (.iconst 0, 1) := by decide +kernel
theorem dX12_setBounds_6 : decode cX12_setBounds 6 = .ok (.istore_n 2, 1) := by decide +kernel
theorem dX12_setBounds_7 : decode cX12_setBounds 7 = .ok (.iconst 0, 1) := by decide +kernel
theorem dX12_setBounds_8 : decode cX12_setBounds 8 = .ok (.istore_n 3, 1) := by decide +kernel
theorem dX12_setBounds_9 : decode cX12_setBounds 9 = .ok (.iload_n 3, 1) := by decide +kernel
theorem dX12_setBounds_10 : decode cX12_setBounds 10 = .ok (.bipush 36, 2) := by decide +kernel
theorem dX12_setBounds_12 : decode cX12_setBounds 12 = .ok (.if_icmp .ge 23, 3) := by decide +kernel
theorem dX12_setBounds_15 : decode cX12_setBounds 15 = .ok (.aload_n 0, 1) := by decide +kernel
theorem dX12_setBounds_16 : decode cX12_setBounds 16 = .ok (.getfield 81, 3) := by decide +kernel
theorem dX12_setBounds_19 : decode cX12_setBounds 19 = .ok (.iload_n 3, 1) := by decide +kernel
theorem dX12_setBounds_20 : decode cX12_setBounds 20 = .ok (.iconst 0, 1) := by decide +kernel
theorem dX12_setBounds_21 : decode cX12_setBounds 21 = .ok (.iastore, 1) := by decide +kernel
theorem dX12_setBounds_22 : decode cX12_setBounds 22 = .ok (.aload_n 0, 1) := by decide +kernel
theorem dX12_setBounds_23 : decode cX12_setBounds 23 = .ok (.getfield 84, 3) := by decide +kernel
theorem dX12_setBounds_26 : decode cX12_setBounds 26 = .ok (.iload_n 3, 1) := by decide +kernel
theorem dX12_setBounds_27 : decode cX12_setBounds 27 = .ok (.iconst 0, 1) := by decide +kernel
theorem dX12_setBounds_28 : decode cX12_setBounds 28 = .ok (.iastore, 1) := by decide +kernel
theorem dX12_setBounds_29 : decode cX12_setBounds 29 = .ok (.iinc 3 1, 3) := by decide +kernel
theorem dX12_setBounds_32 : decode cX12_setBounds 32 = .ok (.goto (-23), 3) := by decide +kernel
theorem dX12_setBounds_35 : decode cX12_setBounds 35 = .ok (.aload_n 0, 1) := by decide +kernel
theorem dX12_setBounds_36 : decode cX12_setBounds 36 = .ok (.iconst 1, 1) := by decide +kernel
theorem dX12_setBounds_37 : decode cX12_setBounds 37 = .ok (.invokevirtual 212, 3) := by decide +kernel
theorem dX12_setBounds_40 : decode cX12_setBounds 40 = .ok (.istore_n 3, 1) := by decide +kernel
theorem dX12_setBounds_41 : decode cX12_setBounds 41 = .ok (.iload_n 3, 1) := by decide +kernel
theorem dX12_setBounds_42 : decode cX12_setBounds 42 = .ok (.iconst 1, 1) := by decide +kernel
theorem dX12_setBounds_43 : decode cX12_setBounds 43 = .ok (.if_icmp .ne 127, 3) := by decide +kernel
theorem dX12_setBounds_46 : decode cX12_setBounds 46 = .ok (.iconst 0, 1) := by decide +kernel
theorem dX12_setBounds_47 : decode cX12_setBounds 47 = .ok (.istore 4, 2) := by decide +kernel
theorem dX12_setBounds_49 : decode cX12_setBounds 49 = .ok (.iload 4, 2) := by decide +kernel
theorem dX12_setBounds_51 : decode cX12_setBounds 51 = .ok (.aload_n 0, 1) := by decide +kernel
theorem dX12_setBounds_52 : decode cX12_setBounds 52 = .ok (.getfield 178, 3) := by decide +kernel
theorem dX12_setBounds_55 : decode cX12_setBounds 55 = .ok (.if_icmp .ge 104, 3) := by decide +kernel
theorem dX12_setBounds_58 : decode cX12_setBounds 58 = .ok (.aload_n 0, 1) := by decide +kernel
theorem dX12_setBounds_59 : decode cX12_setBounds 59 = .ok (.getfield 54, 3) := by decide +kernel
theorem dX12_setBounds_62 : decode cX12_setBounds 62 = .ok (.iload 4, 2) := by decide +kernel
theorem dX12_setBounds_64 : decode cX12_setBounds 64 = .ok (.iaload, 1) := by decide +kernel
theorem dX12_setBounds_65 : decode cX12_setBounds 65 = .ok (.istore 5, 2) := by decide +kernel
theorem dX12_setBounds_67 : decode cX12_setBounds 67 = .ok (.aload_n 0, 1) := by decide +kernel
theorem dX12_setBounds_68 : decode cX12_setBounds 68 = .ok (.getfield 81, 3) := by decide +kernel
theorem dX12_setBounds_71 : decode cX12_setBounds 71 = .ok (.iload 5, 2) := by decide +kernel
theorem dX12_setBounds_73 : decode cX12_setBounds 73 = .ok (.iload_n 2, 1) := by decide +kernel
theorem dX12_setBounds_74 : decode cX12_setBounds 74 = .ok (.ifCond .eq 20, 3) := by decide +kernel
theorem dX12_setBounds_77 : decode cX12_setBounds 77 = .ok (.aload_n 0, 1) := by decide +kernel
theorem dX12_setBounds_78 : decode cX12_setBounds 78 = .ok (.getfield 72, 3) := by decide +kernel
theorem dX12_setBounds_81 : decode cX12_setBounds 81 = .ok (.iload 4, 2) := by decide +kernel
theorem dX12_setBounds_83 : decode cX12_setBounds 83 = .ok (.iaload, 1) := by decide +kernel
theorem dX12_setBounds_84 : decode cX12_setBounds 84 = .ok (.aload_n 0, 1) := by decide +kernel
theorem dX12_setBounds_85 : decode cX12_setBounds 85 = .ok (.getfield 81, 3) := by decide +kernel
theorem dX12_setBounds_88 : decode cX12_setBounds 88 = .ok (.iload 5, 2) := by decide +kernel
theorem dX12_setBounds_90 : decode cX12_setBounds 90 = .ok (.iaload, 1) := by decide +kernel
theorem dX12_setBounds_91 : decode cX12_setBounds 91 = .ok (.if_icmp .ge 13, 3) := by decide +kernel
theorem dX12_setBounds_94 : decode cX12_setBounds 94 = .ok (.aload_n 0, 1) := by decide +kernel
theorem dX12_setBounds_95 : decode cX12_setBounds 95 = .ok (.getfield 72, 3) := by decide +kernel
theorem dX12_setBounds_98 : decode cX12_setBounds 98 = .ok (.iload 4, 2) := by decide +kernel
theorem dX12_setBounds_100 : decode cX12_setBounds 100 = .ok (.iaload, 1) := by decide +kernel
theorem dX12_setBounds_101 : decode cX12_setBounds 101 = .ok (.goto 10, 3) := by decide +kernel
theorem dX12_setBounds_104 : decode cX12_setBounds 104 = .ok (.aload_n 0, 1) := by decide +kernel
theorem dX12_setBounds_105 : decode cX12_setBounds 105 = .ok (.getfield 81, 3) := by decide +kernel
theorem dX12_setBounds_108 : decode cX12_setBounds 108 = .ok (.iload 5, 2) := by decide +kernel
theorem dX12_setBounds_110 : decode cX12_setBounds 110 = .ok (.iaload, 1) := by decide +kernel
theorem dX12_setBounds_111 : decode cX12_setBounds 111 = .ok (.iastore, 1) := by decide +kernel
theorem dX12_setBounds_112 : decode cX12_setBounds 112 = .ok (.aload_n 0, 1) := by decide +kernel
theorem dX12_setBounds_113 : decode cX12_setBounds 113 = .ok (.getfield 84, 3) := by decide +kernel
theorem dX12_setBounds_116 : decode cX12_setBounds 116 = .ok (.iload 5, 2) := by decide +kernel
theorem dX12_setBounds_118 : decode cX12_setBounds 118 = .ok (.aload_n 0, 1) := by decide +kernel
theorem dX12_setBounds_119 : decode cX12_setBounds 119 = .ok (.getfield 72, 3) := by decide +kernel
theorem dX12_setBounds_122 : decode cX12_setBounds 122 = .ok (.iload 4, 2) := by decide +kernel
theorem dX12_setBounds_124 : decode cX12_setBounds 124 = .ok (.iaload, 1) := by decide +kernel
theorem dX12_setBounds_125 : decode cX12_setBounds 125 = .ok (.aload_n 0, 1) := by decide +kernel
theorem dX12_setBounds_126 : decode cX12_setBounds 126 = .ok (.getfield 84, 3) := by decide +kernel
theorem dX12_setBounds_129 : decode cX12_setBounds 129 = .ok (.iload 5, 2) := by decide +kernel
theorem dX12_setBounds_131 : decode cX12_setBounds 131 = .ok (.iaload, 1) := by decide +kernel
theorem dX12_setBounds_132 : decode cX12_setBounds 132 = .ok (.if_icmp .le 13, 3) := by decide +kernel
theorem dX12_setBounds_135 : decode cX12_setBounds 135 = .ok (.aload_n 0, 1) := by decide +kernel
theorem dX12_setBounds_136 : decode cX12_setBounds 136 = .ok (.getfield 72, 3) := by decide +kernel
theorem dX12_setBounds_139 : decode cX12_setBounds 139 = .ok (.iload 4, 2) := by decide +kernel
theorem dX12_setBounds_141 : decode cX12_setBounds 141 = .ok (.iaload, 1) := by decide +kernel
theorem dX12_setBounds_142 : decode cX12_setBounds 142 = .ok (.goto 10, 3) := by decide +kernel
theorem dX12_setBounds_145 : decode cX12_setBounds 145 = .ok (.aload_n 0, 1) := by decide +kernel
theorem dX12_setBounds_146 : decode cX12_setBounds 146 = .ok (.getfield 84, 3) := by decide +kernel
theorem dX12_setBounds_149 : decode cX12_setBounds 149 = .ok (.iload 5, 2) := by decide +kernel
theorem dX12_setBounds_151 : decode cX12_setBounds 151 = .ok (.iaload, 1) := by decide +kernel
theorem dX12_setBounds_152 : decode cX12_setBounds 152 = .ok (.iastore, 1) := by decide +kernel
theorem dX12_setBounds_153 : decode cX12_setBounds 153 = .ok (.iinc 4 1, 3) := by decide +kernel
theorem dX12_setBounds_156 : decode cX12_setBounds 156 = .ok (.goto (-107), 3) := by decide +kernel
theorem dX12_setBounds_159 : decode cX12_setBounds 159 = .ok (.iconst 1, 1) := by decide +kernel
theorem dX12_setBounds_160 : decode cX12_setBounds 160 = .ok (.istore_n 2, 1) := by decide +kernel
theorem dX12_setBounds_161 : decode cX12_setBounds 161 = .ok (.aload_n 0, 1) := by decide +kernel
theorem dX12_setBounds_162 : decode cX12_setBounds 162 = .ok (.iconst 0, 1) := by decide +kernel
theorem dX12_setBounds_163 : decode cX12_setBounds 163 = .ok (.invokevirtual 212, 3) := by decide +kernel
theorem dX12_setBounds_166 : decode cX12_setBounds 166 = .ok (.istore_n 3, 1) := by decide +kernel
theorem dX12_setBounds_167 : decode cX12_setBounds 167 = .ok (.goto (-126), 3) := by decide +kernel
theorem dX12_setBounds_170 : decode cX12_setBounds 170 = .ok (.iload_n 3, 1) := by decide +kernel
theorem dX12_setBounds_171 : decode cX12_setBounds 171 = .ok (.ifCond .ge 7, 3) := by decide +kernel
theorem dX12_setBounds_174 : decode cX12_setBounds 174 = .ok (.iload_n 3, 1) := by decide +kernel
theorem dX12_setBounds_175 : decode cX12_setBounds 175 = .ok (.goto 4, 3) := by decide +kernel
theorem dX12_setBounds_178 : decode cX12_setBounds 178 = .ok (.iload_n 2, 1) := by decide +kernel
theorem dX12_setBounds_179 : decode cX12_setBounds 179 = .ok (.ireturn, 1) := by decide +kernel
theorem dX12_bound_0 : decode cX12_bound 0 = .ok (.aload_n 0, 1) := by decide +kernel
theorem dX12_bound_1 : decode cX12_bound 1 = .ok (.iload_n 1, 1) := by decide +kernel
theorem dX12_bound_2 : decode cX12_bound 2 = .ok (.iload_n 2, 1) := by decide +kernel
theorem dX12_bound_3 : decode cX12_bound 3 = .ok (.invokevirtual 174, 3) := by decide +kernel
theorem dX12_bound_6 : decode cX12_bound 6 = .ok (.ifCond .eq 11, 3) := by decide +kernel
theorem dX12_bound_9 : decode cX12_bound 9 = .ok (.iload 4, 2) := by decide +kernel
theorem dX12_bound_11 : decode cX12_bound 11 = .ok (.invokestatic 206, 3) := by decide +kernel
theorem dX12_bound_14 : decode cX12_bound 14 = .ok (.ifCond .ne 5, 3) := by decide +kernel
theorem dX12_bound_17 : decode cX12_bound 17 = .ok (.iconst (-1), 1) := by decide +kernel
theorem dX12_bound_18 : decode cX12_bound 18 = .ok (.ireturn, 1) := by decide +kernel
theorem dX12_bound_19 : decode cX12_bound 19 = .ok (.aload_n 0, 1) := by decide +kernel
theorem dX12_bound_20 : decode cX12_bound 20 = .ok (.iload 4, 2) := by decide +kernel
theorem dX12_bound_22 : decode cX12_bound 22 = .ok (.invokevirtual 219, 3) := by decide +kernel
theorem dX12_bound_25 : decode cX12_bound 25 = .ok (.istore 5, 2) := by decide +kernel
theorem dX12_bound_27 : decode cX12_bound 27 = .ok (.iload 5, 2) := by decide +kernel
theorem dX12_bound_29 : decode cX12_bound 29 = .ok (.ifCond .ge 8, 3) := by decide +kernel
theorem dX12_bound_32 : decode cX12_bound 32 = .ok (.iload 5, 2) := by decide +kernel
theorem dX12_bound_34 : decode cX12_bound 34 = .ok (.goto 46, 3) := by decide +kernel
theorem dX12_bound_37 : decode cX12_bound 37 = .ok (.iload 5, 2) := by decide +kernel
theorem dX12_bound_39 : decode cX12_bound 39 = .ok (.ifCond .ne 8, 3) := by decide +kernel
theorem dX12_bound_42 : decode cX12_bound 42 = .ok (.bipush (-9), 2) := by decide +kernel
theorem dX12_bound_44 : decode cX12_bound 44 = .ok (.goto 36, 3) := by decide +kernel
theorem dX12_bound_47 : decode cX12_bound 47 = .ok (.iload_n 3, 1) := by decide +kernel
theorem dX12_bound_48 : decode cX12_bound 48 = .ok (.ifCond .eq 19, 3) := by decide +kernel
theorem dX12_bound_51 : decode cX12_bound 51 = .ok (.aload_n 0, 1) := by decide +kernel
theorem dX12_bound_52 : decode cX12_bound 52 = .ok (.getfield 84, 3) := by decide +kernel
theorem dX12_bound_55 : decode cX12_bound 55 = .ok (.aload_n 0, 1) := by decide +kernel
theorem dX12_bound_56 : decode cX12_bound 56 = .ok (.getfield 13, 3) := by decide +kernel
theorem dX12_bound_59 : decode cX12_bound 59 = .ok (.iload_n 1, 1) := by decide +kernel
theorem dX12_bound_60 : decode cX12_bound 60 = .ok (.imul, 1) := by decide +kernel
theorem dX12_bound_61 : decode cX12_bound 61 = .ok (.iload_n 2, 1) := by decide +kernel
theorem dX12_bound_62 : decode cX12_bound 62 = .ok (.iadd, 1) := by decide +kernel
theorem dX12_bound_63 : decode cX12_bound 63 = .ok (.iaload, 1) := by decide +kernel
theorem dX12_bound_64 : decode cX12_bound 64 = .ok (.goto 16, 3) := by decide +kernel
theorem dX12_bound_67 : decode cX12_bound 67 = .ok (.aload_n 0, 1) := by decide +kernel
theorem dX12_bound_68 : decode cX12_bound 68 = .ok (.getfield 81, 3) := by decide +kernel
theorem dX12_bound_71 : decode cX12_bound 71 = .ok (.aload_n 0, 1) := by decide +kernel
theorem dX12_bound_72 : decode cX12_bound 72 = .ok (.getfield 13, 3) := by decide +kernel
theorem dX12_bound_75 : decode cX12_bound 75 = .ok (.iload_n 1, 1) := by decide +kernel
theorem dX12_bound_76 : decode cX12_bound 76 = .ok (.imul, 1) := by decide +kernel
theorem dX12_bound_77 : decode cX12_bound 77 = .ok (.iload_n 2, 1) := by decide +kernel
theorem dX12_bound_78 : decode cX12_bound 78 = .ok (.iadd, 1) := by decide +kernel
theorem dX12_bound_79 : decode cX12_bound 79 = .ok (.iaload, 1) := by decide +kernel
theorem dX12_bound_80 : decode cX12_bound 80 = .ok (.ireturn, 1) := by decide +kernel
theorem dX12_sure_0 : decode cX12_sure 0 = .ok (.iload_n 1, 1) := by decide +kernel
theorem dX12_sure_1 : decode cX12_sure 1 = .ok (.invokestatic 206, 3) := by decide +kernel
theorem dX12_sure_4 : decode cX12_sure 4 = .ok (.ifCond .ne 5, 3) := by decide +kernel
theorem dX12_sure_7 : decode cX12_sure 7 = .ok (.iconst (-1), 1) := by decide +kernel
theorem dX12_sure_8 : decode cX12_sure 8 = .ok (.ireturn, 1) := by decide +kernel
theorem dX12_sure_9 : decode cX12_sure 9 = .ok (.aload_n 0, 1) := by decide +kernel
theorem dX12_sure_10 : decode cX12_sure 10 = .ok (.iload_n 1, 1) := by decide +kernel
theorem dX12_sure_11 : decode cX12_sure 11 = .ok (.invokevirtual 219, 3) := by decide +kernel
theorem dX12_sure_14 : decode cX12_sure 14 = .ok (.istore_n 2, 1) := by decide +kernel
theorem dX12_sure_15 : decode cX12_sure 15 = .ok (.iload_n 2, 1) := by decide +kernel
theorem dX12_sure_16 : decode cX12_sure 16 = .ok (.iconst 1, 1) := by decide +kernel
theorem dX12_sure_17 : decode cX12_sure 17 = .ok (.if_icmp .ge 14, 3) := by decide +kernel
theorem dX12_sure_20 : decode cX12_sure 20 = .ok (.iload_n 2, 1) := by decide +kernel
theorem dX12_sure_21 : decode cX12_sure 21 = .ok (.ifCond .ge 7, 3) := by decide +kernel
theorem dX12_sure_24 : decode cX12_sure 24 = .ok (.iload_n 2, 1) := by decide +kernel
theorem dX12_sure_25 : decode cX12_sure 25 = .ok (.goto 5, 3) := by decide +kernel
theorem dX12_sure_28 : decode cX12_sure 28 = .ok (.bipush (-9), 2) := by decide +kernel
theorem dX12_sure_30 : decode cX12_sure 30 = .ok (.ireturn, 1) := by decide +kernel
theorem dX12_sure_31 : decode cX12_sure 31 = .ok (.iconst 0, 1) := by decide +kernel
theorem dX12_sure_32 : decode cX12_sure 32 = .ok (.istore_n 3, 1) := by decide +kernel
theorem dX12_sure_33 : decode cX12_sure 33 = .ok (.iconst 0, 1) := by decide +kernel
theorem dX12_sure_34 : decode cX12_sure 34 = .ok (.istore 4, 2) := by decide +kernel
theorem dX12_sure_36 : decode cX12_sure 36 = .ok (.iload 4, 2) := by decide +kernel
theorem dX12_sure_38 : decode cX12_sure 38 = .ok (.aload_n 0, 1) := by decide +kernel
theorem dX12_sure_39 : decode cX12_sure 39 = .ok (.getfield 13, 3) := by decide +kernel
theorem dX12_sure_42 : decode cX12_sure 42 = .ok (.aload_n 0, 1) := by decide +kernel
theorem dX12_sure_43 : decode cX12_sure 43 = .ok (.getfield 13, 3) := by decide +kernel
theorem dX12_sure_46 : decode cX12_sure 46 = .ok (.imul, 1) := by decide +kernel
theorem dX12_sure_47 : decode cX12_sure 47 = .ok (.if_icmp .ge 44, 3) := by decide +kernel
theorem dX12_sure_50 : decode cX12_sure 50 = .ok (.iload_n 3, 1) := by decide +kernel
theorem dX12_sure_51 : decode cX12_sure 51 = .ok (.aload_n 0, 1) := by decide +kernel
theorem dX12_sure_52 : decode cX12_sure 52 = .ok (.getfield 57, 3) := by decide +kernel
theorem dX12_sure_55 : decode cX12_sure 55 = .ok (.iload 4, 2) := by decide +kernel
theorem dX12_sure_57 : decode cX12_sure 57 = .ok (.iaload, 1) := by decide +kernel
theorem dX12_sure_58 : decode cX12_sure 58 = .ok (.ifCond .lt 24, 3) := by decide +kernel
theorem dX12_sure_61 : decode cX12_sure 61 = .ok (.aload_n 0, 1) := by decide +kernel
theorem dX12_sure_62 : decode cX12_sure 62 = .ok (.getfield 81, 3) := by decide +kernel
theorem dX12_sure_65 : decode cX12_sure 65 = .ok (.iload 4, 2) := by decide +kernel
theorem dX12_sure_67 : decode cX12_sure 67 = .ok (.iaload, 1) := by decide +kernel
theorem dX12_sure_68 : decode cX12_sure 68 = .ok (.aload_n 0, 1) := by decide +kernel
theorem dX12_sure_69 : decode cX12_sure 69 = .ok (.getfield 84, 3) := by decide +kernel
theorem dX12_sure_72 : decode cX12_sure 72 = .ok (.iload 4, 2) := by decide +kernel
theorem dX12_sure_74 : decode cX12_sure 74 = .ok (.iaload, 1) := by decide +kernel
theorem dX12_sure_75 : decode cX12_sure 75 = .ok (.if_icmp .ne 7, 3) := by decide +kernel
theorem dX12_sure_78 : decode cX12_sure 78 = .ok (.iconst 1, 1) := by decide +kernel
theorem dX12_sure_79 : decode cX12_sure 79 = .ok (.goto 4, 3) := by decide +kernel
theorem dX12_sure_82 : decode cX12_sure 82 = .ok (.iconst 0, 1) := by decide +kernel
theorem dX12_sure_83 : decode cX12_sure 83 = .ok (.iadd, 1) := by decide +kernel
theorem dX12_sure_84 : decode cX12_sure 84 = .ok (.istore_n 3, 1) := by decide +kernel
theorem dX12_sure_85 : decode cX12_sure 85 = .ok (.iinc 4 1, 3) := by decide +kernel
theorem dX12_sure_88 : decode cX12_sure 88 = .ok (.goto (-52), 3) := by decide +kernel
theorem dX12_sure_91 : decode cX12_sure 91 = .ok (.iload_n 3, 1) := by decide +kernel
theorem dX12_sure_92 : decode cX12_sure 92 = .ok (.ireturn, 1) := by decide +kernel
theorem dX12_tries_0 : decode cX12_tries 0 = .ok (.aload_n 0, 1) := by decide +kernel
theorem dX12_tries_1 : decode cX12_tries 1 = .ok (.getfield 197, 3) := by decide +kernel
theorem dX12_tries_4 : decode cX12_tries 4 = .ok (.ireturn, 1) := by decide +kernel
theorem dX12_changes_0 : decode cX12_changes 0 = .ok (.iconst 0, 1) := by decide +kernel
theorem dX12_changes_1 : decode cX12_changes 1 = .ok (.istore_n 1, 1) := by decide +kernel
theorem dX12_changes_2 : decode cX12_changes 2 = .ok (.iconst 0, 1) := by decide +kernel
theorem dX12_changes_3 : decode cX12_changes 3 = .ok (.istore_n 2, 1) := by decide +kernel
theorem dX12_changes_4 : decode cX12_changes 4 = .ok (.iload_n 2, 1) := by decide +kernel
theorem dX12_changes_5 : decode cX12_changes 5 = .ok (.aload_n 0, 1) := by decide +kernel
theorem dX12_changes_6 : decode cX12_changes 6 = .ok (.getfield 13, 3) := by decide +kernel
theorem dX12_changes_9 : decode cX12_changes 9 = .ok (.aload_n 0, 1) := by decide +kernel
theorem dX12_changes_10 : decode cX12_changes 10 = .ok (.getfield 13, 3) := by decide +kernel
theorem dX12_changes_13 : decode cX12_changes 13 = .ok (.imul, 1) := by decide +kernel
theorem dX12_changes_14 : decode cX12_changes 14 = .ok (.if_icmp .ge 26, 3) := by decide +kernel
theorem dX12_changes_17 : decode cX12_changes 17 = .ok (.iload_n 1, 1) := by decide +kernel
theorem dX12_changes_18 : decode cX12_changes 18 = .ok (.aload_n 0, 1) := by decide +kernel
theorem dX12_changes_19 : decode cX12_changes 19 = .ok (.getfield 42, 3) := by decide +kernel
theorem dX12_changes_22 : decode cX12_changes 22 = .ok (.iload_n 2, 1) := by decide +kernel
theorem dX12_changes_23 : decode cX12_changes 23 = .ok (.iaload, 1) := by decide +kernel
theorem dX12_changes_24 : decode cX12_changes 24 = .ok (.ifCond .eq 7, 3) := by decide +kernel
theorem dX12_changes_27 : decode cX12_changes 27 = .ok (.iconst 1, 1) := by decide +kernel
theorem dX12_changes_28 : decode cX12_changes 28 = .ok (.goto 4, 3) := by decide +kernel
theorem dX12_changes_31 : decode cX12_changes 31 = .ok (.iconst 0, 1) := by decide +kernel
theorem dX12_changes_32 : decode cX12_changes 32 = .ok (.iadd, 1) := by decide +kernel
theorem dX12_changes_33 : decode cX12_changes 33 = .ok (.istore_n 1, 1) := by decide +kernel
theorem dX12_changes_34 : decode cX12_changes 34 = .ok (.iinc 2 1, 3) := by decide +kernel
theorem dX12_changes_37 : decode cX12_changes 37 = .ok (.goto (-33), 3) := by decide +kernel
theorem dX12_changes_40 : decode cX12_changes 40 = .ok (.iconst 0, 1) := by decide +kernel
theorem dX12_changes_41 : decode cX12_changes 41 = .ok (.istore_n 2, 1) := by decide +kernel
theorem dX12_changes_42 : decode cX12_changes 42 = .ok (.iload_n 2, 1) := by decide +kernel
theorem dX12_changes_43 : decode cX12_changes 43 = .ok (.aload_n 0, 1) := by decide +kernel
theorem dX12_changes_44 : decode cX12_changes 44 = .ok (.getfield 178, 3) := by decide +kernel
theorem dX12_changes_47 : decode cX12_changes 47 = .ok (.if_icmp .ge 49, 3) := by decide +kernel
theorem dX12_changes_50 : decode cX12_changes 50 = .ok (.aload_n 0, 1) := by decide +kernel
theorem dX12_changes_51 : decode cX12_changes 51 = .ok (.getfield 42, 3) := by decide +kernel
theorem dX12_changes_54 : decode cX12_changes 54 = .ok (.aload_n 0, 1) := by decide +kernel
theorem dX12_changes_55 : decode cX12_changes 55 = .ok (.getfield 54, 3) := by decide +kernel
theorem dX12_changes_58 : decode cX12_changes 58 = .ok (.iload_n 2, 1) := by decide +kernel
theorem dX12_changes_59 : decode cX12_changes 59 = .ok (.iaload, 1) := by decide +kernel
theorem dX12_changes_60 : decode cX12_changes 60 = .ok (.iaload, 1) := by decide +kernel
theorem dX12_changes_61 : decode cX12_changes 61 = .ok (.istore_n 3, 1) := by decide +kernel
theorem dX12_changes_62 : decode cX12_changes 62 = .ok (.iload_n 1, 1) := by decide +kernel
theorem dX12_changes_63 : decode cX12_changes 63 = .ok (.aload_n 0, 1) := by decide +kernel
theorem dX12_changes_64 : decode cX12_changes 64 = .ok (.getfield 72, 3) := by decide +kernel
theorem dX12_changes_67 : decode cX12_changes 67 = .ok (.iload_n 2, 1) := by decide +kernel
theorem dX12_changes_68 : decode cX12_changes 68 = .ok (.iaload, 1) := by decide +kernel
theorem dX12_changes_69 : decode cX12_changes 69 = .ok (.iload_n 3, 1) := by decide +kernel
theorem dX12_changes_70 : decode cX12_changes 70 = .ok (.if_icmp .eq 7, 3) := by decide +kernel
theorem dX12_changes_73 : decode cX12_changes 73 = .ok (.iconst 1, 1) := by decide +kernel
theorem dX12_changes_74 : decode cX12_changes 74 = .ok (.goto 4, 3) := by decide +kernel
theorem dX12_changes_77 : decode cX12_changes 77 = .ok (.iconst 0, 1) := by decide +kernel
theorem dX12_changes_78 : decode cX12_changes 78 = .ok (.iload_n 3, 1) := by decide +kernel
theorem dX12_changes_79 : decode cX12_changes 79 = .ok (.ifCond .eq 7, 3) := by decide +kernel
theorem dX12_changes_82 : decode cX12_changes 82 = .ok (.iconst 1, 1) := by decide +kernel
theorem dX12_changes_83 : decode cX12_changes 83 = .ok (.goto 4, 3) := by decide +kernel
theorem dX12_changes_86 : decode cX12_changes 86 = .ok (.iconst 0, 1) := by decide +kernel
theorem dX12_changes_87 : decode cX12_changes 87 = .ok (.isub, 1) := by decide +kernel
theorem dX12_changes_88 : decode cX12_changes 88 = .ok (.iadd, 1) := by decide +kernel
theorem dX12_changes_89 : decode cX12_changes 89 = .ok (.istore_n 1, 1) := by decide +kernel
theorem dX12_changes_90 : decode cX12_changes 90 = .ok (.iinc 2 1, 3) := by decide +kernel
theorem dX12_changes_93 : decode cX12_changes 93 = .ok (.goto (-51), 3) := by decide +kernel
theorem dX12_changes_96 : decode cX12_changes 96 = .ok (.iload_n 1, 1) := by decide +kernel
theorem dX12_changes_97 : decode cX12_changes 97 = .ok (.ireturn, 1) := by decide +kernel
theorem dX12_changed_0 : decode cX12_changed 0 = .ok (.iload_n 1, 1) := by decide +kernel
theorem dX12_changed_1 : decode cX12_changed 1 = .ok (.invokestatic 206, 3) := by decide +kernel
theorem dX12_changed_4 : decode cX12_changed 4 = .ok (.ifCond .ne 5, 3) := by decide +kernel
theorem dX12_changed_7 : decode cX12_changed 7 = .ok (.iconst (-1), 1) := by decide +kernel
theorem dX12_changed_8 : decode cX12_changed 8 = .ok (.ireturn, 1) := by decide +kernel
theorem dX12_changed_9 : decode cX12_changed 9 = .ok (.aload_n 0, 1) := by decide +kernel
theorem dX12_changed_10 : decode cX12_changed 10 = .ok (.iconst 0, 1) := by decide +kernel
theorem dX12_changed_11 : decode cX12_changed 11 = .ok (.putfield 118, 3) := by decide +kernel
theorem dX12_changed_14 : decode cX12_changed 14 = .ok (.aload_n 0, 1) := by decide +kernel
theorem dX12_changed_15 : decode cX12_changed 15 = .ok (.iload_n 1, 1) := by decide +kernel
theorem dX12_changed_16 : decode cX12_changed 16 = .ok (.invokevirtual 209, 3) := by decide +kernel
theorem dX12_changed_19 : decode cX12_changed 19 = .ok (.bipush (-9), 2) := by decide +kernel
theorem dX12_changed_21 : decode cX12_changed 21 = .ok (.istore_n 2, 1) := by decide +kernel
theorem dX12_changed_22 : decode cX12_changed 22 = .ok (.aload_n 0, 1) := by decide +kernel
theorem dX12_changed_23 : decode cX12_changed 23 = .ok (.iconst 1, 1) := by decide +kernel
theorem dX12_changed_24 : decode cX12_changed 24 = .ok (.invokevirtual 212, 3) := by decide +kernel
theorem dX12_changed_27 : decode cX12_changed 27 = .ok (.istore_n 3, 1) := by decide +kernel
theorem dX12_changed_28 : decode cX12_changed 28 = .ok (.iload_n 3, 1) := by decide +kernel
theorem dX12_changed_29 : decode cX12_changed 29 = .ok (.iconst 1, 1) := by decide +kernel
theorem dX12_changed_30 : decode cX12_changed 30 = .ok (.if_icmp .ne 35, 3) := by decide +kernel
theorem dX12_changed_33 : decode cX12_changed 33 = .ok (.aload_n 0, 1) := by decide +kernel
theorem dX12_changed_34 : decode cX12_changed 34 = .ok (.invokevirtual 222, 3) := by decide +kernel
theorem dX12_changed_37 : decode cX12_changed 37 = .ok (.istore 4, 2) := by decide +kernel
theorem dX12_changed_39 : decode cX12_changed 39 = .ok (.iload_n 2, 1) := by decide +kernel
theorem dX12_changed_40 : decode cX12_changed 40 = .ok (.ifCond .lt 9, 3) := by decide +kernel
theorem dX12_changed_43 : decode cX12_changed 43 = .ok (.iload 4, 2) := by decide +kernel
theorem dX12_changed_45 : decode cX12_changed 45 = .ok (.iload_n 2, 1) := by decide +kernel
theorem dX12_changed_46 : decode cX12_changed 46 = .ok (.if_icmp .ge 10, 3) := by decide +kernel
theorem dX12_changed_49 : decode cX12_changed 49 = .ok (.iload 4, 2) := by decide +kernel
theorem dX12_changed_51 : decode cX12_changed 51 = .ok (.istore_n 2, 1) := by decide +kernel
theorem dX12_changed_52 : decode cX12_changed 52 = .ok (.aload_n 0, 1) := by decide +kernel
theorem dX12_changed_53 : decode cX12_changed 53 = .ok (.invokevirtual 216, 3) := by decide +kernel
theorem dX12_changed_56 : decode cX12_changed 56 = .ok (.aload_n 0, 1) := by decide +kernel
theorem dX12_changed_57 : decode cX12_changed 57 = .ok (.iconst 0, 1) := by decide +kernel
theorem dX12_changed_58 : decode cX12_changed 58 = .ok (.invokevirtual 212, 3) := by decide +kernel
theorem dX12_changed_61 : decode cX12_changed 61 = .ok (.istore_n 3, 1) := by decide +kernel
theorem dX12_changed_62 : decode cX12_changed 62 = .ok (.goto (-34), 3) := by decide +kernel
theorem dX12_changed_65 : decode cX12_changed 65 = .ok (.aload_n 0, 1) := by decide +kernel
theorem dX12_changed_66 : decode cX12_changed 66 = .ok (.aload_n 0, 1) := by decide +kernel
theorem dX12_changed_67 : decode cX12_changed 67 = .ok (.getfield 118, 3) := by decide +kernel
theorem dX12_changed_70 : decode cX12_changed 70 = .ok (.ifCond .eq 11, 3) := by decide +kernel
theorem dX12_changed_73 : decode cX12_changed 73 = .ok (.iload_n 3, 1) := by decide +kernel
theorem dX12_changed_74 : decode cX12_changed 74 = .ok (.ifCond .ne 7, 3) := by decide +kernel
theorem dX12_changed_77 : decode cX12_changed 77 = .ok (.iconst 1, 1) := by decide +kernel
theorem dX12_changed_78 : decode cX12_changed 78 = .ok (.goto 4, 3) := by decide +kernel
theorem dX12_changed_81 : decode cX12_changed 81 = .ok (.iconst 0, 1) := by decide +kernel
theorem dX12_changed_82 : decode cX12_changed 82 = .ok (.putfield 118, 3) := by decide +kernel
theorem dX12_changed_85 : decode cX12_changed 85 = .ok (.iload_n 3, 1) := by decide +kernel
theorem dX12_changed_86 : decode cX12_changed 86 = .ok (.ifCond .ge 7, 3) := by decide +kernel
theorem dX12_changed_89 : decode cX12_changed 89 = .ok (.iload_n 3, 1) := by decide +kernel
theorem dX12_changed_90 : decode cX12_changed 90 = .ok (.goto 4, 3) := by decide +kernel
theorem dX12_changed_93 : decode cX12_changed 93 = .ok (.iload_n 2, 1) := by decide +kernel
theorem dX12_changed_94 : decode cX12_changed 94 = .ok (.ireturn, 1) := by decide +kernel
theorem dX12_worst_0 : decode cX12_worst 0 = .ok (.aload_n 0, 1) := by decide +kernel
theorem dX12_worst_1 : decode cX12_worst 1 = .ok (.iload_n 1, 1) := by decide +kernel
theorem dX12_worst_2 : decode cX12_worst 2 = .ok (.invokevirtual 130, 3) := by decide +kernel
theorem dX12_worst_5 : decode cX12_worst 5 = .ok (.ifCond .eq 23, 3) := by decide +kernel
theorem dX12_worst_8 : decode cX12_worst 8 = .ok (.aload_n 0, 1) := by decide +kernel
theorem dX12_worst_9 : decode cX12_worst 9 = .ok (.iload_n 2, 1) := by decide +kernel
theorem dX12_worst_10 : decode cX12_worst 10 = .ok (.invokevirtual 130, 3) := by decide +kernel
theorem dX12_worst_13 : decode cX12_worst 13 = .ok (.ifCond .eq 15, 3) := by decide +kernel
theorem dX12_worst_16 : decode cX12_worst 16 = .ok (.iload_n 1, 1) := by decide +kernel
theorem dX12_worst_17 : decode cX12_worst 17 = .ok (.iload_n 2, 1) := by decide +kernel
theorem dX12_worst_18 : decode cX12_worst 18 = .ok (.if_icmp .eq 10, 3) := by decide +kernel
theorem dX12_worst_21 : decode cX12_worst 21 = .ok (.iload_n 3, 1) := by decide +kernel
theorem dX12_worst_22 : decode cX12_worst 22 = .ok (.invokestatic 206, 3) := by decide +kernel
theorem dX12_worst_25 : decode cX12_worst 25 = .ok (.ifCond .ne 5, 3) := by decide +kernel
theorem dX12_worst_28 : decode cX12_worst 28 = .ok (.iconst (-1), 1) := by decide +kernel
theorem dX12_worst_29 : decode cX12_worst 29 = .ok (.ireturn, 1) := by decide +kernel
theorem dX12_worst_30 : decode cX12_worst 30 = .ok (.aload_n 0, 1) := by decide +kernel
theorem dX12_worst_31 : decode cX12_worst 31 = .ok (.getfield 26, 3) := by decide +kernel
theorem dX12_worst_34 : decode cX12_worst 34 = .ok (.iload_n 1, 1) := by decide +kernel
theorem dX12_worst_35 : decode cX12_worst 35 = .ok (.baload, 1) := by decide +kernel
theorem dX12_worst_36 : decode cX12_worst 36 = .ok (.ifCond .ne 12, 3) := by decide +kernel
theorem dX12_worst_39 : decode cX12_worst 39 = .ok (.aload_n 0, 1) := by decide +kernel
theorem dX12_worst_40 : decode cX12_worst 40 = .ok (.getfield 26, 3) := by decide +kernel
theorem dX12_worst_43 : decode cX12_worst 43 = .ok (.iload_n 2, 1) := by decide +kernel
theorem dX12_worst_44 : decode cX12_worst 44 = .ok (.baload, 1) := by decide +kernel
theorem dX12_worst_45 : decode cX12_worst 45 = .ok (.ifCond .eq 6, 3) := by decide +kernel
theorem dX12_worst_48 : decode cX12_worst 48 = .ok (.bipush (-4), 2) := by decide +kernel
theorem dX12_worst_50 : decode cX12_worst 50 = .ok (.ireturn, 1) := by decide +kernel
theorem dX12_worst_51 : decode cX12_worst 51 = .ok (.aload_n 0, 1) := by decide +kernel
theorem dX12_worst_52 : decode cX12_worst 52 = .ok (.iconst 0, 1) := by decide +kernel
theorem dX12_worst_53 : decode cX12_worst 53 = .ok (.putfield 118, 3) := by decide +kernel
theorem dX12_worst_56 : decode cX12_worst 56 = .ok (.aload_n 0, 1) := by decide +kernel
theorem dX12_worst_57 : decode cX12_worst 57 = .ok (.iload_n 2, 1) := by decide +kernel
theorem dX12_worst_58 : decode cX12_worst 58 = .ok (.invokevirtual 148, 3) := by decide +kernel
theorem dX12_worst_61 : decode cX12_worst 61 = .ok (.iconst 0, 1) := by decide +kernel
theorem dX12_worst_62 : decode cX12_worst 62 = .ok (.istore 4, 2) := by decide +kernel
theorem dX12_worst_64 : decode cX12_worst 64 = .ok (.iload 4, 2) := by decide +kernel
theorem dX12_worst_66 : decode cX12_worst 66 = .ok (.bipush 36, 2) := by decide +kernel
theorem dX12_worst_68 : decode cX12_worst 68 = .ok (.if_icmp .ge 55, 3) := by decide +kernel
theorem dX12_worst_71 : decode cX12_worst 71 = .ok (.aload_n 0, 1) := by decide +kernel
theorem dX12_worst_72 : decode cX12_worst 72 = .ok (.getfield 87, 3) := by decide +kernel
theorem dX12_worst_75 : decode cX12_worst 75 = .ok (.iload 4, 2) := by decide +kernel
theorem dX12_worst_77 : decode cX12_worst 77 = .ok (.iload 4, 2) := by decide +kernel
theorem dX12_worst_79 : decode cX12_worst 79 = .ok (.aload_n 0, 1) := by decide +kernel
theorem dX12_worst_80 : decode cX12_worst 80 = .ok (.getfield 13, 3) := by decide +kernel
theorem dX12_worst_83 : decode cX12_worst 83 = .ok (.aload_n 0, 1) := by decide +kernel
theorem dX12_worst_84 : decode cX12_worst 84 = .ok (.getfield 13, 3) := by decide +kernel
theorem dX12_worst_87 : decode cX12_worst 87 = .ok (.imul, 1) := by decide +kernel
theorem dX12_worst_88 : decode cX12_worst 88 = .ok (.if_icmp .ge 27, 3) := by decide +kernel
theorem dX12_worst_91 : decode cX12_worst 91 = .ok (.aload_n 0, 1) := by decide +kernel
theorem dX12_worst_92 : decode cX12_worst 92 = .ok (.getfield 48, 3) := by decide +kernel
theorem dX12_worst_95 : decode cX12_worst 95 = .ok (.iload 4, 2) := by decide +kernel
theorem dX12_worst_97 : decode cX12_worst 97 = .ok (.iaload, 1) := by decide +kernel
theorem dX12_worst_98 : decode cX12_worst 98 = .ok (.ifCond .lt 17, 3) := by decide +kernel
theorem dX12_worst_101 : decode cX12_worst 101 = .ok (.aload_n 0, 1) := by decide +kernel
theorem dX12_worst_102 : decode cX12_worst 102 = .ok (.getfield 48, 3) := by decide +kernel
theorem dX12_worst_105 : decode cX12_worst 105 = .ok (.iload 4, 2) := by decide +kernel
theorem dX12_worst_107 : decode cX12_worst 107 = .ok (.iaload, 1) := by decide +kernel
theorem dX12_worst_108 : decode cX12_worst 108 = .ok (.iload_n 1, 1) := by decide +kernel
theorem dX12_worst_109 : decode cX12_worst 109 = .ok (.ishr, 1) := by decide +kernel
theorem dX12_worst_110 : decode cX12_worst 110 = .ok (.iconst 1, 1) := by decide +kernel
theorem dX12_worst_111 : decode cX12_worst 111 = .ok (.iand, 1) := by decide +kernel
theorem dX12_worst_112 : decode cX12_worst 112 = .ok (.goto 4, 3) := by decide +kernel
theorem dX12_worst_115 : decode cX12_worst 115 = .ok (.iconst 0, 1) := by decide +kernel
theorem dX12_worst_116 : decode cX12_worst 116 = .ok (.iastore, 1) := by decide +kernel
theorem dX12_worst_117 : decode cX12_worst 117 = .ok (.iinc 4 1, 3) := by decide +kernel
theorem dX12_worst_120 : decode cX12_worst 120 = .ok (.goto (-56), 3) := by decide +kernel
theorem dX12_worst_123 : decode cX12_worst 123 = .ok (.aload_n 0, 1) := by decide +kernel
theorem dX12_worst_124 : decode cX12_worst 124 = .ok (.iload_n 3, 1) := by decide +kernel
theorem dX12_worst_125 : decode cX12_worst 125 = .ok (.invokevirtual 209, 3) := by decide +kernel
theorem dX12_worst_128 : decode cX12_worst 128 = .ok (.bipush (-9), 2) := by decide +kernel
theorem dX12_worst_130 : decode cX12_worst 130 = .ok (.istore 4, 2) := by decide +kernel
theorem dX12_worst_132 : decode cX12_worst 132 = .ok (.aload_n 0, 1) := by decide +kernel
theorem dX12_worst_133 : decode cX12_worst 133 = .ok (.iconst 1, 1) := by decide +kernel
theorem dX12_worst_134 : decode cX12_worst 134 = .ok (.invokevirtual 212, 3) := by decide +kernel
theorem dX12_worst_137 : decode cX12_worst 137 = .ok (.istore 5, 2) := by decide +kernel
theorem dX12_worst_139 : decode cX12_worst 139 = .ok (.iload 5, 2) := by decide +kernel
theorem dX12_worst_141 : decode cX12_worst 141 = .ok (.iconst 1, 1) := by decide +kernel
theorem dX12_worst_142 : decode cX12_worst 142 = .ok (.if_icmp .ne 74, 3) := by decide +kernel
theorem dX12_worst_145 : decode cX12_worst 145 = .ok (.iconst 0, 1) := by decide +kernel
theorem dX12_worst_146 : decode cX12_worst 146 = .ok (.istore 6, 2) := by decide +kernel
theorem dX12_worst_148 : decode cX12_worst 148 = .ok (.iconst 0, 1) := by decide +kernel
theorem dX12_worst_149 : decode cX12_worst 149 = .ok (.istore 7, 2) := by decide +kernel
theorem dX12_worst_151 : decode cX12_worst 151 = .ok (.iload 7, 2) := by decide +kernel
theorem dX12_worst_153 : decode cX12_worst 153 = .ok (.aload_n 0, 1) := by decide +kernel
theorem dX12_worst_154 : decode cX12_worst 154 = .ok (.getfield 178, 3) := by decide +kernel
theorem dX12_worst_157 : decode cX12_worst 157 = .ok (.if_icmp .ge 34, 3) := by decide +kernel
theorem dX12_worst_160 : decode cX12_worst 160 = .ok (.iload 6, 2) := by decide +kernel
theorem dX12_worst_162 : decode cX12_worst 162 = .ok (.aload_n 0, 1) := by decide +kernel
theorem dX12_worst_163 : decode cX12_worst 163 = .ok (.getfield 87, 3) := by decide +kernel
theorem dX12_worst_166 : decode cX12_worst 166 = .ok (.aload_n 0, 1) := by decide +kernel
theorem dX12_worst_167 : decode cX12_worst 167 = .ok (.getfield 54, 3) := by decide +kernel
theorem dX12_worst_170 : decode cX12_worst 170 = .ok (.iload 7, 2) := by decide +kernel
theorem dX12_worst_172 : decode cX12_worst 172 = .ok (.iaload, 1) := by decide +kernel
theorem dX12_worst_173 : decode cX12_worst 173 = .ok (.iaload, 1) := by decide +kernel
theorem dX12_worst_174 : decode cX12_worst 174 = .ok (.aload_n 0, 1) := by decide +kernel
theorem dX12_worst_175 : decode cX12_worst 175 = .ok (.getfield 72, 3) := by decide +kernel
theorem dX12_worst_178 : decode cX12_worst 178 = .ok (.iload 7, 2) := by decide +kernel
theorem dX12_worst_180 : decode cX12_worst 180 = .ok (.iaload, 1) := by decide +kernel
theorem dX12_worst_181 : decode cX12_worst 181 = .ok (.imul, 1) := by decide +kernel
theorem dX12_worst_182 : decode cX12_worst 182 = .ok (.iadd, 1) := by decide +kernel
theorem dX12_worst_183 : decode cX12_worst 183 = .ok (.istore 6, 2) := by decide +kernel
theorem dX12_worst_185 : decode cX12_worst 185 = .ok (.iinc 7 1, 3) := by decide +kernel
theorem dX12_worst_188 : decode cX12_worst 188 = .ok (.goto (-37), 3) := by decide +kernel
theorem dX12_worst_191 : decode cX12_worst 191 = .ok (.iload 6, 2) := by decide +kernel
theorem dX12_worst_193 : decode cX12_worst 193 = .ok (.iload 4, 2) := by decide +kernel
theorem dX12_worst_195 : decode cX12_worst 195 = .ok (.if_icmp .le 11, 3) := by decide +kernel
theorem dX12_worst_198 : decode cX12_worst 198 = .ok (.iload 6, 2) := by decide +kernel
theorem dX12_worst_200 : decode cX12_worst 200 = .ok (.istore 4, 2) := by decide +kernel
theorem dX12_worst_202 : decode cX12_worst 202 = .ok (.aload_n 0, 1) := by decide +kernel
theorem dX12_worst_203 : decode cX12_worst 203 = .ok (.invokevirtual 216, 3) := by decide +kernel
theorem dX12_worst_206 : decode cX12_worst 206 = .ok (.aload_n 0, 1) := by decide +kernel
theorem dX12_worst_207 : decode cX12_worst 207 = .ok (.iconst 0, 1) := by decide +kernel
theorem dX12_worst_208 : decode cX12_worst 208 = .ok (.invokevirtual 212, 3) := by decide +kernel
theorem dX12_worst_211 : decode cX12_worst 211 = .ok (.istore 5, 2) := by decide +kernel
theorem dX12_worst_213 : decode cX12_worst 213 = .ok (.goto (-74), 3) := by decide +kernel
theorem dX12_worst_216 : decode cX12_worst 216 = .ok (.aload_n 0, 1) := by decide +kernel
theorem dX12_worst_217 : decode cX12_worst 217 = .ok (.aload_n 0, 1) := by decide +kernel
theorem dX12_worst_218 : decode cX12_worst 218 = .ok (.getfield 118, 3) := by decide +kernel
theorem dX12_worst_221 : decode cX12_worst 221 = .ok (.ifCond .eq 12, 3) := by decide +kernel
theorem dX12_worst_224 : decode cX12_worst 224 = .ok (.iload 5, 2) := by decide +kernel
theorem dX12_worst_226 : decode cX12_worst 226 = .ok (.ifCond .ne 7, 3) := by decide +kernel
theorem dX12_worst_229 : decode cX12_worst 229 = .ok (.iconst 1, 1) := by decide +kernel
theorem dX12_worst_230 : decode cX12_worst 230 = .ok (.goto 4, 3) := by decide +kernel
theorem dX12_worst_233 : decode cX12_worst 233 = .ok (.iconst 0, 1) := by decide +kernel
theorem dX12_worst_234 : decode cX12_worst 234 = .ok (.putfield 118, 3) := by decide +kernel
theorem dX12_worst_237 : decode cX12_worst 237 = .ok (.iload 5, 2) := by decide +kernel
theorem dX12_worst_239 : decode cX12_worst 239 = .ok (.ifCond .ge 8, 3) := by decide +kernel
theorem dX12_worst_242 : decode cX12_worst 242 = .ok (.iload 5, 2) := by decide +kernel
theorem dX12_worst_244 : decode cX12_worst 244 = .ok (.goto 5, 3) := by decide +kernel
theorem dX12_worst_247 : decode cX12_worst 247 = .ok (.iload 4, 2) := by decide +kernel
theorem dX12_worst_249 : decode cX12_worst 249 = .ok (.ireturn, 1) := by decide +kernel
theorem dX12_meters_0 : decode cX12_meters 0 = .ok (.iload_n 1, 1) := by decide +kernel
theorem dX12_meters_1 : decode cX12_meters 1 = .ok (.invokestatic 206, 3) := by decide +kernel
theorem dX12_meters_4 : decode cX12_meters 4 = .ok (.ifCond .ne 5, 3) := by decide +kernel
theorem dX12_meters_7 : decode cX12_meters 7 = .ok (.iconst (-1), 1) := by decide +kernel
theorem dX12_meters_8 : decode cX12_meters 8 = .ok (.ireturn, 1) := by decide +kernel
theorem dX12_meters_9 : decode cX12_meters 9 = .ok (.aload_n 0, 1) := by decide +kernel
theorem dX12_meters_10 : decode cX12_meters 10 = .ok (.iload_n 1, 1) := by decide +kernel
theorem dX12_meters_11 : decode cX12_meters 11 = .ok (.invokevirtual 209, 3) := by decide +kernel
theorem dX12_meters_14 : decode cX12_meters 14 = .ok (.aload_n 0, 1) := by decide +kernel
theorem dX12_meters_15 : decode cX12_meters 15 = .ok (.iconst 1, 1) := by decide +kernel
theorem dX12_meters_16 : decode cX12_meters 16 = .ok (.invokevirtual 212, 3) := by decide +kernel
theorem dX12_meters_19 : decode cX12_meters 19 = .ok (.istore_n 2, 1) := by decide +kernel
theorem dX12_meters_20 : decode cX12_meters 20 = .ok (.iload_n 2, 1) := by decide +kernel
theorem dX12_meters_21 : decode cX12_meters 21 = .ok (.iconst 1, 1) := by decide +kernel
theorem dX12_meters_22 : decode cX12_meters 22 = .ok (.if_icmp .ge 14, 3) := by decide +kernel
theorem dX12_meters_25 : decode cX12_meters 25 = .ok (.iload_n 2, 1) := by decide +kernel
theorem dX12_meters_26 : decode cX12_meters 26 = .ok (.ifCond .ge 7, 3) := by decide +kernel
theorem dX12_meters_29 : decode cX12_meters 29 = .ok (.iload_n 2, 1) := by decide +kernel
theorem dX12_meters_30 : decode cX12_meters 30 = .ok (.goto 5, 3) := by decide +kernel
theorem dX12_meters_33 : decode cX12_meters 33 = .ok (.bipush (-9), 2) := by decide +kernel
theorem dX12_meters_35 : decode cX12_meters 35 = .ok (.ireturn, 1) := by decide +kernel
theorem dX12_meters_36 : decode cX12_meters 36 = .ok (.iconst 0, 1) := by decide +kernel
theorem dX12_meters_37 : decode cX12_meters 37 = .ok (.istore_n 3, 1) := by decide +kernel
theorem dX12_meters_38 : decode cX12_meters 38 = .ok (.iconst 0, 1) := by decide +kernel
theorem dX12_meters_39 : decode cX12_meters 39 = .ok (.istore 4, 2) := by decide +kernel
theorem dX12_meters_41 : decode cX12_meters 41 = .ok (.iload 4, 2) := by decide +kernel
theorem dX12_meters_43 : decode cX12_meters 43 = .ok (.aload_n 0, 1) := by decide +kernel
theorem dX12_meters_44 : decode cX12_meters 44 = .ok (.getfield 178, 3) := by decide +kernel
theorem dX12_meters_47 : decode cX12_meters 47 = .ok (.if_icmp .ge 61, 3) := by decide +kernel
theorem dX12_meters_50 : decode cX12_meters 50 = .ok (.aload_n 0, 1) := by decide +kernel
theorem dX12_meters_51 : decode cX12_meters 51 = .ok (.getfield 90, 3) := by decide +kernel
theorem dX12_meters_54 : decode cX12_meters 54 = .ok (.aload_n 0, 1) := by decide +kernel
theorem dX12_meters_55 : decode cX12_meters 55 = .ok (.getfield 54, 3) := by decide +kernel
theorem dX12_meters_58 : decode cX12_meters 58 = .ok (.iload 4, 2) := by decide +kernel
theorem dX12_meters_60 : decode cX12_meters 60 = .ok (.iaload, 1) := by decide +kernel
theorem dX12_meters_61 : decode cX12_meters 61 = .ok (.aload_n 0, 1) := by decide +kernel
theorem dX12_meters_62 : decode cX12_meters 62 = .ok (.getfield 72, 3) := by decide +kernel
theorem dX12_meters_65 : decode cX12_meters 65 = .ok (.iload 4, 2) := by decide +kernel
theorem dX12_meters_67 : decode cX12_meters 67 = .ok (.iaload, 1) := by decide +kernel
theorem dX12_meters_68 : decode cX12_meters 68 = .ok (.iastore, 1) := by decide +kernel
theorem dX12_meters_69 : decode cX12_meters 69 = .ok (.aload_n 0, 1) := by decide +kernel
theorem dX12_meters_70 : decode cX12_meters 70 = .ok (.getfield 39, 3) := by decide +kernel
theorem dX12_meters_73 : decode cX12_meters 73 = .ok (.aload_n 0, 1) := by decide +kernel
theorem dX12_meters_74 : decode cX12_meters 74 = .ok (.getfield 54, 3) := by decide +kernel
theorem dX12_meters_77 : decode cX12_meters 77 = .ok (.iload 4, 2) := by decide +kernel
theorem dX12_meters_79 : decode cX12_meters 79 = .ok (.iaload, 1) := by decide +kernel
theorem dX12_meters_80 : decode cX12_meters 80 = .ok (.iaload, 1) := by decide +kernel
theorem dX12_meters_81 : decode cX12_meters 81 = .ok (.bipush (-9), 2) := by decide +kernel
theorem dX12_meters_83 : decode cX12_meters 83 = .ok (.if_icmp .ne 19, 3) := by decide +kernel
theorem dX12_meters_86 : decode cX12_meters 86 = .ok (.aload_n 0, 1) := by decide +kernel
theorem dX12_meters_87 : decode cX12_meters 87 = .ok (.getfield 93, 3) := by decide +kernel
theorem dX12_meters_90 : decode cX12_meters 90 = .ok (.iload_n 3, 1) := by decide +kernel
theorem dX12_meters_91 : decode cX12_meters 91 = .ok (.aload_n 0, 1) := by decide +kernel
theorem dX12_meters_92 : decode cX12_meters 92 = .ok (.getfield 54, 3) := by decide +kernel
theorem dX12_meters_95 : decode cX12_meters 95 = .ok (.iload 4, 2) := by decide +kernel
theorem dX12_meters_97 : decode cX12_meters 97 = .ok (.iaload, 1) := by decide +kernel
theorem dX12_meters_98 : decode cX12_meters 98 = .ok (.iastore, 1) := by decide +kernel
theorem dX12_meters_99 : decode cX12_meters 99 = .ok (.iinc 3 1, 3) := by decide +kernel
theorem dX12_meters_102 : decode cX12_meters 102 = .ok (.iinc 4 1, 3) := by decide +kernel
theorem dX12_meters_105 : decode cX12_meters 105 = .ok (.goto (-64), 3) := by decide +kernel
theorem dX12_meters_108 : decode cX12_meters 108 = .ok (.iconst 0, 1) := by decide +kernel
theorem dX12_meters_109 : decode cX12_meters 109 = .ok (.istore 4, 2) := by decide +kernel
theorem dX12_meters_111 : decode cX12_meters 111 = .ok (.iload 4, 2) := by decide +kernel
theorem dX12_meters_113 : decode cX12_meters 113 = .ok (.iload_n 3, 1) := by decide +kernel
theorem dX12_meters_114 : decode cX12_meters 114 = .ok (.if_icmp .gt 117, 3) := by decide +kernel
theorem dX12_meters_117 : decode cX12_meters 117 = .ok (.lconst 1, 1) := by decide +kernel
theorem dX12_meters_118 : decode cX12_meters 118 = .ok (.iload 4, 2) := by decide +kernel
theorem dX12_meters_120 : decode cX12_meters 120 = .ok (.lshl, 1) := by decide +kernel
theorem dX12_meters_121 : decode cX12_meters 121 = .ok (.lconst 1, 1) := by decide +kernel
theorem dX12_meters_122 : decode cX12_meters 122 = .ok (.lsub, 1) := by decide +kernel
theorem dX12_meters_123 : decode cX12_meters 123 = .ok (.lstore 5, 2) := by decide +kernel
theorem dX12_meters_125 : decode cX12_meters 125 = .ok (.lload 5, 2) := by decide +kernel
theorem dX12_meters_127 : decode cX12_meters 127 = .ok (.iload_n 3, 1) := by decide +kernel
theorem dX12_meters_128 : decode cX12_meters 128 = .ok (.lshr, 1) := by decide +kernel
theorem dX12_meters_129 : decode cX12_meters 129 = .ok (.lconst 0, 1) := by decide +kernel
theorem dX12_meters_130 : decode cX12_meters 130 = .ok (.lcmp, 1) := by decide +kernel
theorem dX12_meters_131 : decode cX12_meters 131 = .ok (.ifCond .ne 94, 3) := by decide +kernel
theorem dX12_meters_134 : decode cX12_meters 134 = .ok (.aload_n 0, 1) := by decide +kernel
theorem dX12_meters_135 : decode cX12_meters 135 = .ok (.lload 5, 2) := by decide +kernel
theorem dX12_meters_137 : decode cX12_meters 137 = .ok (.iload_n 3, 1) := by decide +kernel
theorem dX12_meters_138 : decode cX12_meters 138 = .ok (.invokevirtual 226, 3) := by decide +kernel
theorem dX12_meters_141 : decode cX12_meters 141 = .ok (.istore 7, 2) := by decide +kernel
theorem dX12_meters_143 : decode cX12_meters 143 = .ok (.iload 7, 2) := by decide +kernel
theorem dX12_meters_145 : decode cX12_meters 145 = .ok (.ifCond .ge 6, 3) := by decide +kernel
theorem dX12_meters_148 : decode cX12_meters 148 = .ok (.iload 7, 2) := by decide +kernel
theorem dX12_meters_150 : decode cX12_meters 150 = .ok (.ireturn, 1) := by decide +kernel
theorem dX12_meters_151 : decode cX12_meters 151 = .ok (.iload 7, 2) := by decide +kernel
theorem dX12_meters_153 : decode cX12_meters 153 = .ok (.iconst 1, 1) := by decide +kernel
theorem dX12_meters_154 : decode cX12_meters 154 = .ok (.if_icmp .ne 50, 3) := by decide +kernel
theorem dX12_meters_157 : decode cX12_meters 157 = .ok (.lconst 0, 1) := by decide +kernel
theorem dX12_meters_158 : decode cX12_meters 158 = .ok (.lstore 8, 2) := by decide +kernel
theorem dX12_meters_160 : decode cX12_meters 160 = .ok (.iconst 0, 1) := by decide +kernel
theorem dX12_meters_161 : decode cX12_meters 161 = .ok (.istore 10, 2) := by decide +kernel
theorem dX12_meters_163 : decode cX12_meters 163 = .ok (.iload 10, 2) := by decide +kernel
theorem dX12_meters_165 : decode cX12_meters 165 = .ok (.iload_n 3, 1) := by decide +kernel
theorem dX12_meters_166 : decode cX12_meters 166 = .ok (.if_icmp .ge 29, 3) := by decide +kernel
theorem dX12_meters_169 : decode cX12_meters 169 = .ok (.lload 8, 2) := by decide +kernel
theorem dX12_meters_171 : decode cX12_meters 171 = .ok (.lload 5, 2) := by decide +kernel
theorem dX12_meters_173 : decode cX12_meters 173 = .ok (.iload 10, 2) := by decide +kernel
theorem dX12_meters_175 : decode cX12_meters 175 = .ok (.lshr, 1) := by decide +kernel
theorem dX12_meters_176 : decode cX12_meters 176 = .ok (.lconst 1, 1) := by decide +kernel
theorem dX12_meters_177 : decode cX12_meters 177 = .ok (.land, 1) := by decide +kernel
theorem dX12_meters_178 : decode cX12_meters 178 = .ok (.aload_n 0, 1) := by decide +kernel
theorem dX12_meters_179 : decode cX12_meters 179 = .ok (.getfield 93, 3) := by decide +kernel
theorem dX12_meters_182 : decode cX12_meters 182 = .ok (.iload 10, 2) := by decide +kernel
theorem dX12_meters_184 : decode cX12_meters 184 = .ok (.iaload, 1) := by decide +kernel
theorem dX12_meters_185 : decode cX12_meters 185 = .ok (.lshl, 1) := by decide +kernel
theorem dX12_meters_186 : decode cX12_meters 186 = .ok (.lor, 1) := by decide +kernel
theorem dX12_meters_187 : decode cX12_meters 187 = .ok (.lstore 8, 2) := by decide +kernel
theorem dX12_meters_189 : decode cX12_meters 189 = .ok (.iinc 10 1, 3) := by decide +kernel
theorem dX12_meters_192 : decode cX12_meters 192 = .ok (.goto (-29), 3) := by decide +kernel
theorem dX12_meters_195 : decode cX12_meters 195 = .ok (.aload_n 0, 1) := by decide +kernel
theorem dX12_meters_196 : decode cX12_meters 196 = .ok (.lload 8, 2) := by decide +kernel
theorem dX12_meters_198 : decode cX12_meters 198 = .ok (.iload 4, 2) := by decide +kernel
theorem dX12_meters_200 : decode cX12_meters 200 = .ok (.invokevirtual 160, 3) := by decide +kernel
theorem dX12_meters_203 : decode cX12_meters 203 = .ok (.ireturn, 1) := by decide +kernel
theorem dX12_meters_204 : decode cX12_meters 204 = .ok (.iload 4, 2) := by decide +kernel
theorem dX12_meters_206 : decode cX12_meters 206 = .ok (.ifCond .ne 9, 3) := by decide +kernel
theorem dX12_meters_209 : decode cX12_meters 209 = .ok (.lconst 1, 1) := by decide +kernel
theorem dX12_meters_210 : decode cX12_meters 210 = .ok (.iload_n 3, 1) := by decide +kernel
theorem dX12_meters_211 : decode cX12_meters 211 = .ok (.lshl, 1) := by decide +kernel
theorem dX12_meters_212 : decode cX12_meters 212 = .ok (.goto 8, 3) := by decide +kernel
theorem dX12_meters_215 : decode cX12_meters 215 = .ok (.lload 5, 2) := by decide +kernel
theorem dX12_meters_217 : decode cX12_meters 217 = .ok (.invokestatic 229, 3) := by decide +kernel
theorem dX12_meters_220 : decode cX12_meters 220 = .ok (.lstore 5, 2) := by decide +kernel
theorem dX12_meters_222 : decode cX12_meters 222 = .ok (.goto (-97), 3) := by decide +kernel
theorem dX12_meters_225 : decode cX12_meters 225 = .ok (.iinc 4 1, 3) := by decide +kernel
theorem dX12_meters_228 : decode cX12_meters 228 = .ok (.goto (-117), 3) := by decide +kernel
theorem dX12_meters_231 : decode cX12_meters 231 = .ok (.bipush (-9), 2) := by decide +kernel
theorem dX12_meters_233 : decode cX12_meters 233 = .ok (.ireturn, 1) := by decide +kernel
end
section
/-! decode rows -/
theorem dX12_later_0 : decode cX12_later 0 = .ok (.lload_n 0, 1) := by decide +kernel
theorem dX12_later_1 : decode cX12_later 1 = .ok (.lload_n 0, 1) := by decide +kernel
theorem dX12_later_2 : decode cX12_later 2 = .ok (.lneg, 1) := by decide +kernel
theorem dX12_later_3 : decode cX12_later 3 = .ok (.land, 1) := by decide +kernel
theorem dX12_later_4 : decode cX12_later 4 = .ok (.lstore_n 2, 1) := by decide +kernel
theorem dX12_later_5 : decode cX12_later 5 = .ok (.lload_n 0, 1) := by decide +kernel
theorem dX12_later_6 : decode cX12_later 6 = .ok (.lload_n 2, 1) := by decide +kernel
theorem dX12_later_7 : decode cX12_later 7 = .ok (.ladd, 1) := by decide +kernel
theorem dX12_later_8 : decode cX12_later 8 = .ok (.lstore 4, 2) := by decide +kernel
theorem dX12_later_10 : decode cX12_later 10 = .ok (.lload 4, 2) := by decide +kernel
theorem dX12_later_12 : decode cX12_later 12 = .ok (.lload_n 0, 1) := by decide +kernel
theorem dX12_later_13 : decode cX12_later 13 = .ok (.lload 4, 2) := by decide +kernel
theorem dX12_later_15 : decode cX12_later 15 = .ok (.lxor, 1) := by decide +kernel
theorem dX12_later_16 : decode cX12_later 16 = .ok (.lload_n 2, 1) := by decide +kernel
theorem dX12_later_17 : decode cX12_later 17 = .ok (.ldiv, 1) := by decide +kernel
theorem dX12_later_18 : decode cX12_later 18 = .ok (.iconst 2, 1) := by decide +kernel
theorem dX12_later_19 : decode cX12_later 19 = .ok (.lshr, 1) := by decide +kernel
theorem dX12_later_20 : decode cX12_later 20 = .ok (.lor, 1) := by decide +kernel
theorem dX12_later_21 : decode cX12_later 21 = .ok (.lreturn, 1) := by decide +kernel
theorem dX12_isAlone_0 : decode cX12_isAlone 0 = .ok (.iconst 0, 1) := by decide +kernel
theorem dX12_isAlone_1 : decode cX12_isAlone 1 = .ok (.istore 4, 2) := by decide +kernel
theorem dX12_isAlone_3 : decode cX12_isAlone 3 = .ok (.iload 4, 2) := by decide +kernel
theorem dX12_isAlone_5 : decode cX12_isAlone 5 = .ok (.iload_n 3, 1) := by decide +kernel
theorem dX12_isAlone_6 : decode cX12_isAlone 6 = .ok (.if_icmp .ge 49, 3) := by decide +kernel
theorem dX12_isAlone_9 : decode cX12_isAlone 9 = .ok (.aload_n 0, 1) := by decide +kernel
theorem dX12_isAlone_10 : decode cX12_isAlone 10 = .ok (.getfield 66, 3) := by decide +kernel
theorem dX12_isAlone_13 : decode cX12_isAlone 13 = .ok (.aload_n 0, 1) := by decide +kernel
theorem dX12_isAlone_14 : decode cX12_isAlone 14 = .ok (.getfield 93, 3) := by decide +kernel
theorem dX12_isAlone_17 : decode cX12_isAlone 17 = .ok (.iload 4, 2) := by decide +kernel
theorem dX12_isAlone_19 : decode cX12_isAlone 19 = .ok (.iaload, 1) := by decide +kernel
theorem dX12_isAlone_20 : decode cX12_isAlone 20 = .ok (.lload_n 1, 1) := by decide +kernel
theorem dX12_isAlone_21 : decode cX12_isAlone 21 = .ok (.iload 4, 2) := by decide +kernel
theorem dX12_isAlone_23 : decode cX12_isAlone 23 = .ok (.lshr, 1) := by decide +kernel
theorem dX12_isAlone_24 : decode cX12_isAlone 24 = .ok (.lconst 1, 1) := by decide +kernel
theorem dX12_isAlone_25 : decode cX12_isAlone 25 = .ok (.land, 1) := by decide +kernel
theorem dX12_isAlone_26 : decode cX12_isAlone 26 = .ok (.lconst 1, 1) := by decide +kernel
theorem dX12_isAlone_27 : decode cX12_isAlone 27 = .ok (.lcmp, 1) := by decide +kernel
theorem dX12_isAlone_28 : decode cX12_isAlone 28 = .ok (.ifCond .ne 18, 3) := by decide +kernel
theorem dX12_isAlone_31 : decode cX12_isAlone 31 = .ok (.aload_n 0, 1) := by decide +kernel
theorem dX12_isAlone_32 : decode cX12_isAlone 32 = .ok (.getfield 90, 3) := by decide +kernel
theorem dX12_isAlone_35 : decode cX12_isAlone 35 = .ok (.aload_n 0, 1) := by decide +kernel
theorem dX12_isAlone_36 : decode cX12_isAlone 36 = .ok (.getfield 93, 3) := by decide +kernel
theorem dX12_isAlone_39 : decode cX12_isAlone 39 = .ok (.iload 4, 2) := by decide +kernel
theorem dX12_isAlone_41 : decode cX12_isAlone 41 = .ok (.iaload, 1) := by decide +kernel
theorem dX12_isAlone_42 : decode cX12_isAlone 42 = .ok (.iaload, 1) := by decide +kernel
theorem dX12_isAlone_43 : decode cX12_isAlone 43 = .ok (.goto 5, 3) := by decide +kernel
theorem dX12_isAlone_46 : decode cX12_isAlone 46 = .ok (.bipush (-9), 2) := by decide +kernel
theorem dX12_isAlone_48 : decode cX12_isAlone 48 = .ok (.iastore, 1) := by decide +kernel
theorem dX12_isAlone_49 : decode cX12_isAlone 49 = .ok (.iinc 4 1, 3) := by decide +kernel
theorem dX12_isAlone_52 : decode cX12_isAlone 52 = .ok (.goto (-49), 3) := by decide +kernel
theorem dX12_isAlone_55 : decode cX12_isAlone 55 = .ok (.iconst 0, 1) := by decide +kernel
theorem dX12_isAlone_56 : decode cX12_isAlone 56 = .ok (.istore 4, 2) := by decide +kernel
theorem dX12_isAlone_58 : decode cX12_isAlone 58 = .ok (.iload 4, 2) := by decide +kernel
theorem dX12_isAlone_60 : decode cX12_isAlone 60 = .ok (.bipush 36, 2) := by decide +kernel
theorem dX12_isAlone_62 : decode cX12_isAlone 62 = .ok (.if_icmp .ge 17, 3) := by decide +kernel
theorem dX12_isAlone_65 : decode cX12_isAlone 65 = .ok (.aload_n 0, 1) := by decide +kernel
theorem dX12_isAlone_66 : decode cX12_isAlone 66 = .ok (.getfield 78, 3) := by decide +kernel
theorem dX12_isAlone_69 : decode cX12_isAlone 69 = .ok (.iload 4, 2) := by decide +kernel
theorem dX12_isAlone_71 : decode cX12_isAlone 71 = .ok (.iconst 0, 1) := by decide +kernel
theorem dX12_isAlone_72 : decode cX12_isAlone 72 = .ok (.bastore, 1) := by decide +kernel
theorem dX12_isAlone_73 : decode cX12_isAlone 73 = .ok (.iinc 4 1, 3) := by decide +kernel
theorem dX12_isAlone_76 : decode cX12_isAlone 76 = .ok (.goto (-18), 3) := by decide +kernel
theorem dX12_isAlone_79 : decode cX12_isAlone 79 = .ok (.aload_n 0, 1) := by decide +kernel
theorem dX12_isAlone_80 : decode cX12_isAlone 80 = .ok (.iconst 1, 1) := by decide +kernel
theorem dX12_isAlone_81 : decode cX12_isAlone 81 = .ok (.invokevirtual 212, 3) := by decide +kernel
theorem dX12_isAlone_84 : decode cX12_isAlone 84 = .ok (.istore 4, 2) := by decide +kernel
theorem dX12_isAlone_86 : decode cX12_isAlone 86 = .ok (.iload 4, 2) := by decide +kernel
theorem dX12_isAlone_88 : decode cX12_isAlone 88 = .ok (.iconst 1, 1) := by decide +kernel
theorem dX12_isAlone_89 : decode cX12_isAlone 89 = .ok (.if_icmp .ne 32, 3) := by decide +kernel
theorem dX12_isAlone_92 : decode cX12_isAlone 92 = .ok (.aload_n 0, 1) := by decide +kernel
theorem dX12_isAlone_93 : decode cX12_isAlone 93 = .ok (.iconst 0, 1) := by decide +kernel
theorem dX12_isAlone_94 : decode cX12_isAlone 94 = .ok (.invokevirtual 212, 3) := by decide +kernel
theorem dX12_isAlone_97 : decode cX12_isAlone 97 = .ok (.istore 4, 2) := by decide +kernel
theorem dX12_isAlone_99 : decode cX12_isAlone 99 = .ok (.iload 4, 2) := by decide +kernel
theorem dX12_isAlone_101 : decode cX12_isAlone 101 = .ok (.ifCond .ge 8, 3) := by decide +kernel
theorem dX12_isAlone_104 : decode cX12_isAlone 104 = .ok (.iload 4, 2) := by decide +kernel
theorem dX12_isAlone_106 : decode cX12_isAlone 106 = .ok (.goto 14, 3) := by decide +kernel
theorem dX12_isAlone_109 : decode cX12_isAlone 109 = .ok (.iload 4, 2) := by decide +kernel
theorem dX12_isAlone_111 : decode cX12_isAlone 111 = .ok (.iconst 1, 1) := by decide +kernel
theorem dX12_isAlone_112 : decode cX12_isAlone 112 = .ok (.if_icmp .ne 7, 3) := by decide +kernel
theorem dX12_isAlone_115 : decode cX12_isAlone 115 = .ok (.iconst 0, 1) := by decide +kernel
theorem dX12_isAlone_116 : decode cX12_isAlone 116 = .ok (.goto 4, 3) := by decide +kernel
theorem dX12_isAlone_119 : decode cX12_isAlone 119 = .ok (.iconst 1, 1) := by decide +kernel
theorem dX12_isAlone_120 : decode cX12_isAlone 120 = .ok (.ireturn, 1) := by decide +kernel
theorem dX12_isAlone_121 : decode cX12_isAlone 121 = .ok (.iload 4, 2) := by decide +kernel
theorem dX12_isAlone_123 : decode cX12_isAlone 123 = .ok (.ireturn, 1) := by decide +kernel
theorem dX12_isSheet_0 : decode cX12_isSheet 0 = .ok (.iload_n 0, 1) := by decide +kernel
theorem dX12_isSheet_1 : decode cX12_isSheet 1 = .ok (.iconst 0, 1) := by decide +kernel
theorem dX12_isSheet_2 : decode cX12_isSheet 2 = .ok (.iconst 3, 1) := by decide +kernel
theorem dX12_isSheet_3 : decode cX12_isSheet 3 = .ok (.invokestatic 122, 3) := by decide +kernel
theorem dX12_isSheet_6 : decode cX12_isSheet 6 = .ok (.ireturn, 1) := by decide +kernel
theorem dX12_looked_0 : decode cX12_looked 0 = .ok (.iload_n 1, 1) := by decide +kernel
theorem dX12_looked_1 : decode cX12_looked 1 = .ok (.invokestatic 233, 3) := by decide +kernel
theorem dX12_looked_4 : decode cX12_looked 4 = .ok (.ifCond .ne 7, 3) := by decide +kernel
theorem dX12_looked_7 : decode cX12_looked 7 = .ok (.iconst (-1), 1) := by decide +kernel
theorem dX12_looked_8 : decode cX12_looked 8 = .ok (.goto 21, 3) := by decide +kernel
theorem dX12_looked_11 : decode cX12_looked 11 = .ok (.aload_n 0, 1) := by decide +kernel
theorem dX12_looked_12 : decode cX12_looked 12 = .ok (.getfield 96, 3) := by decide +kernel
theorem dX12_looked_15 : decode cX12_looked 15 = .ok (.iload_n 1, 1) := by decide +kernel
theorem dX12_looked_16 : decode cX12_looked 16 = .ok (.iaload, 1) := by decide +kernel
theorem dX12_looked_17 : decode cX12_looked 17 = .ok (.ifCond .ge 11, 3) := by decide +kernel
theorem dX12_looked_20 : decode cX12_looked 20 = .ok (.aload_n 0, 1) := by decide +kernel
theorem dX12_looked_21 : decode cX12_looked 21 = .ok (.iconst 1, 1) := by decide +kernel
theorem dX12_looked_22 : decode cX12_looked 22 = .ok (.invokevirtual 138, 3) := by decide +kernel
theorem dX12_looked_25 : decode cX12_looked 25 = .ok (.goto 4, 3) := by decide +kernel
theorem dX12_looked_28 : decode cX12_looked 28 = .ok (.iconst 0, 1) := by decide +kernel
theorem dX12_looked_29 : decode cX12_looked 29 = .ok (.ireturn, 1) := by decide +kernel
theorem dX12_sheet_0 : decode cX12_sheet 0 = .ok (.iload_n 1, 1) := by decide +kernel
theorem dX12_sheet_1 : decode cX12_sheet 1 = .ok (.invokestatic 233, 3) := by decide +kernel
theorem dX12_sheet_4 : decode cX12_sheet 4 = .ok (.ifCond .eq 9, 3) := by decide +kernel
theorem dX12_sheet_7 : decode cX12_sheet 7 = .ok (.iload_n 2, 1) := by decide +kernel
theorem dX12_sheet_8 : decode cX12_sheet 8 = .ok (.bipush 24, 2) := by decide +kernel
theorem dX12_sheet_10 : decode cX12_sheet 10 = .ok (.if_icmp .le 5, 3) := by decide +kernel
theorem dX12_sheet_13 : decode cX12_sheet 13 = .ok (.iconst (-1), 1) := by decide +kernel
theorem dX12_sheet_14 : decode cX12_sheet 14 = .ok (.ireturn, 1) := by decide +kernel
theorem dX12_sheet_15 : decode cX12_sheet 15 = .ok (.iload_n 2, 1) := by decide +kernel
theorem dX12_sheet_16 : decode cX12_sheet 16 = .ok (.ifCond .ge 9, 3) := by decide +kernel
theorem dX12_sheet_19 : decode cX12_sheet 19 = .ok (.aload_n 0, 1) := by decide +kernel
theorem dX12_sheet_20 : decode cX12_sheet 20 = .ok (.iconst 5, 1) := by decide +kernel
theorem dX12_sheet_21 : decode cX12_sheet 21 = .ok (.invokevirtual 138, 3) := by decide +kernel
theorem dX12_sheet_24 : decode cX12_sheet 24 = .ok (.ireturn, 1) := by decide +kernel
theorem dX12_sheet_25 : decode cX12_sheet 25 = .ok (.aload_n 0, 1) := by decide +kernel
theorem dX12_sheet_26 : decode cX12_sheet 26 = .ok (.getfield 96, 3) := by decide +kernel
theorem dX12_sheet_29 : decode cX12_sheet 29 = .ok (.iload_n 1, 1) := by decide +kernel
theorem dX12_sheet_30 : decode cX12_sheet 30 = .ok (.iload_n 2, 1) := by decide +kernel
theorem dX12_sheet_31 : decode cX12_sheet 31 = .ok (.iastore, 1) := by decide +kernel
theorem dX12_sheet_32 : decode cX12_sheet 32 = .ok (.iconst 0, 1) := by decide +kernel
theorem dX12_sheet_33 : decode cX12_sheet 33 = .ok (.istore_n 3, 1) := by decide +kernel
theorem dX12_sheet_34 : decode cX12_sheet 34 = .ok (.iload_n 3, 1) := by decide +kernel
theorem dX12_sheet_35 : decode cX12_sheet 35 = .ok (.bipush 24, 2) := by decide +kernel
theorem dX12_sheet_37 : decode cX12_sheet 37 = .ok (.if_icmp .ge 21, 3) := by decide +kernel
theorem dX12_sheet_40 : decode cX12_sheet 40 = .ok (.aload_n 0, 1) := by decide +kernel
theorem dX12_sheet_41 : decode cX12_sheet 41 = .ok (.getfield 99, 3) := by decide +kernel
theorem dX12_sheet_44 : decode cX12_sheet 44 = .ok (.bipush 24, 2) := by decide +kernel
theorem dX12_sheet_46 : decode cX12_sheet 46 = .ok (.iload_n 1, 1) := by decide +kernel
theorem dX12_sheet_47 : decode cX12_sheet 47 = .ok (.imul, 1) := by decide +kernel
theorem dX12_sheet_48 : decode cX12_sheet 48 = .ok (.iload_n 3, 1) := by decide +kernel
theorem dX12_sheet_49 : decode cX12_sheet 49 = .ok (.iadd, 1) := by decide +kernel
theorem dX12_sheet_50 : decode cX12_sheet 50 = .ok (.iconst 0, 1) := by decide +kernel
theorem dX12_sheet_51 : decode cX12_sheet 51 = .ok (.iastore, 1) := by decide +kernel
theorem dX12_sheet_52 : decode cX12_sheet 52 = .ok (.iinc 3 1, 3) := by decide +kernel
theorem dX12_sheet_55 : decode cX12_sheet 55 = .ok (.goto (-21), 3) := by decide +kernel
theorem dX12_sheet_58 : decode cX12_sheet 58 = .ok (.iload_n 2, 1) := by decide +kernel
theorem dX12_sheet_59 : decode cX12_sheet 59 = .ok (.ireturn, 1) := by decide +kernel
theorem dX12_lay_0 : decode cX12_lay 0 = .ok (.aload_n 0, 1) := by decide +kernel
theorem dX12_lay_1 : decode cX12_lay 1 = .ok (.iload_n 1, 1) := by decide +kernel
theorem dX12_lay_2 : decode cX12_lay 2 = .ok (.invokevirtual 236, 3) := by decide +kernel
theorem dX12_lay_5 : decode cX12_lay 5 = .ok (.istore 4, 2) := by decide +kernel
theorem dX12_lay_7 : decode cX12_lay 7 = .ok (.iload 4, 2) := by decide +kernel
theorem dX12_lay_9 : decode cX12_lay 9 = .ok (.ifCond .ge 6, 3) := by decide +kernel
theorem dX12_lay_12 : decode cX12_lay 12 = .ok (.iload 4, 2) := by decide +kernel
theorem dX12_lay_14 : decode cX12_lay 14 = .ok (.ireturn, 1) := by decide +kernel
theorem dX12_lay_15 : decode cX12_lay 15 = .ok (.iload_n 2, 1) := by decide +kernel
theorem dX12_lay_16 : decode cX12_lay 16 = .ok (.iconst 0, 1) := by decide +kernel
theorem dX12_lay_17 : decode cX12_lay 17 = .ok (.aload_n 0, 1) := by decide +kernel
theorem dX12_lay_18 : decode cX12_lay 18 = .ok (.getfield 96, 3) := by decide +kernel
theorem dX12_lay_21 : decode cX12_lay 21 = .ok (.iload_n 1, 1) := by decide +kernel
theorem dX12_lay_22 : decode cX12_lay 22 = .ok (.iaload, 1) := by decide +kernel
theorem dX12_lay_23 : decode cX12_lay 23 = .ok (.iconst 1, 1) := by decide +kernel
theorem dX12_lay_24 : decode cX12_lay 24 = .ok (.isub, 1) := by decide +kernel
theorem dX12_lay_25 : decode cX12_lay 25 = .ok (.invokestatic 122, 3) := by decide +kernel
theorem dX12_lay_28 : decode cX12_lay 28 = .ok (.ifCond .ne 9, 3) := by decide +kernel
theorem dX12_lay_31 : decode cX12_lay 31 = .ok (.aload_n 0, 1) := by decide +kernel
theorem dX12_lay_32 : decode cX12_lay 32 = .ok (.iconst 2, 1) := by decide +kernel
theorem dX12_lay_33 : decode cX12_lay 33 = .ok (.invokevirtual 138, 3) := by decide +kernel
theorem dX12_lay_36 : decode cX12_lay 36 = .ok (.ireturn, 1) := by decide +kernel
theorem dX12_lay_37 : decode cX12_lay 37 = .ok (.aload_n 0, 1) := by decide +kernel
theorem dX12_lay_38 : decode cX12_lay 38 = .ok (.getfield 99, 3) := by decide +kernel
theorem dX12_lay_41 : decode cX12_lay 41 = .ok (.bipush 24, 2) := by decide +kernel
theorem dX12_lay_43 : decode cX12_lay 43 = .ok (.iload_n 1, 1) := by decide +kernel
theorem dX12_lay_44 : decode cX12_lay 44 = .ok (.imul, 1) := by decide +kernel
theorem dX12_lay_45 : decode cX12_lay 45 = .ok (.iload_n 2, 1) := by decide +kernel
theorem dX12_lay_46 : decode cX12_lay 46 = .ok (.iadd, 1) := by decide +kernel
theorem dX12_lay_47 : decode cX12_lay 47 = .ok (.iaload, 1) := by decide +kernel
theorem dX12_lay_48 : decode cX12_lay 48 = .ok (.istore 5, 2) := by decide +kernel
theorem dX12_lay_50 : decode cX12_lay 50 = .ok (.aload_n 0, 1) := by decide +kernel
theorem dX12_lay_51 : decode cX12_lay 51 = .ok (.getfield 99, 3) := by decide +kernel
theorem dX12_lay_54 : decode cX12_lay 54 = .ok (.bipush 24, 2) := by decide +kernel
theorem dX12_lay_56 : decode cX12_lay 56 = .ok (.iload_n 1, 1) := by decide +kernel
theorem dX12_lay_57 : decode cX12_lay 57 = .ok (.imul, 1) := by decide +kernel
theorem dX12_lay_58 : decode cX12_lay 58 = .ok (.iload_n 2, 1) := by decide +kernel
theorem dX12_lay_59 : decode cX12_lay 59 = .ok (.iadd, 1) := by decide +kernel
theorem dX12_lay_60 : decode cX12_lay 60 = .ok (.iload_n 3, 1) := by decide +kernel
theorem dX12_lay_61 : decode cX12_lay 61 = .ok (.i2b, 1) := by decide +kernel
theorem dX12_lay_62 : decode cX12_lay 62 = .ok (.iastore, 1) := by decide +kernel
theorem dX12_lay_63 : decode cX12_lay 63 = .ok (.iload 5, 2) := by decide +kernel
theorem dX12_lay_65 : decode cX12_lay 65 = .ok (.sipush 1000, 3) := by decide +kernel
theorem dX12_lay_68 : decode cX12_lay 68 = .ok (.iadd, 1) := by decide +kernel
theorem dX12_lay_69 : decode cX12_lay 69 = .ok (.ireturn, 1) := by decide +kernel
theorem dX12_play_0 : decode cX12_play 0 = .ok (.iload_n 1, 1) := by decide +kernel
theorem dX12_play_1 : decode cX12_play 1 = .ok (.invokestatic 233, 3) := by decide +kernel
theorem dX12_play_4 : decode cX12_play 4 = .ok (.ifCond .eq 11, 3) := by decide +kernel
theorem dX12_play_7 : decode cX12_play 7 = .ok (.aload_n 0, 1) := by decide +kernel
theorem dX12_play_8 : decode cX12_play 8 = .ok (.iload_n 2, 1) := by decide +kernel
theorem dX12_play_9 : decode cX12_play 9 = .ok (.invokevirtual 130, 3) := by decide +kernel
theorem dX12_play_12 : decode cX12_play 12 = .ok (.ifCond .ne 5, 3) := by decide +kernel
theorem dX12_play_15 : decode cX12_play 15 = .ok (.iconst (-1), 1) := by decide +kernel
theorem dX12_play_16 : decode cX12_play 16 = .ok (.ireturn, 1) := by decide +kernel
theorem dX12_play_17 : decode cX12_play 17 = .ok (.aload_n 0, 1) := by decide +kernel
theorem dX12_play_18 : decode cX12_play 18 = .ok (.iload_n 2, 1) := by decide +kernel
theorem dX12_play_19 : decode cX12_play 19 = .ok (.invokevirtual 153, 3) := by decide +kernel
theorem dX12_play_22 : decode cX12_play 22 = .ok (.ifCond .ne 9, 3) := by decide +kernel
theorem dX12_play_25 : decode cX12_play 25 = .ok (.aload_n 0, 1) := by decide +kernel
theorem dX12_play_26 : decode cX12_play 26 = .ok (.iconst 3, 1) := by decide +kernel
theorem dX12_play_27 : decode cX12_play 27 = .ok (.invokevirtual 138, 3) := by decide +kernel
theorem dX12_play_30 : decode cX12_play 30 = .ok (.ireturn, 1) := by decide +kernel
theorem dX12_play_31 : decode cX12_play 31 = .ok (.aload_n 0, 1) := by decide +kernel
theorem dX12_play_32 : decode cX12_play 32 = .ok (.getfield 96, 3) := by decide +kernel
theorem dX12_play_35 : decode cX12_play 35 = .ok (.iload_n 1, 1) := by decide +kernel
theorem dX12_play_36 : decode cX12_play 36 = .ok (.iaload, 1) := by decide +kernel
theorem dX12_play_37 : decode cX12_play 37 = .ok (.ifCond .ge 9, 3) := by decide +kernel
theorem dX12_play_40 : decode cX12_play 40 = .ok (.aload_n 0, 1) := by decide +kernel
theorem dX12_play_41 : decode cX12_play 41 = .ok (.iconst 1, 1) := by decide +kernel
theorem dX12_play_42 : decode cX12_play 42 = .ok (.invokevirtual 138, 3) := by decide +kernel
theorem dX12_play_45 : decode cX12_play 45 = .ok (.ireturn, 1) := by decide +kernel
theorem dX12_play_46 : decode cX12_play 46 = .ok (.iconst 0, 1) := by decide +kernel
theorem dX12_play_47 : decode cX12_play 47 = .ok (.istore_n 3, 1) := by decide +kernel
theorem dX12_play_48 : decode cX12_play 48 = .ok (.iload_n 3, 1) := by decide +kernel
theorem dX12_play_49 : decode cX12_play 49 = .ok (.aload_n 0, 1) := by decide +kernel
theorem dX12_play_50 : decode cX12_play 50 = .ok (.getfield 96, 3) := by decide +kernel
theorem dX12_play_53 : decode cX12_play 53 = .ok (.iload_n 1, 1) := by decide +kernel
theorem dX12_play_54 : decode cX12_play 54 = .ok (.iaload, 1) := by decide +kernel
theorem dX12_play_55 : decode cX12_play 55 = .ok (.if_icmp .ge 35, 3) := by decide +kernel
theorem dX12_play_58 : decode cX12_play 58 = .ok (.aload_n 0, 1) := by decide +kernel
theorem dX12_play_59 : decode cX12_play 59 = .ok (.getfield 36, 3) := by decide +kernel
theorem dX12_play_62 : decode cX12_play 62 = .ok (.bipush 24, 2) := by decide +kernel
theorem dX12_play_64 : decode cX12_play 64 = .ok (.iload_n 2, 1) := by decide +kernel
theorem dX12_play_65 : decode cX12_play 65 = .ok (.imul, 1) := by decide +kernel
theorem dX12_play_66 : decode cX12_play 66 = .ok (.iload_n 3, 1) := by decide +kernel
theorem dX12_play_67 : decode cX12_play 67 = .ok (.iadd, 1) := by decide +kernel
theorem dX12_play_68 : decode cX12_play 68 = .ok (.aload_n 0, 1) := by decide +kernel
theorem dX12_play_69 : decode cX12_play 69 = .ok (.getfield 99, 3) := by decide +kernel
theorem dX12_play_72 : decode cX12_play 72 = .ok (.bipush 24, 2) := by decide +kernel
theorem dX12_play_74 : decode cX12_play 74 = .ok (.iload_n 1, 1) := by decide +kernel
theorem dX12_play_75 : decode cX12_play 75 = .ok (.imul, 1) := by decide +kernel
theorem dX12_play_76 : decode cX12_play 76 = .ok (.iload_n 3, 1) := by decide +kernel
theorem dX12_play_77 : decode cX12_play 77 = .ok (.iadd, 1) := by decide +kernel
theorem dX12_play_78 : decode cX12_play 78 = .ok (.iaload, 1) := by decide +kernel
theorem dX12_play_79 : decode cX12_play 79 = .ok (.sipush 255, 3) := by decide +kernel
theorem dX12_play_82 : decode cX12_play 82 = .ok (.iand, 1) := by decide +kernel
theorem dX12_play_83 : decode cX12_play 83 = .ok (.iastore, 1) := by decide +kernel
theorem dX12_play_84 : decode cX12_play 84 = .ok (.iinc 3 1, 3) := by decide +kernel
theorem dX12_play_87 : decode cX12_play 87 = .ok (.goto (-39), 3) := by decide +kernel
theorem dX12_play_90 : decode cX12_play 90 = .ok (.aload_n 0, 1) := by decide +kernel
theorem dX12_play_91 : decode cX12_play 91 = .ok (.getfield 96, 3) := by decide +kernel
theorem dX12_play_94 : decode cX12_play 94 = .ok (.iload_n 1, 1) := by decide +kernel
theorem dX12_play_95 : decode cX12_play 95 = .ok (.iaload, 1) := by decide +kernel
theorem dX12_play_96 : decode cX12_play 96 = .ok (.ireturn, 1) := by decide +kernel
theorem dX12_tear_0 : decode cX12_tear 0 = .ok (.aload_n 0, 1) := by decide +kernel
theorem dX12_tear_1 : decode cX12_tear 1 = .ok (.iload_n 1, 1) := by decide +kernel
theorem dX12_tear_2 : decode cX12_tear 2 = .ok (.invokevirtual 236, 3) := by decide +kernel
theorem dX12_tear_5 : decode cX12_tear 5 = .ok (.istore_n 2, 1) := by decide +kernel
theorem dX12_tear_6 : decode cX12_tear 6 = .ok (.iload_n 2, 1) := by decide +kernel
theorem dX12_tear_7 : decode cX12_tear 7 = .ok (.ifCond .ge 5, 3) := by decide +kernel
theorem dX12_tear_10 : decode cX12_tear 10 = .ok (.iload_n 2, 1) := by decide +kernel
theorem dX12_tear_11 : decode cX12_tear 11 = .ok (.ireturn, 1) := by decide +kernel
theorem dX12_tear_12 : decode cX12_tear 12 = .ok (.aload_n 0, 1) := by decide +kernel
theorem dX12_tear_13 : decode cX12_tear 13 = .ok (.getfield 96, 3) := by decide +kernel
theorem dX12_tear_16 : decode cX12_tear 16 = .ok (.iload_n 1, 1) := by decide +kernel
theorem dX12_tear_17 : decode cX12_tear 17 = .ok (.bipush (-9), 2) := by decide +kernel
theorem dX12_tear_19 : decode cX12_tear 19 = .ok (.iastore, 1) := by decide +kernel
theorem dX12_tear_20 : decode cX12_tear 20 = .ok (.iconst 1, 1) := by decide +kernel
theorem dX12_tear_21 : decode cX12_tear 21 = .ok (.ireturn, 1) := by decide +kernel
theorem dX12_copy_0 : decode cX12_copy 0 = .ok (.iload_n 1, 1) := by decide +kernel
theorem dX12_copy_1 : decode cX12_copy 1 = .ok (.invokestatic 233, 3) := by decide +kernel
theorem dX12_copy_4 : decode cX12_copy 4 = .ok (.ifCond .eq 10, 3) := by decide +kernel
theorem dX12_copy_7 : decode cX12_copy 7 = .ok (.iload_n 3, 1) := by decide +kernel
theorem dX12_copy_8 : decode cX12_copy 8 = .ok (.invokestatic 233, 3) := by decide +kernel
theorem dX12_copy_11 : decode cX12_copy 11 = .ok (.ifCond .ne 5, 3) := by decide +kernel
theorem dX12_copy_14 : decode cX12_copy 14 = .ok (.iconst (-1), 1) := by decide +kernel
theorem dX12_copy_15 : decode cX12_copy 15 = .ok (.ireturn, 1) := by decide +kernel
theorem dX12_copy_16 : decode cX12_copy 16 = .ok (.iload 5, 2) := by decide +kernel
theorem dX12_copy_18 : decode cX12_copy 18 = .ok (.ifCond .ge 9, 3) := by decide +kernel
theorem dX12_copy_21 : decode cX12_copy 21 = .ok (.aload_n 0, 1) := by decide +kernel
theorem dX12_copy_22 : decode cX12_copy 22 = .ok (.iconst 5, 1) := by decide +kernel
theorem dX12_copy_23 : decode cX12_copy 23 = .ok (.invokevirtual 138, 3) := by decide +kernel
theorem dX12_copy_26 : decode cX12_copy 26 = .ok (.ireturn, 1) := by decide +kernel
theorem dX12_copy_27 : decode cX12_copy 27 = .ok (.aload_n 0, 1) := by decide +kernel
theorem dX12_copy_28 : decode cX12_copy 28 = .ok (.getfield 96, 3) := by decide +kernel
theorem dX12_copy_31 : decode cX12_copy 31 = .ok (.iload_n 1, 1) := by decide +kernel
theorem dX12_copy_32 : decode cX12_copy 32 = .ok (.iaload, 1) := by decide +kernel
theorem dX12_copy_33 : decode cX12_copy 33 = .ok (.ifCond .lt 12, 3) := by decide +kernel
theorem dX12_copy_36 : decode cX12_copy 36 = .ok (.aload_n 0, 1) := by decide +kernel
theorem dX12_copy_37 : decode cX12_copy 37 = .ok (.getfield 96, 3) := by decide +kernel
theorem dX12_copy_40 : decode cX12_copy 40 = .ok (.iload_n 3, 1) := by decide +kernel
theorem dX12_copy_41 : decode cX12_copy 41 = .ok (.iaload, 1) := by decide +kernel
theorem dX12_copy_42 : decode cX12_copy 42 = .ok (.ifCond .ge 9, 3) := by decide +kernel
theorem dX12_copy_45 : decode cX12_copy 45 = .ok (.aload_n 0, 1) := by decide +kernel
theorem dX12_copy_46 : decode cX12_copy 46 = .ok (.iconst 1, 1) := by decide +kernel
theorem dX12_copy_47 : decode cX12_copy 47 = .ok (.invokevirtual 138, 3) := by decide +kernel
theorem dX12_copy_50 : decode cX12_copy 50 = .ok (.ireturn, 1) := by decide +kernel
theorem dX12_copy_51 : decode cX12_copy 51 = .ok (.iload_n 2, 1) := by decide +kernel
theorem dX12_copy_52 : decode cX12_copy 52 = .ok (.ifCond .lt 43, 3) := by decide +kernel
theorem dX12_copy_55 : decode cX12_copy 55 = .ok (.iload 4, 2) := by decide +kernel
theorem dX12_copy_57 : decode cX12_copy 57 = .ok (.ifCond .lt 38, 3) := by decide +kernel
theorem dX12_copy_60 : decode cX12_copy 60 = .ok (.iload_n 2, 1) := by decide +kernel
theorem dX12_copy_61 : decode cX12_copy 61 = .ok (.i2l, 1) := by decide +kernel
theorem dX12_copy_62 : decode cX12_copy 62 = .ok (.iload 5, 2) := by decide +kernel
theorem dX12_copy_64 : decode cX12_copy 64 = .ok (.i2l, 1) := by decide +kernel
theorem dX12_copy_65 : decode cX12_copy 65 = .ok (.ladd, 1) := by decide +kernel
theorem dX12_copy_66 : decode cX12_copy 66 = .ok (.aload_n 0, 1) := by decide +kernel
theorem dX12_copy_67 : decode cX12_copy 67 = .ok (.getfield 96, 3) := by decide +kernel
theorem dX12_copy_70 : decode cX12_copy 70 = .ok (.iload_n 1, 1) := by decide +kernel
theorem dX12_copy_71 : decode cX12_copy 71 = .ok (.iaload, 1) := by decide +kernel
theorem dX12_copy_72 : decode cX12_copy 72 = .ok (.i2l, 1) := by decide +kernel
theorem dX12_copy_73 : decode cX12_copy 73 = .ok (.lcmp, 1) := by decide +kernel
theorem dX12_copy_74 : decode cX12_copy 74 = .ok (.ifCond .gt 21, 3) := by decide +kernel
theorem dX12_copy_77 : decode cX12_copy 77 = .ok (.iload 4, 2) := by decide +kernel
theorem dX12_copy_79 : decode cX12_copy 79 = .ok (.i2l, 1) := by decide +kernel
theorem dX12_copy_80 : decode cX12_copy 80 = .ok (.iload 5, 2) := by decide +kernel
theorem dX12_copy_82 : decode cX12_copy 82 = .ok (.i2l, 1) := by decide +kernel
theorem dX12_copy_83 : decode cX12_copy 83 = .ok (.ladd, 1) := by decide +kernel
theorem dX12_copy_84 : decode cX12_copy 84 = .ok (.aload_n 0, 1) := by decide +kernel
theorem dX12_copy_85 : decode cX12_copy 85 = .ok (.getfield 96, 3) := by decide +kernel
theorem dX12_copy_88 : decode cX12_copy 88 = .ok (.iload_n 3, 1) := by decide +kernel
theorem dX12_copy_89 : decode cX12_copy 89 = .ok (.iaload, 1) := by decide +kernel
theorem dX12_copy_90 : decode cX12_copy 90 = .ok (.i2l, 1) := by decide +kernel
theorem dX12_copy_91 : decode cX12_copy 91 = .ok (.lcmp, 1) := by decide +kernel
theorem dX12_copy_92 : decode cX12_copy 92 = .ok (.ifCond .le 9, 3) := by decide +kernel
theorem dX12_copy_95 : decode cX12_copy 95 = .ok (.aload_n 0, 1) := by decide +kernel
theorem dX12_copy_96 : decode cX12_copy 96 = .ok (.iconst 2, 1) := by decide +kernel
theorem dX12_copy_97 : decode cX12_copy 97 = .ok (.invokevirtual 138, 3) := by decide +kernel
theorem dX12_copy_100 : decode cX12_copy 100 = .ok (.ireturn, 1) := by decide +kernel
theorem dX12_copy_101 : decode cX12_copy 101 = .ok (.iconst 0, 1) := by decide +kernel
theorem dX12_copy_102 : decode cX12_copy 102 = .ok (.istore 6, 2) := by decide +kernel
theorem dX12_copy_104 : decode cX12_copy 104 = .ok (.iload 6, 2) := by decide +kernel
theorem dX12_copy_106 : decode cX12_copy 106 = .ok (.iload 5, 2) := by decide +kernel
theorem dX12_copy_108 : decode cX12_copy 108 = .ok (.if_icmp .ge 30, 3) := by decide +kernel
theorem dX12_copy_111 : decode cX12_copy 111 = .ok (.aload_n 0, 1) := by decide +kernel
theorem dX12_copy_112 : decode cX12_copy 112 = .ok (.getfield 102, 3) := by decide +kernel
theorem dX12_copy_115 : decode cX12_copy 115 = .ok (.iload 6, 2) := by decide +kernel
theorem dX12_copy_117 : decode cX12_copy 117 = .ok (.aload_n 0, 1) := by decide +kernel
theorem dX12_copy_118 : decode cX12_copy 118 = .ok (.getfield 99, 3) := by decide +kernel
theorem dX12_copy_121 : decode cX12_copy 121 = .ok (.bipush 24, 2) := by decide +kernel
theorem dX12_copy_123 : decode cX12_copy 123 = .ok (.iload_n 1, 1) := by decide +kernel
theorem dX12_copy_124 : decode cX12_copy 124 = .ok (.imul, 1) := by decide +kernel
theorem dX12_copy_125 : decode cX12_copy 125 = .ok (.iload_n 2, 1) := by decide +kernel
theorem dX12_copy_126 : decode cX12_copy 126 = .ok (.iadd, 1) := by decide +kernel
theorem dX12_copy_127 : decode cX12_copy 127 = .ok (.iload 6, 2) := by decide +kernel
theorem dX12_copy_129 : decode cX12_copy 129 = .ok (.iadd, 1) := by decide +kernel
theorem dX12_copy_130 : decode cX12_copy 130 = .ok (.iaload, 1) := by decide +kernel
theorem dX12_copy_131 : decode cX12_copy 131 = .ok (.iastore, 1) := by decide +kernel
theorem dX12_copy_132 : decode cX12_copy 132 = .ok (.iinc 6 1, 3) := by decide +kernel
theorem dX12_copy_135 : decode cX12_copy 135 = .ok (.goto (-31), 3) := by decide +kernel
theorem dX12_copy_138 : decode cX12_copy 138 = .ok (.iconst 0, 1) := by decide +kernel
theorem dX12_copy_139 : decode cX12_copy 139 = .ok (.istore 6, 2) := by decide +kernel
theorem dX12_copy_141 : decode cX12_copy 141 = .ok (.iload 6, 2) := by decide +kernel
theorem dX12_copy_143 : decode cX12_copy 143 = .ok (.iload 5, 2) := by decide +kernel
theorem dX12_copy_145 : decode cX12_copy 145 = .ok (.if_icmp .ge 31, 3) := by decide +kernel
theorem dX12_copy_148 : decode cX12_copy 148 = .ok (.aload_n 0, 1) := by decide +kernel
theorem dX12_copy_149 : decode cX12_copy 149 = .ok (.getfield 99, 3) := by decide +kernel
theorem dX12_copy_152 : decode cX12_copy 152 = .ok (.bipush 24, 2) := by decide +kernel
theorem dX12_copy_154 : decode cX12_copy 154 = .ok (.iload_n 3, 1) := by decide +kernel
theorem dX12_copy_155 : decode cX12_copy 155 = .ok (.imul, 1) := by decide +kernel
theorem dX12_copy_156 : decode cX12_copy 156 = .ok (.iload 4, 2) := by decide +kernel
theorem dX12_copy_158 : decode cX12_copy 158 = .ok (.iadd, 1) := by decide +kernel
theorem dX12_copy_159 : decode cX12_copy 159 = .ok (.iload 6, 2) := by decide +kernel
theorem dX12_copy_161 : decode cX12_copy 161 = .ok (.iadd, 1) := by decide +kernel
theorem dX12_copy_162 : decode cX12_copy 162 = .ok (.aload_n 0, 1) := by decide +kernel
theorem dX12_copy_163 : decode cX12_copy 163 = .ok (.getfield 102, 3) := by decide +kernel
theorem dX12_copy_166 : decode cX12_copy 166 = .ok (.iload 6, 2) := by decide +kernel
theorem dX12_copy_168 : decode cX12_copy 168 = .ok (.iaload, 1) := by decide +kernel
theorem dX12_copy_169 : decode cX12_copy 169 = .ok (.iastore, 1) := by decide +kernel
theorem dX12_copy_170 : decode cX12_copy 170 = .ok (.iinc 6 1, 3) := by decide +kernel
theorem dX12_copy_173 : decode cX12_copy 173 = .ok (.goto (-32), 3) := by decide +kernel
theorem dX12_copy_176 : decode cX12_copy 176 = .ok (.iconst 1, 1) := by decide +kernel
theorem dX12_copy_177 : decode cX12_copy 177 = .ok (.ireturn, 1) := by decide +kernel
theorem dX12_asked_0 : decode cX12_asked 0 = .ok (.aload_n 0, 1) := by decide +kernel
theorem dX12_asked_1 : decode cX12_asked 1 = .ok (.getfield 111, 3) := by decide +kernel
theorem dX12_asked_4 : decode cX12_asked 4 = .ok (.lreturn, 1) := by decide +kernel
theorem dX12_tellsCount_0 : decode cX12_tellsCount 0 = .ok (.iload_n 1, 1) := by decide +kernel
theorem dX12_tellsCount_1 : decode cX12_tellsCount 1 = .ok (.iconst 2, 1) := by decide +kernel
theorem dX12_tellsCount_2 : decode cX12_tellsCount 2 = .ok (.if_icmp .ge 19, 3) := by decide +kernel
theorem dX12_tellsCount_5 : decode cX12_tellsCount 5 = .ok (.iload_n 1, 1) := by decide +kernel
theorem dX12_tellsCount_6 : decode cX12_tellsCount 6 = .ok (.ifCond .ne 10, 3) := by decide +kernel
theorem dX12_tellsCount_9 : decode cX12_tellsCount 9 = .ok (.aload_n 0, 1) := by decide +kernel
theorem dX12_tellsCount_10 : decode cX12_tellsCount 10 = .ok (.getfield 13, 3) := by decide +kernel
theorem dX12_tellsCount_13 : decode cX12_tellsCount 13 = .ok (.goto 7, 3) := by decide +kernel
theorem dX12_tellsCount_16 : decode cX12_tellsCount 16 = .ok (.aload_n 0, 1) := by decide +kernel
theorem dX12_tellsCount_17 : decode cX12_tellsCount 17 = .ok (.getfield 115, 3) := by decide +kernel
theorem dX12_tellsCount_20 : decode cX12_tellsCount 20 = .ok (.ireturn, 1) := by decide +kernel
theorem dX12_tellsCount_21 : decode cX12_tellsCount 21 = .ok (.iconst 0, 1) := by decide +kernel
theorem dX12_tellsCount_22 : decode cX12_tellsCount 22 = .ok (.istore_n 2, 1) := by decide +kernel
theorem dX12_tellsCount_23 : decode cX12_tellsCount 23 = .ok (.iconst 0, 1) := by decide +kernel
theorem dX12_tellsCount_24 : decode cX12_tellsCount 24 = .ok (.istore_n 3, 1) := by decide +kernel
theorem dX12_tellsCount_25 : decode cX12_tellsCount 25 = .ok (.iload_n 3, 1) := by decide +kernel
theorem dX12_tellsCount_26 : decode cX12_tellsCount 26 = .ok (.aload_n 0, 1) := by decide +kernel
theorem dX12_tellsCount_27 : decode cX12_tellsCount 27 = .ok (.getfield 115, 3) := by decide +kernel
theorem dX12_tellsCount_30 : decode cX12_tellsCount 30 = .ok (.if_icmp .ge 33, 3) := by decide +kernel
theorem dX12_tellsCount_33 : decode cX12_tellsCount 33 = .ok (.iload_n 1, 1) := by decide +kernel
theorem dX12_tellsCount_34 : decode cX12_tellsCount 34 = .ok (.iconst 2, 1) := by decide +kernel
theorem dX12_tellsCount_35 : decode cX12_tellsCount 35 = .ok (.if_icmp .ne 28, 3) := by decide +kernel
theorem dX12_tellsCount_38 : decode cX12_tellsCount 38 = .ok (.iload_n 2, 1) := by decide +kernel
theorem dX12_tellsCount_39 : decode cX12_tellsCount 39 = .ok (.aload_n 0, 1) := by decide +kernel
theorem dX12_tellsCount_40 : decode cX12_tellsCount 40 = .ok (.getfield 33, 3) := by decide +kernel
theorem dX12_tellsCount_43 : decode cX12_tellsCount 43 = .ok (.iload_n 3, 1) := by decide +kernel
theorem dX12_tellsCount_44 : decode cX12_tellsCount 44 = .ok (.iaload, 1) := by decide +kernel
theorem dX12_tellsCount_45 : decode cX12_tellsCount 45 = .ok (.bipush (-9), 2) := by decide +kernel
theorem dX12_tellsCount_47 : decode cX12_tellsCount 47 = .ok (.if_icmp .eq 7, 3) := by decide +kernel
theorem dX12_tellsCount_50 : decode cX12_tellsCount 50 = .ok (.iconst 1, 1) := by decide +kernel
theorem dX12_tellsCount_51 : decode cX12_tellsCount 51 = .ok (.goto 4, 3) := by decide +kernel
theorem dX12_tellsCount_54 : decode cX12_tellsCount 54 = .ok (.iconst 0, 1) := by decide +kernel
theorem dX12_tellsCount_55 : decode cX12_tellsCount 55 = .ok (.iadd, 1) := by decide +kernel
theorem dX12_tellsCount_56 : decode cX12_tellsCount 56 = .ok (.istore_n 2, 1) := by decide +kernel
theorem dX12_tellsCount_57 : decode cX12_tellsCount 57 = .ok (.iinc 3 1, 3) := by decide +kernel
theorem dX12_tellsCount_60 : decode cX12_tellsCount 60 = .ok (.goto (-35), 3) := by decide +kernel
theorem dX12_tellsCount_63 : decode cX12_tellsCount 63 = .ok (.aload_n 0, 1) := by decide +kernel
theorem dX12_tellsCount_64 : decode cX12_tellsCount 64 = .ok (.bipush (-9), 2) := by decide +kernel
theorem dX12_tellsCount_66 : decode cX12_tellsCount 66 = .ok (.invokevirtual 148, 3) := by decide +kernel
theorem dX12_tellsCount_69 : decode cX12_tellsCount 69 = .ok (.iconst 0, 1) := by decide +kernel
theorem dX12_tellsCount_70 : decode cX12_tellsCount 70 = .ok (.istore_n 3, 1) := by decide +kernel
theorem dX12_tellsCount_71 : decode cX12_tellsCount 71 = .ok (.iload_n 3, 1) := by decide +kernel
theorem dX12_tellsCount_72 : decode cX12_tellsCount 72 = .ok (.aload_n 0, 1) := by decide +kernel
theorem dX12_tellsCount_73 : decode cX12_tellsCount 73 = .ok (.getfield 13, 3) := by decide +kernel
theorem dX12_tellsCount_76 : decode cX12_tellsCount 76 = .ok (.if_icmp .ge 96, 3) := by decide +kernel
theorem dX12_tellsCount_79 : decode cX12_tellsCount 79 = .ok (.iload_n 1, 1) := by decide +kernel
theorem dX12_tellsCount_80 : decode cX12_tellsCount 80 = .ok (.iconst 2, 1) := by decide +kernel
theorem dX12_tellsCount_81 : decode cX12_tellsCount 81 = .ok (.if_icmp .le 91, 3) := by decide +kernel
theorem dX12_tellsCount_84 : decode cX12_tellsCount 84 = .ok (.iconst 0, 1) := by decide +kernel
theorem dX12_tellsCount_85 : decode cX12_tellsCount 85 = .ok (.istore 4, 2) := by decide +kernel
theorem dX12_tellsCount_87 : decode cX12_tellsCount 87 = .ok (.iload 4, 2) := by decide +kernel
theorem dX12_tellsCount_89 : decode cX12_tellsCount 89 = .ok (.aload_n 0, 1) := by decide +kernel
theorem dX12_tellsCount_90 : decode cX12_tellsCount 90 = .ok (.getfield 13, 3) := by decide +kernel
theorem dX12_tellsCount_93 : decode cX12_tellsCount 93 = .ok (.if_icmp .ge 73, 3) := by decide +kernel
theorem dX12_tellsCount_96 : decode cX12_tellsCount 96 = .ok (.aload_n 0, 1) := by decide +kernel
theorem dX12_tellsCount_97 : decode cX12_tellsCount 97 = .ok (.getfield 13, 3) := by decide +kernel
theorem dX12_tellsCount_100 : decode cX12_tellsCount 100 = .ok (.iload_n 3, 1) := by decide +kernel
theorem dX12_tellsCount_101 : decode cX12_tellsCount 101 = .ok (.imul, 1) := by decide +kernel
theorem dX12_tellsCount_102 : decode cX12_tellsCount 102 = .ok (.iload 4, 2) := by decide +kernel
theorem dX12_tellsCount_104 : decode cX12_tellsCount 104 = .ok (.iadd, 1) := by decide +kernel
theorem dX12_tellsCount_105 : decode cX12_tellsCount 105 = .ok (.istore 5, 2) := by decide +kernel
theorem dX12_tellsCount_107 : decode cX12_tellsCount 107 = .ok (.iload_n 2, 1) := by decide +kernel
theorem dX12_tellsCount_108 : decode cX12_tellsCount 108 = .ok (.iload_n 3, 1) := by decide +kernel
theorem dX12_tellsCount_109 : decode cX12_tellsCount 109 = .ok (.iload 4, 2) := by decide +kernel
theorem dX12_tellsCount_111 : decode cX12_tellsCount 111 = .ok (.if_icmp .ne 7, 3) := by decide +kernel
theorem dX12_tellsCount_114 : decode cX12_tellsCount 114 = .ok (.iconst 0, 1) := by decide +kernel
theorem dX12_tellsCount_115 : decode cX12_tellsCount 115 = .ok (.goto 43, 3) := by decide +kernel
theorem dX12_tellsCount_118 : decode cX12_tellsCount 118 = .ok (.iload_n 1, 1) := by decide +kernel
theorem dX12_tellsCount_119 : decode cX12_tellsCount 119 = .ok (.iconst 3, 1) := by decide +kernel
theorem dX12_tellsCount_120 : decode cX12_tellsCount 120 = .ok (.if_icmp .ne 23, 3) := by decide +kernel
theorem dX12_tellsCount_123 : decode cX12_tellsCount 123 = .ok (.aload_n 0, 1) := by decide +kernel
theorem dX12_tellsCount_124 : decode cX12_tellsCount 124 = .ok (.getfield 39, 3) := by decide +kernel
theorem dX12_tellsCount_127 : decode cX12_tellsCount 127 = .ok (.iload 5, 2) := by decide +kernel
theorem dX12_tellsCount_129 : decode cX12_tellsCount 129 = .ok (.iaload, 1) := by decide +kernel
theorem dX12_tellsCount_130 : decode cX12_tellsCount 130 = .ok (.bipush (-9), 2) := by decide +kernel
theorem dX12_tellsCount_132 : decode cX12_tellsCount 132 = .ok (.if_icmp .eq 7, 3) := by decide +kernel
theorem dX12_tellsCount_135 : decode cX12_tellsCount 135 = .ok (.iconst 1, 1) := by decide +kernel
theorem dX12_tellsCount_136 : decode cX12_tellsCount 136 = .ok (.goto 22, 3) := by decide +kernel
theorem dX12_tellsCount_139 : decode cX12_tellsCount 139 = .ok (.iconst 0, 1) := by decide +kernel
theorem dX12_tellsCount_140 : decode cX12_tellsCount 140 = .ok (.goto 18, 3) := by decide +kernel
theorem dX12_tellsCount_143 : decode cX12_tellsCount 143 = .ok (.aload_n 0, 1) := by decide +kernel
theorem dX12_tellsCount_144 : decode cX12_tellsCount 144 = .ok (.getfield 48, 3) := by decide +kernel
theorem dX12_tellsCount_147 : decode cX12_tellsCount 147 = .ok (.iload 5, 2) := by decide +kernel
theorem dX12_tellsCount_149 : decode cX12_tellsCount 149 = .ok (.iaload, 1) := by decide +kernel
theorem dX12_tellsCount_150 : decode cX12_tellsCount 150 = .ok (.ifCond .ge 7, 3) := by decide +kernel
theorem dX12_tellsCount_153 : decode cX12_tellsCount 153 = .ok (.iconst 1, 1) := by decide +kernel
theorem dX12_tellsCount_154 : decode cX12_tellsCount 154 = .ok (.goto 4, 3) := by decide +kernel
theorem dX12_tellsCount_157 : decode cX12_tellsCount 157 = .ok (.iconst 0, 1) := by decide +kernel
theorem dX12_tellsCount_158 : decode cX12_tellsCount 158 = .ok (.iadd, 1) := by decide +kernel
theorem dX12_tellsCount_159 : decode cX12_tellsCount 159 = .ok (.istore_n 2, 1) := by decide +kernel
theorem dX12_tellsCount_160 : decode cX12_tellsCount 160 = .ok (.iinc 4 1, 3) := by decide +kernel
theorem dX12_tellsCount_163 : decode cX12_tellsCount 163 = .ok (.goto (-76), 3) := by decide +kernel
theorem dX12_tellsCount_166 : decode cX12_tellsCount 166 = .ok (.iinc 3 1, 3) := by decide +kernel
theorem dX12_tellsCount_169 : decode cX12_tellsCount 169 = .ok (.goto (-98), 3) := by decide +kernel
theorem dX12_tellsCount_172 : decode cX12_tellsCount 172 = .ok (.iload_n 2, 1) := by decide +kernel
theorem dX12_tellsCount_173 : decode cX12_tellsCount 173 = .ok (.ireturn, 1) := by decide +kernel
theorem dX12_count_0 : decode cX12_count 0 = .ok (.iload_n 1, 1) := by decide +kernel
theorem dX12_count_1 : decode cX12_count 1 = .ok (.iconst 0, 1) := by decide +kernel
theorem dX12_count_2 : decode cX12_count 2 = .ok (.iconst 4, 1) := by decide +kernel
theorem dX12_count_3 : decode cX12_count 3 = .ok (.invokestatic 122, 3) := by decide +kernel
theorem dX12_count_6 : decode cX12_count 6 = .ok (.ifCond .eq 11, 3) := by decide +kernel
theorem dX12_count_9 : decode cX12_count 9 = .ok (.aload_n 0, 1) := by decide +kernel
theorem dX12_count_10 : decode cX12_count 10 = .ok (.iload_n 1, 1) := by decide +kernel
theorem dX12_count_11 : decode cX12_count 11 = .ok (.invokevirtual 239, 3) := by decide +kernel
theorem dX12_count_14 : decode cX12_count 14 = .ok (.goto 4, 3) := by decide +kernel
theorem dX12_count_17 : decode cX12_count 17 = .ok (.iconst (-1), 1) := by decide +kernel
theorem dX12_count_18 : decode cX12_count 18 = .ok (.ireturn, 1) := by decide +kernel
theorem dX12_finding_0 : decode cX12_finding 0 = .ok (.aload_n 0, 1) := by decide +kernel
theorem dX12_finding_1 : decode cX12_finding 1 = .ok (.getfield 108, 3) := by decide +kernel
theorem dX12_finding_4 : decode cX12_finding 4 = .ok (.ireturn, 1) := by decide +kernel
theorem dX12_findings_0 : decode cX12_findings 0 = .ok (.iload_n 1, 1) := by decide +kernel
theorem dX12_findings_1 : decode cX12_findings 1 = .ok (.iconst 1, 1) := by decide +kernel
theorem dX12_findings_2 : decode cX12_findings 2 = .ok (.iconst 5, 1) := by decide +kernel
theorem dX12_findings_3 : decode cX12_findings 3 = .ok (.invokestatic 122, 3) := by decide +kernel
theorem dX12_findings_6 : decode cX12_findings 6 = .ok (.ifCond .eq 12, 3) := by decide +kernel
theorem dX12_findings_9 : decode cX12_findings 9 = .ok (.aload_n 0, 1) := by decide +kernel
theorem dX12_findings_10 : decode cX12_findings 10 = .ok (.getfield 7, 3) := by decide +kernel
theorem dX12_findings_13 : decode cX12_findings 13 = .ok (.iload_n 1, 1) := by decide +kernel
theorem dX12_findings_14 : decode cX12_findings 14 = .ok (.iaload, 1) := by decide +kernel
theorem dX12_findings_15 : decode cX12_findings 15 = .ok (.goto 4, 3) := by decide +kernel
theorem dX12_findings_18 : decode cX12_findings 18 = .ok (.iconst (-1), 1) := by decide +kernel
theorem dX12_findings_19 : decode cX12_findings 19 = .ok (.ireturn, 1) := by decide +kernel
theorem dX12_digest_0 : decode cX12_digest 0 = .ok (.ldc2_w 242, 3) := by decide +kernel
theorem dX12_digest_3 : decode cX12_digest 3 = .ok (.lstore_n 1, 1) := by decide +kernel
theorem dX12_digest_4 : decode cX12_digest 4 = .ok (.iconst 0, 1) := by decide +kernel
theorem dX12_digest_5 : decode cX12_digest 5 = .ok (.istore_n 3, 1) := by decide +kernel
theorem dX12_digest_6 : decode cX12_digest 6 = .ok (.iload_n 3, 1) := by decide +kernel
theorem dX12_digest_7 : decode cX12_digest 7 = .ok (.iconst 4, 1) := by decide +kernel
theorem dX12_digest_8 : decode cX12_digest 8 = .ok (.if_icmp .gt 22, 3) := by decide +kernel
theorem dX12_digest_11 : decode cX12_digest 11 = .ok (.ldc2_w 244, 3) := by decide +kernel
theorem dX12_digest_14 : decode cX12_digest 14 = .ok (.lload_n 1, 1) := by decide +kernel
theorem dX12_digest_15 : decode cX12_digest 15 = .ok (.lmul, 1) := by decide +kernel
theorem dX12_digest_16 : decode cX12_digest 16 = .ok (.aload_n 0, 1) := by decide +kernel
theorem dX12_digest_17 : decode cX12_digest 17 = .ok (.iload_n 3, 1) := by decide +kernel
theorem dX12_digest_18 : decode cX12_digest 18 = .ok (.invokevirtual 239, 3) := by decide +kernel
theorem dX12_digest_21 : decode cX12_digest 21 = .ok (.i2l, 1) := by decide +kernel
theorem dX12_digest_22 : decode cX12_digest 22 = .ok (.ladd, 1) := by decide +kernel
theorem dX12_digest_23 : decode cX12_digest 23 = .ok (.lstore_n 1, 1) := by decide +kernel
theorem dX12_digest_24 : decode cX12_digest 24 = .ok (.iinc 3 1, 3) := by decide +kernel
theorem dX12_digest_27 : decode cX12_digest 27 = .ok (.goto (-21), 3) := by decide +kernel
theorem dX12_digest_30 : decode cX12_digest 30 = .ok (.iconst 0, 1) := by decide +kernel
theorem dX12_digest_31 : decode cX12_digest 31 = .ok (.istore_n 3, 1) := by decide +kernel
theorem dX12_digest_32 : decode cX12_digest 32 = .ok (.iload_n 3, 1) := by decide +kernel
theorem dX12_digest_33 : decode cX12_digest 33 = .ok (.aload_n 0, 1) := by decide +kernel
theorem dX12_digest_34 : decode cX12_digest 34 = .ok (.getfield 115, 3) := by decide +kernel
theorem dX12_digest_37 : decode cX12_digest 37 = .ok (.if_icmp .ge 83, 3) := by decide +kernel
theorem dX12_digest_40 : decode cX12_digest 40 = .ok (.iconst 0, 1) := by decide +kernel
theorem dX12_digest_41 : decode cX12_digest 41 = .ok (.istore 4, 2) := by decide +kernel
theorem dX12_digest_43 : decode cX12_digest 43 = .ok (.iload 4, 2) := by decide +kernel
theorem dX12_digest_45 : decode cX12_digest 45 = .ok (.iconst 5, 1) := by decide +kernel
theorem dX12_digest_46 : decode cX12_digest 46 = .ok (.if_icmp .gt 24, 3) := by decide +kernel
theorem dX12_digest_49 : decode cX12_digest 49 = .ok (.ldc2_w 244, 3) := by decide +kernel
theorem dX12_digest_52 : decode cX12_digest 52 = .ok (.lload_n 1, 1) := by decide +kernel
theorem dX12_digest_53 : decode cX12_digest 53 = .ok (.lmul, 1) := by decide +kernel
theorem dX12_digest_54 : decode cX12_digest 54 = .ok (.aload_n 0, 1) := by decide +kernel
theorem dX12_digest_55 : decode cX12_digest 55 = .ok (.iload_n 3, 1) := by decide +kernel
theorem dX12_digest_56 : decode cX12_digest 56 = .ok (.iload 4, 2) := by decide +kernel
theorem dX12_digest_58 : decode cX12_digest 58 = .ok (.invokevirtual 133, 3) := by decide +kernel
theorem dX12_digest_61 : decode cX12_digest 61 = .ok (.i2l, 1) := by decide +kernel
theorem dX12_digest_62 : decode cX12_digest 62 = .ok (.ladd, 1) := by decide +kernel
theorem dX12_digest_63 : decode cX12_digest 63 = .ok (.lstore_n 1, 1) := by decide +kernel
theorem dX12_digest_64 : decode cX12_digest 64 = .ok (.iinc 4 1, 3) := by decide +kernel
theorem dX12_digest_67 : decode cX12_digest 67 = .ok (.goto (-24), 3) := by decide +kernel
theorem dX12_digest_70 : decode cX12_digest 70 = .ok (.iconst 0, 1) := by decide +kernel
theorem dX12_digest_71 : decode cX12_digest 71 = .ok (.istore 4, 2) := by decide +kernel
theorem dX12_digest_73 : decode cX12_digest 73 = .ok (.iload 4, 2) := by decide +kernel
theorem dX12_digest_75 : decode cX12_digest 75 = .ok (.bipush 24, 2) := by decide +kernel
theorem dX12_digest_77 : decode cX12_digest 77 = .ok (.if_icmp .ge 37, 3) := by decide +kernel
theorem dX12_digest_80 : decode cX12_digest 80 = .ok (.aload_n 0, 1) := by decide +kernel
theorem dX12_digest_81 : decode cX12_digest 81 = .ok (.iload_n 3, 1) := by decide +kernel
theorem dX12_digest_82 : decode cX12_digest 82 = .ok (.invokevirtual 153, 3) := by decide +kernel
theorem dX12_digest_85 : decode cX12_digest 85 = .ok (.ifCond .eq 29, 3) := by decide +kernel
theorem dX12_digest_88 : decode cX12_digest 88 = .ok (.ldc2_w 244, 3) := by decide +kernel
theorem dX12_digest_91 : decode cX12_digest 91 = .ok (.lload_n 1, 1) := by decide +kernel
theorem dX12_digest_92 : decode cX12_digest 92 = .ok (.lmul, 1) := by decide +kernel
theorem dX12_digest_93 : decode cX12_digest 93 = .ok (.aload_n 0, 1) := by decide +kernel
theorem dX12_digest_94 : decode cX12_digest 94 = .ok (.getfield 36, 3) := by decide +kernel
theorem dX12_digest_97 : decode cX12_digest 97 = .ok (.bipush 24, 2) := by decide +kernel
theorem dX12_digest_99 : decode cX12_digest 99 = .ok (.iload_n 3, 1) := by decide +kernel
theorem dX12_digest_100 : decode cX12_digest 100 = .ok (.imul, 1) := by decide +kernel
theorem dX12_digest_101 : decode cX12_digest 101 = .ok (.iload 4, 2) := by decide +kernel
theorem dX12_digest_103 : decode cX12_digest 103 = .ok (.iadd, 1) := by decide +kernel
theorem dX12_digest_104 : decode cX12_digest 104 = .ok (.iaload, 1) := by decide +kernel
theorem dX12_digest_105 : decode cX12_digest 105 = .ok (.i2l, 1) := by decide +kernel
theorem dX12_digest_106 : decode cX12_digest 106 = .ok (.ladd, 1) := by decide +kernel
theorem dX12_digest_107 : decode cX12_digest 107 = .ok (.lstore_n 1, 1) := by decide +kernel
theorem dX12_digest_108 : decode cX12_digest 108 = .ok (.iinc 4 1, 3) := by decide +kernel
theorem dX12_digest_111 : decode cX12_digest 111 = .ok (.goto (-38), 3) := by decide +kernel
theorem dX12_digest_114 : decode cX12_digest 114 = .ok (.iinc 3 1, 3) := by decide +kernel
theorem dX12_digest_117 : decode cX12_digest 117 = .ok (.goto (-85), 3) := by decide +kernel
theorem dX12_digest_120 : decode cX12_digest 120 = .ok (.iconst 0, 1) := by decide +kernel
theorem dX12_digest_121 : decode cX12_digest 121 = .ok (.istore_n 3, 1) := by decide +kernel
theorem dX12_digest_122 : decode cX12_digest 122 = .ok (.iload_n 3, 1) := by decide +kernel
theorem dX12_digest_123 : decode cX12_digest 123 = .ok (.aload_n 0, 1) := by decide +kernel
theorem dX12_digest_124 : decode cX12_digest 124 = .ok (.getfield 13, 3) := by decide +kernel
theorem dX12_digest_127 : decode cX12_digest 127 = .ok (.if_icmp .ge 75, 3) := by decide +kernel
theorem dX12_digest_130 : decode cX12_digest 130 = .ok (.iconst 0, 1) := by decide +kernel
theorem dX12_digest_131 : decode cX12_digest 131 = .ok (.istore 4, 2) := by decide +kernel
theorem dX12_digest_133 : decode cX12_digest 133 = .ok (.iload 4, 2) := by decide +kernel
theorem dX12_digest_135 : decode cX12_digest 135 = .ok (.aload_n 0, 1) := by decide +kernel
theorem dX12_digest_136 : decode cX12_digest 136 = .ok (.getfield 13, 3) := by decide +kernel
theorem dX12_digest_139 : decode cX12_digest 139 = .ok (.if_icmp .ge 57, 3) := by decide +kernel
theorem dX12_digest_142 : decode cX12_digest 142 = .ok (.iload_n 3, 1) := by decide +kernel
theorem dX12_digest_143 : decode cX12_digest 143 = .ok (.iload 4, 2) := by decide +kernel
theorem dX12_digest_145 : decode cX12_digest 145 = .ok (.if_icmp .eq 45, 3) := by decide +kernel
theorem dX12_digest_148 : decode cX12_digest 148 = .ok (.ldc2_w 244, 3) := by decide +kernel
theorem dX12_digest_151 : decode cX12_digest 151 = .ok (.ldc2_w 244, 3) := by decide +kernel
theorem dX12_digest_154 : decode cX12_digest 154 = .ok (.lload_n 1, 1) := by decide +kernel
theorem dX12_digest_155 : decode cX12_digest 155 = .ok (.lmul, 1) := by decide +kernel
theorem dX12_digest_156 : decode cX12_digest 156 = .ok (.aload_n 0, 1) := by decide +kernel
theorem dX12_digest_157 : decode cX12_digest 157 = .ok (.getfield 39, 3) := by decide +kernel
theorem dX12_digest_160 : decode cX12_digest 160 = .ok (.aload_n 0, 1) := by decide +kernel
theorem dX12_digest_161 : decode cX12_digest 161 = .ok (.getfield 13, 3) := by decide +kernel
theorem dX12_digest_164 : decode cX12_digest 164 = .ok (.iload_n 3, 1) := by decide +kernel
theorem dX12_digest_165 : decode cX12_digest 165 = .ok (.imul, 1) := by decide +kernel
theorem dX12_digest_166 : decode cX12_digest 166 = .ok (.iload 4, 2) := by decide +kernel
theorem dX12_digest_168 : decode cX12_digest 168 = .ok (.iadd, 1) := by decide +kernel
theorem dX12_digest_169 : decode cX12_digest 169 = .ok (.iaload, 1) := by decide +kernel
theorem dX12_digest_170 : decode cX12_digest 170 = .ok (.i2l, 1) := by decide +kernel
theorem dX12_digest_171 : decode cX12_digest 171 = .ok (.ladd, 1) := by decide +kernel
theorem dX12_digest_172 : decode cX12_digest 172 = .ok (.lmul, 1) := by decide +kernel
theorem dX12_digest_173 : decode cX12_digest 173 = .ok (.aload_n 0, 1) := by decide +kernel
theorem dX12_digest_174 : decode cX12_digest 174 = .ok (.getfield 42, 3) := by decide +kernel
theorem dX12_digest_177 : decode cX12_digest 177 = .ok (.aload_n 0, 1) := by decide +kernel
theorem dX12_digest_178 : decode cX12_digest 178 = .ok (.getfield 13, 3) := by decide +kernel
theorem dX12_digest_181 : decode cX12_digest 181 = .ok (.iload_n 3, 1) := by decide +kernel
theorem dX12_digest_182 : decode cX12_digest 182 = .ok (.imul, 1) := by decide +kernel
theorem dX12_digest_183 : decode cX12_digest 183 = .ok (.iload 4, 2) := by decide +kernel
theorem dX12_digest_185 : decode cX12_digest 185 = .ok (.iadd, 1) := by decide +kernel
theorem dX12_digest_186 : decode cX12_digest 186 = .ok (.iaload, 1) := by decide +kernel
theorem dX12_digest_187 : decode cX12_digest 187 = .ok (.i2l, 1) := by decide +kernel
theorem dX12_digest_188 : decode cX12_digest 188 = .ok (.ladd, 1) := by decide +kernel
theorem dX12_digest_189 : decode cX12_digest 189 = .ok (.lstore_n 1, 1) := by decide +kernel
theorem dX12_digest_190 : decode cX12_digest 190 = .ok (.iinc 4 1, 3) := by decide +kernel
theorem dX12_digest_193 : decode cX12_digest 193 = .ok (.goto (-60), 3) := by decide +kernel
theorem dX12_digest_196 : decode cX12_digest 196 = .ok (.iinc 3 1, 3) := by decide +kernel
theorem dX12_digest_199 : decode cX12_digest 199 = .ok (.goto (-77), 3) := by decide +kernel
theorem dX12_digest_202 : decode cX12_digest 202 = .ok (.iconst 0, 1) := by decide +kernel
theorem dX12_digest_203 : decode cX12_digest 203 = .ok (.istore_n 3, 1) := by decide +kernel
theorem dX12_digest_204 : decode cX12_digest 204 = .ok (.iload_n 3, 1) := by decide +kernel
theorem dX12_digest_205 : decode cX12_digest 205 = .ok (.iconst 4, 1) := by decide +kernel
theorem dX12_digest_206 : decode cX12_digest 206 = .ok (.if_icmp .ge 76, 3) := by decide +kernel
theorem dX12_digest_209 : decode cX12_digest 209 = .ok (.ldc2_w 244, 3) := by decide +kernel
theorem dX12_digest_212 : decode cX12_digest 212 = .ok (.lload_n 1, 1) := by decide +kernel
theorem dX12_digest_213 : decode cX12_digest 213 = .ok (.lmul, 1) := by decide +kernel
theorem dX12_digest_214 : decode cX12_digest 214 = .ok (.aload_n 0, 1) := by decide +kernel
theorem dX12_digest_215 : decode cX12_digest 215 = .ok (.getfield 96, 3) := by decide +kernel
theorem dX12_digest_218 : decode cX12_digest 218 = .ok (.iload_n 3, 1) := by decide +kernel
theorem dX12_digest_219 : decode cX12_digest 219 = .ok (.iaload, 1) := by decide +kernel
theorem dX12_digest_220 : decode cX12_digest 220 = .ok (.ifCond .ge 7, 3) := by decide +kernel
theorem dX12_digest_223 : decode cX12_digest 223 = .ok (.iconst (-1), 1) := by decide +kernel
theorem dX12_digest_224 : decode cX12_digest 224 = .ok (.goto 9, 3) := by decide +kernel
theorem dX12_digest_227 : decode cX12_digest 227 = .ok (.aload_n 0, 1) := by decide +kernel
theorem dX12_digest_228 : decode cX12_digest 228 = .ok (.getfield 96, 3) := by decide +kernel
theorem dX12_digest_231 : decode cX12_digest 231 = .ok (.iload_n 3, 1) := by decide +kernel
theorem dX12_digest_232 : decode cX12_digest 232 = .ok (.iaload, 1) := by decide +kernel
theorem dX12_digest_233 : decode cX12_digest 233 = .ok (.i2l, 1) := by decide +kernel
theorem dX12_digest_234 : decode cX12_digest 234 = .ok (.ladd, 1) := by decide +kernel
theorem dX12_digest_235 : decode cX12_digest 235 = .ok (.lstore_n 1, 1) := by decide +kernel
theorem dX12_digest_236 : decode cX12_digest 236 = .ok (.iconst 0, 1) := by decide +kernel
theorem dX12_digest_237 : decode cX12_digest 237 = .ok (.istore 4, 2) := by decide +kernel
theorem dX12_digest_239 : decode cX12_digest 239 = .ok (.iload 4, 2) := by decide +kernel
theorem dX12_digest_241 : decode cX12_digest 241 = .ok (.aload_n 0, 1) := by decide +kernel
theorem dX12_digest_242 : decode cX12_digest 242 = .ok (.getfield 96, 3) := by decide +kernel
theorem dX12_digest_245 : decode cX12_digest 245 = .ok (.iload_n 3, 1) := by decide +kernel
theorem dX12_digest_246 : decode cX12_digest 246 = .ok (.iaload, 1) := by decide +kernel
theorem dX12_digest_247 : decode cX12_digest 247 = .ok (.if_icmp .ge 29, 3) := by decide +kernel
theorem dX12_digest_250 : decode cX12_digest 250 = .ok (.ldc2_w 244, 3) := by decide +kernel
theorem dX12_digest_253 : decode cX12_digest 253 = .ok (.lload_n 1, 1) := by decide +kernel
theorem dX12_digest_254 : decode cX12_digest 254 = .ok (.lmul, 1) := by decide +kernel
theorem dX12_digest_255 : decode cX12_digest 255 = .ok (.aload_n 0, 1) := by decide +kernel
theorem dX12_digest_256 : decode cX12_digest 256 = .ok (.getfield 99, 3) := by decide +kernel
theorem dX12_digest_259 : decode cX12_digest 259 = .ok (.bipush 24, 2) := by decide +kernel
theorem dX12_digest_261 : decode cX12_digest 261 = .ok (.iload_n 3, 1) := by decide +kernel
theorem dX12_digest_262 : decode cX12_digest 262 = .ok (.imul, 1) := by decide +kernel
theorem dX12_digest_263 : decode cX12_digest 263 = .ok (.iload 4, 2) := by decide +kernel
theorem dX12_digest_265 : decode cX12_digest 265 = .ok (.iadd, 1) := by decide +kernel
theorem dX12_digest_266 : decode cX12_digest 266 = .ok (.iaload, 1) := by decide +kernel
theorem dX12_digest_267 : decode cX12_digest 267 = .ok (.i2l, 1) := by decide +kernel
theorem dX12_digest_268 : decode cX12_digest 268 = .ok (.ladd, 1) := by decide +kernel
theorem dX12_digest_269 : decode cX12_digest 269 = .ok (.lstore_n 1, 1) := by decide +kernel
theorem dX12_digest_270 : decode cX12_digest 270 = .ok (.iinc 4 1, 3) := by decide +kernel
theorem dX12_digest_273 : decode cX12_digest 273 = .ok (.goto (-34), 3) := by decide +kernel
theorem dX12_digest_276 : decode cX12_digest 276 = .ok (.iinc 3 1, 3) := by decide +kernel
theorem dX12_digest_279 : decode cX12_digest 279 = .ok (.goto (-75), 3) := by decide +kernel
theorem dX12_digest_282 : decode cX12_digest 282 = .ok (.lload_n 1, 1) := by decide +kernel
theorem dX12_digest_283 : decode cX12_digest 283 = .ok (.lreturn, 1) := by decide +kernel
theorem dX0_init_0 : decode cX0_init 0 = .ok (.aload_n 0, 1) := by decide +kernel
theorem dX0_init_1 : decode cX0_init 1 = .ok (.invokespecial 3, 3) := by decide +kernel
theorem dX0_init_4 : decode cX0_init 4 = .ok (.aload_n 0, 1) := by decide +kernel
theorem dX0_init_5 : decode cX0_init 5 = .ok (.bipush 36, 2) := by decide +kernel
theorem dX0_init_7 : decode cX0_init 7 = .ok (.newarray .int, 2) := by decide +kernel
theorem dX0_init_9 : decode cX0_init 9 = .ok (.putfield 9, 3) := by decide +kernel
theorem dX0_init_12 : decode cX0_init 12 = .ok (.aload_n 0, 1) := by decide +kernel
theorem dX0_init_13 : decode cX0_init 13 = .ok (.iconst 0, 1) := by decide +kernel
theorem dX0_init_14 : decode cX0_init 14 = .ok (.putfield 15, 3) := by decide +kernel
theorem dX0_init_17 : decode cX0_init 17 = .ok (.aload_n 0, 1) := by decide +kernel
theorem dX0_init_18 : decode cX0_init 18 = .ok (.iconst 0, 1) := by decide +kernel
theorem dX0_init_19 : decode cX0_init 19 = .ok (.putfield 19, 3) := by decide +kernel
theorem dX0_init_22 : decode cX0_init 22 = .ok (.return_, 1) := by decide +kernel
theorem dX0_begin_0 : decode cX0_begin 0 = .ok (.aload_n 0, 1) := by decide +kernel
theorem dX0_begin_1 : decode cX0_begin 1 = .ok (.iconst 0, 1) := by decide +kernel
theorem dX0_begin_2 : decode cX0_begin 2 = .ok (.putfield 15, 3) := by decide +kernel
theorem dX0_begin_5 : decode cX0_begin 5 = .ok (.aload_n 0, 1) := by decide +kernel
theorem dX0_begin_6 : decode cX0_begin 6 = .ok (.iconst 0, 1) := by decide +kernel
theorem dX0_begin_7 : decode cX0_begin 7 = .ok (.putfield 19, 3) := by decide +kernel
theorem dX0_begin_10 : decode cX0_begin 10 = .ok (.return_, 1) := by decide +kernel
theorem dX0_hasEnough_0 : decode cX0_hasEnough 0 = .ok (.aload_n 0, 1) := by decide +kernel
theorem dX0_hasEnough_1 : decode cX0_hasEnough 1 = .ok (.aload_n 1, 1) := by decide +kernel
theorem dX0_hasEnough_2 : decode cX0_hasEnough 2 = .ok (.invokevirtual 23, 3) := by decide +kernel
theorem dX0_hasEnough_5 : decode cX0_hasEnough 5 = .ok (.istore_n 2, 1) := by decide +kernel
theorem dX0_hasEnough_6 : decode cX0_hasEnough 6 = .ok (.aload_n 0, 1) := by decide +kernel
theorem dX0_hasEnough_7 : decode cX0_hasEnough 7 = .ok (.getfield 15, 3) := by decide +kernel
theorem dX0_hasEnough_10 : decode cX0_hasEnough 10 = .ok (.ifCond .eq 13, 3) := by decide +kernel
theorem dX0_hasEnough_13 : decode cX0_hasEnough 13 = .ok (.iload_n 2, 1) := by decide +kernel
theorem dX0_hasEnough_14 : decode cX0_hasEnough 14 = .ok (.aload_n 0, 1) := by decide +kernel
theorem dX0_hasEnough_15 : decode cX0_hasEnough 15 = .ok (.getfield 19, 3) := by decide +kernel
theorem dX0_hasEnough_18 : decode cX0_hasEnough 18 = .ok (.if_icmp .lt 5, 3) := by decide +kernel
theorem dX0_hasEnough_21 : decode cX0_hasEnough 21 = .ok (.iconst 0, 1) := by decide +kernel
theorem dX0_hasEnough_22 : decode cX0_hasEnough 22 = .ok (.ireturn, 1) := by decide +kernel
theorem dX0_hasEnough_23 : decode cX0_hasEnough 23 = .ok (.aload_n 0, 1) := by decide +kernel
theorem dX0_hasEnough_24 : decode cX0_hasEnough 24 = .ok (.iconst 1, 1) := by decide +kernel
theorem dX0_hasEnough_25 : decode cX0_hasEnough 25 = .ok (.putfield 15, 3) := by decide +kernel
theorem dX0_hasEnough_28 : decode cX0_hasEnough 28 = .ok (.aload_n 0, 1) := by decide +kernel
theorem dX0_hasEnough_29 : decode cX0_hasEnough 29 = .ok (.iload_n 2, 1) := by decide +kernel
theorem dX0_hasEnough_30 : decode cX0_hasEnough 30 = .ok (.putfield 19, 3) := by decide +kernel
theorem dX0_hasEnough_33 : decode cX0_hasEnough 33 = .ok (.aload_n 1, 1) := by decide +kernel
theorem dX0_hasEnough_34 : decode cX0_hasEnough 34 = .ok (.iconst 0, 1) := by decide +kernel
theorem dX0_hasEnough_35 : decode cX0_hasEnough 35 = .ok (.aload_n 0, 1) := by decide +kernel
theorem dX0_hasEnough_36 : decode cX0_hasEnough 36 = .ok (.getfield 9, 3) := by decide +kernel
theorem dX0_hasEnough_39 : decode cX0_hasEnough 39 = .ok (.iconst 0, 1) := by decide +kernel
theorem dX0_hasEnough_40 : decode cX0_hasEnough 40 = .ok (.bipush 36, 2) := by decide +kernel
theorem dX0_hasEnough_42 : decode cX0_hasEnough 42 = .ok (.invokestatic 27, 3) := by decide +kernel
theorem dX0_hasEnough_45 : decode cX0_hasEnough 45 = .ok (.iconst 0, 1) := by decide +kernel
theorem dX0_hasEnough_46 : decode cX0_hasEnough 46 = .ok (.ireturn, 1) := by decide +kernel
theorem dX1_init_0 : decode cX1_init 0 = .ok (.aload_n 0, 1) := by decide +kernel
theorem dX1_init_1 : decode cX1_init 1 = .ok (.invokespecial 3, 3) := by decide +kernel
theorem dX1_init_4 : decode cX1_init 4 = .ok (.aload_n 0, 1) := by decide +kernel
theorem dX1_init_5 : decode cX1_init 5 = .ok (.aload_n 1, 1) := by decide +kernel
theorem dX1_init_6 : decode cX1_init 6 = .ok (.putfield 9, 3) := by decide +kernel
theorem dX1_init_9 : decode cX1_init 9 = .ok (.return_, 1) := by decide +kernel
theorem dX1_costOf_0 : decode cX1_costOf 0 = .ok (.iconst 0, 1) := by decide +kernel
theorem dX1_costOf_1 : decode cX1_costOf 1 = .ok (.istore_n 2, 1) := by decide +kernel
theorem dX1_costOf_2 : decode cX1_costOf 2 = .ok (.iconst 0, 1) := by decide +kernel
theorem dX1_costOf_3 : decode cX1_costOf 3 = .ok (.istore_n 3, 1) := by decide +kernel
theorem dX1_costOf_4 : decode cX1_costOf 4 = .ok (.iload_n 3, 1) := by decide +kernel
theorem dX1_costOf_5 : decode cX1_costOf 5 = .ok (.bipush 36, 2) := by decide +kernel
theorem dX1_costOf_7 : decode cX1_costOf 7 = .ok (.if_icmp .ge 24, 3) := by decide +kernel
theorem dX1_costOf_10 : decode cX1_costOf 10 = .ok (.aload_n 1, 1) := by decide +kernel
theorem dX1_costOf_11 : decode cX1_costOf 11 = .ok (.iload_n 3, 1) := by decide +kernel
theorem dX1_costOf_12 : decode cX1_costOf 12 = .ok (.iaload, 1) := by decide +kernel
theorem dX1_costOf_13 : decode cX1_costOf 13 = .ok (.aload_n 0, 1) := by decide +kernel
theorem dX1_costOf_14 : decode cX1_costOf 14 = .ok (.getfield 9, 3) := by decide +kernel
theorem dX1_costOf_17 : decode cX1_costOf 17 = .ok (.iload_n 3, 1) := by decide +kernel
theorem dX1_costOf_18 : decode cX1_costOf 18 = .ok (.iaload, 1) := by decide +kernel
theorem dX1_costOf_19 : decode cX1_costOf 19 = .ok (.if_icmp .eq 6, 3) := by decide +kernel
theorem dX1_costOf_22 : decode cX1_costOf 22 = .ok (.iinc 2 1, 3) := by decide +kernel
theorem dX1_costOf_25 : decode cX1_costOf 25 = .ok (.iinc 3 1, 3) := by decide +kernel
theorem dX1_costOf_28 : decode cX1_costOf 28 = .ok (.goto (-24), 3) := by decide +kernel
theorem dX1_costOf_31 : decode cX1_costOf 31 = .ok (.iload_n 2, 1) := by decide +kernel
theorem dX1_costOf_32 : decode cX1_costOf 32 = .ok (.ireturn, 1) := by decide +kernel
theorem dX2_init_0 : decode cX2_init 0 = .ok (.aload_n 0, 1) := by decide +kernel
theorem dX2_init_1 : decode cX2_init 1 = .ok (.invokespecial 1, 3) := by decide +kernel
theorem dX2_init_4 : decode cX2_init 4 = .ok (.return_, 1) := by decide +kernel
theorem dX3_init_0 : decode cX3_init 0 = .ok (.aload_n 0, 1) := by decide +kernel
theorem dX3_init_1 : decode cX3_init 1 = .ok (.invokespecial 3, 3) := by decide +kernel
theorem dX3_init_4 : decode cX3_init 4 = .ok (.aload_n 0, 1) := by decide +kernel
theorem dX3_init_5 : decode cX3_init 5 = .ok (.bipush 36, 2) := by decide +kernel
theorem dX3_init_7 : decode cX3_init 7 = .ok (.newarray .boolean, 2) := by decide +kernel
theorem dX3_init_9 : decode cX3_init 9 = .ok (.putfield 9, 3) := by decide +kernel
theorem dX3_init_12 : decode cX3_init 12 = .ok (.return_, 1) := by decide +kernel
theorem dX3_beginOn_0 : decode cX3_beginOn 0 = .ok (.aload_n 0, 1) := by decide +kernel
theorem dX3_beginOn_1 : decode cX3_beginOn 1 = .ok (.invokevirtual 15, 3) := by decide +kernel
theorem dX3_beginOn_4 : decode cX3_beginOn 4 = .ok (.iconst 0, 1) := by decide +kernel
theorem dX3_beginOn_5 : decode cX3_beginOn 5 = .ok (.istore_n 3, 1) := by decide +kernel
theorem dX3_beginOn_6 : decode cX3_beginOn 6 = .ok (.iload_n 3, 1) := by decide +kernel
theorem dX3_beginOn_7 : decode cX3_beginOn 7 = .ok (.bipush 36, 2) := by decide +kernel
theorem dX3_beginOn_9 : decode cX3_beginOn 9 = .ok (.if_icmp .ge 37, 3) := by decide +kernel
theorem dX3_beginOn_12 : decode cX3_beginOn 12 = .ok (.aload_n 0, 1) := by decide +kernel
theorem dX3_beginOn_13 : decode cX3_beginOn 13 = .ok (.getfield 9, 3) := by decide +kernel
theorem dX3_beginOn_16 : decode cX3_beginOn 16 = .ok (.iload_n 3, 1) := by decide +kernel
theorem dX3_beginOn_17 : decode cX3_beginOn 17 = .ok (.iload_n 3, 1) := by decide +kernel
theorem dX3_beginOn_18 : decode cX3_beginOn 18 = .ok (.aload_n 2, 1) := by decide +kernel
theorem dX3_beginOn_19 : decode cX3_beginOn 19 = .ok (.getfield 18, 3) := by decide +kernel
theorem dX3_beginOn_22 : decode cX3_beginOn 22 = .ok (.if_icmp .ge 16, 3) := by decide +kernel
theorem dX3_beginOn_25 : decode cX3_beginOn 25 = .ok (.aload_n 2, 1) := by decide +kernel
theorem dX3_beginOn_26 : decode cX3_beginOn 26 = .ok (.iload_n 3, 1) := by decide +kernel
theorem dX3_beginOn_27 : decode cX3_beginOn 27 = .ok (.iload_n 1, 1) := by decide +kernel
theorem dX3_beginOn_28 : decode cX3_beginOn 28 = .ok (.invokevirtual 24, 3) := by decide +kernel
theorem dX3_beginOn_31 : decode cX3_beginOn 31 = .ok (.ifCond .eq 7, 3) := by decide +kernel
theorem dX3_beginOn_34 : decode cX3_beginOn 34 = .ok (.iconst 1, 1) := by decide +kernel
theorem dX3_beginOn_35 : decode cX3_beginOn 35 = .ok (.goto 4, 3) := by decide +kernel
theorem dX3_beginOn_38 : decode cX3_beginOn 38 = .ok (.iconst 0, 1) := by decide +kernel
theorem dX3_beginOn_39 : decode cX3_beginOn 39 = .ok (.bastore, 1) := by decide +kernel
theorem dX3_beginOn_40 : decode cX3_beginOn 40 = .ok (.iinc 3 1, 3) := by decide +kernel
theorem dX3_beginOn_43 : decode cX3_beginOn 43 = .ok (.goto (-37), 3) := by decide +kernel
theorem dX3_beginOn_46 : decode cX3_beginOn 46 = .ok (.return_, 1) := by decide +kernel
theorem dX3_costOf_0 : decode cX3_costOf 0 = .ok (.iconst 0, 1) := by decide +kernel
theorem dX3_costOf_1 : decode cX3_costOf 1 = .ok (.istore_n 2, 1) := by decide +kernel
theorem dX3_costOf_2 : decode cX3_costOf 2 = .ok (.iconst 0, 1) := by decide +kernel
theorem dX3_costOf_3 : decode cX3_costOf 3 = .ok (.istore_n 3, 1) := by decide +kernel
theorem dX3_costOf_4 : decode cX3_costOf 4 = .ok (.iload_n 3, 1) := by decide +kernel
theorem dX3_costOf_5 : decode cX3_costOf 5 = .ok (.bipush 36, 2) := by decide +kernel
theorem dX3_costOf_7 : decode cX3_costOf 7 = .ok (.if_icmp .ge 24, 3) := by decide +kernel
theorem dX3_costOf_10 : decode cX3_costOf 10 = .ok (.aload_n 0, 1) := by decide +kernel
theorem dX3_costOf_11 : decode cX3_costOf 11 = .ok (.getfield 9, 3) := by decide +kernel
theorem dX3_costOf_14 : decode cX3_costOf 14 = .ok (.iload_n 3, 1) := by decide +kernel
theorem dX3_costOf_15 : decode cX3_costOf 15 = .ok (.baload, 1) := by decide +kernel
theorem dX3_costOf_16 : decode cX3_costOf 16 = .ok (.ifCond .eq 9, 3) := by decide +kernel
theorem dX3_costOf_19 : decode cX3_costOf 19 = .ok (.iload_n 2, 1) := by decide +kernel
theorem dX3_costOf_20 : decode cX3_costOf 20 = .ok (.aload_n 1, 1) := by decide +kernel
theorem dX3_costOf_21 : decode cX3_costOf 21 = .ok (.iload_n 3, 1) := by decide +kernel
theorem dX3_costOf_22 : decode cX3_costOf 22 = .ok (.iaload, 1) := by decide +kernel
theorem dX3_costOf_23 : decode cX3_costOf 23 = .ok (.iadd, 1) := by decide +kernel
theorem dX3_costOf_24 : decode cX3_costOf 24 = .ok (.istore_n 2, 1) := by decide +kernel
theorem dX3_costOf_25 : decode cX3_costOf 25 = .ok (.iinc 3 1, 3) := by decide +kernel
theorem dX3_costOf_28 : decode cX3_costOf 28 = .ok (.goto (-24), 3) := by decide +kernel
theorem dX3_costOf_31 : decode cX3_costOf 31 = .ok (.iload_n 2, 1) := by decide +kernel
theorem dX3_costOf_32 : decode cX3_costOf 32 = .ok (.ineg, 1) := by decide +kernel
theorem dX3_costOf_33 : decode cX3_costOf 33 = .ok (.ireturn, 1) := by decide +kernel
theorem dX4_init_0 : decode cX4_init 0 = .ok (.aload_n 0, 1) := by decide +kernel
theorem dX4_init_1 : decode cX4_init 1 = .ok (.invokespecial 3, 3) := by decide +kernel
theorem dX4_init_4 : decode cX4_init 4 = .ok (.aload_n 0, 1) := by decide +kernel
theorem dX4_init_5 : decode cX4_init 5 = .ok (.iconst 0, 1) := by decide +kernel
theorem dX4_init_6 : decode cX4_init 6 = .ok (.putfield 9, 3) := by decide +kernel
theorem dX4_init_9 : decode cX4_init 9 = .ok (.aload_n 0, 1) := by decide +kernel
theorem dX4_init_10 : decode cX4_init 10 = .ok (.iconst 0, 1) := by decide +kernel
theorem dX4_init_11 : decode cX4_init 11 = .ok (.putfield 15, 3) := by decide +kernel
theorem dX4_init_14 : decode cX4_init 14 = .ok (.aload_n 0, 1) := by decide +kernel
theorem dX4_init_15 : decode cX4_init 15 = .ok (.iconst 0, 1) := by decide +kernel
theorem dX4_init_16 : decode cX4_init 16 = .ok (.putfield 18, 3) := by decide +kernel
theorem dX4_init_19 : decode cX4_init 19 = .ok (.aload_n 0, 1) := by decide +kernel
theorem dX4_init_20 : decode cX4_init 20 = .ok (.iconst 0, 1) := by decide +kernel
theorem dX4_init_21 : decode cX4_init 21 = .ok (.putfield 21, 3) := by decide +kernel
theorem dX4_init_24 : decode cX4_init 24 = .ok (.aload_n 0, 1) := by decide +kernel
theorem dX4_init_25 : decode cX4_init 25 = .ok (.bipush 100, 2) := by decide +kernel
theorem dX4_init_27 : decode cX4_init 27 = .ok (.putfield 25, 3) := by decide +kernel
theorem dX4_init_30 : decode cX4_init 30 = .ok (.aload_n 0, 1) := by decide +kernel
theorem dX4_init_31 : decode cX4_init 31 = .ok (.bipush (-9), 2) := by decide +kernel
theorem dX4_init_33 : decode cX4_init 33 = .ok (.putfield 28, 3) := by decide +kernel
theorem dX4_init_36 : decode cX4_init 36 = .ok (.aload_n 0, 1) := by decide +kernel
theorem dX4_init_37 : decode cX4_init 37 = .ok (.bipush 24, 2) := by decide +kernel
theorem dX4_init_39 : decode cX4_init 39 = .ok (.newarray .int, 2) := by decide +kernel
theorem dX4_init_41 : decode cX4_init 41 = .ok (.putfield 31, 3) := by decide +kernel
theorem dX4_init_44 : decode cX4_init 44 = .ok (.return_, 1) := by decide +kernel
theorem dX4_begin_0 : decode cX4_begin 0 = .ok (.aload_n 0, 1) := by decide +kernel
theorem dX4_begin_1 : decode cX4_begin 1 = .ok (.iload_n 1, 1) := by decide +kernel
theorem dX4_begin_2 : decode cX4_begin 2 = .ok (.putfield 9, 3) := by decide +kernel
theorem dX4_begin_5 : decode cX4_begin 5 = .ok (.aload_n 0, 1) := by decide +kernel
theorem dX4_begin_6 : decode cX4_begin 6 = .ok (.iload_n 2, 1) := by decide +kernel
theorem dX4_begin_7 : decode cX4_begin 7 = .ok (.putfield 15, 3) := by decide +kernel
theorem dX4_begin_10 : decode cX4_begin 10 = .ok (.aload_n 0, 1) := by decide +kernel
theorem dX4_begin_11 : decode cX4_begin 11 = .ok (.iload_n 3, 1) := by decide +kernel
theorem dX4_begin_12 : decode cX4_begin 12 = .ok (.putfield 18, 3) := by decide +kernel
theorem dX4_begin_15 : decode cX4_begin 15 = .ok (.aload_n 0, 1) := by decide +kernel
theorem dX4_begin_16 : decode cX4_begin 16 = .ok (.iconst 0, 1) := by decide +kernel
theorem dX4_begin_17 : decode cX4_begin 17 = .ok (.putfield 21, 3) := by decide +kernel
theorem dX4_begin_20 : decode cX4_begin 20 = .ok (.aload_n 0, 1) := by decide +kernel
theorem dX4_begin_21 : decode cX4_begin 21 = .ok (.bipush 100, 2) := by decide +kernel
theorem dX4_begin_23 : decode cX4_begin 23 = .ok (.putfield 25, 3) := by decide +kernel
theorem dX4_begin_26 : decode cX4_begin 26 = .ok (.aload_n 0, 1) := by decide +kernel
theorem dX4_begin_27 : decode cX4_begin 27 = .ok (.bipush (-9), 2) := by decide +kernel
theorem dX4_begin_29 : decode cX4_begin 29 = .ok (.putfield 28, 3) := by decide +kernel
theorem dX4_begin_32 : decode cX4_begin 32 = .ok (.aload_n 0, 1) := by decide +kernel
theorem dX4_begin_33 : decode cX4_begin 33 = .ok (.getfield 31, 3) := by decide +kernel
theorem dX4_begin_36 : decode cX4_begin 36 = .ok (.bipush (-9), 2) := by decide +kernel
theorem dX4_begin_38 : decode cX4_begin 38 = .ok (.invokestatic 35, 3) := by decide +kernel
theorem dX4_begin_41 : decode cX4_begin 41 = .ok (.return_, 1) := by decide +kernel
theorem dX4_isOf_0 : decode cX4_isOf 0 = .ok (.aload_n 0, 1) := by decide +kernel
theorem dX4_isOf_1 : decode cX4_isOf 1 = .ok (.getfield 9, 3) := by decide +kernel
theorem dX4_isOf_4 : decode cX4_isOf 4 = .ok (.iload_n 1, 1) := by decide +kernel
theorem dX4_isOf_5 : decode cX4_isOf 5 = .ok (.if_icmp .eq 16, 3) := by decide +kernel
theorem dX4_isOf_8 : decode cX4_isOf 8 = .ok (.iload_n 1, 1) := by decide +kernel
theorem dX4_isOf_9 : decode cX4_isOf 9 = .ok (.iconst 1, 1) := by decide +kernel
theorem dX4_isOf_10 : decode cX4_isOf 10 = .ok (.if_icmp .ne 15, 3) := by decide +kernel
theorem dX4_isOf_13 : decode cX4_isOf 13 = .ok (.aload_n 0, 1) := by decide +kernel
theorem dX4_isOf_14 : decode cX4_isOf 14 = .ok (.getfield 9, 3) := by decide +kernel
theorem dX4_isOf_17 : decode cX4_isOf 17 = .ok (.iconst 2, 1) := by decide +kernel
theorem dX4_isOf_18 : decode cX4_isOf 18 = .ok (.if_icmp .ne 7, 3) := by decide +kernel
theorem dX4_isOf_21 : decode cX4_isOf 21 = .ok (.iconst 1, 1) := by decide +kernel
theorem dX4_isOf_22 : decode cX4_isOf 22 = .ok (.goto 4, 3) := by decide +kernel
theorem dX4_isOf_25 : decode cX4_isOf 25 = .ok (.iconst 0, 1) := by decide +kernel
theorem dX4_isOf_26 : decode cX4_isOf 26 = .ok (.ireturn, 1) := by decide +kernel
theorem dX4_counterSize_0 : decode cX4_counterSize 0 = .ok (.aload_n 0, 1) := by decide +kernel
theorem dX4_counterSize_1 : decode cX4_counterSize 1 = .ok (.getfield 9, 3) := by decide +kernel
theorem dX4_counterSize_4 : decode cX4_counterSize 4 = .ok (.iconst 2, 1) := by decide +kernel
theorem dX4_counterSize_5 : decode cX4_counterSize 5 = .ok (.if_icmp .ne 8, 3) := by decide +kernel
theorem dX4_counterSize_8 : decode cX4_counterSize 8 = .ok (.ldc 41, 2) := by decide +kernel
theorem dX4_counterSize_10 : decode cX4_counterSize 10 = .ok (.goto 6, 3) := by decide +kernel
theorem dX4_counterSize_13 : decode cX4_counterSize 13 = .ok (.sipush 256, 3) := by decide +kernel
theorem dX4_counterSize_16 : decode cX4_counterSize 16 = .ok (.ireturn, 1) := by decide +kernel
theorem dX4_keepReading_0 : decode cX4_keepReading 0 = .ok (.aload_n 0, 1) := by decide +kernel
theorem dX4_keepReading_1 : decode cX4_keepReading 1 = .ok (.getfield 31, 3) := by decide +kernel
theorem dX4_keepReading_4 : decode cX4_keepReading 4 = .ok (.iload_n 1, 1) := by decide +kernel
theorem dX4_keepReading_5 : decode cX4_keepReading 5 = .ok (.iload_n 2, 1) := by decide +kernel
theorem dX4_keepReading_6 : decode cX4_keepReading 6 = .ok (.bipush (-9), 2) := by decide +kernel
theorem dX4_keepReading_8 : decode cX4_keepReading 8 = .ok (.if_icmp .ne 8, 3) := by decide +kernel
theorem dX4_keepReading_11 : decode cX4_keepReading 11 = .ok (.bipush (-9), 2) := by decide +kernel
theorem dX4_keepReading_13 : decode cX4_keepReading 13 = .ok (.goto 8, 3) := by decide +kernel
theorem dX4_keepReading_16 : decode cX4_keepReading 16 = .ok (.aload_n 0, 1) := by decide +kernel
theorem dX4_keepReading_17 : decode cX4_keepReading 17 = .ok (.iload_n 2, 1) := by decide +kernel
theorem dX4_keepReading_18 : decode cX4_keepReading 18 = .ok (.invokevirtual 42, 3) := by decide +kernel
theorem dX4_keepReading_21 : decode cX4_keepReading 21 = .ok (.iastore, 1) := by decide +kernel
theorem dX4_keepReading_22 : decode cX4_keepReading 22 = .ok (.return_, 1) := by decide +kernel
theorem dX4_cutToCounter_0 : decode cX4_cutToCounter 0 = .ok (.iload_n 1, 1) := by decide +kernel
theorem dX4_cutToCounter_1 : decode cX4_cutToCounter 1 = .ok (.aload_n 0, 1) := by decide +kernel
theorem dX4_cutToCounter_2 : decode cX4_cutToCounter 2 = .ok (.invokevirtual 46, 3) := by decide +kernel
theorem dX4_cutToCounter_5 : decode cX4_cutToCounter 5 = .ok (.iconst 1, 1) := by decide +kernel
theorem dX4_cutToCounter_6 : decode cX4_cutToCounter 6 = .ok (.isub, 1) := by decide +kernel
theorem dX4_cutToCounter_7 : decode cX4_cutToCounter 7 = .ok (.iand, 1) := by decide +kernel
theorem dX4_cutToCounter_8 : decode cX4_cutToCounter 8 = .ok (.ireturn, 1) := by decide +kernel
theorem dX4_readingsKept_0 : decode cX4_readingsKept 0 = .ok (.iconst 0, 1) := by decide +kernel
theorem dX4_readingsKept_1 : decode cX4_readingsKept 1 = .ok (.istore_n 1, 1) := by decide +kernel
theorem dX4_readingsKept_2 : decode cX4_readingsKept 2 = .ok (.iconst 0, 1) := by decide +kernel
theorem dX4_readingsKept_3 : decode cX4_readingsKept 3 = .ok (.istore_n 2, 1) := by decide +kernel
theorem dX4_readingsKept_4 : decode cX4_readingsKept 4 = .ok (.iload_n 2, 1) := by decide +kernel
theorem dX4_readingsKept_5 : decode cX4_readingsKept 5 = .ok (.bipush 24, 2) := by decide +kernel
theorem dX4_readingsKept_7 : decode cX4_readingsKept 7 = .ok (.if_icmp .ge 23, 3) := by decide +kernel
theorem dX4_readingsKept_10 : decode cX4_readingsKept 10 = .ok (.aload_n 0, 1) := by decide +kernel
theorem dX4_readingsKept_11 : decode cX4_readingsKept 11 = .ok (.getfield 31, 3) := by decide +kernel
theorem dX4_readingsKept_14 : decode cX4_readingsKept 14 = .ok (.iload_n 2, 1) := by decide +kernel
theorem dX4_readingsKept_15 : decode cX4_readingsKept 15 = .ok (.iaload, 1) := by decide +kernel
theorem dX4_readingsKept_16 : decode cX4_readingsKept 16 = .ok (.bipush (-9), 2) := by decide +kernel
theorem dX4_readingsKept_18 : decode cX4_readingsKept 18 = .ok (.if_icmp .eq 6, 3) := by decide +kernel
theorem dX4_readingsKept_21 : decode cX4_readingsKept 21 = .ok (.iinc 1 1, 3) := by decide +kernel
theorem dX4_readingsKept_24 : decode cX4_readingsKept 24 = .ok (.iinc 2 1, 3) := by decide +kernel
theorem dX4_readingsKept_27 : decode cX4_readingsKept 27 = .ok (.goto (-23), 3) := by decide +kernel
theorem dX4_readingsKept_30 : decode cX4_readingsKept 30 = .ok (.iload_n 1, 1) := by decide +kernel
theorem dX4_readingsKept_31 : decode cX4_readingsKept 31 = .ok (.ireturn, 1) := by decide +kernel
theorem dX4_loadBetween_0 : decode cX4_loadBetween 0 = .ok (.aload_n 0, 1) := by decide +kernel
theorem dX4_loadBetween_1 : decode cX4_loadBetween 1 = .ok (.aload_n 0, 1) := by decide +kernel
theorem dX4_loadBetween_2 : decode cX4_loadBetween 2 = .ok (.getfield 31, 3) := by decide +kernel
theorem dX4_loadBetween_5 : decode cX4_loadBetween 5 = .ok (.iload_n 2, 1) := by decide +kernel
theorem dX4_loadBetween_6 : decode cX4_loadBetween 6 = .ok (.iaload, 1) := by decide +kernel
theorem dX4_loadBetween_7 : decode cX4_loadBetween 7 = .ok (.aload_n 0, 1) := by decide +kernel
theorem dX4_loadBetween_8 : decode cX4_loadBetween 8 = .ok (.getfield 31, 3) := by decide +kernel
theorem dX4_loadBetween_11 : decode cX4_loadBetween 11 = .ok (.iload_n 1, 1) := by decide +kernel
theorem dX4_loadBetween_12 : decode cX4_loadBetween 12 = .ok (.iaload, 1) := by decide +kernel
theorem dX4_loadBetween_13 : decode cX4_loadBetween 13 = .ok (.isub, 1) := by decide +kernel
theorem dX4_loadBetween_14 : decode cX4_loadBetween 14 = .ok (.invokevirtual 42, 3) := by decide +kernel
theorem dX4_loadBetween_17 : decode cX4_loadBetween 17 = .ok (.ireturn, 1) := by decide +kernel
theorem dX4_isSureBetween_0 : decode cX4_isSureBetween 0 = .ok (.aload_n 0, 1) := by decide +kernel
theorem dX4_isSureBetween_1 : decode cX4_isSureBetween 1 = .ok (.getfield 25, 3) := by decide +kernel
theorem dX4_isSureBetween_4 : decode cX4_isSureBetween 4 = .ok (.iload_n 2, 1) := by decide +kernel
theorem dX4_isSureBetween_5 : decode cX4_isSureBetween 5 = .ok (.iload_n 1, 1) := by decide +kernel
theorem dX4_isSureBetween_6 : decode cX4_isSureBetween 6 = .ok (.isub, 1) := by decide +kernel
theorem dX4_isSureBetween_7 : decode cX4_isSureBetween 7 = .ok (.imul, 1) := by decide +kernel
theorem dX4_isSureBetween_8 : decode cX4_isSureBetween 8 = .ok (.aload_n 0, 1) := by decide +kernel
theorem dX4_isSureBetween_9 : decode cX4_isSureBetween 9 = .ok (.invokevirtual 46, 3) := by decide +kernel
theorem dX4_isSureBetween_12 : decode cX4_isSureBetween 12 = .ok (.if_icmp .ge 7, 3) := by decide +kernel
theorem dX4_isSureBetween_15 : decode cX4_isSureBetween 15 = .ok (.iconst 1, 1) := by decide +kernel
theorem dX4_isSureBetween_16 : decode cX4_isSureBetween 16 = .ok (.goto 4, 3) := by decide +kernel
theorem dX4_isSureBetween_19 : decode cX4_isSureBetween 19 = .ok (.iconst 0, 1) := by decide +kernel
theorem dX4_isSureBetween_20 : decode cX4_isSureBetween 20 = .ok (.ireturn, 1) := by decide +kernel
theorem dX4_meanLoad_0 : decode cX4_meanLoad 0 = .ok (.bipush (-9), 2) := by decide +kernel
theorem dX4_meanLoad_2 : decode cX4_meanLoad 2 = .ok (.istore_n 1, 1) := by decide +kernel
theorem dX4_meanLoad_3 : decode cX4_meanLoad 3 = .ok (.bipush (-9), 2) := by decide +kernel
theorem dX4_meanLoad_5 : decode cX4_meanLoad 5 = .ok (.istore_n 2, 1) := by decide +kernel
theorem dX4_meanLoad_6 : decode cX4_meanLoad 6 = .ok (.iconst 0, 1) := by decide +kernel
theorem dX4_meanLoad_7 : decode cX4_meanLoad 7 = .ok (.istore_n 3, 1) := by decide +kernel
theorem dX4_meanLoad_8 : decode cX4_meanLoad 8 = .ok (.iconst 0, 1) := by decide +kernel
theorem dX4_meanLoad_9 : decode cX4_meanLoad 9 = .ok (.istore 4, 2) := by decide +kernel
theorem dX4_meanLoad_11 : decode cX4_meanLoad 11 = .ok (.iload 4, 2) := by decide +kernel
theorem dX4_meanLoad_13 : decode cX4_meanLoad 13 = .ok (.bipush 24, 2) := by decide +kernel
theorem dX4_meanLoad_15 : decode cX4_meanLoad 15 = .ok (.if_icmp .ge 49, 3) := by decide +kernel
theorem dX4_meanLoad_18 : decode cX4_meanLoad 18 = .ok (.aload_n 0, 1) := by decide +kernel
theorem dX4_meanLoad_19 : decode cX4_meanLoad 19 = .ok (.getfield 31, 3) := by decide +kernel
theorem dX4_meanLoad_22 : decode cX4_meanLoad 22 = .ok (.iload 4, 2) := by decide +kernel
theorem dX4_meanLoad_24 : decode cX4_meanLoad 24 = .ok (.iaload, 1) := by decide +kernel
theorem dX4_meanLoad_25 : decode cX4_meanLoad 25 = .ok (.bipush (-9), 2) := by decide +kernel
theorem dX4_meanLoad_27 : decode cX4_meanLoad 27 = .ok (.if_icmp .ne 6, 3) := by decide +kernel
theorem dX4_meanLoad_30 : decode cX4_meanLoad 30 = .ok (.goto 28, 3) := by decide +kernel
theorem dX4_meanLoad_33 : decode cX4_meanLoad 33 = .ok (.iload_n 2, 1) := by decide +kernel
theorem dX4_meanLoad_34 : decode cX4_meanLoad 34 = .ok (.bipush (-9), 2) := by decide +kernel
theorem dX4_meanLoad_36 : decode cX4_meanLoad 36 = .ok (.if_icmp .ne 9, 3) := by decide +kernel
theorem dX4_meanLoad_39 : decode cX4_meanLoad 39 = .ok (.iload 4, 2) := by decide +kernel
theorem dX4_meanLoad_41 : decode cX4_meanLoad 41 = .ok (.istore_n 1, 1) := by decide +kernel
theorem dX4_meanLoad_42 : decode cX4_meanLoad 42 = .ok (.goto 13, 3) := by decide +kernel
theorem dX4_meanLoad_45 : decode cX4_meanLoad 45 = .ok (.iload_n 3, 1) := by decide +kernel
theorem dX4_meanLoad_46 : decode cX4_meanLoad 46 = .ok (.aload_n 0, 1) := by decide +kernel
theorem dX4_meanLoad_47 : decode cX4_meanLoad 47 = .ok (.iload_n 2, 1) := by decide +kernel
theorem dX4_meanLoad_48 : decode cX4_meanLoad 48 = .ok (.iload 4, 2) := by decide +kernel
theorem dX4_meanLoad_50 : decode cX4_meanLoad 50 = .ok (.invokevirtual 50, 3) := by decide +kernel
theorem dX4_meanLoad_53 : decode cX4_meanLoad 53 = .ok (.iadd, 1) := by decide +kernel
theorem dX4_meanLoad_54 : decode cX4_meanLoad 54 = .ok (.istore_n 3, 1) := by decide +kernel
theorem dX4_meanLoad_55 : decode cX4_meanLoad 55 = .ok (.iload 4, 2) := by decide +kernel
theorem dX4_meanLoad_57 : decode cX4_meanLoad 57 = .ok (.istore_n 2, 1) := by decide +kernel
theorem dX4_meanLoad_58 : decode cX4_meanLoad 58 = .ok (.iinc 4 1, 3) := by decide +kernel
theorem dX4_meanLoad_61 : decode cX4_meanLoad 61 = .ok (.goto (-50), 3) := by decide +kernel
theorem dX4_meanLoad_64 : decode cX4_meanLoad 64 = .ok (.iload_n 2, 1) := by decide +kernel
theorem dX4_meanLoad_65 : decode cX4_meanLoad 65 = .ok (.iload_n 1, 1) := by decide +kernel
theorem dX4_meanLoad_66 : decode cX4_meanLoad 66 = .ok (.isub, 1) := by decide +kernel
theorem dX4_meanLoad_67 : decode cX4_meanLoad 67 = .ok (.istore 4, 2) := by decide +kernel
theorem dX4_meanLoad_69 : decode cX4_meanLoad 69 = .ok (.iload 4, 2) := by decide +kernel
theorem dX4_meanLoad_71 : decode cX4_meanLoad 71 = .ok (.ifCond .le 10, 3) := by decide +kernel
theorem dX4_meanLoad_74 : decode cX4_meanLoad 74 = .ok (.iload_n 3, 1) := by decide +kernel
theorem dX4_meanLoad_75 : decode cX4_meanLoad 75 = .ok (.iload 4, 2) := by decide +kernel
theorem dX4_meanLoad_77 : decode cX4_meanLoad 77 = .ok (.idiv, 1) := by decide +kernel
theorem dX4_meanLoad_78 : decode cX4_meanLoad 78 = .ok (.goto 4, 3) := by decide +kernel
theorem dX4_meanLoad_81 : decode cX4_meanLoad 81 = .ok (.iconst 0, 1) := by decide +kernel
theorem dX4_meanLoad_82 : decode cX4_meanLoad 82 = .ok (.ireturn, 1) := by decide +kernel
theorem dX5_init_0 : decode cX5_init 0 = .ok (.aload_n 0, 1) := by decide +kernel
theorem dX5_init_1 : decode cX5_init 1 = .ok (.invokespecial 3, 3) := by decide +kernel
theorem dX5_init_4 : decode cX5_init 4 = .ok (.aload_n 0, 1) := by decide +kernel
theorem dX5_init_5 : decode cX5_init 5 = .ok (.iconst 2, 1) := by decide +kernel
theorem dX5_init_6 : decode cX5_init 6 = .ok (.putfield 9, 3) := by decide +kernel
theorem dX5_init_9 : decode cX5_init 9 = .ok (.aload_n 0, 1) := by decide +kernel
theorem dX5_init_10 : decode cX5_init 10 = .ok (.iconst 0, 1) := by decide +kernel
theorem dX5_init_11 : decode cX5_init 11 = .ok (.putfield 15, 3) := by decide +kernel
theorem dX5_init_14 : decode cX5_init 14 = .ok (.aload_n 0, 1) := by decide +kernel
theorem dX5_init_15 : decode cX5_init 15 = .ok (.bipush 12, 2) := by decide +kernel
theorem dX5_init_17 : decode cX5_init 17 = .ok (.anewarray 18, 3) := by decide +kernel
theorem dX5_init_20 : decode cX5_init 20 = .ok (.putfield 20, 3) := by decide +kernel
theorem dX5_init_23 : decode cX5_init 23 = .ok (.aload_n 0, 1) := by decide +kernel
theorem dX5_init_24 : decode cX5_init 24 = .ok (.bipush 36, 2) := by decide +kernel
theorem dX5_init_26 : decode cX5_init 26 = .ok (.newarray .int, 2) := by decide +kernel
theorem dX5_init_28 : decode cX5_init 28 = .ok (.putfield 24, 3) := by decide +kernel
theorem dX5_init_31 : decode cX5_init 31 = .ok (.aload_n 0, 1) := by decide +kernel
theorem dX5_init_32 : decode cX5_init 32 = .ok (.bipush 36, 2) := by decide +kernel
theorem dX5_init_34 : decode cX5_init 34 = .ok (.newarray .int, 2) := by decide +kernel
theorem dX5_init_36 : decode cX5_init 36 = .ok (.putfield 28, 3) := by decide +kernel
theorem dX5_init_39 : decode cX5_init 39 = .ok (.iconst 0, 1) := by decide +kernel
theorem dX5_init_40 : decode cX5_init 40 = .ok (.istore_n 1, 1) := by decide +kernel
theorem dX5_init_41 : decode cX5_init 41 = .ok (.iload_n 1, 1) := by decide +kernel
theorem dX5_init_42 : decode cX5_init 42 = .ok (.bipush 12, 2) := by decide +kernel
theorem dX5_init_44 : decode cX5_init 44 = .ok (.if_icmp .ge 22, 3) := by decide +kernel
theorem dX5_init_47 : decode cX5_init 47 = .ok (.aload_n 0, 1) := by decide +kernel
theorem dX5_init_48 : decode cX5_init 48 = .ok (.getfield 20, 3) := by decide +kernel
theorem dX5_init_51 : decode cX5_init 51 = .ok (.iload_n 1, 1) := by decide +kernel
theorem dX5_init_52 : decode cX5_init 52 = .ok (.new 18, 3) := by decide +kernel
theorem dX5_init_55 : decode cX5_init 55 = .ok (.dup, 1) := by decide +kernel
theorem dX5_init_56 : decode cX5_init 56 = .ok (.invokespecial 31, 3) := by decide +kernel
theorem dX5_init_59 : decode cX5_init 59 = .ok (.aastore, 1) := by decide +kernel
theorem dX5_init_60 : decode cX5_init 60 = .ok (.iinc 1 1, 3) := by decide +kernel
theorem dX5_init_63 : decode cX5_init 63 = .ok (.goto (-22), 3) := by decide +kernel
theorem dX5_init_66 : decode cX5_init 66 = .ok (.aload_n 0, 1) := by decide +kernel
theorem dX5_init_67 : decode cX5_init 67 = .ok (.getfield 24, 3) := by decide +kernel
theorem dX5_init_70 : decode cX5_init 70 = .ok (.bipush (-9), 2) := by decide +kernel
theorem dX5_init_72 : decode cX5_init 72 = .ok (.invokestatic 32, 3) := by decide +kernel
theorem dX5_init_75 : decode cX5_init 75 = .ok (.return_, 1) := by decide +kernel
theorem dX5_begin_0 : decode cX5_begin 0 = .ok (.aload_n 0, 1) := by decide +kernel
theorem dX5_begin_1 : decode cX5_begin 1 = .ok (.iload_n 1, 1) := by decide +kernel
theorem dX5_begin_2 : decode cX5_begin 2 = .ok (.putfield 9, 3) := by decide +kernel
theorem dX5_begin_5 : decode cX5_begin 5 = .ok (.aload_n 0, 1) := by decide +kernel
theorem dX5_begin_6 : decode cX5_begin 6 = .ok (.iconst 0, 1) := by decide +kernel
theorem dX5_begin_7 : decode cX5_begin 7 = .ok (.putfield 15, 3) := by decide +kernel
theorem dX5_begin_10 : decode cX5_begin 10 = .ok (.aload_n 0, 1) := by decide +kernel
theorem dX5_begin_11 : decode cX5_begin 11 = .ok (.getfield 24, 3) := by decide +kernel
theorem dX5_begin_14 : decode cX5_begin 14 = .ok (.bipush (-9), 2) := by decide +kernel
theorem dX5_begin_16 : decode cX5_begin 16 = .ok (.invokestatic 32, 3) := by decide +kernel
theorem dX5_begin_19 : decode cX5_begin 19 = .ok (.aload_n 0, 1) := by decide +kernel
theorem dX5_begin_20 : decode cX5_begin 20 = .ok (.getfield 28, 3) := by decide +kernel
theorem dX5_begin_23 : decode cX5_begin 23 = .ok (.iconst 0, 1) := by decide +kernel
theorem dX5_begin_24 : decode cX5_begin 24 = .ok (.invokestatic 32, 3) := by decide +kernel
theorem dX5_begin_27 : decode cX5_begin 27 = .ok (.return_, 1) := by decide +kernel
theorem dX5_addLine_0 : decode cX5_addLine 0 = .ok (.aload_n 0, 1) := by decide +kernel
theorem dX5_addLine_1 : decode cX5_addLine 1 = .ok (.getfield 20, 3) := by decide +kernel
theorem dX5_addLine_4 : decode cX5_addLine 4 = .ok (.aload_n 0, 1) := by decide +kernel
theorem dX5_addLine_5 : decode cX5_addLine 5 = .ok (.getfield 15, 3) := by decide +kernel
theorem dX5_addLine_8 : decode cX5_addLine 8 = .ok (.aaload, 1) := by decide +kernel
theorem dX5_addLine_9 : decode cX5_addLine 9 = .ok (.iload_n 1, 1) := by decide +kernel
theorem dX5_addLine_10 : decode cX5_addLine 10 = .ok (.iload_n 2, 1) := by decide +kernel
theorem dX5_addLine_11 : decode cX5_addLine 11 = .ok (.iload_n 3, 1) := by decide +kernel
theorem dX5_addLine_12 : decode cX5_addLine 12 = .ok (.invokevirtual 38, 3) := by decide +kernel
theorem dX5_addLine_15 : decode cX5_addLine 15 = .ok (.aload_n 0, 1) := by decide +kernel
theorem dX5_addLine_16 : decode cX5_addLine 16 = .ok (.dup, 1) := by decide +kernel
theorem dX5_addLine_17 : decode cX5_addLine 17 = .ok (.getfield 15, 3) := by decide +kernel
theorem dX5_addLine_20 : decode cX5_addLine 20 = .ok (.iconst 1, 1) := by decide +kernel
theorem dX5_addLine_21 : decode cX5_addLine 21 = .ok (.iadd, 1) := by decide +kernel
theorem dX5_addLine_22 : decode cX5_addLine 22 = .ok (.putfield 15, 3) := by decide +kernel
theorem dX5_addLine_25 : decode cX5_addLine 25 = .ok (.aload_n 0, 1) := by decide +kernel
theorem dX5_addLine_26 : decode cX5_addLine 26 = .ok (.getfield 15, 3) := by decide +kernel
theorem dX5_addLine_29 : decode cX5_addLine 29 = .ok (.iconst 1, 1) := by decide +kernel
theorem dX5_addLine_30 : decode cX5_addLine 30 = .ok (.isub, 1) := by decide +kernel
theorem dX5_addLine_31 : decode cX5_addLine 31 = .ok (.ireturn, 1) := by decide +kernel
theorem dX5_isLine_0 : decode cX5_isLine 0 = .ok (.iload_n 1, 1) := by decide +kernel
theorem dX5_isLine_1 : decode cX5_isLine 1 = .ok (.ifCond .lt 15, 3) := by decide +kernel
theorem dX5_isLine_4 : decode cX5_isLine 4 = .ok (.iload_n 1, 1) := by decide +kernel
theorem dX5_isLine_5 : decode cX5_isLine 5 = .ok (.aload_n 0, 1) := by decide +kernel
theorem dX5_isLine_6 : decode cX5_isLine 6 = .ok (.getfield 15, 3) := by decide +kernel
theorem dX5_isLine_9 : decode cX5_isLine 9 = .ok (.if_icmp .ge 7, 3) := by decide +kernel
theorem dX5_isLine_12 : decode cX5_isLine 12 = .ok (.iconst 1, 1) := by decide +kernel
theorem dX5_isLine_13 : decode cX5_isLine 13 = .ok (.goto 4, 3) := by decide +kernel
theorem dX5_isLine_16 : decode cX5_isLine 16 = .ok (.iconst 0, 1) := by decide +kernel
theorem dX5_isLine_17 : decode cX5_isLine 17 = .ok (.ireturn, 1) := by decide +kernel
theorem dX5_isPair_0 : decode cX5_isPair 0 = .ok (.iload_n 1, 1) := by decide +kernel
theorem dX5_isPair_1 : decode cX5_isPair 1 = .ok (.ifCond .lt 32, 3) := by decide +kernel
theorem dX5_isPair_4 : decode cX5_isPair 4 = .ok (.iload_n 1, 1) := by decide +kernel
theorem dX5_isPair_5 : decode cX5_isPair 5 = .ok (.aload_n 0, 1) := by decide +kernel
theorem dX5_isPair_6 : decode cX5_isPair 6 = .ok (.getfield 9, 3) := by decide +kernel
theorem dX5_isPair_9 : decode cX5_isPair 9 = .ok (.if_icmp .ge 24, 3) := by decide +kernel
theorem dX5_isPair_12 : decode cX5_isPair 12 = .ok (.iload_n 2, 1) := by decide +kernel
theorem dX5_isPair_13 : decode cX5_isPair 13 = .ok (.ifCond .lt 20, 3) := by decide +kernel
theorem dX5_isPair_16 : decode cX5_isPair 16 = .ok (.iload_n 2, 1) := by decide +kernel
theorem dX5_isPair_17 : decode cX5_isPair 17 = .ok (.aload_n 0, 1) := by decide +kernel
theorem dX5_isPair_18 : decode cX5_isPair 18 = .ok (.getfield 9, 3) := by decide +kernel
theorem dX5_isPair_21 : decode cX5_isPair 21 = .ok (.if_icmp .ge 12, 3) := by decide +kernel
theorem dX5_isPair_24 : decode cX5_isPair 24 = .ok (.iload_n 1, 1) := by decide +kernel
theorem dX5_isPair_25 : decode cX5_isPair 25 = .ok (.iload_n 2, 1) := by decide +kernel
theorem dX5_isPair_26 : decode cX5_isPair 26 = .ok (.if_icmp .eq 7, 3) := by decide +kernel
theorem dX5_isPair_29 : decode cX5_isPair 29 = .ok (.iconst 1, 1) := by decide +kernel
theorem dX5_isPair_30 : decode cX5_isPair 30 = .ok (.goto 4, 3) := by decide +kernel
theorem dX5_isPair_33 : decode cX5_isPair 33 = .ok (.iconst 0, 1) := by decide +kernel
theorem dX5_isPair_34 : decode cX5_isPair 34 = .ok (.ireturn, 1) := by decide +kernel
theorem dX5_pairNumber_0 : decode cX5_pairNumber 0 = .ok (.iload_n 1, 1) := by decide +kernel
theorem dX5_pairNumber_1 : decode cX5_pairNumber 1 = .ok (.aload_n 0, 1) := by decide +kernel
theorem dX5_pairNumber_2 : decode cX5_pairNumber 2 = .ok (.getfield 9, 3) := by decide +kernel
theorem dX5_pairNumber_5 : decode cX5_pairNumber 5 = .ok (.imul, 1) := by decide +kernel
theorem dX5_pairNumber_6 : decode cX5_pairNumber 6 = .ok (.iload_n 2, 1) := by decide +kernel
theorem dX5_pairNumber_7 : decode cX5_pairNumber 7 = .ok (.iadd, 1) := by decide +kernel
theorem dX5_pairNumber_8 : decode cX5_pairNumber 8 = .ok (.ireturn, 1) := by decide +kernel
theorem dX5_linesTold_0 : decode cX5_linesTold 0 = .ok (.iconst 0, 1) := by decide +kernel
theorem dX5_linesTold_1 : decode cX5_linesTold 1 = .ok (.istore_n 1, 1) := by decide +kernel
theorem dX5_linesTold_2 : decode cX5_linesTold 2 = .ok (.iconst 0, 1) := by decide +kernel
theorem dX5_linesTold_3 : decode cX5_linesTold 3 = .ok (.istore_n 2, 1) := by decide +kernel
theorem dX5_linesTold_4 : decode cX5_linesTold 4 = .ok (.iload_n 2, 1) := by decide +kernel
theorem dX5_linesTold_5 : decode cX5_linesTold 5 = .ok (.aload_n 0, 1) := by decide +kernel
theorem dX5_linesTold_6 : decode cX5_linesTold 6 = .ok (.getfield 15, 3) := by decide +kernel
theorem dX5_linesTold_9 : decode cX5_linesTold 9 = .ok (.if_icmp .ge 26, 3) := by decide +kernel
theorem dX5_linesTold_12 : decode cX5_linesTold 12 = .ok (.aload_n 0, 1) := by decide +kernel
theorem dX5_linesTold_13 : decode cX5_linesTold 13 = .ok (.getfield 20, 3) := by decide +kernel
theorem dX5_linesTold_16 : decode cX5_linesTold 16 = .ok (.iload_n 2, 1) := by decide +kernel
theorem dX5_linesTold_17 : decode cX5_linesTold 17 = .ok (.aaload, 1) := by decide +kernel
theorem dX5_linesTold_18 : decode cX5_linesTold 18 = .ok (.getfield 42, 3) := by decide +kernel
theorem dX5_linesTold_21 : decode cX5_linesTold 21 = .ok (.bipush (-9), 2) := by decide +kernel
theorem dX5_linesTold_23 : decode cX5_linesTold 23 = .ok (.if_icmp .eq 6, 3) := by decide +kernel
theorem dX5_linesTold_26 : decode cX5_linesTold 26 = .ok (.iinc 1 1, 3) := by decide +kernel
theorem dX5_linesTold_29 : decode cX5_linesTold 29 = .ok (.iinc 2 1, 3) := by decide +kernel
theorem dX5_linesTold_32 : decode cX5_linesTold 32 = .ok (.goto (-28), 3) := by decide +kernel
theorem dX5_linesTold_35 : decode cX5_linesTold 35 = .ok (.iload_n 1, 1) := by decide +kernel
theorem dX5_linesTold_36 : decode cX5_linesTold 36 = .ok (.ireturn, 1) := by decide +kernel
theorem dX5_pairsMetered_0 : decode cX5_pairsMetered 0 = .ok (.iconst 0, 1) := by decide +kernel
theorem dX5_pairsMetered_1 : decode cX5_pairsMetered 1 = .ok (.istore_n 1, 1) := by decide +kernel
theorem dX5_pairsMetered_2 : decode cX5_pairsMetered 2 = .ok (.iconst 0, 1) := by decide +kernel
theorem dX5_pairsMetered_3 : decode cX5_pairsMetered 3 = .ok (.istore_n 2, 1) := by decide +kernel
theorem dX5_pairsMetered_4 : decode cX5_pairsMetered 4 = .ok (.iload_n 2, 1) := by decide +kernel
theorem dX5_pairsMetered_5 : decode cX5_pairsMetered 5 = .ok (.bipush 36, 2) := by decide +kernel
theorem dX5_pairsMetered_7 : decode cX5_pairsMetered 7 = .ok (.if_icmp .ge 23, 3) := by decide +kernel
theorem dX5_pairsMetered_10 : decode cX5_pairsMetered 10 = .ok (.aload_n 0, 1) := by decide +kernel
theorem dX5_pairsMetered_11 : decode cX5_pairsMetered 11 = .ok (.getfield 24, 3) := by decide +kernel
theorem dX5_pairsMetered_14 : decode cX5_pairsMetered 14 = .ok (.iload_n 2, 1) := by decide +kernel
theorem dX5_pairsMetered_15 : decode cX5_pairsMetered 15 = .ok (.iaload, 1) := by decide +kernel
theorem dX5_pairsMetered_16 : decode cX5_pairsMetered 16 = .ok (.bipush (-9), 2) := by decide +kernel
theorem dX5_pairsMetered_18 : decode cX5_pairsMetered 18 = .ok (.if_icmp .eq 6, 3) := by decide +kernel
theorem dX5_pairsMetered_21 : decode cX5_pairsMetered 21 = .ok (.iinc 1 1, 3) := by decide +kernel
theorem dX5_pairsMetered_24 : decode cX5_pairsMetered 24 = .ok (.iinc 2 1, 3) := by decide +kernel
theorem dX5_pairsMetered_27 : decode cX5_pairsMetered 27 = .ok (.goto (-23), 3) := by decide +kernel
theorem dX5_pairsMetered_30 : decode cX5_pairsMetered 30 = .ok (.iload_n 1, 1) := by decide +kernel
theorem dX5_pairsMetered_31 : decode cX5_pairsMetered 31 = .ok (.ireturn, 1) := by decide +kernel
theorem dX5_carriedFrom_0 : decode cX5_carriedFrom 0 = .ok (.iconst 0, 1) := by decide +kernel
theorem dX5_carriedFrom_1 : decode cX5_carriedFrom 1 = .ok (.istore_n 2, 1) := by decide +kernel
theorem dX5_carriedFrom_2 : decode cX5_carriedFrom 2 = .ok (.iconst 0, 1) := by decide +kernel
theorem dX5_carriedFrom_3 : decode cX5_carriedFrom 3 = .ok (.istore_n 3, 1) := by decide +kernel
theorem dX5_carriedFrom_4 : decode cX5_carriedFrom 4 = .ok (.iload_n 3, 1) := by decide +kernel
theorem dX5_carriedFrom_5 : decode cX5_carriedFrom 5 = .ok (.aload_n 0, 1) := by decide +kernel
theorem dX5_carriedFrom_6 : decode cX5_carriedFrom 6 = .ok (.getfield 15, 3) := by decide +kernel
theorem dX5_carriedFrom_9 : decode cX5_carriedFrom 9 = .ok (.if_icmp .ge 48, 3) := by decide +kernel
theorem dX5_carriedFrom_12 : decode cX5_carriedFrom 12 = .ok (.aload_n 0, 1) := by decide +kernel
theorem dX5_carriedFrom_13 : decode cX5_carriedFrom 13 = .ok (.getfield 20, 3) := by decide +kernel
theorem dX5_carriedFrom_16 : decode cX5_carriedFrom 16 = .ok (.iload_n 3, 1) := by decide +kernel
theorem dX5_carriedFrom_17 : decode cX5_carriedFrom 17 = .ok (.aaload, 1) := by decide +kernel
theorem dX5_carriedFrom_18 : decode cX5_carriedFrom 18 = .ok (.getfield 45, 3) := by decide +kernel
theorem dX5_carriedFrom_21 : decode cX5_carriedFrom 21 = .ok (.iload_n 1, 1) := by decide +kernel
theorem dX5_carriedFrom_22 : decode cX5_carriedFrom 22 = .ok (.if_icmp .ne 29, 3) := by decide +kernel
theorem dX5_carriedFrom_25 : decode cX5_carriedFrom 25 = .ok (.aload_n 0, 1) := by decide +kernel
theorem dX5_carriedFrom_26 : decode cX5_carriedFrom 26 = .ok (.getfield 20, 3) := by decide +kernel
theorem dX5_carriedFrom_29 : decode cX5_carriedFrom 29 = .ok (.iload_n 3, 1) := by decide +kernel
theorem dX5_carriedFrom_30 : decode cX5_carriedFrom 30 = .ok (.aaload, 1) := by decide +kernel
theorem dX5_carriedFrom_31 : decode cX5_carriedFrom 31 = .ok (.getfield 42, 3) := by decide +kernel
theorem dX5_carriedFrom_34 : decode cX5_carriedFrom 34 = .ok (.bipush (-9), 2) := by decide +kernel
theorem dX5_carriedFrom_36 : decode cX5_carriedFrom 36 = .ok (.if_icmp .eq 15, 3) := by decide +kernel
theorem dX5_carriedFrom_39 : decode cX5_carriedFrom 39 = .ok (.iload_n 2, 1) := by decide +kernel
theorem dX5_carriedFrom_40 : decode cX5_carriedFrom 40 = .ok (.aload_n 0, 1) := by decide +kernel
theorem dX5_carriedFrom_41 : decode cX5_carriedFrom 41 = .ok (.getfield 20, 3) := by decide +kernel
theorem dX5_carriedFrom_44 : decode cX5_carriedFrom 44 = .ok (.iload_n 3, 1) := by decide +kernel
theorem dX5_carriedFrom_45 : decode cX5_carriedFrom 45 = .ok (.aaload, 1) := by decide +kernel
theorem dX5_carriedFrom_46 : decode cX5_carriedFrom 46 = .ok (.getfield 42, 3) := by decide +kernel
theorem dX5_carriedFrom_49 : decode cX5_carriedFrom 49 = .ok (.iadd, 1) := by decide +kernel
theorem dX5_carriedFrom_50 : decode cX5_carriedFrom 50 = .ok (.istore_n 2, 1) := by decide +kernel
theorem dX5_carriedFrom_51 : decode cX5_carriedFrom 51 = .ok (.iinc 3 1, 3) := by decide +kernel
theorem dX5_carriedFrom_54 : decode cX5_carriedFrom 54 = .ok (.goto (-50), 3) := by decide +kernel
theorem dX5_carriedFrom_57 : decode cX5_carriedFrom 57 = .ok (.iload_n 2, 1) := by decide +kernel
theorem dX5_carriedFrom_58 : decode cX5_carriedFrom 58 = .ok (.ireturn, 1) := by decide +kernel
theorem dX5_carriedTo_0 : decode cX5_carriedTo 0 = .ok (.iconst 0, 1) := by decide +kernel
theorem dX5_carriedTo_1 : decode cX5_carriedTo 1 = .ok (.istore_n 2, 1) := by decide +kernel
theorem dX5_carriedTo_2 : decode cX5_carriedTo 2 = .ok (.iconst 0, 1) := by decide +kernel
theorem dX5_carriedTo_3 : decode cX5_carriedTo 3 = .ok (.istore_n 3, 1) := by decide +kernel
theorem dX5_carriedTo_4 : decode cX5_carriedTo 4 = .ok (.iload_n 3, 1) := by decide +kernel
theorem dX5_carriedTo_5 : decode cX5_carriedTo 5 = .ok (.aload_n 0, 1) := by decide +kernel
theorem dX5_carriedTo_6 : decode cX5_carriedTo 6 = .ok (.getfield 15, 3) := by decide +kernel
theorem dX5_carriedTo_9 : decode cX5_carriedTo 9 = .ok (.if_icmp .ge 48, 3) := by decide +kernel
theorem dX5_carriedTo_12 : decode cX5_carriedTo 12 = .ok (.aload_n 0, 1) := by decide +kernel
theorem dX5_carriedTo_13 : decode cX5_carriedTo 13 = .ok (.getfield 20, 3) := by decide +kernel
theorem dX5_carriedTo_16 : decode cX5_carriedTo 16 = .ok (.iload_n 3, 1) := by decide +kernel
theorem dX5_carriedTo_17 : decode cX5_carriedTo 17 = .ok (.aaload, 1) := by decide +kernel
theorem dX5_carriedTo_18 : decode cX5_carriedTo 18 = .ok (.getfield 48, 3) := by decide +kernel
theorem dX5_carriedTo_21 : decode cX5_carriedTo 21 = .ok (.iload_n 1, 1) := by decide +kernel
theorem dX5_carriedTo_22 : decode cX5_carriedTo 22 = .ok (.if_icmp .ne 29, 3) := by decide +kernel
theorem dX5_carriedTo_25 : decode cX5_carriedTo 25 = .ok (.aload_n 0, 1) := by decide +kernel
theorem dX5_carriedTo_26 : decode cX5_carriedTo 26 = .ok (.getfield 20, 3) := by decide +kernel
theorem dX5_carriedTo_29 : decode cX5_carriedTo 29 = .ok (.iload_n 3, 1) := by decide +kernel
theorem dX5_carriedTo_30 : decode cX5_carriedTo 30 = .ok (.aaload, 1) := by decide +kernel
theorem dX5_carriedTo_31 : decode cX5_carriedTo 31 = .ok (.getfield 42, 3) := by decide +kernel
theorem dX5_carriedTo_34 : decode cX5_carriedTo 34 = .ok (.bipush (-9), 2) := by decide +kernel
theorem dX5_carriedTo_36 : decode cX5_carriedTo 36 = .ok (.if_icmp .eq 15, 3) := by decide +kernel
theorem dX5_carriedTo_39 : decode cX5_carriedTo 39 = .ok (.iload_n 2, 1) := by decide +kernel
theorem dX5_carriedTo_40 : decode cX5_carriedTo 40 = .ok (.aload_n 0, 1) := by decide +kernel
theorem dX5_carriedTo_41 : decode cX5_carriedTo 41 = .ok (.getfield 20, 3) := by decide +kernel
theorem dX5_carriedTo_44 : decode cX5_carriedTo 44 = .ok (.iload_n 3, 1) := by decide +kernel
theorem dX5_carriedTo_45 : decode cX5_carriedTo 45 = .ok (.aaload, 1) := by decide +kernel
theorem dX5_carriedTo_46 : decode cX5_carriedTo 46 = .ok (.getfield 42, 3) := by decide +kernel
theorem dX5_carriedTo_49 : decode cX5_carriedTo 49 = .ok (.iadd, 1) := by decide +kernel
theorem dX5_carriedTo_50 : decode cX5_carriedTo 50 = .ok (.istore_n 2, 1) := by decide +kernel
theorem dX5_carriedTo_51 : decode cX5_carriedTo 51 = .ok (.iinc 3 1, 3) := by decide +kernel
theorem dX5_carriedTo_54 : decode cX5_carriedTo 54 = .ok (.goto (-50), 3) := by decide +kernel
theorem dX5_carriedTo_57 : decode cX5_carriedTo 57 = .ok (.iload_n 2, 1) := by decide +kernel
theorem dX5_carriedTo_58 : decode cX5_carriedTo 58 = .ok (.ireturn, 1) := by decide +kernel
theorem dX5_allCarried_0 : decode cX5_allCarried 0 = .ok (.iconst 0, 1) := by decide +kernel
theorem dX5_allCarried_1 : decode cX5_allCarried 1 = .ok (.istore_n 1, 1) := by decide +kernel
theorem dX5_allCarried_2 : decode cX5_allCarried 2 = .ok (.iconst 0, 1) := by decide +kernel
theorem dX5_allCarried_3 : decode cX5_allCarried 3 = .ok (.istore_n 2, 1) := by decide +kernel
theorem dX5_allCarried_4 : decode cX5_allCarried 4 = .ok (.iload_n 2, 1) := by decide +kernel
theorem dX5_allCarried_5 : decode cX5_allCarried 5 = .ok (.aload_n 0, 1) := by decide +kernel
theorem dX5_allCarried_6 : decode cX5_allCarried 6 = .ok (.getfield 9, 3) := by decide +kernel
theorem dX5_allCarried_9 : decode cX5_allCarried 9 = .ok (.if_icmp .ge 17, 3) := by decide +kernel
theorem dX5_allCarried_12 : decode cX5_allCarried 12 = .ok (.iload_n 1, 1) := by decide +kernel
theorem dX5_allCarried_13 : decode cX5_allCarried 13 = .ok (.aload_n 0, 1) := by decide +kernel
theorem dX5_allCarried_14 : decode cX5_allCarried 14 = .ok (.iload_n 2, 1) := by decide +kernel
theorem dX5_allCarried_15 : decode cX5_allCarried 15 = .ok (.invokevirtual 51, 3) := by decide +kernel
theorem dX5_allCarried_18 : decode cX5_allCarried 18 = .ok (.iadd, 1) := by decide +kernel
theorem dX5_allCarried_19 : decode cX5_allCarried 19 = .ok (.istore_n 1, 1) := by decide +kernel
theorem dX5_allCarried_20 : decode cX5_allCarried 20 = .ok (.iinc 2 1, 3) := by decide +kernel
theorem dX5_allCarried_23 : decode cX5_allCarried 23 = .ok (.goto (-19), 3) := by decide +kernel
theorem dX5_allCarried_26 : decode cX5_allCarried 26 = .ok (.iload_n 1, 1) := by decide +kernel
theorem dX5_allCarried_27 : decode cX5_allCarried 27 = .ok (.ireturn, 1) := by decide +kernel
theorem dX6_init_0 : decode cX6_init 0 = .ok (.aload_n 0, 1) := by decide +kernel
theorem dX6_init_1 : decode cX6_init 1 = .ok (.invokespecial 3, 3) := by decide +kernel
theorem dX6_init_4 : decode cX6_init 4 = .ok (.aload_n 0, 1) := by decide +kernel
theorem dX6_init_5 : decode cX6_init 5 = .ok (.bipush 36, 2) := by decide +kernel
theorem dX6_init_7 : decode cX6_init 7 = .ok (.newarray .int, 2) := by decide +kernel
theorem dX6_init_9 : decode cX6_init 9 = .ok (.putfield 9, 3) := by decide +kernel
theorem dX6_init_12 : decode cX6_init 12 = .ok (.aload_n 0, 1) := by decide +kernel
theorem dX6_init_13 : decode cX6_init 13 = .ok (.bipush 36, 2) := by decide +kernel
theorem dX6_init_15 : decode cX6_init 15 = .ok (.newarray .int, 2) := by decide +kernel
theorem dX6_init_17 : decode cX6_init 17 = .ok (.putfield 15, 3) := by decide +kernel
theorem dX6_init_20 : decode cX6_init 20 = .ok (.aload_n 0, 1) := by decide +kernel
theorem dX6_init_21 : decode cX6_init 21 = .ok (.iconst 0, 1) := by decide +kernel
theorem dX6_init_22 : decode cX6_init 22 = .ok (.putfield 18, 3) := by decide +kernel
theorem dX6_init_25 : decode cX6_init 25 = .ok (.return_, 1) := by decide +kernel
theorem dX6_begin_0 : decode cX6_begin 0 = .ok (.aload_n 0, 1) := by decide +kernel
theorem dX6_begin_1 : decode cX6_begin 1 = .ok (.iconst 0, 1) := by decide +kernel
theorem dX6_begin_2 : decode cX6_begin 2 = .ok (.putfield 18, 3) := by decide +kernel
theorem dX6_begin_5 : decode cX6_begin 5 = .ok (.aload_n 0, 1) := by decide +kernel
theorem dX6_begin_6 : decode cX6_begin 6 = .ok (.getfield 9, 3) := by decide +kernel
theorem dX6_begin_9 : decode cX6_begin 9 = .ok (.sipush 200, 3) := by decide +kernel
theorem dX6_begin_12 : decode cX6_begin 12 = .ok (.invokestatic 22, 3) := by decide +kernel
theorem dX6_begin_15 : decode cX6_begin 15 = .ok (.aload_n 0, 1) := by decide +kernel
theorem dX6_begin_16 : decode cX6_begin 16 = .ok (.getfield 15, 3) := by decide +kernel
theorem dX6_begin_19 : decode cX6_begin 19 = .ok (.iconst 0, 1) := by decide +kernel
theorem dX6_begin_20 : decode cX6_begin 20 = .ok (.invokestatic 22, 3) := by decide +kernel
theorem dX6_begin_23 : decode cX6_begin 23 = .ok (.return_, 1) := by decide +kernel
theorem dX6_hasEnough_0 : decode cX6_hasEnough 0 = .ok (.aload_n 0, 1) := by decide +kernel
theorem dX6_hasEnough_1 : decode cX6_hasEnough 1 = .ok (.iconst 1, 1) := by decide +kernel
theorem dX6_hasEnough_2 : decode cX6_hasEnough 2 = .ok (.putfield 18, 3) := by decide +kernel
theorem dX6_hasEnough_5 : decode cX6_hasEnough 5 = .ok (.iconst 0, 1) := by decide +kernel
theorem dX6_hasEnough_6 : decode cX6_hasEnough 6 = .ok (.istore_n 2, 1) := by decide +kernel
theorem dX6_hasEnough_7 : decode cX6_hasEnough 7 = .ok (.iload_n 2, 1) := by decide +kernel
theorem dX6_hasEnough_8 : decode cX6_hasEnough 8 = .ok (.bipush 36, 2) := by decide +kernel
theorem dX6_hasEnough_10 : decode cX6_hasEnough 10 = .ok (.if_icmp .ge 45, 3) := by decide +kernel
theorem dX6_hasEnough_13 : decode cX6_hasEnough 13 = .ok (.aload_n 0, 1) := by decide +kernel
theorem dX6_hasEnough_14 : decode cX6_hasEnough 14 = .ok (.getfield 9, 3) := by decide +kernel
theorem dX6_hasEnough_17 : decode cX6_hasEnough 17 = .ok (.iload_n 2, 1) := by decide +kernel
theorem dX6_hasEnough_18 : decode cX6_hasEnough 18 = .ok (.aload_n 0, 1) := by decide +kernel
theorem dX6_hasEnough_19 : decode cX6_hasEnough 19 = .ok (.getfield 9, 3) := by decide +kernel
theorem dX6_hasEnough_22 : decode cX6_hasEnough 22 = .ok (.iload_n 2, 1) := by decide +kernel
theorem dX6_hasEnough_23 : decode cX6_hasEnough 23 = .ok (.iaload, 1) := by decide +kernel
theorem dX6_hasEnough_24 : decode cX6_hasEnough 24 = .ok (.aload_n 1, 1) := by decide +kernel
theorem dX6_hasEnough_25 : decode cX6_hasEnough 25 = .ok (.iload_n 2, 1) := by decide +kernel
theorem dX6_hasEnough_26 : decode cX6_hasEnough 26 = .ok (.iaload, 1) := by decide +kernel
theorem dX6_hasEnough_27 : decode cX6_hasEnough 27 = .ok (.invokestatic 28, 3) := by decide +kernel
theorem dX6_hasEnough_30 : decode cX6_hasEnough 30 = .ok (.iastore, 1) := by decide +kernel
theorem dX6_hasEnough_31 : decode cX6_hasEnough 31 = .ok (.aload_n 0, 1) := by decide +kernel
theorem dX6_hasEnough_32 : decode cX6_hasEnough 32 = .ok (.getfield 15, 3) := by decide +kernel
theorem dX6_hasEnough_35 : decode cX6_hasEnough 35 = .ok (.iload_n 2, 1) := by decide +kernel
theorem dX6_hasEnough_36 : decode cX6_hasEnough 36 = .ok (.aload_n 0, 1) := by decide +kernel
theorem dX6_hasEnough_37 : decode cX6_hasEnough 37 = .ok (.getfield 15, 3) := by decide +kernel
theorem dX6_hasEnough_40 : decode cX6_hasEnough 40 = .ok (.iload_n 2, 1) := by decide +kernel
theorem dX6_hasEnough_41 : decode cX6_hasEnough 41 = .ok (.iaload, 1) := by decide +kernel
theorem dX6_hasEnough_42 : decode cX6_hasEnough 42 = .ok (.aload_n 1, 1) := by decide +kernel
theorem dX6_hasEnough_43 : decode cX6_hasEnough 43 = .ok (.iload_n 2, 1) := by decide +kernel
theorem dX6_hasEnough_44 : decode cX6_hasEnough 44 = .ok (.iaload, 1) := by decide +kernel
theorem dX6_hasEnough_45 : decode cX6_hasEnough 45 = .ok (.invokestatic 34, 3) := by decide +kernel
theorem dX6_hasEnough_48 : decode cX6_hasEnough 48 = .ok (.iastore, 1) := by decide +kernel
theorem dX6_hasEnough_49 : decode cX6_hasEnough 49 = .ok (.iinc 2 1, 3) := by decide +kernel
theorem dX6_hasEnough_52 : decode cX6_hasEnough 52 = .ok (.goto (-45), 3) := by decide +kernel
theorem dX6_hasEnough_55 : decode cX6_hasEnough 55 = .ok (.iconst 0, 1) := by decide +kernel
theorem dX6_hasEnough_56 : decode cX6_hasEnough 56 = .ok (.ireturn, 1) := by decide +kernel
theorem dX7_init_0 : decode cX7_init 0 = .ok (.aload_n 0, 1) := by decide +kernel
theorem dX7_init_1 : decode cX7_init 1 = .ok (.invokespecial 3, 3) := by decide +kernel
theorem dX7_init_4 : decode cX7_init 4 = .ok (.aload_n 0, 1) := by decide +kernel
theorem dX7_init_5 : decode cX7_init 5 = .ok (.iconst 0, 1) := by decide +kernel
theorem dX7_init_6 : decode cX7_init 6 = .ok (.putfield 9, 3) := by decide +kernel
theorem dX7_init_9 : decode cX7_init 9 = .ok (.aload_n 0, 1) := by decide +kernel
theorem dX7_init_10 : decode cX7_init 10 = .ok (.bipush 36, 2) := by decide +kernel
theorem dX7_init_12 : decode cX7_init 12 = .ok (.newarray .int, 2) := by decide +kernel
theorem dX7_init_14 : decode cX7_init 14 = .ok (.putfield 15, 3) := by decide +kernel
theorem dX7_init_17 : decode cX7_init 17 = .ok (.aload_n 0, 1) := by decide +kernel
theorem dX7_init_18 : decode cX7_init 18 = .ok (.sipush 180, 3) := by decide +kernel
theorem dX7_init_21 : decode cX7_init 21 = .ok (.newarray .int, 2) := by decide +kernel
theorem dX7_init_23 : decode cX7_init 23 = .ok (.putfield 19, 3) := by decide +kernel
theorem dX7_init_26 : decode cX7_init 26 = .ok (.aload_n 0, 1) := by decide +kernel
theorem dX7_init_27 : decode cX7_init 27 = .ok (.bipush 6, 2) := by decide +kernel
theorem dX7_init_29 : decode cX7_init 29 = .ok (.newarray .int, 2) := by decide +kernel
theorem dX7_init_31 : decode cX7_init 31 = .ok (.putfield 22, 3) := by decide +kernel
theorem dX7_init_34 : decode cX7_init 34 = .ok (.return_, 1) := by decide +kernel
end
section
/-! decode rows -/
theorem dX7_find_0 : decode cX7_find 0 = .ok (.aload_n 0, 1) := by decide +kernel
theorem dX7_find_1 : decode cX7_find 1 = .ok (.aload_n 1, 1) := by decide +kernel
theorem dX7_find_2 : decode cX7_find 2 = .ok (.getfield 25, 3) := by decide +kernel
theorem dX7_find_5 : decode cX7_find 5 = .ok (.aload_n 1, 1) := by decide +kernel
theorem dX7_find_6 : decode cX7_find 6 = .ok (.getfield 25, 3) := by decide +kernel
theorem dX7_find_9 : decode cX7_find 9 = .ok (.imul, 1) := by decide +kernel
theorem dX7_find_10 : decode cX7_find 10 = .ok (.putfield 9, 3) := by decide +kernel
theorem dX7_find_13 : decode cX7_find 13 = .ok (.iconst 0, 1) := by decide +kernel
theorem dX7_find_14 : decode cX7_find 14 = .ok (.istore_n 3, 1) := by decide +kernel
theorem dX7_find_15 : decode cX7_find 15 = .ok (.iload_n 3, 1) := by decide +kernel
theorem dX7_find_16 : decode cX7_find 16 = .ok (.aload_n 1, 1) := by decide +kernel
theorem dX7_find_17 : decode cX7_find 17 = .ok (.getfield 25, 3) := by decide +kernel
theorem dX7_find_20 : decode cX7_find 20 = .ok (.if_icmp .ge 49, 3) := by decide +kernel
theorem dX7_find_23 : decode cX7_find 23 = .ok (.aload_n 0, 1) := by decide +kernel
theorem dX7_find_24 : decode cX7_find 24 = .ok (.aload_n 1, 1) := by decide +kernel
theorem dX7_find_25 : decode cX7_find 25 = .ok (.iload_n 2, 1) := by decide +kernel
theorem dX7_find_26 : decode cX7_find 26 = .ok (.iload_n 3, 1) := by decide +kernel
theorem dX7_find_27 : decode cX7_find 27 = .ok (.invokevirtual 30, 3) := by decide +kernel
theorem dX7_find_30 : decode cX7_find 30 = .ok (.iconst 0, 1) := by decide +kernel
theorem dX7_find_31 : decode cX7_find 31 = .ok (.istore 4, 2) := by decide +kernel
theorem dX7_find_33 : decode cX7_find 33 = .ok (.iload 4, 2) := by decide +kernel
theorem dX7_find_35 : decode cX7_find 35 = .ok (.aload_n 1, 1) := by decide +kernel
theorem dX7_find_36 : decode cX7_find 36 = .ok (.getfield 25, 3) := by decide +kernel
theorem dX7_find_39 : decode cX7_find 39 = .ok (.if_icmp .ge 24, 3) := by decide +kernel
theorem dX7_find_42 : decode cX7_find 42 = .ok (.aload_n 0, 1) := by decide +kernel
theorem dX7_find_43 : decode cX7_find 43 = .ok (.aload_n 1, 1) := by decide +kernel
theorem dX7_find_44 : decode cX7_find 44 = .ok (.iload_n 2, 1) := by decide +kernel
theorem dX7_find_45 : decode cX7_find 45 = .ok (.iload 4, 2) := by decide +kernel
theorem dX7_find_47 : decode cX7_find 47 = .ok (.aload_n 1, 1) := by decide +kernel
theorem dX7_find_48 : decode cX7_find 48 = .ok (.iload 4, 2) := by decide +kernel
theorem dX7_find_50 : decode cX7_find 50 = .ok (.iload_n 3, 1) := by decide +kernel
theorem dX7_find_51 : decode cX7_find 51 = .ok (.invokevirtual 34, 3) := by decide +kernel
theorem dX7_find_54 : decode cX7_find 54 = .ok (.invokevirtual 38, 3) := by decide +kernel
theorem dX7_find_57 : decode cX7_find 57 = .ok (.iinc 4 1, 3) := by decide +kernel
theorem dX7_find_60 : decode cX7_find 60 = .ok (.goto (-27), 3) := by decide +kernel
theorem dX7_find_63 : decode cX7_find 63 = .ok (.iinc 3 1, 3) := by decide +kernel
theorem dX7_find_66 : decode cX7_find 66 = .ok (.goto (-51), 3) := by decide +kernel
theorem dX7_find_69 : decode cX7_find 69 = .ok (.return_, 1) := by decide +kernel
theorem dX7_isRouted_0 : decode cX7_isRouted 0 = .ok (.aload_n 0, 1) := by decide +kernel
theorem dX7_isRouted_1 : decode cX7_isRouted 1 = .ok (.getfield 15, 3) := by decide +kernel
theorem dX7_isRouted_4 : decode cX7_isRouted 4 = .ok (.iload_n 1, 1) := by decide +kernel
theorem dX7_isRouted_5 : decode cX7_isRouted 5 = .ok (.iaload, 1) := by decide +kernel
theorem dX7_isRouted_6 : decode cX7_isRouted 6 = .ok (.ifCond .le 7, 3) := by decide +kernel
theorem dX7_isRouted_9 : decode cX7_isRouted 9 = .ok (.iconst 1, 1) := by decide +kernel
theorem dX7_isRouted_10 : decode cX7_isRouted 10 = .ok (.goto 4, 3) := by decide +kernel
theorem dX7_isRouted_13 : decode cX7_isRouted 13 = .ok (.iconst 0, 1) := by decide +kernel
theorem dX7_isRouted_14 : decode cX7_isRouted 14 = .ok (.ireturn, 1) := by decide +kernel
theorem dX7_lineAt_0 : decode cX7_lineAt 0 = .ok (.aload_n 0, 1) := by decide +kernel
theorem dX7_lineAt_1 : decode cX7_lineAt 1 = .ok (.getfield 19, 3) := by decide +kernel
theorem dX7_lineAt_4 : decode cX7_lineAt 4 = .ok (.iload_n 1, 1) := by decide +kernel
theorem dX7_lineAt_5 : decode cX7_lineAt 5 = .ok (.iconst 5, 1) := by decide +kernel
theorem dX7_lineAt_6 : decode cX7_lineAt 6 = .ok (.imul, 1) := by decide +kernel
theorem dX7_lineAt_7 : decode cX7_lineAt 7 = .ok (.iload_n 2, 1) := by decide +kernel
theorem dX7_lineAt_8 : decode cX7_lineAt 8 = .ok (.iadd, 1) := by decide +kernel
theorem dX7_lineAt_9 : decode cX7_lineAt 9 = .ok (.iaload, 1) := by decide +kernel
theorem dX7_lineAt_10 : decode cX7_lineAt 10 = .ok (.ireturn, 1) := by decide +kernel
theorem dX7_goesBy_0 : decode cX7_goesBy 0 = .ok (.iconst 0, 1) := by decide +kernel
theorem dX7_goesBy_1 : decode cX7_goesBy 1 = .ok (.istore_n 3, 1) := by decide +kernel
theorem dX7_goesBy_2 : decode cX7_goesBy 2 = .ok (.iload_n 3, 1) := by decide +kernel
theorem dX7_goesBy_3 : decode cX7_goesBy 3 = .ok (.aload_n 0, 1) := by decide +kernel
theorem dX7_goesBy_4 : decode cX7_goesBy 4 = .ok (.getfield 15, 3) := by decide +kernel
theorem dX7_goesBy_7 : decode cX7_goesBy 7 = .ok (.iload_n 1, 1) := by decide +kernel
theorem dX7_goesBy_8 : decode cX7_goesBy 8 = .ok (.iaload, 1) := by decide +kernel
theorem dX7_goesBy_9 : decode cX7_goesBy 9 = .ok (.if_icmp .ge 21, 3) := by decide +kernel
theorem dX7_goesBy_12 : decode cX7_goesBy 12 = .ok (.aload_n 0, 1) := by decide +kernel
theorem dX7_goesBy_13 : decode cX7_goesBy 13 = .ok (.iload_n 1, 1) := by decide +kernel
theorem dX7_goesBy_14 : decode cX7_goesBy 14 = .ok (.iload_n 3, 1) := by decide +kernel
theorem dX7_goesBy_15 : decode cX7_goesBy 15 = .ok (.invokevirtual 42, 3) := by decide +kernel
theorem dX7_goesBy_18 : decode cX7_goesBy 18 = .ok (.iload_n 2, 1) := by decide +kernel
theorem dX7_goesBy_19 : decode cX7_goesBy 19 = .ok (.if_icmp .ne 5, 3) := by decide +kernel
theorem dX7_goesBy_22 : decode cX7_goesBy 22 = .ok (.iconst 1, 1) := by decide +kernel
theorem dX7_goesBy_23 : decode cX7_goesBy 23 = .ok (.ireturn, 1) := by decide +kernel
theorem dX7_goesBy_24 : decode cX7_goesBy 24 = .ok (.iinc 3 1, 3) := by decide +kernel
theorem dX7_goesBy_27 : decode cX7_goesBy 27 = .ok (.goto (-25), 3) := by decide +kernel
theorem dX7_goesBy_30 : decode cX7_goesBy 30 = .ok (.iconst 0, 1) := by decide +kernel
theorem dX7_goesBy_31 : decode cX7_goesBy 31 = .ok (.ireturn, 1) := by decide +kernel
theorem dX7_pairsOn_0 : decode cX7_pairsOn 0 = .ok (.iconst 0, 1) := by decide +kernel
theorem dX7_pairsOn_1 : decode cX7_pairsOn 1 = .ok (.istore_n 2, 1) := by decide +kernel
theorem dX7_pairsOn_2 : decode cX7_pairsOn 2 = .ok (.iconst 0, 1) := by decide +kernel
theorem dX7_pairsOn_3 : decode cX7_pairsOn 3 = .ok (.istore_n 3, 1) := by decide +kernel
theorem dX7_pairsOn_4 : decode cX7_pairsOn 4 = .ok (.iload_n 3, 1) := by decide +kernel
theorem dX7_pairsOn_5 : decode cX7_pairsOn 5 = .ok (.aload_n 0, 1) := by decide +kernel
theorem dX7_pairsOn_6 : decode cX7_pairsOn 6 = .ok (.getfield 9, 3) := by decide +kernel
theorem dX7_pairsOn_9 : decode cX7_pairsOn 9 = .ok (.if_icmp .ge 21, 3) := by decide +kernel
theorem dX7_pairsOn_12 : decode cX7_pairsOn 12 = .ok (.aload_n 0, 1) := by decide +kernel
theorem dX7_pairsOn_13 : decode cX7_pairsOn 13 = .ok (.iload_n 3, 1) := by decide +kernel
theorem dX7_pairsOn_14 : decode cX7_pairsOn 14 = .ok (.iload_n 1, 1) := by decide +kernel
theorem dX7_pairsOn_15 : decode cX7_pairsOn 15 = .ok (.invokevirtual 45, 3) := by decide +kernel
theorem dX7_pairsOn_18 : decode cX7_pairsOn 18 = .ok (.ifCond .eq 6, 3) := by decide +kernel
theorem dX7_pairsOn_21 : decode cX7_pairsOn 21 = .ok (.iinc 2 1, 3) := by decide +kernel
theorem dX7_pairsOn_24 : decode cX7_pairsOn 24 = .ok (.iinc 3 1, 3) := by decide +kernel
theorem dX7_pairsOn_27 : decode cX7_pairsOn 27 = .ok (.goto (-23), 3) := by decide +kernel
theorem dX7_pairsOn_30 : decode cX7_pairsOn 30 = .ok (.iload_n 2, 1) := by decide +kernel
theorem dX7_pairsOn_31 : decode cX7_pairsOn 31 = .ok (.ireturn, 1) := by decide +kernel
theorem dX7_pairsCut_0 : decode cX7_pairsCut 0 = .ok (.iconst 0, 1) := by decide +kernel
theorem dX7_pairsCut_1 : decode cX7_pairsCut 1 = .ok (.istore_n 1, 1) := by decide +kernel
theorem dX7_pairsCut_2 : decode cX7_pairsCut 2 = .ok (.iconst 0, 1) := by decide +kernel
theorem dX7_pairsCut_3 : decode cX7_pairsCut 3 = .ok (.istore_n 2, 1) := by decide +kernel
theorem dX7_pairsCut_4 : decode cX7_pairsCut 4 = .ok (.iload_n 2, 1) := by decide +kernel
theorem dX7_pairsCut_5 : decode cX7_pairsCut 5 = .ok (.aload_n 0, 1) := by decide +kernel
theorem dX7_pairsCut_6 : decode cX7_pairsCut 6 = .ok (.getfield 9, 3) := by decide +kernel
theorem dX7_pairsCut_9 : decode cX7_pairsCut 9 = .ok (.if_icmp .ge 22, 3) := by decide +kernel
theorem dX7_pairsCut_12 : decode cX7_pairsCut 12 = .ok (.aload_n 0, 1) := by decide +kernel
theorem dX7_pairsCut_13 : decode cX7_pairsCut 13 = .ok (.getfield 15, 3) := by decide +kernel
theorem dX7_pairsCut_16 : decode cX7_pairsCut 16 = .ok (.iload_n 2, 1) := by decide +kernel
theorem dX7_pairsCut_17 : decode cX7_pairsCut 17 = .ok (.iaload, 1) := by decide +kernel
theorem dX7_pairsCut_18 : decode cX7_pairsCut 18 = .ok (.iconst (-1), 1) := by decide +kernel
theorem dX7_pairsCut_19 : decode cX7_pairsCut 19 = .ok (.if_icmp .ne 6, 3) := by decide +kernel
theorem dX7_pairsCut_22 : decode cX7_pairsCut 22 = .ok (.iinc 1 1, 3) := by decide +kernel
theorem dX7_pairsCut_25 : decode cX7_pairsCut 25 = .ok (.iinc 2 1, 3) := by decide +kernel
theorem dX7_pairsCut_28 : decode cX7_pairsCut 28 = .ok (.goto (-24), 3) := by decide +kernel
theorem dX7_pairsCut_31 : decode cX7_pairsCut 31 = .ok (.iload_n 1, 1) := by decide +kernel
theorem dX7_pairsCut_32 : decode cX7_pairsCut 32 = .ok (.ireturn, 1) := by decide +kernel
theorem dX7_measure_0 : decode cX7_measure 0 = .ok (.aload_n 0, 1) := by decide +kernel
theorem dX7_measure_1 : decode cX7_measure 1 = .ok (.getfield 22, 3) := by decide +kernel
theorem dX7_measure_4 : decode cX7_measure 4 = .ok (.bipush 6, 2) := by decide +kernel
theorem dX7_measure_6 : decode cX7_measure 6 = .ok (.invokestatic 49, 3) := by decide +kernel
theorem dX7_measure_9 : decode cX7_measure 9 = .ok (.aload_n 0, 1) := by decide +kernel
theorem dX7_measure_10 : decode cX7_measure 10 = .ok (.getfield 22, 3) := by decide +kernel
theorem dX7_measure_13 : decode cX7_measure 13 = .ok (.iload_n 3, 1) := by decide +kernel
theorem dX7_measure_14 : decode cX7_measure 14 = .ok (.iconst 0, 1) := by decide +kernel
theorem dX7_measure_15 : decode cX7_measure 15 = .ok (.iastore, 1) := by decide +kernel
theorem dX7_measure_16 : decode cX7_measure 16 = .ok (.iconst 0, 1) := by decide +kernel
theorem dX7_measure_17 : decode cX7_measure 17 = .ok (.istore 4, 2) := by decide +kernel
theorem dX7_measure_19 : decode cX7_measure 19 = .ok (.iload 4, 2) := by decide +kernel
theorem dX7_measure_21 : decode cX7_measure 21 = .ok (.aload_n 1, 1) := by decide +kernel
theorem dX7_measure_22 : decode cX7_measure 22 = .ok (.getfield 25, 3) := by decide +kernel
theorem dX7_measure_25 : decode cX7_measure 25 = .ok (.if_icmp .ge 86, 3) := by decide +kernel
theorem dX7_measure_28 : decode cX7_measure 28 = .ok (.iconst 0, 1) := by decide +kernel
theorem dX7_measure_29 : decode cX7_measure 29 = .ok (.istore 5, 2) := by decide +kernel
theorem dX7_measure_31 : decode cX7_measure 31 = .ok (.iload 5, 2) := by decide +kernel
theorem dX7_measure_33 : decode cX7_measure 33 = .ok (.aload_n 1, 1) := by decide +kernel
theorem dX7_measure_34 : decode cX7_measure 34 = .ok (.getfield 55, 3) := by decide +kernel
theorem dX7_measure_37 : decode cX7_measure 37 = .ok (.if_icmp .ge 68, 3) := by decide +kernel
theorem dX7_measure_40 : decode cX7_measure 40 = .ok (.aload_n 1, 1) := by decide +kernel
theorem dX7_measure_41 : decode cX7_measure 41 = .ok (.iload_n 2, 1) := by decide +kernel
theorem dX7_measure_42 : decode cX7_measure 42 = .ok (.iload 5, 2) := by decide +kernel
theorem dX7_measure_44 : decode cX7_measure 44 = .ok (.invokestatic 58, 3) := by decide +kernel
theorem dX7_measure_47 : decode cX7_measure 47 = .ok (.ifCond .eq 6, 3) := by decide +kernel
theorem dX7_measure_50 : decode cX7_measure 50 = .ok (.goto 49, 3) := by decide +kernel
theorem dX7_measure_53 : decode cX7_measure 53 = .ok (.aload_n 1, 1) := by decide +kernel
theorem dX7_measure_54 : decode cX7_measure 54 = .ok (.getfield 62, 3) := by decide +kernel
theorem dX7_measure_57 : decode cX7_measure 57 = .ok (.iload 5, 2) := by decide +kernel
theorem dX7_measure_59 : decode cX7_measure 59 = .ok (.aaload, 1) := by decide +kernel
theorem dX7_measure_60 : decode cX7_measure 60 = .ok (.getfield 66, 3) := by decide +kernel
theorem dX7_measure_63 : decode cX7_measure 63 = .ok (.istore 6, 2) := by decide +kernel
theorem dX7_measure_65 : decode cX7_measure 65 = .ok (.aload_n 0, 1) := by decide +kernel
theorem dX7_measure_66 : decode cX7_measure 66 = .ok (.getfield 22, 3) := by decide +kernel
theorem dX7_measure_69 : decode cX7_measure 69 = .ok (.iload 6, 2) := by decide +kernel
theorem dX7_measure_71 : decode cX7_measure 71 = .ok (.aload_n 0, 1) := by decide +kernel
theorem dX7_measure_72 : decode cX7_measure 72 = .ok (.getfield 22, 3) := by decide +kernel
theorem dX7_measure_75 : decode cX7_measure 75 = .ok (.iload 6, 2) := by decide +kernel
theorem dX7_measure_77 : decode cX7_measure 77 = .ok (.iaload, 1) := by decide +kernel
theorem dX7_measure_78 : decode cX7_measure 78 = .ok (.aload_n 0, 1) := by decide +kernel
theorem dX7_measure_79 : decode cX7_measure 79 = .ok (.getfield 22, 3) := by decide +kernel
theorem dX7_measure_82 : decode cX7_measure 82 = .ok (.aload_n 1, 1) := by decide +kernel
theorem dX7_measure_83 : decode cX7_measure 83 = .ok (.getfield 62, 3) := by decide +kernel
theorem dX7_measure_86 : decode cX7_measure 86 = .ok (.iload 5, 2) := by decide +kernel
theorem dX7_measure_88 : decode cX7_measure 88 = .ok (.aaload, 1) := by decide +kernel
theorem dX7_measure_89 : decode cX7_measure 89 = .ok (.getfield 71, 3) := by decide +kernel
theorem dX7_measure_92 : decode cX7_measure 92 = .ok (.iaload, 1) := by decide +kernel
theorem dX7_measure_93 : decode cX7_measure 93 = .ok (.iconst 1, 1) := by decide +kernel
theorem dX7_measure_94 : decode cX7_measure 94 = .ok (.iadd, 1) := by decide +kernel
theorem dX7_measure_95 : decode cX7_measure 95 = .ok (.invokestatic 74, 3) := by decide +kernel
theorem dX7_measure_98 : decode cX7_measure 98 = .ok (.iastore, 1) := by decide +kernel
theorem dX7_measure_99 : decode cX7_measure 99 = .ok (.iinc 5 1, 3) := by decide +kernel
theorem dX7_measure_102 : decode cX7_measure 102 = .ok (.goto (-71), 3) := by decide +kernel
theorem dX7_measure_105 : decode cX7_measure 105 = .ok (.iinc 4 1, 3) := by decide +kernel
theorem dX7_measure_108 : decode cX7_measure 108 = .ok (.goto (-89), 3) := by decide +kernel
theorem dX7_measure_111 : decode cX7_measure 111 = .ok (.return_, 1) := by decide +kernel
theorem dX7_isShut_0 : decode cX7_isShut 0 = .ok (.iload_n 2, 1) := by decide +kernel
theorem dX7_isShut_1 : decode cX7_isShut 1 = .ok (.iload_n 1, 1) := by decide +kernel
theorem dX7_isShut_2 : decode cX7_isShut 2 = .ok (.if_icmp .eq 15, 3) := by decide +kernel
theorem dX7_isShut_5 : decode cX7_isShut 5 = .ok (.aload_n 0, 1) := by decide +kernel
theorem dX7_isShut_6 : decode cX7_isShut 6 = .ok (.getfield 62, 3) := by decide +kernel
theorem dX7_isShut_9 : decode cX7_isShut 9 = .ok (.iload_n 2, 1) := by decide +kernel
theorem dX7_isShut_10 : decode cX7_isShut 10 = .ok (.aaload, 1) := by decide +kernel
theorem dX7_isShut_11 : decode cX7_isShut 11 = .ok (.getfield 79, 3) := by decide +kernel
theorem dX7_isShut_14 : decode cX7_isShut 14 = .ok (.ifCond .eq 7, 3) := by decide +kernel
theorem dX7_isShut_17 : decode cX7_isShut 17 = .ok (.iconst 1, 1) := by decide +kernel
theorem dX7_isShut_18 : decode cX7_isShut 18 = .ok (.goto 4, 3) := by decide +kernel
theorem dX7_isShut_21 : decode cX7_isShut 21 = .ok (.iconst 0, 1) := by decide +kernel
theorem dX7_isShut_22 : decode cX7_isShut 22 = .ok (.ireturn, 1) := by decide +kernel
theorem dX7_walk_0 : decode cX7_walk 0 = .ok (.aload_n 0, 1) := by decide +kernel
theorem dX7_walk_1 : decode cX7_walk 1 = .ok (.getfield 15, 3) := by decide +kernel
theorem dX7_walk_4 : decode cX7_walk 4 = .ok (.iload 4, 2) := by decide +kernel
theorem dX7_walk_6 : decode cX7_walk 6 = .ok (.aload_n 0, 1) := by decide +kernel
theorem dX7_walk_7 : decode cX7_walk 7 = .ok (.getfield 22, 3) := by decide +kernel
theorem dX7_walk_10 : decode cX7_walk 10 = .ok (.iload_n 3, 1) := by decide +kernel
theorem dX7_walk_11 : decode cX7_walk 11 = .ok (.iaload, 1) := by decide +kernel
theorem dX7_walk_12 : decode cX7_walk 12 = .ok (.bipush 6, 2) := by decide +kernel
theorem dX7_walk_14 : decode cX7_walk 14 = .ok (.if_icmp .ge 12, 3) := by decide +kernel
theorem dX7_walk_17 : decode cX7_walk 17 = .ok (.aload_n 0, 1) := by decide +kernel
theorem dX7_walk_18 : decode cX7_walk 18 = .ok (.getfield 22, 3) := by decide +kernel
theorem dX7_walk_21 : decode cX7_walk 21 = .ok (.iload_n 3, 1) := by decide +kernel
theorem dX7_walk_22 : decode cX7_walk 22 = .ok (.iaload, 1) := by decide +kernel
theorem dX7_walk_23 : decode cX7_walk 23 = .ok (.goto 4, 3) := by decide +kernel
theorem dX7_walk_26 : decode cX7_walk 26 = .ok (.iconst (-1), 1) := by decide +kernel
theorem dX7_walk_27 : decode cX7_walk 27 = .ok (.iastore, 1) := by decide +kernel
theorem dX7_walk_28 : decode cX7_walk 28 = .ok (.iload_n 3, 1) := by decide +kernel
theorem dX7_walk_29 : decode cX7_walk 29 = .ok (.istore 5, 2) := by decide +kernel
theorem dX7_walk_31 : decode cX7_walk 31 = .ok (.iconst 0, 1) := by decide +kernel
theorem dX7_walk_32 : decode cX7_walk 32 = .ok (.istore 6, 2) := by decide +kernel
theorem dX7_walk_34 : decode cX7_walk 34 = .ok (.iload 6, 2) := by decide +kernel
theorem dX7_walk_36 : decode cX7_walk 36 = .ok (.aload_n 0, 1) := by decide +kernel
theorem dX7_walk_37 : decode cX7_walk 37 = .ok (.getfield 15, 3) := by decide +kernel
theorem dX7_walk_40 : decode cX7_walk 40 = .ok (.iload 4, 2) := by decide +kernel
theorem dX7_walk_42 : decode cX7_walk 42 = .ok (.iaload, 1) := by decide +kernel
theorem dX7_walk_43 : decode cX7_walk 43 = .ok (.if_icmp .ge 114, 3) := by decide +kernel
theorem dX7_walk_46 : decode cX7_walk 46 = .ok (.iconst 0, 1) := by decide +kernel
theorem dX7_walk_47 : decode cX7_walk 47 = .ok (.istore 7, 2) := by decide +kernel
theorem dX7_walk_49 : decode cX7_walk 49 = .ok (.iload 7, 2) := by decide +kernel
theorem dX7_walk_51 : decode cX7_walk 51 = .ok (.aload_n 1, 1) := by decide +kernel
theorem dX7_walk_52 : decode cX7_walk 52 = .ok (.getfield 55, 3) := by decide +kernel
theorem dX7_walk_55 : decode cX7_walk 55 = .ok (.if_icmp .ge 96, 3) := by decide +kernel
theorem dX7_walk_58 : decode cX7_walk 58 = .ok (.aload_n 1, 1) := by decide +kernel
theorem dX7_walk_59 : decode cX7_walk 59 = .ok (.iload_n 2, 1) := by decide +kernel
theorem dX7_walk_60 : decode cX7_walk 60 = .ok (.iload 7, 2) := by decide +kernel
theorem dX7_walk_62 : decode cX7_walk 62 = .ok (.invokestatic 58, 3) := by decide +kernel
theorem dX7_walk_65 : decode cX7_walk 65 = .ok (.ifCond .ne 80, 3) := by decide +kernel
theorem dX7_walk_68 : decode cX7_walk 68 = .ok (.aload_n 1, 1) := by decide +kernel
theorem dX7_walk_69 : decode cX7_walk 69 = .ok (.getfield 62, 3) := by decide +kernel
theorem dX7_walk_72 : decode cX7_walk 72 = .ok (.iload 7, 2) := by decide +kernel
theorem dX7_walk_74 : decode cX7_walk 74 = .ok (.aaload, 1) := by decide +kernel
theorem dX7_walk_75 : decode cX7_walk 75 = .ok (.getfield 66, 3) := by decide +kernel
theorem dX7_walk_78 : decode cX7_walk 78 = .ok (.iload 5, 2) := by decide +kernel
theorem dX7_walk_80 : decode cX7_walk 80 = .ok (.if_icmp .eq 6, 3) := by decide +kernel
theorem dX7_walk_83 : decode cX7_walk 83 = .ok (.goto 62, 3) := by decide +kernel
theorem dX7_walk_86 : decode cX7_walk 86 = .ok (.aload_n 0, 1) := by decide +kernel
theorem dX7_walk_87 : decode cX7_walk 87 = .ok (.getfield 22, 3) := by decide +kernel
theorem dX7_walk_90 : decode cX7_walk 90 = .ok (.aload_n 1, 1) := by decide +kernel
theorem dX7_walk_91 : decode cX7_walk 91 = .ok (.getfield 62, 3) := by decide +kernel
theorem dX7_walk_94 : decode cX7_walk 94 = .ok (.iload 7, 2) := by decide +kernel
theorem dX7_walk_96 : decode cX7_walk 96 = .ok (.aaload, 1) := by decide +kernel
theorem dX7_walk_97 : decode cX7_walk 97 = .ok (.getfield 71, 3) := by decide +kernel
theorem dX7_walk_100 : decode cX7_walk 100 = .ok (.iaload, 1) := by decide +kernel
theorem dX7_walk_101 : decode cX7_walk 101 = .ok (.aload_n 0, 1) := by decide +kernel
theorem dX7_walk_102 : decode cX7_walk 102 = .ok (.getfield 22, 3) := by decide +kernel
theorem dX7_walk_105 : decode cX7_walk 105 = .ok (.iload 5, 2) := by decide +kernel
theorem dX7_walk_107 : decode cX7_walk 107 = .ok (.iaload, 1) := by decide +kernel
theorem dX7_walk_108 : decode cX7_walk 108 = .ok (.iconst 1, 1) := by decide +kernel
theorem dX7_walk_109 : decode cX7_walk 109 = .ok (.isub, 1) := by decide +kernel
theorem dX7_walk_110 : decode cX7_walk 110 = .ok (.if_icmp .eq 6, 3) := by decide +kernel
theorem dX7_walk_113 : decode cX7_walk 113 = .ok (.goto 32, 3) := by decide +kernel
theorem dX7_walk_116 : decode cX7_walk 116 = .ok (.aload_n 0, 1) := by decide +kernel
theorem dX7_walk_117 : decode cX7_walk 117 = .ok (.getfield 19, 3) := by decide +kernel
theorem dX7_walk_120 : decode cX7_walk 120 = .ok (.iload 4, 2) := by decide +kernel
theorem dX7_walk_122 : decode cX7_walk 122 = .ok (.iconst 5, 1) := by decide +kernel
theorem dX7_walk_123 : decode cX7_walk 123 = .ok (.imul, 1) := by decide +kernel
theorem dX7_walk_124 : decode cX7_walk 124 = .ok (.iload 6, 2) := by decide +kernel
theorem dX7_walk_126 : decode cX7_walk 126 = .ok (.iadd, 1) := by decide +kernel
theorem dX7_walk_127 : decode cX7_walk 127 = .ok (.iload 7, 2) := by decide +kernel
theorem dX7_walk_129 : decode cX7_walk 129 = .ok (.iastore, 1) := by decide +kernel
theorem dX7_walk_130 : decode cX7_walk 130 = .ok (.aload_n 1, 1) := by decide +kernel
theorem dX7_walk_131 : decode cX7_walk 131 = .ok (.getfield 62, 3) := by decide +kernel
theorem dX7_walk_134 : decode cX7_walk 134 = .ok (.iload 7, 2) := by decide +kernel
theorem dX7_walk_136 : decode cX7_walk 136 = .ok (.aaload, 1) := by decide +kernel
theorem dX7_walk_137 : decode cX7_walk 137 = .ok (.getfield 71, 3) := by decide +kernel
theorem dX7_walk_140 : decode cX7_walk 140 = .ok (.istore 5, 2) := by decide +kernel
theorem dX7_walk_142 : decode cX7_walk 142 = .ok (.goto 9, 3) := by decide +kernel
theorem dX7_walk_145 : decode cX7_walk 145 = .ok (.iinc 7 1, 3) := by decide +kernel
theorem dX7_walk_148 : decode cX7_walk 148 = .ok (.goto (-99), 3) := by decide +kernel
theorem dX7_walk_151 : decode cX7_walk 151 = .ok (.iinc 6 1, 3) := by decide +kernel
theorem dX7_walk_154 : decode cX7_walk 154 = .ok (.goto (-120), 3) := by decide +kernel
theorem dX7_walk_157 : decode cX7_walk 157 = .ok (.return_, 1) := by decide +kernel
theorem dX8_init_0 : decode cX8_init 0 = .ok (.aload_n 0, 1) := by decide +kernel
theorem dX8_init_1 : decode cX8_init 1 = .ok (.invokespecial 3, 3) := by decide +kernel
theorem dX8_init_4 : decode cX8_init 4 = .ok (.aload_n 0, 1) := by decide +kernel
theorem dX8_init_5 : decode cX8_init 5 = .ok (.bipush 36, 2) := by decide +kernel
theorem dX8_init_7 : decode cX8_init 7 = .ok (.newarray .int, 2) := by decide +kernel
theorem dX8_init_9 : decode cX8_init 9 = .ok (.putfield 9, 3) := by decide +kernel
theorem dX8_init_12 : decode cX8_init 12 = .ok (.aload_n 0, 1) := by decide +kernel
theorem dX8_init_13 : decode cX8_init 13 = .ok (.bipush 36, 2) := by decide +kernel
theorem dX8_init_15 : decode cX8_init 15 = .ok (.newarray .int, 2) := by decide +kernel
theorem dX8_init_17 : decode cX8_init 17 = .ok (.putfield 15, 3) := by decide +kernel
theorem dX8_init_20 : decode cX8_init 20 = .ok (.aload_n 0, 1) := by decide +kernel
theorem dX8_init_21 : decode cX8_init 21 = .ok (.bipush 12, 2) := by decide +kernel
theorem dX8_init_23 : decode cX8_init 23 = .ok (.newarray .int, 2) := by decide +kernel
theorem dX8_init_25 : decode cX8_init 25 = .ok (.putfield 18, 3) := by decide +kernel
theorem dX8_init_28 : decode cX8_init 28 = .ok (.aload_n 0, 1) := by decide +kernel
theorem dX8_init_29 : decode cX8_init 29 = .ok (.bipush 12, 2) := by decide +kernel
theorem dX8_init_31 : decode cX8_init 31 = .ok (.newarray .int, 2) := by decide +kernel
theorem dX8_init_33 : decode cX8_init 33 = .ok (.putfield 21, 3) := by decide +kernel
theorem dX8_init_36 : decode cX8_init 36 = .ok (.aload_n 0, 1) := by decide +kernel
theorem dX8_init_37 : decode cX8_init 37 = .ok (.bipush 36, 2) := by decide +kernel
theorem dX8_init_39 : decode cX8_init 39 = .ok (.newarray .int, 2) := by decide +kernel
theorem dX8_init_41 : decode cX8_init 41 = .ok (.putfield 24, 3) := by decide +kernel
theorem dX8_init_44 : decode cX8_init 44 = .ok (.aload_n 0, 1) := by decide +kernel
theorem dX8_init_45 : decode cX8_init 45 = .ok (.bipush 36, 2) := by decide +kernel
theorem dX8_init_47 : decode cX8_init 47 = .ok (.newarray .int, 2) := by decide +kernel
theorem dX8_init_49 : decode cX8_init 49 = .ok (.putfield 27, 3) := by decide +kernel
theorem dX8_init_52 : decode cX8_init 52 = .ok (.aload_n 0, 1) := by decide +kernel
theorem dX8_init_53 : decode cX8_init 53 = .ok (.iconst 0, 1) := by decide +kernel
theorem dX8_init_54 : decode cX8_init 54 = .ok (.putfield 30, 3) := by decide +kernel
theorem dX8_init_57 : decode cX8_init 57 = .ok (.aload_n 0, 1) := by decide +kernel
theorem dX8_init_58 : decode cX8_init 58 = .ok (.iconst 0, 1) := by decide +kernel
theorem dX8_init_59 : decode cX8_init 59 = .ok (.putfield 34, 3) := by decide +kernel
theorem dX8_init_62 : decode cX8_init 62 = .ok (.aload_n 0, 1) := by decide +kernel
theorem dX8_init_63 : decode cX8_init 63 = .ok (.iconst 0, 1) := by decide +kernel
theorem dX8_init_64 : decode cX8_init 64 = .ok (.putfield 37, 3) := by decide +kernel
theorem dX8_init_67 : decode cX8_init 67 = .ok (.aload_n 0, 1) := by decide +kernel
theorem dX8_init_68 : decode cX8_init 68 = .ok (.iconst 0, 1) := by decide +kernel
theorem dX8_init_69 : decode cX8_init 69 = .ok (.putfield 40, 3) := by decide +kernel
theorem dX8_init_72 : decode cX8_init 72 = .ok (.aload_n 0, 1) := by decide +kernel
theorem dX8_init_73 : decode cX8_init 73 = .ok (.aload_n 1, 1) := by decide +kernel
theorem dX8_init_74 : decode cX8_init 74 = .ok (.putfield 44, 3) := by decide +kernel
theorem dX8_init_77 : decode cX8_init 77 = .ok (.aload_n 0, 1) := by decide +kernel
theorem dX8_init_78 : decode cX8_init 78 = .ok (.aload_n 2, 1) := by decide +kernel
theorem dX8_init_79 : decode cX8_init 79 = .ok (.putfield 48, 3) := by decide +kernel
theorem dX8_init_82 : decode cX8_init 82 = .ok (.return_, 1) := by decide +kernel
theorem dX8_begin_0 : decode cX8_begin 0 = .ok (.aload_n 0, 1) := by decide +kernel
theorem dX8_begin_1 : decode cX8_begin 1 = .ok (.iload_n 1, 1) := by decide +kernel
theorem dX8_begin_2 : decode cX8_begin 2 = .ok (.putfield 34, 3) := by decide +kernel
theorem dX8_begin_5 : decode cX8_begin 5 = .ok (.aload_n 0, 1) := by decide +kernel
theorem dX8_begin_6 : decode cX8_begin 6 = .ok (.iconst 0, 1) := by decide +kernel
theorem dX8_begin_7 : decode cX8_begin 7 = .ok (.putfield 37, 3) := by decide +kernel
theorem dX8_begin_10 : decode cX8_begin 10 = .ok (.aload_n 0, 1) := by decide +kernel
theorem dX8_begin_11 : decode cX8_begin 11 = .ok (.iconst 0, 1) := by decide +kernel
theorem dX8_begin_12 : decode cX8_begin 12 = .ok (.putfield 40, 3) := by decide +kernel
theorem dX8_begin_15 : decode cX8_begin 15 = .ok (.aload_n 0, 1) := by decide +kernel
theorem dX8_begin_16 : decode cX8_begin 16 = .ok (.iconst 0, 1) := by decide +kernel
theorem dX8_begin_17 : decode cX8_begin 17 = .ok (.putfield 30, 3) := by decide +kernel
theorem dX8_begin_20 : decode cX8_begin 20 = .ok (.aload_n 0, 1) := by decide +kernel
theorem dX8_begin_21 : decode cX8_begin 21 = .ok (.getfield 27, 3) := by decide +kernel
theorem dX8_begin_24 : decode cX8_begin 24 = .ok (.iconst 0, 1) := by decide +kernel
theorem dX8_begin_25 : decode cX8_begin 25 = .ok (.invokestatic 52, 3) := by decide +kernel
theorem dX8_begin_28 : decode cX8_begin 28 = .ok (.aload_n 0, 1) := by decide +kernel
theorem dX8_begin_29 : decode cX8_begin 29 = .ok (.getfield 44, 3) := by decide +kernel
theorem dX8_begin_32 : decode cX8_begin 32 = .ok (.getfield 58, 3) := by decide +kernel
theorem dX8_begin_35 : decode cX8_begin 35 = .ok (.iconst 0, 1) := by decide +kernel
theorem dX8_begin_36 : decode cX8_begin 36 = .ok (.aload_n 0, 1) := by decide +kernel
theorem dX8_begin_37 : decode cX8_begin 37 = .ok (.getfield 24, 3) := by decide +kernel
theorem dX8_begin_40 : decode cX8_begin 40 = .ok (.iconst 0, 1) := by decide +kernel
theorem dX8_begin_41 : decode cX8_begin 41 = .ok (.bipush 36, 2) := by decide +kernel
theorem dX8_begin_43 : decode cX8_begin 43 = .ok (.invokestatic 63, 3) := by decide +kernel
theorem dX8_begin_46 : decode cX8_begin 46 = .ok (.iconst 0, 1) := by decide +kernel
theorem dX8_begin_47 : decode cX8_begin 47 = .ok (.istore_n 2, 1) := by decide +kernel
theorem dX8_begin_48 : decode cX8_begin 48 = .ok (.iload_n 2, 1) := by decide +kernel
theorem dX8_begin_49 : decode cX8_begin 49 = .ok (.aload_n 0, 1) := by decide +kernel
theorem dX8_begin_50 : decode cX8_begin 50 = .ok (.getfield 44, 3) := by decide +kernel
theorem dX8_begin_53 : decode cX8_begin 53 = .ok (.getfield 69, 3) := by decide +kernel
theorem dX8_begin_56 : decode cX8_begin 56 = .ok (.if_icmp .ge 35, 3) := by decide +kernel
theorem dX8_begin_59 : decode cX8_begin 59 = .ok (.aload_n 0, 1) := by decide +kernel
theorem dX8_begin_60 : decode cX8_begin 60 = .ok (.getfield 21, 3) := by decide +kernel
theorem dX8_begin_63 : decode cX8_begin 63 = .ok (.iload_n 2, 1) := by decide +kernel
theorem dX8_begin_64 : decode cX8_begin 64 = .ok (.aload_n 0, 1) := by decide +kernel
theorem dX8_begin_65 : decode cX8_begin 65 = .ok (.getfield 44, 3) := by decide +kernel
theorem dX8_begin_68 : decode cX8_begin 68 = .ok (.getfield 72, 3) := by decide +kernel
theorem dX8_begin_71 : decode cX8_begin 71 = .ok (.iload_n 2, 1) := by decide +kernel
theorem dX8_begin_72 : decode cX8_begin 72 = .ok (.aaload, 1) := by decide +kernel
theorem dX8_begin_73 : decode cX8_begin 73 = .ok (.getfield 76, 3) := by decide +kernel
theorem dX8_begin_76 : decode cX8_begin 76 = .ok (.iastore, 1) := by decide +kernel
theorem dX8_begin_77 : decode cX8_begin 77 = .ok (.aload_n 0, 1) := by decide +kernel
theorem dX8_begin_78 : decode cX8_begin 78 = .ok (.getfield 18, 3) := by decide +kernel
theorem dX8_begin_81 : decode cX8_begin 81 = .ok (.iload_n 2, 1) := by decide +kernel
theorem dX8_begin_82 : decode cX8_begin 82 = .ok (.bipush (-9), 2) := by decide +kernel
theorem dX8_begin_84 : decode cX8_begin 84 = .ok (.iastore, 1) := by decide +kernel
theorem dX8_begin_85 : decode cX8_begin 85 = .ok (.iinc 2 1, 3) := by decide +kernel
theorem dX8_begin_88 : decode cX8_begin 88 = .ok (.goto (-40), 3) := by decide +kernel
theorem dX8_begin_91 : decode cX8_begin 91 = .ok (.iconst 0, 1) := by decide +kernel
theorem dX8_begin_92 : decode cX8_begin 92 = .ok (.istore_n 2, 1) := by decide +kernel
theorem dX8_begin_93 : decode cX8_begin 93 = .ok (.iload_n 2, 1) := by decide +kernel
theorem dX8_begin_94 : decode cX8_begin 94 = .ok (.aload_n 0, 1) := by decide +kernel
theorem dX8_begin_95 : decode cX8_begin 95 = .ok (.getfield 48, 3) := by decide +kernel
theorem dX8_begin_98 : decode cX8_begin 98 = .ok (.getfield 81, 3) := by decide +kernel
theorem dX8_begin_101 : decode cX8_begin 101 = .ok (.if_icmp .ge 22, 3) := by decide +kernel
theorem dX8_begin_104 : decode cX8_begin 104 = .ok (.aload_n 0, 1) := by decide +kernel
theorem dX8_begin_105 : decode cX8_begin 105 = .ok (.iload_n 2, 1) := by decide +kernel
theorem dX8_begin_106 : decode cX8_begin 106 = .ok (.invokevirtual 86, 3) := by decide +kernel
theorem dX8_begin_109 : decode cX8_begin 109 = .ok (.ifCond .eq 8, 3) := by decide +kernel
theorem dX8_begin_112 : decode cX8_begin 112 = .ok (.aload_n 0, 1) := by decide +kernel
theorem dX8_begin_113 : decode cX8_begin 113 = .ok (.iload_n 2, 1) := by decide +kernel
theorem dX8_begin_114 : decode cX8_begin 114 = .ok (.invokevirtual 90, 3) := by decide +kernel
theorem dX8_begin_117 : decode cX8_begin 117 = .ok (.iinc 2 1, 3) := by decide +kernel
theorem dX8_begin_120 : decode cX8_begin 120 = .ok (.goto (-27), 3) := by decide +kernel
theorem dX8_begin_123 : decode cX8_begin 123 = .ok (.return_, 1) := by decide +kernel
theorem dX8_seek_0 : decode cX8_seek 0 = .ok (.aload_n 0, 1) := by decide +kernel
theorem dX8_seek_1 : decode cX8_seek 1 = .ok (.iconst 0, 1) := by decide +kernel
theorem dX8_seek_2 : decode cX8_seek 2 = .ok (.aload_n 1, 1) := by decide +kernel
theorem dX8_seek_3 : decode cX8_seek 3 = .ok (.invokevirtual 94, 3) := by decide +kernel
theorem dX8_seek_6 : decode cX8_seek 6 = .ok (.pop, 1) := by decide +kernel
theorem dX8_seek_7 : decode cX8_seek 7 = .ok (.return_, 1) := by decide +kernel
theorem dX8_fewestMeters_0 : decode cX8_fewestMeters 0 = .ok (.aload_n 0, 1) := by decide +kernel
theorem dX8_fewestMeters_1 : decode cX8_fewestMeters 1 = .ok (.invokevirtual 98, 3) := by decide +kernel
theorem dX8_fewestMeters_4 : decode cX8_fewestMeters 4 = .ok (.istore_n 2, 1) := by decide +kernel
theorem dX8_fewestMeters_5 : decode cX8_fewestMeters 5 = .ok (.lconst 1, 1) := by decide +kernel
theorem dX8_fewestMeters_6 : decode cX8_fewestMeters 6 = .ok (.iload_n 2, 1) := by decide +kernel
theorem dX8_fewestMeters_7 : decode cX8_fewestMeters 7 = .ok (.lshl, 1) := by decide +kernel
theorem dX8_fewestMeters_8 : decode cX8_fewestMeters 8 = .ok (.lstore_n 3, 1) := by decide +kernel
theorem dX8_fewestMeters_9 : decode cX8_fewestMeters 9 = .ok (.iconst 0, 1) := by decide +kernel
theorem dX8_fewestMeters_10 : decode cX8_fewestMeters 10 = .ok (.istore 5, 2) := by decide +kernel
theorem dX8_fewestMeters_12 : decode cX8_fewestMeters 12 = .ok (.iload 5, 2) := by decide +kernel
theorem dX8_fewestMeters_14 : decode cX8_fewestMeters 14 = .ok (.iload_n 2, 1) := by decide +kernel
theorem dX8_fewestMeters_15 : decode cX8_fewestMeters 15 = .ok (.if_icmp .gt 80, 3) := by decide +kernel
theorem dX8_fewestMeters_18 : decode cX8_fewestMeters 18 = .ok (.lconst 1, 1) := by decide +kernel
theorem dX8_fewestMeters_19 : decode cX8_fewestMeters 19 = .ok (.iload 5, 2) := by decide +kernel
theorem dX8_fewestMeters_21 : decode cX8_fewestMeters 21 = .ok (.lshl, 1) := by decide +kernel
theorem dX8_fewestMeters_22 : decode cX8_fewestMeters 22 = .ok (.lconst 1, 1) := by decide +kernel
theorem dX8_fewestMeters_23 : decode cX8_fewestMeters 23 = .ok (.lsub, 1) := by decide +kernel
theorem dX8_fewestMeters_24 : decode cX8_fewestMeters 24 = .ok (.lstore 6, 2) := by decide +kernel
theorem dX8_fewestMeters_26 : decode cX8_fewestMeters 26 = .ok (.lload 6, 2) := by decide +kernel
theorem dX8_fewestMeters_28 : decode cX8_fewestMeters 28 = .ok (.lload_n 3, 1) := by decide +kernel
theorem dX8_fewestMeters_29 : decode cX8_fewestMeters 29 = .ok (.lcmp, 1) := by decide +kernel
theorem dX8_fewestMeters_30 : decode cX8_fewestMeters 30 = .ok (.ifCond .ge 59, 3) := by decide +kernel
theorem dX8_fewestMeters_33 : decode cX8_fewestMeters 33 = .ok (.aload_n 0, 1) := by decide +kernel
theorem dX8_fewestMeters_34 : decode cX8_fewestMeters 34 = .ok (.lload 6, 2) := by decide +kernel
theorem dX8_fewestMeters_36 : decode cX8_fewestMeters 36 = .ok (.iload_n 2, 1) := by decide +kernel
theorem dX8_fewestMeters_37 : decode cX8_fewestMeters 37 = .ok (.aload_n 1, 1) := by decide +kernel
theorem dX8_fewestMeters_38 : decode cX8_fewestMeters 38 = .ok (.getfield 102, 3) := by decide +kernel
theorem dX8_fewestMeters_41 : decode cX8_fewestMeters 41 = .ok (.invokevirtual 107, 3) := by decide +kernel
theorem dX8_fewestMeters_44 : decode cX8_fewestMeters 44 = .ok (.aload_n 1, 1) := by decide +kernel
theorem dX8_fewestMeters_45 : decode cX8_fewestMeters 45 = .ok (.iconst 2, 1) := by decide +kernel
theorem dX8_fewestMeters_46 : decode cX8_fewestMeters 46 = .ok (.invokevirtual 111, 3) := by decide +kernel
theorem dX8_fewestMeters_49 : decode cX8_fewestMeters 49 = .ok (.aload_n 0, 1) := by decide +kernel
theorem dX8_fewestMeters_50 : decode cX8_fewestMeters 50 = .ok (.aload_n 1, 1) := by decide +kernel
theorem dX8_fewestMeters_51 : decode cX8_fewestMeters 51 = .ok (.invokevirtual 114, 3) := by decide +kernel
theorem dX8_fewestMeters_54 : decode cX8_fewestMeters 54 = .ok (.aload_n 0, 1) := by decide +kernel
theorem dX8_fewestMeters_55 : decode cX8_fewestMeters 55 = .ok (.getfield 40, 3) := by decide +kernel
theorem dX8_fewestMeters_58 : decode cX8_fewestMeters 58 = .ok (.ifCond .eq 5, 3) := by decide +kernel
theorem dX8_fewestMeters_61 : decode cX8_fewestMeters 61 = .ok (.lconst 0, 1) := by decide +kernel
theorem dX8_fewestMeters_62 : decode cX8_fewestMeters 62 = .ok (.lreturn, 1) := by decide +kernel
theorem dX8_fewestMeters_63 : decode cX8_fewestMeters 63 = .ok (.aload_n 1, 1) := by decide +kernel
theorem dX8_fewestMeters_64 : decode cX8_fewestMeters 64 = .ok (.getfield 118, 3) := by decide +kernel
theorem dX8_fewestMeters_67 : decode cX8_fewestMeters 67 = .ok (.iconst 1, 1) := by decide +kernel
theorem dX8_fewestMeters_68 : decode cX8_fewestMeters 68 = .ok (.if_icmp .ne 11, 3) := by decide +kernel
theorem dX8_fewestMeters_71 : decode cX8_fewestMeters 71 = .ok (.aload_n 0, 1) := by decide +kernel
theorem dX8_fewestMeters_72 : decode cX8_fewestMeters 72 = .ok (.lload 6, 2) := by decide +kernel
theorem dX8_fewestMeters_74 : decode cX8_fewestMeters 74 = .ok (.iload_n 2, 1) := by decide +kernel
theorem dX8_fewestMeters_75 : decode cX8_fewestMeters 75 = .ok (.invokevirtual 121, 3) := by decide +kernel
theorem dX8_fewestMeters_78 : decode cX8_fewestMeters 78 = .ok (.lreturn, 1) := by decide +kernel
theorem dX8_fewestMeters_79 : decode cX8_fewestMeters 79 = .ok (.lload 6, 2) := by decide +kernel
theorem dX8_fewestMeters_81 : decode cX8_fewestMeters 81 = .ok (.invokestatic 125, 3) := by decide +kernel
theorem dX8_fewestMeters_84 : decode cX8_fewestMeters 84 = .ok (.lstore 6, 2) := by decide +kernel
theorem dX8_fewestMeters_86 : decode cX8_fewestMeters 86 = .ok (.goto (-60), 3) := by decide +kernel
theorem dX8_fewestMeters_89 : decode cX8_fewestMeters 89 = .ok (.iinc 5 1, 3) := by decide +kernel
theorem dX8_fewestMeters_92 : decode cX8_fewestMeters 92 = .ok (.goto (-80), 3) := by decide +kernel
theorem dX8_fewestMeters_95 : decode cX8_fewestMeters 95 = .ok (.lconst 0, 1) := by decide +kernel
theorem dX8_fewestMeters_96 : decode cX8_fewestMeters 96 = .ok (.lreturn, 1) := by decide +kernel
theorem dX8_isSought_0 : decode cX8_isSought 0 = .ok (.aload_n 0, 1) := by decide +kernel
theorem dX8_isSought_1 : decode cX8_isSought 1 = .ok (.getfield 48, 3) := by decide +kernel
theorem dX8_isSought_4 : decode cX8_isSought 4 = .ok (.iload_n 1, 1) := by decide +kernel
theorem dX8_isSought_5 : decode cX8_isSought 5 = .ok (.invokevirtual 129, 3) := by decide +kernel
theorem dX8_isSought_8 : decode cX8_isSought 8 = .ok (.ifCond .ne 5, 3) := by decide +kernel
theorem dX8_isSought_11 : decode cX8_isSought 11 = .ok (.iconst 0, 1) := by decide +kernel
theorem dX8_isSought_12 : decode cX8_isSought 12 = .ok (.ireturn, 1) := by decide +kernel
theorem dX8_isSought_13 : decode cX8_isSought 13 = .ok (.aload_n 0, 1) := by decide +kernel
theorem dX8_isSought_14 : decode cX8_isSought 14 = .ok (.getfield 24, 3) := by decide +kernel
theorem dX8_isSought_17 : decode cX8_isSought 17 = .ok (.iload_n 1, 1) := by decide +kernel
theorem dX8_isSought_18 : decode cX8_isSought 18 = .ok (.iaload, 1) := by decide +kernel
theorem dX8_isSought_19 : decode cX8_isSought 19 = .ok (.bipush (-9), 2) := by decide +kernel
theorem dX8_isSought_21 : decode cX8_isSought 21 = .ok (.if_icmp .eq 5, 3) := by decide +kernel
theorem dX8_isSought_24 : decode cX8_isSought 24 = .ok (.iconst 1, 1) := by decide +kernel
theorem dX8_isSought_25 : decode cX8_isSought 25 = .ok (.ireturn, 1) := by decide +kernel
theorem dX8_isSought_26 : decode cX8_isSought 26 = .ok (.iconst 0, 1) := by decide +kernel
theorem dX8_isSought_27 : decode cX8_isSought 27 = .ok (.istore_n 2, 1) := by decide +kernel
theorem dX8_isSought_28 : decode cX8_isSought 28 = .ok (.iload_n 2, 1) := by decide +kernel
theorem dX8_isSought_29 : decode cX8_isSought 29 = .ok (.aload_n 0, 1) := by decide +kernel
theorem dX8_isSought_30 : decode cX8_isSought 30 = .ok (.getfield 48, 3) := by decide +kernel
theorem dX8_isSought_33 : decode cX8_isSought 33 = .ok (.getfield 132, 3) := by decide +kernel
theorem dX8_isSought_36 : decode cX8_isSought 36 = .ok (.iload_n 1, 1) := by decide +kernel
theorem dX8_isSought_37 : decode cX8_isSought 37 = .ok (.iaload, 1) := by decide +kernel
theorem dX8_isSought_38 : decode cX8_isSought 38 = .ok (.if_icmp .ge 30, 3) := by decide +kernel
theorem dX8_isSought_41 : decode cX8_isSought 41 = .ok (.aload_n 0, 1) := by decide +kernel
theorem dX8_isSought_42 : decode cX8_isSought 42 = .ok (.getfield 21, 3) := by decide +kernel
theorem dX8_isSought_45 : decode cX8_isSought 45 = .ok (.aload_n 0, 1) := by decide +kernel
theorem dX8_isSought_46 : decode cX8_isSought 46 = .ok (.getfield 48, 3) := by decide +kernel
theorem dX8_isSought_49 : decode cX8_isSought 49 = .ok (.iload_n 1, 1) := by decide +kernel
theorem dX8_isSought_50 : decode cX8_isSought 50 = .ok (.iload_n 2, 1) := by decide +kernel
theorem dX8_isSought_51 : decode cX8_isSought 51 = .ok (.invokevirtual 135, 3) := by decide +kernel
theorem dX8_isSought_54 : decode cX8_isSought 54 = .ok (.iaload, 1) := by decide +kernel
theorem dX8_isSought_55 : decode cX8_isSought 55 = .ok (.bipush (-9), 2) := by decide +kernel
theorem dX8_isSought_57 : decode cX8_isSought 57 = .ok (.if_icmp .eq 5, 3) := by decide +kernel
theorem dX8_isSought_60 : decode cX8_isSought 60 = .ok (.iconst 1, 1) := by decide +kernel
theorem dX8_isSought_61 : decode cX8_isSought 61 = .ok (.ireturn, 1) := by decide +kernel
theorem dX8_isSought_62 : decode cX8_isSought 62 = .ok (.iinc 2 1, 3) := by decide +kernel
theorem dX8_isSought_65 : decode cX8_isSought 65 = .ok (.goto (-37), 3) := by decide +kernel
theorem dX8_isSought_68 : decode cX8_isSought 68 = .ok (.iconst 0, 1) := by decide +kernel
theorem dX8_isSought_69 : decode cX8_isSought 69 = .ok (.ireturn, 1) := by decide +kernel
theorem dX8_addSought_0 : decode cX8_addSought 0 = .ok (.aload_n 0, 1) := by decide +kernel
theorem dX8_addSought_1 : decode cX8_addSought 1 = .ok (.getfield 9, 3) := by decide +kernel
theorem dX8_addSought_4 : decode cX8_addSought 4 = .ok (.aload_n 0, 1) := by decide +kernel
theorem dX8_addSought_5 : decode cX8_addSought 5 = .ok (.getfield 30, 3) := by decide +kernel
theorem dX8_addSought_8 : decode cX8_addSought 8 = .ok (.iload_n 1, 1) := by decide +kernel
theorem dX8_addSought_9 : decode cX8_addSought 9 = .ok (.iastore, 1) := by decide +kernel
theorem dX8_addSought_10 : decode cX8_addSought 10 = .ok (.iconst 0, 1) := by decide +kernel
theorem dX8_addSought_11 : decode cX8_addSought 11 = .ok (.istore_n 2, 1) := by decide +kernel
theorem dX8_addSought_12 : decode cX8_addSought 12 = .ok (.iload_n 2, 1) := by decide +kernel
theorem dX8_addSought_13 : decode cX8_addSought 13 = .ok (.aload_n 0, 1) := by decide +kernel
theorem dX8_addSought_14 : decode cX8_addSought 14 = .ok (.getfield 48, 3) := by decide +kernel
theorem dX8_addSought_17 : decode cX8_addSought 17 = .ok (.getfield 132, 3) := by decide +kernel
theorem dX8_addSought_20 : decode cX8_addSought 20 = .ok (.iload_n 1, 1) := by decide +kernel
theorem dX8_addSought_21 : decode cX8_addSought 21 = .ok (.iaload, 1) := by decide +kernel
theorem dX8_addSought_22 : decode cX8_addSought 22 = .ok (.if_icmp .ge 27, 3) := by decide +kernel
theorem dX8_addSought_25 : decode cX8_addSought 25 = .ok (.aload_n 0, 1) := by decide +kernel
theorem dX8_addSought_26 : decode cX8_addSought 26 = .ok (.getfield 18, 3) := by decide +kernel
theorem dX8_addSought_29 : decode cX8_addSought 29 = .ok (.aload_n 0, 1) := by decide +kernel
theorem dX8_addSought_30 : decode cX8_addSought 30 = .ok (.getfield 48, 3) := by decide +kernel
theorem dX8_addSought_33 : decode cX8_addSought 33 = .ok (.iload_n 1, 1) := by decide +kernel
theorem dX8_addSought_34 : decode cX8_addSought 34 = .ok (.iload_n 2, 1) := by decide +kernel
theorem dX8_addSought_35 : decode cX8_addSought 35 = .ok (.invokevirtual 135, 3) := by decide +kernel
theorem dX8_addSought_38 : decode cX8_addSought 38 = .ok (.aload_n 0, 1) := by decide +kernel
theorem dX8_addSought_39 : decode cX8_addSought 39 = .ok (.getfield 30, 3) := by decide +kernel
theorem dX8_addSought_42 : decode cX8_addSought 42 = .ok (.iastore, 1) := by decide +kernel
theorem dX8_addSought_43 : decode cX8_addSought 43 = .ok (.iinc 2 1, 3) := by decide +kernel
theorem dX8_addSought_46 : decode cX8_addSought 46 = .ok (.goto (-34), 3) := by decide +kernel
theorem dX8_addSought_49 : decode cX8_addSought 49 = .ok (.aload_n 0, 1) := by decide +kernel
theorem dX8_addSought_50 : decode cX8_addSought 50 = .ok (.dup, 1) := by decide +kernel
theorem dX8_addSought_51 : decode cX8_addSought 51 = .ok (.getfield 30, 3) := by decide +kernel
theorem dX8_addSought_54 : decode cX8_addSought 54 = .ok (.iconst 1, 1) := by decide +kernel
theorem dX8_addSought_55 : decode cX8_addSought 55 = .ok (.iadd, 1) := by decide +kernel
theorem dX8_addSought_56 : decode cX8_addSought 56 = .ok (.putfield 30, 3) := by decide +kernel
theorem dX8_addSought_59 : decode cX8_addSought 59 = .ok (.return_, 1) := by decide +kernel
theorem dX8_goesOn_0 : decode cX8_goesOn 0 = .ok (.iload_n 1, 1) := by decide +kernel
theorem dX8_goesOn_1 : decode cX8_goesOn 1 = .ok (.aload_n 0, 1) := by decide +kernel
theorem dX8_goesOn_2 : decode cX8_goesOn 2 = .ok (.getfield 30, 3) := by decide +kernel
theorem dX8_goesOn_5 : decode cX8_goesOn 5 = .ok (.if_icmp .lt 27, 3) := by decide +kernel
theorem dX8_goesOn_8 : decode cX8_goesOn 8 = .ok (.aload_n 0, 1) := by decide +kernel
theorem dX8_goesOn_9 : decode cX8_goesOn 9 = .ok (.invokevirtual 139, 3) := by decide +kernel
theorem dX8_goesOn_12 : decode cX8_goesOn 12 = .ok (.ifCond .eq 14, 3) := by decide +kernel
theorem dX8_goesOn_15 : decode cX8_goesOn 15 = .ok (.aload_n 2, 1) := by decide +kernel
theorem dX8_goesOn_16 : decode cX8_goesOn 16 = .ok (.aload_n 0, 1) := by decide +kernel
theorem dX8_goesOn_17 : decode cX8_goesOn 17 = .ok (.getfield 27, 3) := by decide +kernel
theorem dX8_goesOn_20 : decode cX8_goesOn 20 = .ok (.invokevirtual 143, 3) := by decide +kernel
theorem dX8_goesOn_23 : decode cX8_goesOn 23 = .ok (.ifCond .ne 7, 3) := by decide +kernel
theorem dX8_goesOn_26 : decode cX8_goesOn 26 = .ok (.iconst 1, 1) := by decide +kernel
theorem dX8_goesOn_27 : decode cX8_goesOn 27 = .ok (.goto 4, 3) := by decide +kernel
theorem dX8_goesOn_30 : decode cX8_goesOn 30 = .ok (.iconst 0, 1) := by decide +kernel
theorem dX8_goesOn_31 : decode cX8_goesOn 31 = .ok (.ireturn, 1) := by decide +kernel
theorem dX8_goesOn_32 : decode cX8_goesOn 32 = .ok (.aload_n 0, 1) := by decide +kernel
theorem dX8_goesOn_33 : decode cX8_goesOn 33 = .ok (.getfield 9, 3) := by decide +kernel
theorem dX8_goesOn_36 : decode cX8_goesOn 36 = .ok (.iload_n 1, 1) := by decide +kernel
theorem dX8_goesOn_37 : decode cX8_goesOn 37 = .ok (.iaload, 1) := by decide +kernel
theorem dX8_goesOn_38 : decode cX8_goesOn 38 = .ok (.istore_n 3, 1) := by decide +kernel
theorem dX8_goesOn_39 : decode cX8_goesOn 39 = .ok (.aload_n 0, 1) := by decide +kernel
theorem dX8_goesOn_40 : decode cX8_goesOn 40 = .ok (.iload_n 1, 1) := by decide +kernel
theorem dX8_goesOn_41 : decode cX8_goesOn 41 = .ok (.iload_n 3, 1) := by decide +kernel
theorem dX8_goesOn_42 : decode cX8_goesOn 42 = .ok (.invokevirtual 149, 3) := by decide +kernel
theorem dX8_goesOn_45 : decode cX8_goesOn 45 = .ok (.istore 4, 2) := by decide +kernel
theorem dX8_goesOn_47 : decode cX8_goesOn 47 = .ok (.aload_n 0, 1) := by decide +kernel
theorem dX8_goesOn_48 : decode cX8_goesOn 48 = .ok (.iload_n 3, 1) := by decide +kernel
theorem dX8_goesOn_49 : decode cX8_goesOn 49 = .ok (.invokevirtual 152, 3) := by decide +kernel
theorem dX8_goesOn_52 : decode cX8_goesOn 52 = .ok (.istore 5, 2) := by decide +kernel
theorem dX8_goesOn_54 : decode cX8_goesOn 54 = .ok (.iload 4, 2) := by decide +kernel
theorem dX8_goesOn_56 : decode cX8_goesOn 56 = .ok (.istore 6, 2) := by decide +kernel
theorem dX8_goesOn_58 : decode cX8_goesOn 58 = .ok (.iload 6, 2) := by decide +kernel
theorem dX8_goesOn_60 : decode cX8_goesOn 60 = .ok (.iload 5, 2) := by decide +kernel
theorem dX8_goesOn_62 : decode cX8_goesOn 62 = .ok (.if_icmp .gt 77, 3) := by decide +kernel
theorem dX8_goesOn_65 : decode cX8_goesOn 65 = .ok (.aload_n 0, 1) := by decide +kernel
theorem dX8_goesOn_66 : decode cX8_goesOn 66 = .ok (.getfield 37, 3) := by decide +kernel
theorem dX8_goesOn_69 : decode cX8_goesOn 69 = .ok (.aload_n 0, 1) := by decide +kernel
theorem dX8_goesOn_70 : decode cX8_goesOn 70 = .ok (.getfield 34, 3) := by decide +kernel
theorem dX8_goesOn_73 : decode cX8_goesOn 73 = .ok (.if_icmp .lt 10, 3) := by decide +kernel
theorem dX8_goesOn_76 : decode cX8_goesOn 76 = .ok (.aload_n 0, 1) := by decide +kernel
theorem dX8_goesOn_77 : decode cX8_goesOn 77 = .ok (.iconst 1, 1) := by decide +kernel
theorem dX8_goesOn_78 : decode cX8_goesOn 78 = .ok (.putfield 40, 3) := by decide +kernel
theorem dX8_goesOn_81 : decode cX8_goesOn 81 = .ok (.iconst 0, 1) := by decide +kernel
theorem dX8_goesOn_82 : decode cX8_goesOn 82 = .ok (.ireturn, 1) := by decide +kernel
theorem dX8_goesOn_83 : decode cX8_goesOn 83 = .ok (.aload_n 0, 1) := by decide +kernel
theorem dX8_goesOn_84 : decode cX8_goesOn 84 = .ok (.dup, 1) := by decide +kernel
theorem dX8_goesOn_85 : decode cX8_goesOn 85 = .ok (.getfield 37, 3) := by decide +kernel
theorem dX8_goesOn_88 : decode cX8_goesOn 88 = .ok (.iconst 1, 1) := by decide +kernel
theorem dX8_goesOn_89 : decode cX8_goesOn 89 = .ok (.iadd, 1) := by decide +kernel
theorem dX8_goesOn_90 : decode cX8_goesOn 90 = .ok (.putfield 37, 3) := by decide +kernel
theorem dX8_goesOn_93 : decode cX8_goesOn 93 = .ok (.aload_n 0, 1) := by decide +kernel
theorem dX8_goesOn_94 : decode cX8_goesOn 94 = .ok (.getfield 27, 3) := by decide +kernel
theorem dX8_goesOn_97 : decode cX8_goesOn 97 = .ok (.iload_n 3, 1) := by decide +kernel
theorem dX8_goesOn_98 : decode cX8_goesOn 98 = .ok (.iload 6, 2) := by decide +kernel
theorem dX8_goesOn_100 : decode cX8_goesOn 100 = .ok (.iastore, 1) := by decide +kernel
theorem dX8_goesOn_101 : decode cX8_goesOn 101 = .ok (.aload_n 0, 1) := by decide +kernel
theorem dX8_goesOn_102 : decode cX8_goesOn 102 = .ok (.iload_n 3, 1) := by decide +kernel
theorem dX8_goesOn_103 : decode cX8_goesOn 103 = .ok (.iload 6, 2) := by decide +kernel
theorem dX8_goesOn_105 : decode cX8_goesOn 105 = .ok (.invokevirtual 156, 3) := by decide +kernel
theorem dX8_goesOn_108 : decode cX8_goesOn 108 = .ok (.aload_n 0, 1) := by decide +kernel
theorem dX8_goesOn_109 : decode cX8_goesOn 109 = .ok (.iload_n 1, 1) := by decide +kernel
theorem dX8_goesOn_110 : decode cX8_goesOn 110 = .ok (.iconst 1, 1) := by decide +kernel
theorem dX8_goesOn_111 : decode cX8_goesOn 111 = .ok (.iadd, 1) := by decide +kernel
theorem dX8_goesOn_112 : decode cX8_goesOn 112 = .ok (.aload_n 2, 1) := by decide +kernel
theorem dX8_goesOn_113 : decode cX8_goesOn 113 = .ok (.invokevirtual 94, 3) := by decide +kernel
theorem dX8_goesOn_116 : decode cX8_goesOn 116 = .ok (.istore 7, 2) := by decide +kernel
theorem dX8_goesOn_118 : decode cX8_goesOn 118 = .ok (.aload_n 0, 1) := by decide +kernel
theorem dX8_goesOn_119 : decode cX8_goesOn 119 = .ok (.iload_n 3, 1) := by decide +kernel
theorem dX8_goesOn_120 : decode cX8_goesOn 120 = .ok (.iload 6, 2) := by decide +kernel
theorem dX8_goesOn_122 : decode cX8_goesOn 122 = .ok (.ineg, 1) := by decide +kernel
theorem dX8_goesOn_123 : decode cX8_goesOn 123 = .ok (.invokevirtual 156, 3) := by decide +kernel
theorem dX8_goesOn_126 : decode cX8_goesOn 126 = .ok (.iload 7, 2) := by decide +kernel
theorem dX8_goesOn_128 : decode cX8_goesOn 128 = .ok (.ifCond .ne 5, 3) := by decide +kernel
theorem dX8_goesOn_131 : decode cX8_goesOn 131 = .ok (.iconst 0, 1) := by decide +kernel
theorem dX8_goesOn_132 : decode cX8_goesOn 132 = .ok (.ireturn, 1) := by decide +kernel
theorem dX8_goesOn_133 : decode cX8_goesOn 133 = .ok (.iinc 6 1, 3) := by decide +kernel
theorem dX8_goesOn_136 : decode cX8_goesOn 136 = .ok (.goto (-78), 3) := by decide +kernel
theorem dX8_goesOn_139 : decode cX8_goesOn 139 = .ok (.iconst 1, 1) := by decide +kernel
theorem dX8_goesOn_140 : decode cX8_goesOn 140 = .ok (.ireturn, 1) := by decide +kernel
theorem dX8_leastNumber_0 : decode cX8_leastNumber 0 = .ok (.aload_n 0, 1) := by decide +kernel
theorem dX8_leastNumber_1 : decode cX8_leastNumber 1 = .ok (.getfield 24, 3) := by decide +kernel
theorem dX8_leastNumber_4 : decode cX8_leastNumber 4 = .ok (.iload_n 2, 1) := by decide +kernel
theorem dX8_leastNumber_5 : decode cX8_leastNumber 5 = .ok (.iaload, 1) := by decide +kernel
theorem dX8_leastNumber_6 : decode cX8_leastNumber 6 = .ok (.iconst 0, 1) := by decide +kernel
theorem dX8_leastNumber_7 : decode cX8_leastNumber 7 = .ok (.invokestatic 160, 3) := by decide +kernel
theorem dX8_leastNumber_10 : decode cX8_leastNumber 10 = .ok (.istore_n 3, 1) := by decide +kernel
theorem dX8_leastNumber_11 : decode cX8_leastNumber 11 = .ok (.iconst 0, 1) := by decide +kernel
theorem dX8_leastNumber_12 : decode cX8_leastNumber 12 = .ok (.istore 4, 2) := by decide +kernel
theorem dX8_leastNumber_14 : decode cX8_leastNumber 14 = .ok (.iload 4, 2) := by decide +kernel
theorem dX8_leastNumber_16 : decode cX8_leastNumber 16 = .ok (.aload_n 0, 1) := by decide +kernel
theorem dX8_leastNumber_17 : decode cX8_leastNumber 17 = .ok (.getfield 48, 3) := by decide +kernel
theorem dX8_leastNumber_20 : decode cX8_leastNumber 20 = .ok (.getfield 132, 3) := by decide +kernel
theorem dX8_leastNumber_23 : decode cX8_leastNumber 23 = .ok (.iload_n 2, 1) := by decide +kernel
theorem dX8_leastNumber_24 : decode cX8_leastNumber 24 = .ok (.iaload, 1) := by decide +kernel
theorem dX8_leastNumber_25 : decode cX8_leastNumber 25 = .ok (.if_icmp .ge 56, 3) := by decide +kernel
theorem dX8_leastNumber_28 : decode cX8_leastNumber 28 = .ok (.aload_n 0, 1) := by decide +kernel
theorem dX8_leastNumber_29 : decode cX8_leastNumber 29 = .ok (.getfield 48, 3) := by decide +kernel
theorem dX8_leastNumber_32 : decode cX8_leastNumber 32 = .ok (.iload_n 2, 1) := by decide +kernel
theorem dX8_leastNumber_33 : decode cX8_leastNumber 33 = .ok (.iload 4, 2) := by decide +kernel
theorem dX8_leastNumber_35 : decode cX8_leastNumber 35 = .ok (.invokevirtual 135, 3) := by decide +kernel
theorem dX8_leastNumber_38 : decode cX8_leastNumber 38 = .ok (.istore 5, 2) := by decide +kernel
theorem dX8_leastNumber_40 : decode cX8_leastNumber 40 = .ok (.aload_n 0, 1) := by decide +kernel
theorem dX8_leastNumber_41 : decode cX8_leastNumber 41 = .ok (.getfield 21, 3) := by decide +kernel
theorem dX8_leastNumber_44 : decode cX8_leastNumber 44 = .ok (.iload 5, 2) := by decide +kernel
theorem dX8_leastNumber_46 : decode cX8_leastNumber 46 = .ok (.iaload, 1) := by decide +kernel
theorem dX8_leastNumber_47 : decode cX8_leastNumber 47 = .ok (.bipush (-9), 2) := by decide +kernel
theorem dX8_leastNumber_49 : decode cX8_leastNumber 49 = .ok (.if_icmp .eq 26, 3) := by decide +kernel
theorem dX8_leastNumber_52 : decode cX8_leastNumber 52 = .ok (.aload_n 0, 1) := by decide +kernel
theorem dX8_leastNumber_53 : decode cX8_leastNumber 53 = .ok (.getfield 18, 3) := by decide +kernel
theorem dX8_leastNumber_56 : decode cX8_leastNumber 56 = .ok (.iload 5, 2) := by decide +kernel
theorem dX8_leastNumber_58 : decode cX8_leastNumber 58 = .ok (.iaload, 1) := by decide +kernel
theorem dX8_leastNumber_59 : decode cX8_leastNumber 59 = .ok (.iload_n 1, 1) := by decide +kernel
theorem dX8_leastNumber_60 : decode cX8_leastNumber 60 = .ok (.if_icmp .ne 15, 3) := by decide +kernel
theorem dX8_leastNumber_63 : decode cX8_leastNumber 63 = .ok (.iload_n 3, 1) := by decide +kernel
theorem dX8_leastNumber_64 : decode cX8_leastNumber 64 = .ok (.aload_n 0, 1) := by decide +kernel
theorem dX8_leastNumber_65 : decode cX8_leastNumber 65 = .ok (.getfield 21, 3) := by decide +kernel
theorem dX8_leastNumber_68 : decode cX8_leastNumber 68 = .ok (.iload 5, 2) := by decide +kernel
theorem dX8_leastNumber_70 : decode cX8_leastNumber 70 = .ok (.iaload, 1) := by decide +kernel
theorem dX8_leastNumber_71 : decode cX8_leastNumber 71 = .ok (.invokestatic 160, 3) := by decide +kernel
theorem dX8_leastNumber_74 : decode cX8_leastNumber 74 = .ok (.istore_n 3, 1) := by decide +kernel
theorem dX8_leastNumber_75 : decode cX8_leastNumber 75 = .ok (.iinc 4 1, 3) := by decide +kernel
theorem dX8_leastNumber_78 : decode cX8_leastNumber 78 = .ok (.goto (-64), 3) := by decide +kernel
theorem dX8_leastNumber_81 : decode cX8_leastNumber 81 = .ok (.iload_n 3, 1) := by decide +kernel
theorem dX8_leastNumber_82 : decode cX8_leastNumber 82 = .ok (.ireturn, 1) := by decide +kernel
theorem dX8_mostNumber_0 : decode cX8_mostNumber 0 = .ok (.aload_n 0, 1) := by decide +kernel
theorem dX8_mostNumber_1 : decode cX8_mostNumber 1 = .ok (.getfield 24, 3) := by decide +kernel
theorem dX8_mostNumber_4 : decode cX8_mostNumber 4 = .ok (.iload_n 1, 1) := by decide +kernel
theorem dX8_mostNumber_5 : decode cX8_mostNumber 5 = .ok (.iaload, 1) := by decide +kernel
theorem dX8_mostNumber_6 : decode cX8_mostNumber 6 = .ok (.bipush (-9), 2) := by decide +kernel
theorem dX8_mostNumber_8 : decode cX8_mostNumber 8 = .ok (.if_icmp .eq 12, 3) := by decide +kernel
theorem dX8_mostNumber_11 : decode cX8_mostNumber 11 = .ok (.aload_n 0, 1) := by decide +kernel
theorem dX8_mostNumber_12 : decode cX8_mostNumber 12 = .ok (.getfield 24, 3) := by decide +kernel
theorem dX8_mostNumber_15 : decode cX8_mostNumber 15 = .ok (.iload_n 1, 1) := by decide +kernel
theorem dX8_mostNumber_16 : decode cX8_mostNumber 16 = .ok (.iaload, 1) := by decide +kernel
theorem dX8_mostNumber_17 : decode cX8_mostNumber 17 = .ok (.goto 6, 3) := by decide +kernel
theorem dX8_mostNumber_20 : decode cX8_mostNumber 20 = .ok (.sipush 200, 3) := by decide +kernel
theorem dX8_mostNumber_23 : decode cX8_mostNumber 23 = .ok (.istore_n 2, 1) := by decide +kernel
theorem dX8_mostNumber_24 : decode cX8_mostNumber 24 = .ok (.iconst 0, 1) := by decide +kernel
theorem dX8_mostNumber_25 : decode cX8_mostNumber 25 = .ok (.istore_n 3, 1) := by decide +kernel
theorem dX8_mostNumber_26 : decode cX8_mostNumber 26 = .ok (.iload_n 3, 1) := by decide +kernel
theorem dX8_mostNumber_27 : decode cX8_mostNumber 27 = .ok (.aload_n 0, 1) := by decide +kernel
theorem dX8_mostNumber_28 : decode cX8_mostNumber 28 = .ok (.getfield 48, 3) := by decide +kernel
theorem dX8_mostNumber_31 : decode cX8_mostNumber 31 = .ok (.getfield 132, 3) := by decide +kernel
theorem dX8_mostNumber_34 : decode cX8_mostNumber 34 = .ok (.iload_n 1, 1) := by decide +kernel
theorem dX8_mostNumber_35 : decode cX8_mostNumber 35 = .ok (.iaload, 1) := by decide +kernel
theorem dX8_mostNumber_36 : decode cX8_mostNumber 36 = .ok (.if_icmp .ge 44, 3) := by decide +kernel
theorem dX8_mostNumber_39 : decode cX8_mostNumber 39 = .ok (.aload_n 0, 1) := by decide +kernel
theorem dX8_mostNumber_40 : decode cX8_mostNumber 40 = .ok (.getfield 48, 3) := by decide +kernel
theorem dX8_mostNumber_43 : decode cX8_mostNumber 43 = .ok (.iload_n 1, 1) := by decide +kernel
theorem dX8_mostNumber_44 : decode cX8_mostNumber 44 = .ok (.iload_n 3, 1) := by decide +kernel
theorem dX8_mostNumber_45 : decode cX8_mostNumber 45 = .ok (.invokevirtual 135, 3) := by decide +kernel
theorem dX8_mostNumber_48 : decode cX8_mostNumber 48 = .ok (.istore 4, 2) := by decide +kernel
theorem dX8_mostNumber_50 : decode cX8_mostNumber 50 = .ok (.aload_n 0, 1) := by decide +kernel
theorem dX8_mostNumber_51 : decode cX8_mostNumber 51 = .ok (.getfield 21, 3) := by decide +kernel
theorem dX8_mostNumber_54 : decode cX8_mostNumber 54 = .ok (.iload 4, 2) := by decide +kernel
theorem dX8_mostNumber_56 : decode cX8_mostNumber 56 = .ok (.iaload, 1) := by decide +kernel
theorem dX8_mostNumber_57 : decode cX8_mostNumber 57 = .ok (.bipush (-9), 2) := by decide +kernel
theorem dX8_mostNumber_59 : decode cX8_mostNumber 59 = .ok (.if_icmp .eq 15, 3) := by decide +kernel
theorem dX8_mostNumber_62 : decode cX8_mostNumber 62 = .ok (.iload_n 2, 1) := by decide +kernel
theorem dX8_mostNumber_63 : decode cX8_mostNumber 63 = .ok (.aload_n 0, 1) := by decide +kernel
theorem dX8_mostNumber_64 : decode cX8_mostNumber 64 = .ok (.getfield 21, 3) := by decide +kernel
theorem dX8_mostNumber_67 : decode cX8_mostNumber 67 = .ok (.iload 4, 2) := by decide +kernel
theorem dX8_mostNumber_69 : decode cX8_mostNumber 69 = .ok (.iaload, 1) := by decide +kernel
theorem dX8_mostNumber_70 : decode cX8_mostNumber 70 = .ok (.invokestatic 165, 3) := by decide +kernel
theorem dX8_mostNumber_73 : decode cX8_mostNumber 73 = .ok (.istore_n 2, 1) := by decide +kernel
theorem dX8_mostNumber_74 : decode cX8_mostNumber 74 = .ok (.iinc 3 1, 3) := by decide +kernel
theorem dX8_mostNumber_77 : decode cX8_mostNumber 77 = .ok (.goto (-51), 3) := by decide +kernel
theorem dX8_mostNumber_80 : decode cX8_mostNumber 80 = .ok (.iload_n 2, 1) := by decide +kernel
theorem dX8_mostNumber_81 : decode cX8_mostNumber 81 = .ok (.ireturn, 1) := by decide +kernel
theorem dX8_take_0 : decode cX8_take 0 = .ok (.iconst 0, 1) := by decide +kernel
theorem dX8_take_1 : decode cX8_take 1 = .ok (.istore_n 3, 1) := by decide +kernel
theorem dX8_take_2 : decode cX8_take 2 = .ok (.iload_n 3, 1) := by decide +kernel
theorem dX8_take_3 : decode cX8_take 3 = .ok (.aload_n 0, 1) := by decide +kernel
theorem dX8_take_4 : decode cX8_take 4 = .ok (.getfield 48, 3) := by decide +kernel
theorem dX8_take_7 : decode cX8_take 7 = .ok (.getfield 132, 3) := by decide +kernel
theorem dX8_take_10 : decode cX8_take 10 = .ok (.iload_n 1, 1) := by decide +kernel
theorem dX8_take_11 : decode cX8_take 11 = .ok (.iaload, 1) := by decide +kernel
theorem dX8_take_12 : decode cX8_take 12 = .ok (.if_icmp .ge 43, 3) := by decide +kernel
theorem dX8_take_15 : decode cX8_take 15 = .ok (.aload_n 0, 1) := by decide +kernel
theorem dX8_take_16 : decode cX8_take 16 = .ok (.getfield 48, 3) := by decide +kernel
theorem dX8_take_19 : decode cX8_take 19 = .ok (.iload_n 1, 1) := by decide +kernel
theorem dX8_take_20 : decode cX8_take 20 = .ok (.iload_n 3, 1) := by decide +kernel
theorem dX8_take_21 : decode cX8_take 21 = .ok (.invokevirtual 135, 3) := by decide +kernel
theorem dX8_take_24 : decode cX8_take 24 = .ok (.istore 4, 2) := by decide +kernel
theorem dX8_take_26 : decode cX8_take 26 = .ok (.aload_n 0, 1) := by decide +kernel
theorem dX8_take_27 : decode cX8_take 27 = .ok (.getfield 21, 3) := by decide +kernel
theorem dX8_take_30 : decode cX8_take 30 = .ok (.iload 4, 2) := by decide +kernel
theorem dX8_take_32 : decode cX8_take 32 = .ok (.iaload, 1) := by decide +kernel
theorem dX8_take_33 : decode cX8_take 33 = .ok (.bipush (-9), 2) := by decide +kernel
theorem dX8_take_35 : decode cX8_take 35 = .ok (.if_icmp .eq 14, 3) := by decide +kernel
theorem dX8_take_38 : decode cX8_take 38 = .ok (.aload_n 0, 1) := by decide +kernel
theorem dX8_take_39 : decode cX8_take 39 = .ok (.getfield 21, 3) := by decide +kernel
theorem dX8_take_42 : decode cX8_take 42 = .ok (.iload 4, 2) := by decide +kernel
theorem dX8_take_44 : decode cX8_take 44 = .ok (.dup2, 1) := by decide +kernel
theorem dX8_take_45 : decode cX8_take 45 = .ok (.iaload, 1) := by decide +kernel
theorem dX8_take_46 : decode cX8_take 46 = .ok (.iload_n 2, 1) := by decide +kernel
theorem dX8_take_47 : decode cX8_take 47 = .ok (.isub, 1) := by decide +kernel
theorem dX8_take_48 : decode cX8_take 48 = .ok (.iastore, 1) := by decide +kernel
theorem dX8_take_49 : decode cX8_take 49 = .ok (.iinc 3 1, 3) := by decide +kernel
theorem dX8_take_52 : decode cX8_take 52 = .ok (.goto (-50), 3) := by decide +kernel
theorem dX8_take_55 : decode cX8_take 55 = .ok (.return_, 1) := by decide +kernel
theorem dX8_isNothingLeft_0 : decode cX8_isNothingLeft 0 = .ok (.iconst 0, 1) := by decide +kernel
theorem dX8_isNothingLeft_1 : decode cX8_isNothingLeft 1 = .ok (.istore_n 1, 1) := by decide +kernel
theorem dX8_isNothingLeft_2 : decode cX8_isNothingLeft 2 = .ok (.iload_n 1, 1) := by decide +kernel
theorem dX8_isNothingLeft_3 : decode cX8_isNothingLeft 3 = .ok (.aload_n 0, 1) := by decide +kernel
theorem dX8_isNothingLeft_4 : decode cX8_isNothingLeft 4 = .ok (.getfield 44, 3) := by decide +kernel
theorem dX8_isNothingLeft_7 : decode cX8_isNothingLeft 7 = .ok (.getfield 69, 3) := by decide +kernel
theorem dX8_isNothingLeft_10 : decode cX8_isNothingLeft 10 = .ok (.if_icmp .ge 20, 3) := by decide +kernel
theorem dX8_isNothingLeft_13 : decode cX8_isNothingLeft 13 = .ok (.aload_n 0, 1) := by decide +kernel
theorem dX8_isNothingLeft_14 : decode cX8_isNothingLeft 14 = .ok (.getfield 21, 3) := by decide +kernel
theorem dX8_isNothingLeft_17 : decode cX8_isNothingLeft 17 = .ok (.iload_n 1, 1) := by decide +kernel
theorem dX8_isNothingLeft_18 : decode cX8_isNothingLeft 18 = .ok (.iaload, 1) := by decide +kernel
theorem dX8_isNothingLeft_19 : decode cX8_isNothingLeft 19 = .ok (.ifCond .le 5, 3) := by decide +kernel
theorem dX8_isNothingLeft_22 : decode cX8_isNothingLeft 22 = .ok (.iconst 0, 1) := by decide +kernel
theorem dX8_isNothingLeft_23 : decode cX8_isNothingLeft 23 = .ok (.ireturn, 1) := by decide +kernel
theorem dX8_isNothingLeft_24 : decode cX8_isNothingLeft 24 = .ok (.iinc 1 1, 3) := by decide +kernel
theorem dX8_isNothingLeft_27 : decode cX8_isNothingLeft 27 = .ok (.goto (-25), 3) := by decide +kernel
theorem dX8_isNothingLeft_30 : decode cX8_isNothingLeft 30 = .ok (.iconst 1, 1) := by decide +kernel
theorem dX8_isNothingLeft_31 : decode cX8_isNothingLeft 31 = .ok (.ireturn, 1) := by decide +kernel
theorem dX8_findFree_0 : decode cX8_findFree 0 = .ok (.iconst 0, 1) := by decide +kernel
theorem dX8_findFree_1 : decode cX8_findFree 1 = .ok (.istore_n 1, 1) := by decide +kernel
theorem dX8_findFree_2 : decode cX8_findFree 2 = .ok (.iconst 0, 1) := by decide +kernel
theorem dX8_findFree_3 : decode cX8_findFree 3 = .ok (.istore_n 2, 1) := by decide +kernel
theorem dX8_findFree_4 : decode cX8_findFree 4 = .ok (.iload_n 2, 1) := by decide +kernel
theorem dX8_findFree_5 : decode cX8_findFree 5 = .ok (.aload_n 0, 1) := by decide +kernel
theorem dX8_findFree_6 : decode cX8_findFree 6 = .ok (.getfield 30, 3) := by decide +kernel
theorem dX8_findFree_9 : decode cX8_findFree 9 = .ok (.if_icmp .ge 46, 3) := by decide +kernel
theorem dX8_findFree_12 : decode cX8_findFree 12 = .ok (.aload_n 0, 1) := by decide +kernel
theorem dX8_findFree_13 : decode cX8_findFree 13 = .ok (.getfield 44, 3) := by decide +kernel
theorem dX8_findFree_16 : decode cX8_findFree 16 = .ok (.getfield 58, 3) := by decide +kernel
theorem dX8_findFree_19 : decode cX8_findFree 19 = .ok (.aload_n 0, 1) := by decide +kernel
theorem dX8_findFree_20 : decode cX8_findFree 20 = .ok (.getfield 9, 3) := by decide +kernel
theorem dX8_findFree_23 : decode cX8_findFree 23 = .ok (.iload_n 2, 1) := by decide +kernel
theorem dX8_findFree_24 : decode cX8_findFree 24 = .ok (.iaload, 1) := by decide +kernel
theorem dX8_findFree_25 : decode cX8_findFree 25 = .ok (.iaload, 1) := by decide +kernel
theorem dX8_findFree_26 : decode cX8_findFree 26 = .ok (.bipush (-9), 2) := by decide +kernel
theorem dX8_findFree_28 : decode cX8_findFree 28 = .ok (.if_icmp .eq 6, 3) := by decide +kernel
theorem dX8_findFree_31 : decode cX8_findFree 31 = .ok (.goto 18, 3) := by decide +kernel
theorem dX8_findFree_34 : decode cX8_findFree 34 = .ok (.aload_n 0, 1) := by decide +kernel
theorem dX8_findFree_35 : decode cX8_findFree 35 = .ok (.getfield 15, 3) := by decide +kernel
theorem dX8_findFree_38 : decode cX8_findFree 38 = .ok (.iload_n 1, 1) := by decide +kernel
theorem dX8_findFree_39 : decode cX8_findFree 39 = .ok (.aload_n 0, 1) := by decide +kernel
theorem dX8_findFree_40 : decode cX8_findFree 40 = .ok (.getfield 9, 3) := by decide +kernel
theorem dX8_findFree_43 : decode cX8_findFree 43 = .ok (.iload_n 2, 1) := by decide +kernel
theorem dX8_findFree_44 : decode cX8_findFree 44 = .ok (.iaload, 1) := by decide +kernel
theorem dX8_findFree_45 : decode cX8_findFree 45 = .ok (.iastore, 1) := by decide +kernel
theorem dX8_findFree_46 : decode cX8_findFree 46 = .ok (.iinc 1 1, 3) := by decide +kernel
theorem dX8_findFree_49 : decode cX8_findFree 49 = .ok (.iinc 2 1, 3) := by decide +kernel
theorem dX8_findFree_52 : decode cX8_findFree 52 = .ok (.goto (-48), 3) := by decide +kernel
theorem dX8_findFree_55 : decode cX8_findFree 55 = .ok (.iload_n 1, 1) := by decide +kernel
theorem dX8_findFree_56 : decode cX8_findFree 56 = .ok (.ireturn, 1) := by decide +kernel
theorem dX8_fix_0 : decode cX8_fix 0 = .ok (.iconst 0, 1) := by decide +kernel
theorem dX8_fix_1 : decode cX8_fix 1 = .ok (.istore 5, 2) := by decide +kernel
theorem dX8_fix_3 : decode cX8_fix 3 = .ok (.iload 5, 2) := by decide +kernel
theorem dX8_fix_5 : decode cX8_fix 5 = .ok (.iload_n 3, 1) := by decide +kernel
theorem dX8_fix_6 : decode cX8_fix 6 = .ok (.if_icmp .ge 47, 3) := by decide +kernel
theorem dX8_fix_9 : decode cX8_fix 9 = .ok (.aload_n 0, 1) := by decide +kernel
theorem dX8_fix_10 : decode cX8_fix 10 = .ok (.getfield 24, 3) := by decide +kernel
theorem dX8_fix_13 : decode cX8_fix 13 = .ok (.aload_n 0, 1) := by decide +kernel
theorem dX8_fix_14 : decode cX8_fix 14 = .ok (.getfield 15, 3) := by decide +kernel
theorem dX8_fix_17 : decode cX8_fix 17 = .ok (.iload 5, 2) := by decide +kernel
theorem dX8_fix_19 : decode cX8_fix 19 = .ok (.iaload, 1) := by decide +kernel
theorem dX8_fix_20 : decode cX8_fix 20 = .ok (.lload_n 1, 1) := by decide +kernel
theorem dX8_fix_21 : decode cX8_fix 21 = .ok (.iload 5, 2) := by decide +kernel
theorem dX8_fix_23 : decode cX8_fix 23 = .ok (.lshr, 1) := by decide +kernel
theorem dX8_fix_24 : decode cX8_fix 24 = .ok (.lconst 1, 1) := by decide +kernel
theorem dX8_fix_25 : decode cX8_fix 25 = .ok (.land, 1) := by decide +kernel
theorem dX8_fix_26 : decode cX8_fix 26 = .ok (.lconst 1, 1) := by decide +kernel
theorem dX8_fix_27 : decode cX8_fix 27 = .ok (.lcmp, 1) := by decide +kernel
theorem dX8_fix_28 : decode cX8_fix 28 = .ok (.ifCond .ne 16, 3) := by decide +kernel
theorem dX8_fix_31 : decode cX8_fix 31 = .ok (.aload 4, 2) := by decide +kernel
theorem dX8_fix_33 : decode cX8_fix 33 = .ok (.aload_n 0, 1) := by decide +kernel
theorem dX8_fix_34 : decode cX8_fix 34 = .ok (.getfield 15, 3) := by decide +kernel
theorem dX8_fix_37 : decode cX8_fix 37 = .ok (.iload 5, 2) := by decide +kernel
theorem dX8_fix_39 : decode cX8_fix 39 = .ok (.iaload, 1) := by decide +kernel
theorem dX8_fix_40 : decode cX8_fix 40 = .ok (.iaload, 1) := by decide +kernel
theorem dX8_fix_41 : decode cX8_fix 41 = .ok (.goto 5, 3) := by decide +kernel
theorem dX8_fix_44 : decode cX8_fix 44 = .ok (.bipush (-9), 2) := by decide +kernel
theorem dX8_fix_46 : decode cX8_fix 46 = .ok (.iastore, 1) := by decide +kernel
theorem dX8_fix_47 : decode cX8_fix 47 = .ok (.iinc 5 1, 3) := by decide +kernel
theorem dX8_fix_50 : decode cX8_fix 50 = .ok (.goto (-47), 3) := by decide +kernel
theorem dX8_fix_53 : decode cX8_fix 53 = .ok (.return_, 1) := by decide +kernel
theorem dX8_bitsOf_0 : decode cX8_bitsOf 0 = .ok (.lconst 0, 1) := by decide +kernel
theorem dX8_bitsOf_1 : decode cX8_bitsOf 1 = .ok (.lstore 4, 2) := by decide +kernel
theorem dX8_bitsOf_3 : decode cX8_bitsOf 3 = .ok (.iconst 0, 1) := by decide +kernel
theorem dX8_bitsOf_4 : decode cX8_bitsOf 4 = .ok (.istore 6, 2) := by decide +kernel
theorem dX8_bitsOf_6 : decode cX8_bitsOf 6 = .ok (.iload 6, 2) := by decide +kernel
theorem dX8_bitsOf_8 : decode cX8_bitsOf 8 = .ok (.iload_n 3, 1) := by decide +kernel
theorem dX8_bitsOf_9 : decode cX8_bitsOf 9 = .ok (.if_icmp .ge 34, 3) := by decide +kernel
theorem dX8_bitsOf_12 : decode cX8_bitsOf 12 = .ok (.lload_n 1, 1) := by decide +kernel
theorem dX8_bitsOf_13 : decode cX8_bitsOf 13 = .ok (.iload 6, 2) := by decide +kernel
theorem dX8_bitsOf_15 : decode cX8_bitsOf 15 = .ok (.lshr, 1) := by decide +kernel
theorem dX8_bitsOf_16 : decode cX8_bitsOf 16 = .ok (.lconst 1, 1) := by decide +kernel
theorem dX8_bitsOf_17 : decode cX8_bitsOf 17 = .ok (.land, 1) := by decide +kernel
theorem dX8_bitsOf_18 : decode cX8_bitsOf 18 = .ok (.lconst 1, 1) := by decide +kernel
theorem dX8_bitsOf_19 : decode cX8_bitsOf 19 = .ok (.lcmp, 1) := by decide +kernel
theorem dX8_bitsOf_20 : decode cX8_bitsOf 20 = .ok (.ifCond .ne 17, 3) := by decide +kernel
theorem dX8_bitsOf_23 : decode cX8_bitsOf 23 = .ok (.lload 4, 2) := by decide +kernel
theorem dX8_bitsOf_25 : decode cX8_bitsOf 25 = .ok (.lconst 1, 1) := by decide +kernel
theorem dX8_bitsOf_26 : decode cX8_bitsOf 26 = .ok (.aload_n 0, 1) := by decide +kernel
theorem dX8_bitsOf_27 : decode cX8_bitsOf 27 = .ok (.getfield 15, 3) := by decide +kernel
theorem dX8_bitsOf_30 : decode cX8_bitsOf 30 = .ok (.iload 6, 2) := by decide +kernel
theorem dX8_bitsOf_32 : decode cX8_bitsOf 32 = .ok (.iaload, 1) := by decide +kernel
theorem dX8_bitsOf_33 : decode cX8_bitsOf 33 = .ok (.lshl, 1) := by decide +kernel
theorem dX8_bitsOf_34 : decode cX8_bitsOf 34 = .ok (.lor, 1) := by decide +kernel
theorem dX8_bitsOf_35 : decode cX8_bitsOf 35 = .ok (.lstore 4, 2) := by decide +kernel
theorem dX8_bitsOf_37 : decode cX8_bitsOf 37 = .ok (.iinc 6 1, 3) := by decide +kernel
theorem dX8_bitsOf_40 : decode cX8_bitsOf 40 = .ok (.goto (-34), 3) := by decide +kernel
theorem dX8_bitsOf_43 : decode cX8_bitsOf 43 = .ok (.lload 4, 2) := by decide +kernel
theorem dX8_bitsOf_45 : decode cX8_bitsOf 45 = .ok (.lreturn, 1) := by decide +kernel
theorem dX8_nextSet_0 : decode cX8_nextSet 0 = .ok (.lload_n 0, 1) := by decide +kernel
theorem dX8_nextSet_1 : decode cX8_nextSet 1 = .ok (.lconst 0, 1) := by decide +kernel
theorem dX8_nextSet_2 : decode cX8_nextSet 2 = .ok (.lcmp, 1) := by decide +kernel
theorem dX8_nextSet_3 : decode cX8_nextSet 3 = .ok (.ifCond .ne 7, 3) := by decide +kernel
theorem dX8_nextSet_6 : decode cX8_nextSet 6 = .ok (.ldc2_w 170, 3) := by decide +kernel
theorem dX8_nextSet_9 : decode cX8_nextSet 9 = .ok (.lreturn, 1) := by decide +kernel
theorem dX8_nextSet_10 : decode cX8_nextSet 10 = .ok (.lload_n 0, 1) := by decide +kernel
theorem dX8_nextSet_11 : decode cX8_nextSet 11 = .ok (.lload_n 0, 1) := by decide +kernel
theorem dX8_nextSet_12 : decode cX8_nextSet 12 = .ok (.lneg, 1) := by decide +kernel
theorem dX8_nextSet_13 : decode cX8_nextSet 13 = .ok (.land, 1) := by decide +kernel
theorem dX8_nextSet_14 : decode cX8_nextSet 14 = .ok (.lstore_n 2, 1) := by decide +kernel
theorem dX8_nextSet_15 : decode cX8_nextSet 15 = .ok (.lload_n 0, 1) := by decide +kernel
theorem dX8_nextSet_16 : decode cX8_nextSet 16 = .ok (.lload_n 2, 1) := by decide +kernel
theorem dX8_nextSet_17 : decode cX8_nextSet 17 = .ok (.ladd, 1) := by decide +kernel
theorem dX8_nextSet_18 : decode cX8_nextSet 18 = .ok (.lstore 4, 2) := by decide +kernel
theorem dX8_nextSet_20 : decode cX8_nextSet 20 = .ok (.lload 4, 2) := by decide +kernel
theorem dX8_nextSet_22 : decode cX8_nextSet 22 = .ok (.lload_n 0, 1) := by decide +kernel
theorem dX8_nextSet_23 : decode cX8_nextSet 23 = .ok (.lload 4, 2) := by decide +kernel
theorem dX8_nextSet_25 : decode cX8_nextSet 25 = .ok (.lxor, 1) := by decide +kernel
theorem dX8_nextSet_26 : decode cX8_nextSet 26 = .ok (.iconst 2, 1) := by decide +kernel
theorem dX8_nextSet_27 : decode cX8_nextSet 27 = .ok (.lload_n 2, 1) := by decide +kernel
theorem dX8_nextSet_28 : decode cX8_nextSet 28 = .ok (.invokestatic 172, 3) := by decide +kernel
theorem dX8_nextSet_31 : decode cX8_nextSet 31 = .ok (.iadd, 1) := by decide +kernel
theorem dX8_nextSet_32 : decode cX8_nextSet 32 = .ok (.lushr, 1) := by decide +kernel
theorem dX8_nextSet_33 : decode cX8_nextSet 33 = .ok (.lor, 1) := by decide +kernel
theorem dX8_nextSet_34 : decode cX8_nextSet 34 = .ok (.lreturn, 1) := by decide +kernel
theorem dX9_init_0 : decode cX9_init 0 = .ok (.aload_n 0, 1) := by decide +kernel
theorem dX9_init_1 : decode cX9_init 1 = .ok (.invokespecial 3, 3) := by decide +kernel
theorem dX9_init_4 : decode cX9_init 4 = .ok (.aload_n 0, 1) := by decide +kernel
theorem dX9_init_5 : decode cX9_init 5 = .ok (.iconst 4, 1) := by decide +kernel
theorem dX9_init_6 : decode cX9_init 6 = .ok (.bipush 24, 2) := by decide +kernel
theorem dX9_init_8 : decode cX9_init 8 = .ok (.multianewarray 9 2, 4) := by decide +kernel
theorem dX9_init_12 : decode cX9_init 12 = .ok (.putfield 11, 3) := by decide +kernel
theorem dX9_init_15 : decode cX9_init 15 = .ok (.aload_n 0, 1) := by decide +kernel
theorem dX9_init_16 : decode cX9_init 16 = .ok (.iconst 4, 1) := by decide +kernel
theorem dX9_init_17 : decode cX9_init 17 = .ok (.newarray .int, 2) := by decide +kernel
theorem dX9_init_19 : decode cX9_init 19 = .ok (.putfield 16, 3) := by decide +kernel
theorem dX9_init_22 : decode cX9_init 22 = .ok (.aload_n 0, 1) := by decide +kernel
theorem dX9_init_23 : decode cX9_init 23 = .ok (.getfield 16, 3) := by decide +kernel
theorem dX9_init_26 : decode cX9_init 26 = .ok (.iconst (-1), 1) := by decide +kernel
theorem dX9_init_27 : decode cX9_init 27 = .ok (.invokestatic 20, 3) := by decide +kernel
theorem dX9_init_30 : decode cX9_init 30 = .ok (.return_, 1) := by decide +kernel
theorem dX9_put_0 : decode cX9_put 0 = .ok (.aload_n 0, 1) := by decide +kernel
theorem dX9_put_1 : decode cX9_put 1 = .ok (.getfield 16, 3) := by decide +kernel
theorem dX9_put_4 : decode cX9_put 4 = .ok (.iload_n 1, 1) := by decide +kernel
theorem dX9_put_5 : decode cX9_put 5 = .ok (.iload_n 2, 1) := by decide +kernel
theorem dX9_put_6 : decode cX9_put 6 = .ok (.iastore, 1) := by decide +kernel
theorem dX9_put_7 : decode cX9_put 7 = .ok (.aload_n 0, 1) := by decide +kernel
theorem dX9_put_8 : decode cX9_put 8 = .ok (.getfield 11, 3) := by decide +kernel
theorem dX9_put_11 : decode cX9_put 11 = .ok (.iload_n 1, 1) := by decide +kernel
theorem dX9_put_12 : decode cX9_put 12 = .ok (.aaload, 1) := by decide +kernel
theorem dX9_put_13 : decode cX9_put 13 = .ok (.iconst 0, 1) := by decide +kernel
theorem dX9_put_14 : decode cX9_put 14 = .ok (.invokestatic 26, 3) := by decide +kernel
theorem dX9_put_17 : decode cX9_put 17 = .ok (.return_, 1) := by decide +kernel
theorem dX9_hasRun_0 : decode cX9_hasRun 0 = .ok (.iload_n 2, 1) := by decide +kernel
theorem dX9_hasRun_1 : decode cX9_hasRun 1 = .ok (.ifCond .lt 19, 3) := by decide +kernel
theorem dX9_hasRun_4 : decode cX9_hasRun 4 = .ok (.iload_n 2, 1) := by decide +kernel
theorem dX9_hasRun_5 : decode cX9_hasRun 5 = .ok (.aload_n 0, 1) := by decide +kernel
theorem dX9_hasRun_6 : decode cX9_hasRun 6 = .ok (.getfield 16, 3) := by decide +kernel
theorem dX9_hasRun_9 : decode cX9_hasRun 9 = .ok (.iload_n 1, 1) := by decide +kernel
theorem dX9_hasRun_10 : decode cX9_hasRun 10 = .ok (.iaload, 1) := by decide +kernel
theorem dX9_hasRun_11 : decode cX9_hasRun 11 = .ok (.iload_n 3, 1) := by decide +kernel
theorem dX9_hasRun_12 : decode cX9_hasRun 12 = .ok (.isub, 1) := by decide +kernel
theorem dX9_hasRun_13 : decode cX9_hasRun 13 = .ok (.if_icmp .gt 7, 3) := by decide +kernel
theorem dX9_hasRun_16 : decode cX9_hasRun 16 = .ok (.iconst 1, 1) := by decide +kernel
theorem dX9_hasRun_17 : decode cX9_hasRun 17 = .ok (.goto 4, 3) := by decide +kernel
theorem dX9_hasRun_20 : decode cX9_hasRun 20 = .ok (.iconst 0, 1) := by decide +kernel
theorem dX9_hasRun_21 : decode cX9_hasRun 21 = .ok (.ireturn, 1) := by decide +kernel
theorem dX10_init_0 : decode cX10_init 0 = .ok (.aload_n 0, 1) := by decide +kernel
theorem dX10_init_1 : decode cX10_init 1 = .ok (.invokespecial 3, 3) := by decide +kernel
theorem dX10_init_4 : decode cX10_init 4 = .ok (.aload_n 0, 1) := by decide +kernel
theorem dX10_init_5 : decode cX10_init 5 = .ok (.bipush 36, 2) := by decide +kernel
theorem dX10_init_7 : decode cX10_init 7 = .ok (.newarray .int, 2) := by decide +kernel
theorem dX10_init_9 : decode cX10_init 9 = .ok (.putfield 9, 3) := by decide +kernel
theorem dX10_init_12 : decode cX10_init 12 = .ok (.aload_n 0, 1) := by decide +kernel
theorem dX10_init_13 : decode cX10_init 13 = .ok (.iconst 0, 1) := by decide +kernel
theorem dX10_init_14 : decode cX10_init 14 = .ok (.putfield 15, 3) := by decide +kernel
theorem dX10_init_17 : decode cX10_init 17 = .ok (.aload_n 0, 1) := by decide +kernel
theorem dX10_init_18 : decode cX10_init 18 = .ok (.iconst 0, 1) := by decide +kernel
theorem dX10_init_19 : decode cX10_init 19 = .ok (.putfield 19, 3) := by decide +kernel
theorem dX10_init_22 : decode cX10_init 22 = .ok (.return_, 1) := by decide +kernel
theorem dX10_begin_0 : decode cX10_begin 0 = .ok (.aload_n 0, 1) := by decide +kernel
theorem dX10_begin_1 : decode cX10_begin 1 = .ok (.iconst 0, 1) := by decide +kernel
theorem dX10_begin_2 : decode cX10_begin 2 = .ok (.putfield 15, 3) := by decide +kernel
theorem dX10_begin_5 : decode cX10_begin 5 = .ok (.aload_n 0, 1) := by decide +kernel
theorem dX10_begin_6 : decode cX10_begin 6 = .ok (.iload_n 1, 1) := by decide +kernel
theorem dX10_begin_7 : decode cX10_begin 7 = .ok (.putfield 19, 3) := by decide +kernel
theorem dX10_begin_10 : decode cX10_begin 10 = .ok (.return_, 1) := by decide +kernel
theorem dX10_hasEnough_0 : decode cX10_hasEnough 0 = .ok (.aload_n 0, 1) := by decide +kernel
theorem dX10_hasEnough_1 : decode cX10_hasEnough 1 = .ok (.getfield 15, 3) := by decide +kernel
theorem dX10_hasEnough_4 : decode cX10_hasEnough 4 = .ok (.ifCond .ne 15, 3) := by decide +kernel
theorem dX10_hasEnough_7 : decode cX10_hasEnough 7 = .ok (.aload_n 1, 1) := by decide +kernel
theorem dX10_hasEnough_8 : decode cX10_hasEnough 8 = .ok (.iconst 0, 1) := by decide +kernel
theorem dX10_hasEnough_9 : decode cX10_hasEnough 9 = .ok (.aload_n 0, 1) := by decide +kernel
theorem dX10_hasEnough_10 : decode cX10_hasEnough 10 = .ok (.getfield 9, 3) := by decide +kernel
theorem dX10_hasEnough_13 : decode cX10_hasEnough 13 = .ok (.iconst 0, 1) := by decide +kernel
theorem dX10_hasEnough_14 : decode cX10_hasEnough 14 = .ok (.bipush 36, 2) := by decide +kernel
theorem dX10_hasEnough_16 : decode cX10_hasEnough 16 = .ok (.invokestatic 22, 3) := by decide +kernel
theorem dX10_hasEnough_19 : decode cX10_hasEnough 19 = .ok (.aload_n 0, 1) := by decide +kernel
theorem dX10_hasEnough_20 : decode cX10_hasEnough 20 = .ok (.dup, 1) := by decide +kernel
theorem dX10_hasEnough_21 : decode cX10_hasEnough 21 = .ok (.getfield 15, 3) := by decide +kernel
theorem dX10_hasEnough_24 : decode cX10_hasEnough 24 = .ok (.iconst 1, 1) := by decide +kernel
theorem dX10_hasEnough_25 : decode cX10_hasEnough 25 = .ok (.iadd, 1) := by decide +kernel
theorem dX10_hasEnough_26 : decode cX10_hasEnough 26 = .ok (.putfield 15, 3) := by decide +kernel
theorem dX10_hasEnough_29 : decode cX10_hasEnough 29 = .ok (.aload_n 0, 1) := by decide +kernel
theorem dX10_hasEnough_30 : decode cX10_hasEnough 30 = .ok (.getfield 15, 3) := by decide +kernel
theorem dX10_hasEnough_33 : decode cX10_hasEnough 33 = .ok (.aload_n 0, 1) := by decide +kernel
theorem dX10_hasEnough_34 : decode cX10_hasEnough 34 = .ok (.getfield 19, 3) := by decide +kernel
theorem dX10_hasEnough_37 : decode cX10_hasEnough 37 = .ok (.if_icmp .lt 7, 3) := by decide +kernel
theorem dX10_hasEnough_40 : decode cX10_hasEnough 40 = .ok (.iconst 1, 1) := by decide +kernel
theorem dX10_hasEnough_41 : decode cX10_hasEnough 41 = .ok (.goto 4, 3) := by decide +kernel
theorem dX10_hasEnough_44 : decode cX10_hasEnough 44 = .ok (.iconst 0, 1) := by decide +kernel
theorem dX10_hasEnough_45 : decode cX10_hasEnough 45 = .ok (.ireturn, 1) := by decide +kernel
theorem dX11_init_0 : decode cX11_init 0 = .ok (.aload_n 0, 1) := by decide +kernel
theorem dX11_init_1 : decode cX11_init 1 = .ok (.invokespecial 1, 3) := by decide +kernel
theorem dX11_init_4 : decode cX11_init 4 = .ok (.aload_n 0, 1) := by decide +kernel
theorem dX11_init_5 : decode cX11_init 5 = .ok (.new 7, 3) := by decide +kernel
theorem dX11_init_8 : decode cX11_init 8 = .ok (.dup, 1) := by decide +kernel
theorem dX11_init_9 : decode cX11_init 9 = .ok (.invokespecial 9, 3) := by decide +kernel
theorem dX11_init_12 : decode cX11_init 12 = .ok (.putfield 10, 3) := by decide +kernel
theorem dX11_init_15 : decode cX11_init 15 = .ok (.aload_n 0, 1) := by decide +kernel
theorem dX11_init_16 : decode cX11_init 16 = .ok (.new 16, 3) := by decide +kernel
theorem dX11_init_19 : decode cX11_init 19 = .ok (.dup, 1) := by decide +kernel
theorem dX11_init_20 : decode cX11_init 20 = .ok (.invokespecial 18, 3) := by decide +kernel
theorem dX11_init_23 : decode cX11_init 23 = .ok (.putfield 19, 3) := by decide +kernel
theorem dX11_init_26 : decode cX11_init 26 = .ok (.aload_n 0, 1) := by decide +kernel
theorem dX11_init_27 : decode cX11_init 27 = .ok (.new 16, 3) := by decide +kernel
theorem dX11_init_30 : decode cX11_init 30 = .ok (.dup, 1) := by decide +kernel
theorem dX11_init_31 : decode cX11_init 31 = .ok (.invokespecial 18, 3) := by decide +kernel
theorem dX11_init_34 : decode cX11_init 34 = .ok (.putfield 23, 3) := by decide +kernel
theorem dX11_init_37 : decode cX11_init 37 = .ok (.aload_n 0, 1) := by decide +kernel
theorem dX11_init_38 : decode cX11_init 38 = .ok (.new 26, 3) := by decide +kernel
theorem dX11_init_41 : decode cX11_init 41 = .ok (.dup, 1) := by decide +kernel
theorem dX11_init_42 : decode cX11_init 42 = .ok (.aload_n 0, 1) := by decide +kernel
theorem dX11_init_43 : decode cX11_init 43 = .ok (.getfield 10, 3) := by decide +kernel
theorem dX11_init_46 : decode cX11_init 46 = .ok (.aload_n 0, 1) := by decide +kernel
theorem dX11_init_47 : decode cX11_init 47 = .ok (.getfield 19, 3) := by decide +kernel
theorem dX11_init_50 : decode cX11_init 50 = .ok (.invokespecial 28, 3) := by decide +kernel
theorem dX11_init_53 : decode cX11_init 53 = .ok (.putfield 31, 3) := by decide +kernel
theorem dX11_init_56 : decode cX11_init 56 = .ok (.aload_n 0, 1) := by decide +kernel
theorem dX11_init_57 : decode cX11_init 57 = .ok (.new 35, 3) := by decide +kernel
theorem dX11_init_60 : decode cX11_init 60 = .ok (.dup, 1) := by decide +kernel
theorem dX11_init_61 : decode cX11_init 61 = .ok (.invokespecial 37, 3) := by decide +kernel
theorem dX11_init_64 : decode cX11_init 64 = .ok (.putfield 38, 3) := by decide +kernel
theorem dX11_init_67 : decode cX11_init 67 = .ok (.aload_n 0, 1) := by decide +kernel
theorem dX11_init_68 : decode cX11_init 68 = .ok (.new 42, 3) := by decide +kernel
theorem dX11_init_71 : decode cX11_init 71 = .ok (.dup, 1) := by decide +kernel
theorem dX11_init_72 : decode cX11_init 72 = .ok (.invokespecial 44, 3) := by decide +kernel
theorem dX11_init_75 : decode cX11_init 75 = .ok (.putfield 45, 3) := by decide +kernel
theorem dX11_init_78 : decode cX11_init 78 = .ok (.aload_n 0, 1) := by decide +kernel
theorem dX11_init_79 : decode cX11_init 79 = .ok (.new 49, 3) := by decide +kernel
theorem dX11_init_82 : decode cX11_init 82 = .ok (.dup, 1) := by decide +kernel
theorem dX11_init_83 : decode cX11_init 83 = .ok (.aload_n 0, 1) := by decide +kernel
theorem dX11_init_84 : decode cX11_init 84 = .ok (.getfield 10, 3) := by decide +kernel
theorem dX11_init_87 : decode cX11_init 87 = .ok (.getfield 51, 3) := by decide +kernel
theorem dX11_init_90 : decode cX11_init 90 = .ok (.invokespecial 55, 3) := by decide +kernel
theorem dX11_init_93 : decode cX11_init 93 = .ok (.putfield 58, 3) := by decide +kernel
theorem dX11_init_96 : decode cX11_init 96 = .ok (.aload_n 0, 1) := by decide +kernel
theorem dX11_init_97 : decode cX11_init 97 = .ok (.new 62, 3) := by decide +kernel
theorem dX11_init_100 : decode cX11_init 100 = .ok (.dup, 1) := by decide +kernel
theorem dX11_init_101 : decode cX11_init 101 = .ok (.invokespecial 64, 3) := by decide +kernel
theorem dX11_init_104 : decode cX11_init 104 = .ok (.putfield 65, 3) := by decide +kernel
theorem dX11_init_107 : decode cX11_init 107 = .ok (.aload_n 0, 1) := by decide +kernel
theorem dX11_init_108 : decode cX11_init 108 = .ok (.new 69, 3) := by decide +kernel
theorem dX11_init_111 : decode cX11_init 111 = .ok (.dup, 1) := by decide +kernel
theorem dX11_init_112 : decode cX11_init 112 = .ok (.invokespecial 71, 3) := by decide +kernel
theorem dX11_init_115 : decode cX11_init 115 = .ok (.putfield 72, 3) := by decide +kernel
theorem dX11_init_118 : decode cX11_init 118 = .ok (.aload_n 0, 1) := by decide +kernel
theorem dX11_init_119 : decode cX11_init 119 = .ok (.bipush 36, 2) := by decide +kernel
theorem dX11_init_121 : decode cX11_init 121 = .ok (.newarray .int, 2) := by decide +kernel
theorem dX11_init_123 : decode cX11_init 123 = .ok (.putfield 76, 3) := by decide +kernel
theorem dX11_init_126 : decode cX11_init 126 = .ok (.aload_n 0, 1) := by decide +kernel
theorem dX11_init_127 : decode cX11_init 127 = .ok (.iconst 0, 1) := by decide +kernel
theorem dX11_init_128 : decode cX11_init 128 = .ok (.putfield 79, 3) := by decide +kernel
theorem dX11_init_131 : decode cX11_init 131 = .ok (.aload_n 0, 1) := by decide +kernel
theorem dX11_init_132 : decode cX11_init 132 = .ok (.iconst 0, 1) := by decide +kernel
theorem dX11_init_133 : decode cX11_init 133 = .ok (.putfield 83, 3) := by decide +kernel
theorem dX11_init_136 : decode cX11_init 136 = .ok (.aload_n 0, 1) := by decide +kernel
theorem dX11_init_137 : decode cX11_init 137 = .ok (.lconst 0, 1) := by decide +kernel
theorem dX11_init_138 : decode cX11_init 138 = .ok (.putfield 87, 3) := by decide +kernel
theorem dX11_init_141 : decode cX11_init 141 = .ok (.aload_n 0, 1) := by decide +kernel
theorem dX11_init_142 : decode cX11_init 142 = .ok (.iconst 0, 1) := by decide +kernel
theorem dX11_init_143 : decode cX11_init 143 = .ok (.putfield 91, 3) := by decide +kernel
theorem dX11_init_146 : decode cX11_init 146 = .ok (.aload_n 0, 1) := by decide +kernel
theorem dX11_init_147 : decode cX11_init 147 = .ok (.bipush 6, 2) := by decide +kernel
theorem dX11_init_149 : decode cX11_init 149 = .ok (.newarray .int, 2) := by decide +kernel
theorem dX11_init_151 : decode cX11_init 151 = .ok (.putfield 94, 3) := by decide +kernel
theorem dX11_init_154 : decode cX11_init 154 = .ok (.aload_n 0, 1) := by decide +kernel
theorem dX11_init_155 : decode cX11_init 155 = .ok (.getfield 19, 3) := by decide +kernel
theorem dX11_init_158 : decode cX11_init 158 = .ok (.aload_n 0, 1) := by decide +kernel
theorem dX11_init_159 : decode cX11_init 159 = .ok (.getfield 10, 3) := by decide +kernel
theorem dX11_init_162 : decode cX11_init 162 = .ok (.bipush (-9), 2) := by decide +kernel
theorem dX11_init_164 : decode cX11_init 164 = .ok (.invokevirtual 97, 3) := by decide +kernel
theorem dX11_init_167 : decode cX11_init 167 = .ok (.return_, 1) := by decide +kernel
theorem dX11_net_0 : decode cX11_net 0 = .ok (.iload_n 1, 1) := by decide +kernel
theorem dX11_net_1 : decode cX11_net 1 = .ok (.iconst 2, 1) := by decide +kernel
theorem dX11_net_2 : decode cX11_net 2 = .ok (.if_icmp .lt 9, 3) := by decide +kernel
theorem dX11_net_5 : decode cX11_net 5 = .ok (.iload_n 1, 1) := by decide +kernel
theorem dX11_net_6 : decode cX11_net 6 = .ok (.bipush 6, 2) := by decide +kernel
theorem dX11_net_8 : decode cX11_net 8 = .ok (.if_icmp .le 5, 3) := by decide +kernel
theorem dX11_net_11 : decode cX11_net 11 = .ok (.iconst (-1), 1) := by decide +kernel
theorem dX11_net_12 : decode cX11_net 12 = .ok (.ireturn, 1) := by decide +kernel
theorem dX11_net_13 : decode cX11_net 13 = .ok (.aload_n 0, 1) := by decide +kernel
theorem dX11_net_14 : decode cX11_net 14 = .ok (.getfield 10, 3) := by decide +kernel
theorem dX11_net_17 : decode cX11_net 17 = .ok (.iload_n 1, 1) := by decide +kernel
theorem dX11_net_18 : decode cX11_net 18 = .ok (.invokevirtual 101, 3) := by decide +kernel
theorem dX11_net_21 : decode cX11_net 21 = .ok (.aload_n 0, 1) := by decide +kernel
theorem dX11_net_22 : decode cX11_net 22 = .ok (.getfield 19, 3) := by decide +kernel
theorem dX11_net_25 : decode cX11_net 25 = .ok (.aload_n 0, 1) := by decide +kernel
theorem dX11_net_26 : decode cX11_net 26 = .ok (.getfield 10, 3) := by decide +kernel
theorem dX11_net_29 : decode cX11_net 29 = .ok (.bipush (-9), 2) := by decide +kernel
theorem dX11_net_31 : decode cX11_net 31 = .ok (.invokevirtual 97, 3) := by decide +kernel
theorem dX11_net_34 : decode cX11_net 34 = .ok (.aload_n 0, 1) := by decide +kernel
theorem dX11_net_35 : decode cX11_net 35 = .ok (.iconst 0, 1) := by decide +kernel
theorem dX11_net_36 : decode cX11_net 36 = .ok (.putfield 79, 3) := by decide +kernel
theorem dX11_net_39 : decode cX11_net 39 = .ok (.iload_n 1, 1) := by decide +kernel
theorem dX11_net_40 : decode cX11_net 40 = .ok (.ireturn, 1) := by decide +kernel
theorem dX11_line_0 : decode cX11_line 0 = .ok (.iload_n 1, 1) := by decide +kernel
theorem dX11_line_1 : decode cX11_line 1 = .ok (.ifCond .lt 20, 3) := by decide +kernel
theorem dX11_line_4 : decode cX11_line 4 = .ok (.iload_n 1, 1) := by decide +kernel
theorem dX11_line_5 : decode cX11_line 5 = .ok (.iconst 3, 1) := by decide +kernel
theorem dX11_line_6 : decode cX11_line 6 = .ok (.if_icmp .gt 15, 3) := by decide +kernel
theorem dX11_line_9 : decode cX11_line 9 = .ok (.aload_n 0, 1) := by decide +kernel
theorem dX11_line_10 : decode cX11_line 10 = .ok (.getfield 10, 3) := by decide +kernel
theorem dX11_line_13 : decode cX11_line 13 = .ok (.iload_n 2, 1) := by decide +kernel
theorem dX11_line_14 : decode cX11_line 14 = .ok (.iload_n 3, 1) := by decide +kernel
theorem dX11_line_15 : decode cX11_line 15 = .ok (.invokevirtual 105, 3) := by decide +kernel
theorem dX11_line_18 : decode cX11_line 18 = .ok (.ifCond .ne 5, 3) := by decide +kernel
theorem dX11_line_21 : decode cX11_line 21 = .ok (.iconst (-1), 1) := by decide +kernel
theorem dX11_line_22 : decode cX11_line 22 = .ok (.ireturn, 1) := by decide +kernel
theorem dX11_line_23 : decode cX11_line 23 = .ok (.aload_n 0, 1) := by decide +kernel
theorem dX11_line_24 : decode cX11_line 24 = .ok (.getfield 10, 3) := by decide +kernel
theorem dX11_line_27 : decode cX11_line 27 = .ok (.getfield 109, 3) := by decide +kernel
theorem dX11_line_30 : decode cX11_line 30 = .ok (.bipush 12, 2) := by decide +kernel
theorem dX11_line_32 : decode cX11_line 32 = .ok (.if_icmp .lt 6, 3) := by decide +kernel
theorem dX11_line_35 : decode cX11_line 35 = .ok (.bipush (-2), 2) := by decide +kernel
theorem dX11_line_37 : decode cX11_line 37 = .ok (.ireturn, 1) := by decide +kernel
theorem dX11_line_38 : decode cX11_line 38 = .ok (.aload_n 0, 1) := by decide +kernel
theorem dX11_line_39 : decode cX11_line 39 = .ok (.getfield 10, 3) := by decide +kernel
theorem dX11_line_42 : decode cX11_line 42 = .ok (.iload_n 1, 1) := by decide +kernel
theorem dX11_line_43 : decode cX11_line 43 = .ok (.iload_n 2, 1) := by decide +kernel
theorem dX11_line_44 : decode cX11_line 44 = .ok (.iload_n 3, 1) := by decide +kernel
theorem dX11_line_45 : decode cX11_line 45 = .ok (.invokevirtual 112, 3) := by decide +kernel
theorem dX11_line_48 : decode cX11_line 48 = .ok (.istore 4, 2) := by decide +kernel
theorem dX11_line_50 : decode cX11_line 50 = .ok (.aload_n 0, 1) := by decide +kernel
theorem dX11_line_51 : decode cX11_line 51 = .ok (.getfield 19, 3) := by decide +kernel
theorem dX11_line_54 : decode cX11_line 54 = .ok (.aload_n 0, 1) := by decide +kernel
theorem dX11_line_55 : decode cX11_line 55 = .ok (.getfield 10, 3) := by decide +kernel
theorem dX11_line_58 : decode cX11_line 58 = .ok (.bipush (-9), 2) := by decide +kernel
theorem dX11_line_60 : decode cX11_line 60 = .ok (.invokevirtual 97, 3) := by decide +kernel
theorem dX11_line_63 : decode cX11_line 63 = .ok (.iload 4, 2) := by decide +kernel
theorem dX11_line_65 : decode cX11_line 65 = .ok (.ireturn, 1) := by decide +kernel
theorem dX11_told_0 : decode cX11_told 0 = .ok (.aload_n 0, 1) := by decide +kernel
theorem dX11_told_1 : decode cX11_told 1 = .ok (.getfield 10, 3) := by decide +kernel
theorem dX11_told_4 : decode cX11_told 4 = .ok (.iload_n 1, 1) := by decide +kernel
theorem dX11_told_5 : decode cX11_told 5 = .ok (.invokevirtual 116, 3) := by decide +kernel
theorem dX11_told_8 : decode cX11_told 8 = .ok (.ifCond .ne 5, 3) := by decide +kernel
theorem dX11_told_11 : decode cX11_told 11 = .ok (.iconst (-1), 1) := by decide +kernel
theorem dX11_told_12 : decode cX11_told 12 = .ok (.ireturn, 1) := by decide +kernel
theorem dX11_told_13 : decode cX11_told 13 = .ok (.aload_n 0, 1) := by decide +kernel
theorem dX11_told_14 : decode cX11_told 14 = .ok (.getfield 10, 3) := by decide +kernel
theorem dX11_told_17 : decode cX11_told 17 = .ok (.getfield 120, 3) := by decide +kernel
theorem dX11_told_20 : decode cX11_told 20 = .ok (.iload_n 1, 1) := by decide +kernel
theorem dX11_told_21 : decode cX11_told 21 = .ok (.aaload, 1) := by decide +kernel
theorem dX11_told_22 : decode cX11_told 22 = .ok (.astore_n 3, 1) := by decide +kernel
theorem dX11_told_23 : decode cX11_told 23 = .ok (.iload_n 2, 1) := by decide +kernel
theorem dX11_told_24 : decode cX11_told 24 = .ok (.tableswitch 78 0 5 #[40, 45, 50, 55, 68, 73], 40) := by decide +kernel
theorem dX11_told_64 : decode cX11_told 64 = .ok (.aload_n 3, 1) := by decide +kernel
theorem dX11_told_65 : decode cX11_told 65 = .ok (.getfield 124, 3) := by decide +kernel
theorem dX11_told_68 : decode cX11_told 68 = .ok (.ireturn, 1) := by decide +kernel
theorem dX11_told_69 : decode cX11_told 69 = .ok (.aload_n 3, 1) := by decide +kernel
theorem dX11_told_70 : decode cX11_told 70 = .ok (.getfield 129, 3) := by decide +kernel
theorem dX11_told_73 : decode cX11_told 73 = .ok (.ireturn, 1) := by decide +kernel
theorem dX11_told_74 : decode cX11_told 74 = .ok (.aload_n 3, 1) := by decide +kernel
theorem dX11_told_75 : decode cX11_told 75 = .ok (.getfield 132, 3) := by decide +kernel
theorem dX11_told_78 : decode cX11_told 78 = .ok (.ireturn, 1) := by decide +kernel
theorem dX11_told_79 : decode cX11_told 79 = .ok (.aload_n 3, 1) := by decide +kernel
theorem dX11_told_80 : decode cX11_told 80 = .ok (.getfield 135, 3) := by decide +kernel
theorem dX11_told_83 : decode cX11_told 83 = .ok (.ifCond .eq 7, 3) := by decide +kernel
theorem dX11_told_86 : decode cX11_told 86 = .ok (.iconst 1, 1) := by decide +kernel
theorem dX11_told_87 : decode cX11_told 87 = .ok (.goto 4, 3) := by decide +kernel
theorem dX11_told_90 : decode cX11_told 90 = .ok (.iconst 0, 1) := by decide +kernel
theorem dX11_told_91 : decode cX11_told 91 = .ok (.ireturn, 1) := by decide +kernel
theorem dX11_told_92 : decode cX11_told 92 = .ok (.aload_n 3, 1) := by decide +kernel
theorem dX11_told_93 : decode cX11_told 93 = .ok (.getfield 138, 3) := by decide +kernel
theorem dX11_told_96 : decode cX11_told 96 = .ok (.ireturn, 1) := by decide +kernel
theorem dX11_told_97 : decode cX11_told 97 = .ok (.aload_n 3, 1) := by decide +kernel
theorem dX11_told_98 : decode cX11_told 98 = .ok (.getfield 141, 3) := by decide +kernel
theorem dX11_told_101 : decode cX11_told 101 = .ok (.ireturn, 1) := by decide +kernel
theorem dX11_told_102 : decode cX11_told 102 = .ok (.iconst (-1), 1) := by decide +kernel
theorem dX11_told_103 : decode cX11_told 103 = .ok (.ireturn, 1) := by decide +kernel
theorem dX11_mark_0 : decode cX11_mark 0 = .ok (.aload_n 0, 1) := by decide +kernel
theorem dX11_mark_1 : decode cX11_mark 1 = .ok (.getfield 10, 3) := by decide +kernel
theorem dX11_mark_4 : decode cX11_mark 4 = .ok (.iload_n 1, 1) := by decide +kernel
theorem dX11_mark_5 : decode cX11_mark 5 = .ok (.invokevirtual 116, 3) := by decide +kernel
theorem dX11_mark_8 : decode cX11_mark 8 = .ok (.ifCond .eq 13, 3) := by decide +kernel
theorem dX11_mark_11 : decode cX11_mark 11 = .ok (.iload_n 2, 1) := by decide +kernel
theorem dX11_mark_12 : decode cX11_mark 12 = .ok (.iconst 1, 1) := by decide +kernel
theorem dX11_mark_13 : decode cX11_mark 13 = .ok (.if_icmp .lt 8, 3) := by decide +kernel
theorem dX11_mark_16 : decode cX11_mark 16 = .ok (.iload_n 2, 1) := by decide +kernel
theorem dX11_mark_17 : decode cX11_mark 17 = .ok (.iconst 3, 1) := by decide +kernel
theorem dX11_mark_18 : decode cX11_mark 18 = .ok (.if_icmp .le 5, 3) := by decide +kernel
theorem dX11_mark_21 : decode cX11_mark 21 = .ok (.iconst (-1), 1) := by decide +kernel
theorem dX11_mark_22 : decode cX11_mark 22 = .ok (.ireturn, 1) := by decide +kernel
theorem dX11_mark_23 : decode cX11_mark 23 = .ok (.aload_n 0, 1) := by decide +kernel
theorem dX11_mark_24 : decode cX11_mark 24 = .ok (.getfield 10, 3) := by decide +kernel
theorem dX11_mark_27 : decode cX11_mark 27 = .ok (.getfield 120, 3) := by decide +kernel
theorem dX11_mark_30 : decode cX11_mark 30 = .ok (.iload_n 1, 1) := by decide +kernel
theorem dX11_mark_31 : decode cX11_mark 31 = .ok (.aaload, 1) := by decide +kernel
theorem dX11_mark_32 : decode cX11_mark 32 = .ok (.astore_n 3, 1) := by decide +kernel
theorem dX11_mark_33 : decode cX11_mark 33 = .ok (.aload_n 3, 1) := by decide +kernel
theorem dX11_mark_34 : decode cX11_mark 34 = .ok (.iload_n 2, 1) := by decide +kernel
theorem dX11_mark_35 : decode cX11_mark 35 = .ok (.invokevirtual 144, 3) := by decide +kernel
theorem dX11_mark_38 : decode cX11_mark 38 = .ok (.ifCond .ne 9, 3) := by decide +kernel
theorem dX11_mark_41 : decode cX11_mark 41 = .ok (.aload_n 0, 1) := by decide +kernel
theorem dX11_mark_42 : decode cX11_mark 42 = .ok (.iconst 3, 1) := by decide +kernel
theorem dX11_mark_43 : decode cX11_mark 43 = .ok (.invokevirtual 147, 3) := by decide +kernel
theorem dX11_mark_46 : decode cX11_mark 46 = .ok (.ireturn, 1) := by decide +kernel
theorem dX11_mark_47 : decode cX11_mark 47 = .ok (.iload_n 2, 1) := by decide +kernel
theorem dX11_mark_48 : decode cX11_mark 48 = .ok (.iconst 1, 1) := by decide +kernel
theorem dX11_mark_49 : decode cX11_mark 49 = .ok (.if_icmp .ne 8, 3) := by decide +kernel
theorem dX11_mark_52 : decode cX11_mark 52 = .ok (.aload_n 3, 1) := by decide +kernel
theorem dX11_mark_53 : decode cX11_mark 53 = .ok (.invokevirtual 151, 3) := by decide +kernel
theorem dX11_mark_56 : decode cX11_mark 56 = .ok (.ireturn, 1) := by decide +kernel
theorem dX11_mark_57 : decode cX11_mark 57 = .ok (.iload_n 2, 1) := by decide +kernel
theorem dX11_mark_58 : decode cX11_mark 58 = .ok (.iconst 2, 1) := by decide +kernel
theorem dX11_mark_59 : decode cX11_mark 59 = .ok (.if_icmp .ne 8, 3) := by decide +kernel
theorem dX11_mark_62 : decode cX11_mark 62 = .ok (.aload_n 3, 1) := by decide +kernel
theorem dX11_mark_63 : decode cX11_mark 63 = .ok (.invokevirtual 155, 3) := by decide +kernel
theorem dX11_mark_66 : decode cX11_mark 66 = .ok (.ireturn, 1) := by decide +kernel
theorem dX11_mark_67 : decode cX11_mark 67 = .ok (.aload_n 0, 1) := by decide +kernel
theorem dX11_mark_68 : decode cX11_mark 68 = .ok (.getfield 19, 3) := by decide +kernel
theorem dX11_mark_71 : decode cX11_mark 71 = .ok (.iload_n 1, 1) := by decide +kernel
theorem dX11_mark_72 : decode cX11_mark 72 = .ok (.invokevirtual 158, 3) := by decide +kernel
theorem dX11_mark_75 : decode cX11_mark 75 = .ok (.ireturn, 1) := by decide +kernel
theorem dX11_down_0 : decode cX11_down 0 = .ok (.aload_n 0, 1) := by decide +kernel
theorem dX11_down_1 : decode cX11_down 1 = .ok (.getfield 10, 3) := by decide +kernel
theorem dX11_down_4 : decode cX11_down 4 = .ok (.iload_n 1, 1) := by decide +kernel
theorem dX11_down_5 : decode cX11_down 5 = .ok (.invokevirtual 116, 3) := by decide +kernel
theorem dX11_down_8 : decode cX11_down 8 = .ok (.ifCond .ne 5, 3) := by decide +kernel
theorem dX11_down_11 : decode cX11_down 11 = .ok (.iconst (-1), 1) := by decide +kernel
theorem dX11_down_12 : decode cX11_down 12 = .ok (.ireturn, 1) := by decide +kernel
theorem dX11_down_13 : decode cX11_down 13 = .ok (.aload_n 0, 1) := by decide +kernel
theorem dX11_down_14 : decode cX11_down 14 = .ok (.getfield 10, 3) := by decide +kernel
theorem dX11_down_17 : decode cX11_down 17 = .ok (.getfield 120, 3) := by decide +kernel
theorem dX11_down_20 : decode cX11_down 20 = .ok (.iload_n 1, 1) := by decide +kernel
theorem dX11_down_21 : decode cX11_down 21 = .ok (.aaload, 1) := by decide +kernel
theorem dX11_down_22 : decode cX11_down 22 = .ok (.getfield 135, 3) := by decide +kernel
theorem dX11_down_25 : decode cX11_down 25 = .ok (.istore_n 3, 1) := by decide +kernel
theorem dX11_down_26 : decode cX11_down 26 = .ok (.aload_n 0, 1) := by decide +kernel
theorem dX11_down_27 : decode cX11_down 27 = .ok (.getfield 10, 3) := by decide +kernel
theorem dX11_down_30 : decode cX11_down 30 = .ok (.getfield 120, 3) := by decide +kernel
theorem dX11_down_33 : decode cX11_down 33 = .ok (.iload_n 1, 1) := by decide +kernel
theorem dX11_down_34 : decode cX11_down 34 = .ok (.aaload, 1) := by decide +kernel
theorem dX11_down_35 : decode cX11_down 35 = .ok (.iload_n 2, 1) := by decide +kernel
theorem dX11_down_36 : decode cX11_down 36 = .ok (.putfield 135, 3) := by decide +kernel
theorem dX11_down_39 : decode cX11_down 39 = .ok (.aload_n 0, 1) := by decide +kernel
theorem dX11_down_40 : decode cX11_down 40 = .ok (.getfield 19, 3) := by decide +kernel
theorem dX11_down_43 : decode cX11_down 43 = .ok (.aload_n 0, 1) := by decide +kernel
theorem dX11_down_44 : decode cX11_down 44 = .ok (.getfield 10, 3) := by decide +kernel
theorem dX11_down_47 : decode cX11_down 47 = .ok (.bipush (-9), 2) := by decide +kernel
theorem dX11_down_49 : decode cX11_down 49 = .ok (.invokevirtual 97, 3) := by decide +kernel
theorem dX11_down_52 : decode cX11_down 52 = .ok (.iload_n 3, 1) := by decide +kernel
theorem dX11_down_53 : decode cX11_down 53 = .ok (.ifCond .eq 7, 3) := by decide +kernel
theorem dX11_down_56 : decode cX11_down 56 = .ok (.iconst 1, 1) := by decide +kernel
theorem dX11_down_57 : decode cX11_down 57 = .ok (.goto 4, 3) := by decide +kernel
theorem dX11_down_60 : decode cX11_down 60 = .ok (.iconst 0, 1) := by decide +kernel
theorem dX11_down_61 : decode cX11_down 61 = .ok (.ireturn, 1) := by decide +kernel
theorem dX11_rate_0 : decode cX11_rate 0 = .ok (.aload_n 0, 1) := by decide +kernel
theorem dX11_rate_1 : decode cX11_rate 1 = .ok (.getfield 10, 3) := by decide +kernel
theorem dX11_rate_4 : decode cX11_rate 4 = .ok (.iload_n 1, 1) := by decide +kernel
theorem dX11_rate_5 : decode cX11_rate 5 = .ok (.invokevirtual 116, 3) := by decide +kernel
theorem dX11_rate_8 : decode cX11_rate 8 = .ok (.ifCond .eq 13, 3) := by decide +kernel
theorem dX11_rate_11 : decode cX11_rate 11 = .ok (.iload_n 2, 1) := by decide +kernel
theorem dX11_rate_12 : decode cX11_rate 12 = .ok (.ifCond .lt 9, 3) := by decide +kernel
theorem dX11_rate_15 : decode cX11_rate 15 = .ok (.iload_n 2, 1) := by decide +kernel
theorem dX11_rate_16 : decode cX11_rate 16 = .ok (.ldc 161, 2) := by decide +kernel
theorem dX11_rate_18 : decode cX11_rate 18 = .ok (.if_icmp .le 5, 3) := by decide +kernel
theorem dX11_rate_21 : decode cX11_rate 21 = .ok (.iconst (-1), 1) := by decide +kernel
theorem dX11_rate_22 : decode cX11_rate 22 = .ok (.ireturn, 1) := by decide +kernel
theorem dX11_rate_23 : decode cX11_rate 23 = .ok (.aload_n 0, 1) := by decide +kernel
theorem dX11_rate_24 : decode cX11_rate 24 = .ok (.getfield 10, 3) := by decide +kernel
theorem dX11_rate_27 : decode cX11_rate 27 = .ok (.getfield 120, 3) := by decide +kernel
theorem dX11_rate_30 : decode cX11_rate 30 = .ok (.iload_n 1, 1) := by decide +kernel
theorem dX11_rate_31 : decode cX11_rate 31 = .ok (.aaload, 1) := by decide +kernel
theorem dX11_rate_32 : decode cX11_rate 32 = .ok (.getfield 141, 3) := by decide +kernel
theorem dX11_rate_35 : decode cX11_rate 35 = .ok (.istore_n 3, 1) := by decide +kernel
theorem dX11_rate_36 : decode cX11_rate 36 = .ok (.aload_n 0, 1) := by decide +kernel
theorem dX11_rate_37 : decode cX11_rate 37 = .ok (.getfield 10, 3) := by decide +kernel
theorem dX11_rate_40 : decode cX11_rate 40 = .ok (.getfield 120, 3) := by decide +kernel
theorem dX11_rate_43 : decode cX11_rate 43 = .ok (.iload_n 1, 1) := by decide +kernel
theorem dX11_rate_44 : decode cX11_rate 44 = .ok (.aaload, 1) := by decide +kernel
theorem dX11_rate_45 : decode cX11_rate 45 = .ok (.iload_n 2, 1) := by decide +kernel
theorem dX11_rate_46 : decode cX11_rate 46 = .ok (.putfield 141, 3) := by decide +kernel
theorem dX11_rate_49 : decode cX11_rate 49 = .ok (.iload_n 3, 1) := by decide +kernel
theorem dX11_rate_50 : decode cX11_rate 50 = .ok (.ireturn, 1) := by decide +kernel
theorem dX11_reading_0 : decode cX11_reading 0 = .ok (.aload_n 0, 1) := by decide +kernel
theorem dX11_reading_1 : decode cX11_reading 1 = .ok (.getfield 10, 3) := by decide +kernel
theorem dX11_reading_4 : decode cX11_reading 4 = .ok (.iload_n 1, 1) := by decide +kernel
theorem dX11_reading_5 : decode cX11_reading 5 = .ok (.invokevirtual 116, 3) := by decide +kernel
theorem dX11_reading_8 : decode cX11_reading 8 = .ok (.ifCond .eq 13, 3) := by decide +kernel
theorem dX11_reading_11 : decode cX11_reading 11 = .ok (.iload_n 3, 1) := by decide +kernel
theorem dX11_reading_12 : decode cX11_reading 12 = .ok (.ifCond .ge 11, 3) := by decide +kernel
theorem dX11_reading_15 : decode cX11_reading 15 = .ok (.iload_n 3, 1) := by decide +kernel
theorem dX11_reading_16 : decode cX11_reading 16 = .ok (.bipush (-9), 2) := by decide +kernel
theorem dX11_reading_18 : decode cX11_reading 18 = .ok (.if_icmp .eq 5, 3) := by decide +kernel
theorem dX11_reading_21 : decode cX11_reading 21 = .ok (.iconst (-1), 1) := by decide +kernel
theorem dX11_reading_22 : decode cX11_reading 22 = .ok (.ireturn, 1) := by decide +kernel
theorem dX11_reading_23 : decode cX11_reading 23 = .ok (.aload_n 0, 1) := by decide +kernel
theorem dX11_reading_24 : decode cX11_reading 24 = .ok (.getfield 10, 3) := by decide +kernel
theorem dX11_reading_27 : decode cX11_reading 27 = .ok (.getfield 120, 3) := by decide +kernel
theorem dX11_reading_30 : decode cX11_reading 30 = .ok (.iload_n 1, 1) := by decide +kernel
theorem dX11_reading_31 : decode cX11_reading 31 = .ok (.aaload, 1) := by decide +kernel
theorem dX11_reading_32 : decode cX11_reading 32 = .ok (.astore 4, 2) := by decide +kernel
theorem dX11_reading_34 : decode cX11_reading 34 = .ok (.aload 4, 2) := by decide +kernel
theorem dX11_reading_36 : decode cX11_reading 36 = .ok (.iconst 1, 1) := by decide +kernel
theorem dX11_reading_37 : decode cX11_reading 37 = .ok (.invokevirtual 144, 3) := by decide +kernel
theorem dX11_reading_40 : decode cX11_reading 40 = .ok (.ifCond .ne 9, 3) := by decide +kernel
theorem dX11_reading_43 : decode cX11_reading 43 = .ok (.aload_n 0, 1) := by decide +kernel
theorem dX11_reading_44 : decode cX11_reading 44 = .ok (.iconst 3, 1) := by decide +kernel
theorem dX11_reading_45 : decode cX11_reading 45 = .ok (.invokevirtual 147, 3) := by decide +kernel
theorem dX11_reading_48 : decode cX11_reading 48 = .ok (.ireturn, 1) := by decide +kernel
theorem dX11_reading_49 : decode cX11_reading 49 = .ok (.iload_n 2, 1) := by decide +kernel
theorem dX11_reading_50 : decode cX11_reading 50 = .ok (.invokestatic 162, 3) := by decide +kernel
theorem dX11_reading_53 : decode cX11_reading 53 = .ok (.ifCond .ne 9, 3) := by decide +kernel
theorem dX11_reading_56 : decode cX11_reading 56 = .ok (.aload_n 0, 1) := by decide +kernel
theorem dX11_reading_57 : decode cX11_reading 57 = .ok (.iconst 2, 1) := by decide +kernel
theorem dX11_reading_58 : decode cX11_reading 58 = .ok (.invokevirtual 147, 3) := by decide +kernel
theorem dX11_reading_61 : decode cX11_reading 61 = .ok (.ireturn, 1) := by decide +kernel
theorem dX11_reading_62 : decode cX11_reading 62 = .ok (.aload 4, 2) := by decide +kernel
theorem dX11_reading_64 : decode cX11_reading 64 = .ok (.getfield 165, 3) := by decide +kernel
theorem dX11_reading_67 : decode cX11_reading 67 = .ok (.iload_n 2, 1) := by decide +kernel
theorem dX11_reading_68 : decode cX11_reading 68 = .ok (.iaload, 1) := by decide +kernel
theorem dX11_reading_69 : decode cX11_reading 69 = .ok (.istore 5, 2) := by decide +kernel
theorem dX11_reading_71 : decode cX11_reading 71 = .ok (.aload 4, 2) := by decide +kernel
theorem dX11_reading_73 : decode cX11_reading 73 = .ok (.iload_n 2, 1) := by decide +kernel
theorem dX11_reading_74 : decode cX11_reading 74 = .ok (.iload_n 3, 1) := by decide +kernel
theorem dX11_reading_75 : decode cX11_reading 75 = .ok (.invokevirtual 168, 3) := by decide +kernel
theorem dX11_reading_78 : decode cX11_reading 78 = .ok (.iload 5, 2) := by decide +kernel
theorem dX11_reading_80 : decode cX11_reading 80 = .ok (.ireturn, 1) := by decide +kernel
end
section
/-! decode rows -/
theorem dX11_load_0 : decode cX11_load 0 = .ok (.aload_n 0, 1) := by decide +kernel
theorem dX11_load_1 : decode cX11_load 1 = .ok (.getfield 10, 3) := by decide +kernel
theorem dX11_load_4 : decode cX11_load 4 = .ok (.iload_n 1, 1) := by decide +kernel
theorem dX11_load_5 : decode cX11_load 5 = .ok (.invokevirtual 116, 3) := by decide +kernel
theorem dX11_load_8 : decode cX11_load 8 = .ok (.ifCond .ne 5, 3) := by decide +kernel
theorem dX11_load_11 : decode cX11_load 11 = .ok (.iconst (-1), 1) := by decide +kernel
theorem dX11_load_12 : decode cX11_load 12 = .ok (.ireturn, 1) := by decide +kernel
theorem dX11_load_13 : decode cX11_load 13 = .ok (.aload_n 0, 1) := by decide +kernel
theorem dX11_load_14 : decode cX11_load 14 = .ok (.getfield 10, 3) := by decide +kernel
theorem dX11_load_17 : decode cX11_load 17 = .ok (.getfield 120, 3) := by decide +kernel
theorem dX11_load_20 : decode cX11_load 20 = .ok (.iload_n 1, 1) := by decide +kernel
theorem dX11_load_21 : decode cX11_load 21 = .ok (.aaload, 1) := by decide +kernel
theorem dX11_load_22 : decode cX11_load 22 = .ok (.astore 4, 2) := by decide +kernel
theorem dX11_load_24 : decode cX11_load 24 = .ok (.aload 4, 2) := by decide +kernel
theorem dX11_load_26 : decode cX11_load 26 = .ok (.iconst 1, 1) := by decide +kernel
theorem dX11_load_27 : decode cX11_load 27 = .ok (.invokevirtual 144, 3) := by decide +kernel
theorem dX11_load_30 : decode cX11_load 30 = .ok (.ifCond .ne 9, 3) := by decide +kernel
theorem dX11_load_33 : decode cX11_load 33 = .ok (.aload_n 0, 1) := by decide +kernel
theorem dX11_load_34 : decode cX11_load 34 = .ok (.iconst 3, 1) := by decide +kernel
theorem dX11_load_35 : decode cX11_load 35 = .ok (.invokevirtual 147, 3) := by decide +kernel
theorem dX11_load_38 : decode cX11_load 38 = .ok (.ireturn, 1) := by decide +kernel
theorem dX11_load_39 : decode cX11_load 39 = .ok (.iload_n 2, 1) := by decide +kernel
theorem dX11_load_40 : decode cX11_load 40 = .ok (.invokestatic 162, 3) := by decide +kernel
theorem dX11_load_43 : decode cX11_load 43 = .ok (.ifCond .eq 15, 3) := by decide +kernel
theorem dX11_load_46 : decode cX11_load 46 = .ok (.iload_n 3, 1) := by decide +kernel
theorem dX11_load_47 : decode cX11_load 47 = .ok (.invokestatic 162, 3) := by decide +kernel
theorem dX11_load_50 : decode cX11_load 50 = .ok (.ifCond .eq 8, 3) := by decide +kernel
theorem dX11_load_53 : decode cX11_load 53 = .ok (.iload_n 2, 1) := by decide +kernel
theorem dX11_load_54 : decode cX11_load 54 = .ok (.iload_n 3, 1) := by decide +kernel
theorem dX11_load_55 : decode cX11_load 55 = .ok (.if_icmp .lt 9, 3) := by decide +kernel
theorem dX11_load_58 : decode cX11_load 58 = .ok (.aload_n 0, 1) := by decide +kernel
theorem dX11_load_59 : decode cX11_load 59 = .ok (.iconst 2, 1) := by decide +kernel
theorem dX11_load_60 : decode cX11_load 60 = .ok (.invokevirtual 147, 3) := by decide +kernel
theorem dX11_load_63 : decode cX11_load 63 = .ok (.ireturn, 1) := by decide +kernel
theorem dX11_load_64 : decode cX11_load 64 = .ok (.aload 4, 2) := by decide +kernel
theorem dX11_load_66 : decode cX11_load 66 = .ok (.getfield 165, 3) := by decide +kernel
theorem dX11_load_69 : decode cX11_load 69 = .ok (.iload_n 2, 1) := by decide +kernel
theorem dX11_load_70 : decode cX11_load 70 = .ok (.iaload, 1) := by decide +kernel
theorem dX11_load_71 : decode cX11_load 71 = .ok (.bipush (-9), 2) := by decide +kernel
theorem dX11_load_73 : decode cX11_load 73 = .ok (.if_icmp .eq 15, 3) := by decide +kernel
theorem dX11_load_76 : decode cX11_load 76 = .ok (.aload 4, 2) := by decide +kernel
theorem dX11_load_78 : decode cX11_load 78 = .ok (.getfield 165, 3) := by decide +kernel
theorem dX11_load_81 : decode cX11_load 81 = .ok (.iload_n 3, 1) := by decide +kernel
theorem dX11_load_82 : decode cX11_load 82 = .ok (.iaload, 1) := by decide +kernel
theorem dX11_load_83 : decode cX11_load 83 = .ok (.bipush (-9), 2) := by decide +kernel
theorem dX11_load_85 : decode cX11_load 85 = .ok (.if_icmp .ne 9, 3) := by decide +kernel
theorem dX11_load_88 : decode cX11_load 88 = .ok (.aload_n 0, 1) := by decide +kernel
theorem dX11_load_89 : decode cX11_load 89 = .ok (.iconst 1, 1) := by decide +kernel
theorem dX11_load_90 : decode cX11_load 90 = .ok (.invokevirtual 147, 3) := by decide +kernel
theorem dX11_load_93 : decode cX11_load 93 = .ok (.ireturn, 1) := by decide +kernel
theorem dX11_load_94 : decode cX11_load 94 = .ok (.aload_n 0, 1) := by decide +kernel
theorem dX11_load_95 : decode cX11_load 95 = .ok (.aload 4, 2) := by decide +kernel
theorem dX11_load_97 : decode cX11_load 97 = .ok (.iload_n 2, 1) := by decide +kernel
theorem dX11_load_98 : decode cX11_load 98 = .ok (.iload_n 3, 1) := by decide +kernel
theorem dX11_load_99 : decode cX11_load 99 = .ok (.invokevirtual 172, 3) := by decide +kernel
theorem dX11_load_102 : decode cX11_load 102 = .ok (.i2l, 1) := by decide +kernel
theorem dX11_load_103 : decode cX11_load 103 = .ok (.putfield 87, 3) := by decide +kernel
theorem dX11_load_106 : decode cX11_load 106 = .ok (.aload 4, 2) := by decide +kernel
theorem dX11_load_108 : decode cX11_load 108 = .ok (.iload_n 2, 1) := by decide +kernel
theorem dX11_load_109 : decode cX11_load 109 = .ok (.iload_n 3, 1) := by decide +kernel
theorem dX11_load_110 : decode cX11_load 110 = .ok (.invokevirtual 176, 3) := by decide +kernel
theorem dX11_load_113 : decode cX11_load 113 = .ok (.ifCond .eq 7, 3) := by decide +kernel
theorem dX11_load_116 : decode cX11_load 116 = .ok (.iconst 1, 1) := by decide +kernel
theorem dX11_load_117 : decode cX11_load 117 = .ok (.goto 4, 3) := by decide +kernel
theorem dX11_load_120 : decode cX11_load 120 = .ok (.iconst 0, 1) := by decide +kernel
theorem dX11_load_121 : decode cX11_load 121 = .ok (.ireturn, 1) := by decide +kernel
theorem dX11_mean_0 : decode cX11_mean 0 = .ok (.aload_n 0, 1) := by decide +kernel
theorem dX11_mean_1 : decode cX11_mean 1 = .ok (.getfield 10, 3) := by decide +kernel
theorem dX11_mean_4 : decode cX11_mean 4 = .ok (.iload_n 1, 1) := by decide +kernel
theorem dX11_mean_5 : decode cX11_mean 5 = .ok (.invokevirtual 116, 3) := by decide +kernel
theorem dX11_mean_8 : decode cX11_mean 8 = .ok (.ifCond .ne 5, 3) := by decide +kernel
theorem dX11_mean_11 : decode cX11_mean 11 = .ok (.iconst (-1), 1) := by decide +kernel
theorem dX11_mean_12 : decode cX11_mean 12 = .ok (.ireturn, 1) := by decide +kernel
theorem dX11_mean_13 : decode cX11_mean 13 = .ok (.aload_n 0, 1) := by decide +kernel
theorem dX11_mean_14 : decode cX11_mean 14 = .ok (.getfield 10, 3) := by decide +kernel
theorem dX11_mean_17 : decode cX11_mean 17 = .ok (.getfield 120, 3) := by decide +kernel
theorem dX11_mean_20 : decode cX11_mean 20 = .ok (.iload_n 1, 1) := by decide +kernel
theorem dX11_mean_21 : decode cX11_mean 21 = .ok (.aaload, 1) := by decide +kernel
theorem dX11_mean_22 : decode cX11_mean 22 = .ok (.astore_n 2, 1) := by decide +kernel
theorem dX11_mean_23 : decode cX11_mean 23 = .ok (.aload_n 2, 1) := by decide +kernel
theorem dX11_mean_24 : decode cX11_mean 24 = .ok (.iconst 1, 1) := by decide +kernel
theorem dX11_mean_25 : decode cX11_mean 25 = .ok (.invokevirtual 144, 3) := by decide +kernel
theorem dX11_mean_28 : decode cX11_mean 28 = .ok (.ifCond .ne 9, 3) := by decide +kernel
theorem dX11_mean_31 : decode cX11_mean 31 = .ok (.aload_n 0, 1) := by decide +kernel
theorem dX11_mean_32 : decode cX11_mean 32 = .ok (.iconst 3, 1) := by decide +kernel
theorem dX11_mean_33 : decode cX11_mean 33 = .ok (.invokevirtual 147, 3) := by decide +kernel
theorem dX11_mean_36 : decode cX11_mean 36 = .ok (.ireturn, 1) := by decide +kernel
theorem dX11_mean_37 : decode cX11_mean 37 = .ok (.aload_n 2, 1) := by decide +kernel
theorem dX11_mean_38 : decode cX11_mean 38 = .ok (.invokevirtual 155, 3) := by decide +kernel
theorem dX11_mean_41 : decode cX11_mean 41 = .ok (.iconst 2, 1) := by decide +kernel
theorem dX11_mean_42 : decode cX11_mean 42 = .ok (.if_icmp .ge 9, 3) := by decide +kernel
theorem dX11_mean_45 : decode cX11_mean 45 = .ok (.aload_n 0, 1) := by decide +kernel
theorem dX11_mean_46 : decode cX11_mean 46 = .ok (.iconst 4, 1) := by decide +kernel
theorem dX11_mean_47 : decode cX11_mean 47 = .ok (.invokevirtual 147, 3) := by decide +kernel
theorem dX11_mean_50 : decode cX11_mean 50 = .ok (.ireturn, 1) := by decide +kernel
theorem dX11_mean_51 : decode cX11_mean 51 = .ok (.aload_n 2, 1) := by decide +kernel
theorem dX11_mean_52 : decode cX11_mean 52 = .ok (.invokevirtual 179, 3) := by decide +kernel
theorem dX11_mean_55 : decode cX11_mean 55 = .ok (.ireturn, 1) := by decide +kernel
theorem dX11_route_0 : decode cX11_route 0 = .ok (.aload_n 0, 1) := by decide +kernel
theorem dX11_route_1 : decode cX11_route 1 = .ok (.getfield 10, 3) := by decide +kernel
theorem dX11_route_4 : decode cX11_route 4 = .ok (.iload_n 1, 1) := by decide +kernel
theorem dX11_route_5 : decode cX11_route 5 = .ok (.iload_n 2, 1) := by decide +kernel
theorem dX11_route_6 : decode cX11_route 6 = .ok (.invokevirtual 105, 3) := by decide +kernel
theorem dX11_route_9 : decode cX11_route 9 = .ok (.ifCond .ne 5, 3) := by decide +kernel
theorem dX11_route_12 : decode cX11_route 12 = .ok (.iconst (-1), 1) := by decide +kernel
theorem dX11_route_13 : decode cX11_route 13 = .ok (.ireturn, 1) := by decide +kernel
theorem dX11_route_14 : decode cX11_route 14 = .ok (.aload_n 0, 1) := by decide +kernel
theorem dX11_route_15 : decode cX11_route 15 = .ok (.getfield 10, 3) := by decide +kernel
theorem dX11_route_18 : decode cX11_route 18 = .ok (.iload_n 1, 1) := by decide +kernel
theorem dX11_route_19 : decode cX11_route 19 = .ok (.iload_n 2, 1) := by decide +kernel
theorem dX11_route_20 : decode cX11_route 20 = .ok (.invokevirtual 182, 3) := by decide +kernel
theorem dX11_route_23 : decode cX11_route 23 = .ok (.istore 4, 2) := by decide +kernel
theorem dX11_route_25 : decode cX11_route 25 = .ok (.aload_n 0, 1) := by decide +kernel
theorem dX11_route_26 : decode cX11_route 26 = .ok (.getfield 19, 3) := by decide +kernel
theorem dX11_route_29 : decode cX11_route 29 = .ok (.getfield 185, 3) := by decide +kernel
theorem dX11_route_32 : decode cX11_route 32 = .ok (.iload 4, 2) := by decide +kernel
theorem dX11_route_34 : decode cX11_route 34 = .ok (.iaload, 1) := by decide +kernel
theorem dX11_route_35 : decode cX11_route 35 = .ok (.istore 5, 2) := by decide +kernel
theorem dX11_route_37 : decode cX11_route 37 = .ok (.iload 5, 2) := by decide +kernel
theorem dX11_route_39 : decode cX11_route 39 = .ok (.iconst (-1), 1) := by decide +kernel
theorem dX11_route_40 : decode cX11_route 40 = .ok (.if_icmp .ne 6, 3) := by decide +kernel
theorem dX11_route_43 : decode cX11_route 43 = .ok (.bipush (-9), 2) := by decide +kernel
theorem dX11_route_45 : decode cX11_route 45 = .ok (.ireturn, 1) := by decide +kernel
theorem dX11_route_46 : decode cX11_route 46 = .ok (.iload_n 3, 1) := by decide +kernel
theorem dX11_route_47 : decode cX11_route 47 = .ok (.iconst (-1), 1) := by decide +kernel
theorem dX11_route_48 : decode cX11_route 48 = .ok (.if_icmp .ne 6, 3) := by decide +kernel
theorem dX11_route_51 : decode cX11_route 51 = .ok (.iload 5, 2) := by decide +kernel
theorem dX11_route_53 : decode cX11_route 53 = .ok (.ireturn, 1) := by decide +kernel
theorem dX11_route_54 : decode cX11_route 54 = .ok (.iload_n 3, 1) := by decide +kernel
theorem dX11_route_55 : decode cX11_route 55 = .ok (.ifCond .lt 22, 3) := by decide +kernel
theorem dX11_route_58 : decode cX11_route 58 = .ok (.iload_n 3, 1) := by decide +kernel
theorem dX11_route_59 : decode cX11_route 59 = .ok (.iload 5, 2) := by decide +kernel
theorem dX11_route_61 : decode cX11_route 61 = .ok (.if_icmp .ge 16, 3) := by decide +kernel
theorem dX11_route_64 : decode cX11_route 64 = .ok (.aload_n 0, 1) := by decide +kernel
theorem dX11_route_65 : decode cX11_route 65 = .ok (.getfield 19, 3) := by decide +kernel
theorem dX11_route_68 : decode cX11_route 68 = .ok (.iload 4, 2) := by decide +kernel
theorem dX11_route_70 : decode cX11_route 70 = .ok (.iload_n 3, 1) := by decide +kernel
theorem dX11_route_71 : decode cX11_route 71 = .ok (.invokevirtual 188, 3) := by decide +kernel
theorem dX11_route_74 : decode cX11_route 74 = .ok (.goto 5, 3) := by decide +kernel
theorem dX11_route_77 : decode cX11_route 77 = .ok (.bipush (-9), 2) := by decide +kernel
theorem dX11_route_79 : decode cX11_route 79 = .ok (.ireturn, 1) := by decide +kernel
theorem dX11_carried_0 : decode cX11_carried 0 = .ok (.aload_n 0, 1) := by decide +kernel
theorem dX11_carried_1 : decode cX11_carried 1 = .ok (.getfield 10, 3) := by decide +kernel
theorem dX11_carried_4 : decode cX11_carried 4 = .ok (.iload_n 1, 1) := by decide +kernel
theorem dX11_carried_5 : decode cX11_carried 5 = .ok (.invokevirtual 116, 3) := by decide +kernel
theorem dX11_carried_8 : decode cX11_carried 8 = .ok (.ifCond .eq 10, 3) := by decide +kernel
theorem dX11_carried_11 : decode cX11_carried 11 = .ok (.iload_n 2, 1) := by decide +kernel
theorem dX11_carried_12 : decode cX11_carried 12 = .ok (.invokestatic 191, 3) := by decide +kernel
theorem dX11_carried_15 : decode cX11_carried 15 = .ok (.ifCond .ne 5, 3) := by decide +kernel
theorem dX11_carried_18 : decode cX11_carried 18 = .ok (.iconst (-1), 1) := by decide +kernel
theorem dX11_carried_19 : decode cX11_carried 19 = .ok (.ireturn, 1) := by decide +kernel
theorem dX11_carried_20 : decode cX11_carried 20 = .ok (.aload_n 0, 1) := by decide +kernel
theorem dX11_carried_21 : decode cX11_carried 21 = .ok (.getfield 10, 3) := by decide +kernel
theorem dX11_carried_24 : decode cX11_carried 24 = .ok (.getfield 120, 3) := by decide +kernel
theorem dX11_carried_27 : decode cX11_carried 27 = .ok (.iload_n 1, 1) := by decide +kernel
theorem dX11_carried_28 : decode cX11_carried 28 = .ok (.aaload, 1) := by decide +kernel
theorem dX11_carried_29 : decode cX11_carried 29 = .ok (.astore_n 3, 1) := by decide +kernel
theorem dX11_carried_30 : decode cX11_carried 30 = .ok (.aload_n 3, 1) := by decide +kernel
theorem dX11_carried_31 : decode cX11_carried 31 = .ok (.iconst 3, 1) := by decide +kernel
theorem dX11_carried_32 : decode cX11_carried 32 = .ok (.invokevirtual 144, 3) := by decide +kernel
theorem dX11_carried_35 : decode cX11_carried 35 = .ok (.ifCond .eq 9, 3) := by decide +kernel
theorem dX11_carried_38 : decode cX11_carried 38 = .ok (.aload_n 0, 1) := by decide +kernel
theorem dX11_carried_39 : decode cX11_carried 39 = .ok (.iconst 3, 1) := by decide +kernel
theorem dX11_carried_40 : decode cX11_carried 40 = .ok (.invokevirtual 147, 3) := by decide +kernel
theorem dX11_carried_43 : decode cX11_carried 43 = .ok (.ireturn, 1) := by decide +kernel
theorem dX11_carried_44 : decode cX11_carried 44 = .ok (.aload_n 3, 1) := by decide +kernel
theorem dX11_carried_45 : decode cX11_carried 45 = .ok (.getfield 138, 3) := by decide +kernel
theorem dX11_carried_48 : decode cX11_carried 48 = .ok (.istore 4, 2) := by decide +kernel
theorem dX11_carried_50 : decode cX11_carried 50 = .ok (.aload_n 3, 1) := by decide +kernel
theorem dX11_carried_51 : decode cX11_carried 51 = .ok (.iload_n 2, 1) := by decide +kernel
theorem dX11_carried_52 : decode cX11_carried 52 = .ok (.putfield 138, 3) := by decide +kernel
theorem dX11_carried_55 : decode cX11_carried 55 = .ok (.iload 4, 2) := by decide +kernel
theorem dX11_carried_57 : decode cX11_carried 57 = .ok (.ireturn, 1) := by decide +kernel
theorem dX11_meter_0 : decode cX11_meter 0 = .ok (.aload_n 0, 1) := by decide +kernel
theorem dX11_meter_1 : decode cX11_meter 1 = .ok (.getfield 10, 3) := by decide +kernel
theorem dX11_meter_4 : decode cX11_meter 4 = .ok (.iload_n 1, 1) := by decide +kernel
theorem dX11_meter_5 : decode cX11_meter 5 = .ok (.iload_n 2, 1) := by decide +kernel
theorem dX11_meter_6 : decode cX11_meter 6 = .ok (.invokevirtual 105, 3) := by decide +kernel
theorem dX11_meter_9 : decode cX11_meter 9 = .ok (.ifCond .eq 10, 3) := by decide +kernel
theorem dX11_meter_12 : decode cX11_meter 12 = .ok (.iload_n 3, 1) := by decide +kernel
theorem dX11_meter_13 : decode cX11_meter 13 = .ok (.invokestatic 191, 3) := by decide +kernel
theorem dX11_meter_16 : decode cX11_meter 16 = .ok (.ifCond .ne 5, 3) := by decide +kernel
theorem dX11_meter_19 : decode cX11_meter 19 = .ok (.iconst (-1), 1) := by decide +kernel
theorem dX11_meter_20 : decode cX11_meter 20 = .ok (.ireturn, 1) := by decide +kernel
theorem dX11_meter_21 : decode cX11_meter 21 = .ok (.aload_n 0, 1) := by decide +kernel
theorem dX11_meter_22 : decode cX11_meter 22 = .ok (.getfield 10, 3) := by decide +kernel
theorem dX11_meter_25 : decode cX11_meter 25 = .ok (.iload_n 1, 1) := by decide +kernel
theorem dX11_meter_26 : decode cX11_meter 26 = .ok (.iload_n 2, 1) := by decide +kernel
theorem dX11_meter_27 : decode cX11_meter 27 = .ok (.invokevirtual 182, 3) := by decide +kernel
theorem dX11_meter_30 : decode cX11_meter 30 = .ok (.istore 4, 2) := by decide +kernel
theorem dX11_meter_32 : decode cX11_meter 32 = .ok (.aload_n 0, 1) := by decide +kernel
theorem dX11_meter_33 : decode cX11_meter 33 = .ok (.getfield 10, 3) := by decide +kernel
theorem dX11_meter_36 : decode cX11_meter 36 = .ok (.getfield 194, 3) := by decide +kernel
theorem dX11_meter_39 : decode cX11_meter 39 = .ok (.iload 4, 2) := by decide +kernel
theorem dX11_meter_41 : decode cX11_meter 41 = .ok (.iaload, 1) := by decide +kernel
theorem dX11_meter_42 : decode cX11_meter 42 = .ok (.istore 5, 2) := by decide +kernel
theorem dX11_meter_44 : decode cX11_meter 44 = .ok (.aload_n 0, 1) := by decide +kernel
theorem dX11_meter_45 : decode cX11_meter 45 = .ok (.getfield 10, 3) := by decide +kernel
theorem dX11_meter_48 : decode cX11_meter 48 = .ok (.getfield 194, 3) := by decide +kernel
theorem dX11_meter_51 : decode cX11_meter 51 = .ok (.iload 4, 2) := by decide +kernel
theorem dX11_meter_53 : decode cX11_meter 53 = .ok (.iload_n 3, 1) := by decide +kernel
theorem dX11_meter_54 : decode cX11_meter 54 = .ok (.iastore, 1) := by decide +kernel
theorem dX11_meter_55 : decode cX11_meter 55 = .ok (.iload 5, 2) := by decide +kernel
theorem dX11_meter_57 : decode cX11_meter 57 = .ok (.ireturn, 1) := by decide +kernel
theorem dX11_fits_0 : decode cX11_fits 0 = .ok (.iload_n 1, 1) := by decide +kernel
theorem dX11_fits_1 : decode cX11_fits 1 = .ok (.invokestatic 197, 3) := by decide +kernel
theorem dX11_fits_4 : decode cX11_fits 4 = .ok (.ifCond .ne 5, 3) := by decide +kernel
theorem dX11_fits_7 : decode cX11_fits 7 = .ok (.iconst (-1), 1) := by decide +kernel
theorem dX11_fits_8 : decode cX11_fits 8 = .ok (.ireturn, 1) := by decide +kernel
theorem dX11_fits_9 : decode cX11_fits 9 = .ok (.aload_n 0, 1) := by decide +kernel
theorem dX11_fits_10 : decode cX11_fits 10 = .ok (.iconst 0, 1) := by decide +kernel
theorem dX11_fits_11 : decode cX11_fits 11 = .ok (.putfield 79, 3) := by decide +kernel
theorem dX11_fits_14 : decode cX11_fits 14 = .ok (.aload_n 0, 1) := by decide +kernel
theorem dX11_fits_15 : decode cX11_fits 15 = .ok (.getfield 38, 3) := by decide +kernel
theorem dX11_fits_18 : decode cX11_fits 18 = .ok (.iconst 1, 1) := by decide +kernel
theorem dX11_fits_19 : decode cX11_fits 19 = .ok (.invokevirtual 200, 3) := by decide +kernel
theorem dX11_fits_22 : decode cX11_fits 22 = .ok (.aload_n 0, 1) := by decide +kernel
theorem dX11_fits_23 : decode cX11_fits 23 = .ok (.aload_n 0, 1) := by decide +kernel
theorem dX11_fits_24 : decode cX11_fits 24 = .ok (.getfield 38, 3) := by decide +kernel
theorem dX11_fits_27 : decode cX11_fits 27 = .ok (.iload_n 1, 1) := by decide +kernel
theorem dX11_fits_28 : decode cX11_fits 28 = .ok (.invokevirtual 201, 3) := by decide +kernel
theorem dX11_fits_31 : decode cX11_fits 31 = .ok (.ifCond .ne 6, 3) := by decide +kernel
theorem dX11_fits_34 : decode cX11_fits 34 = .ok (.bipush (-6), 2) := by decide +kernel
theorem dX11_fits_36 : decode cX11_fits 36 = .ok (.ireturn, 1) := by decide +kernel
theorem dX11_fits_37 : decode cX11_fits 37 = .ok (.aload_n 0, 1) := by decide +kernel
theorem dX11_fits_38 : decode cX11_fits 38 = .ok (.getfield 38, 3) := by decide +kernel
theorem dX11_fits_41 : decode cX11_fits 41 = .ok (.getfield 205, 3) := by decide +kernel
theorem dX11_fits_44 : decode cX11_fits 44 = .ok (.ifCond .ne 5, 3) := by decide +kernel
theorem dX11_fits_47 : decode cX11_fits 47 = .ok (.iconst 0, 1) := by decide +kernel
theorem dX11_fits_48 : decode cX11_fits 48 = .ok (.ireturn, 1) := by decide +kernel
theorem dX11_fits_49 : decode cX11_fits 49 = .ok (.aload_n 0, 1) := by decide +kernel
theorem dX11_fits_50 : decode cX11_fits 50 = .ok (.aload_n 0, 1) := by decide +kernel
theorem dX11_fits_51 : decode cX11_fits 51 = .ok (.getfield 38, 3) := by decide +kernel
theorem dX11_fits_54 : decode cX11_fits 54 = .ok (.getfield 208, 3) := by decide +kernel
theorem dX11_fits_57 : decode cX11_fits 57 = .ok (.invokevirtual 211, 3) := by decide +kernel
theorem dX11_fits_60 : decode cX11_fits 60 = .ok (.iconst 1, 1) := by decide +kernel
theorem dX11_fits_61 : decode cX11_fits 61 = .ok (.ireturn, 1) := by decide +kernel
theorem dX11_fit_0 : decode cX11_fit 0 = .ok (.aload_n 0, 1) := by decide +kernel
theorem dX11_fit_1 : decode cX11_fit 1 = .ok (.getfield 10, 3) := by decide +kernel
theorem dX11_fit_4 : decode cX11_fit 4 = .ok (.iload_n 1, 1) := by decide +kernel
theorem dX11_fit_5 : decode cX11_fit 5 = .ok (.iload_n 2, 1) := by decide +kernel
theorem dX11_fit_6 : decode cX11_fit 6 = .ok (.invokevirtual 105, 3) := by decide +kernel
theorem dX11_fit_9 : decode cX11_fit 9 = .ok (.ifCond .ne 5, 3) := by decide +kernel
theorem dX11_fit_12 : decode cX11_fit 12 = .ok (.iconst (-1), 1) := by decide +kernel
theorem dX11_fit_13 : decode cX11_fit 13 = .ok (.ireturn, 1) := by decide +kernel
theorem dX11_fit_14 : decode cX11_fit 14 = .ok (.aload_n 0, 1) := by decide +kernel
theorem dX11_fit_15 : decode cX11_fit 15 = .ok (.getfield 79, 3) := by decide +kernel
theorem dX11_fit_18 : decode cX11_fit 18 = .ok (.ifCond .eq 20, 3) := by decide +kernel
theorem dX11_fit_21 : decode cX11_fit 21 = .ok (.aload_n 0, 1) := by decide +kernel
theorem dX11_fit_22 : decode cX11_fit 22 = .ok (.getfield 76, 3) := by decide +kernel
theorem dX11_fit_25 : decode cX11_fit 25 = .ok (.aload_n 0, 1) := by decide +kernel
theorem dX11_fit_26 : decode cX11_fit 26 = .ok (.getfield 10, 3) := by decide +kernel
theorem dX11_fit_29 : decode cX11_fit 29 = .ok (.iload_n 1, 1) := by decide +kernel
theorem dX11_fit_30 : decode cX11_fit 30 = .ok (.iload_n 2, 1) := by decide +kernel
theorem dX11_fit_31 : decode cX11_fit 31 = .ok (.invokevirtual 182, 3) := by decide +kernel
theorem dX11_fit_34 : decode cX11_fit 34 = .ok (.iaload, 1) := by decide +kernel
theorem dX11_fit_35 : decode cX11_fit 35 = .ok (.goto 5, 3) := by decide +kernel
theorem dX11_fit_38 : decode cX11_fit 38 = .ok (.bipush (-9), 2) := by decide +kernel
theorem dX11_fit_40 : decode cX11_fit 40 = .ok (.ireturn, 1) := by decide +kernel
theorem dX11_many_0 : decode cX11_many 0 = .ok (.iload_n 1, 1) := by decide +kernel
theorem dX11_many_1 : decode cX11_many 1 = .ok (.invokestatic 197, 3) := by decide +kernel
theorem dX11_many_4 : decode cX11_many 4 = .ok (.ifCond .ne 5, 3) := by decide +kernel
theorem dX11_many_7 : decode cX11_many 7 = .ok (.iconst (-1), 1) := by decide +kernel
theorem dX11_many_8 : decode cX11_many 8 = .ok (.ireturn, 1) := by decide +kernel
theorem dX11_many_9 : decode cX11_many 9 = .ok (.aload_n 0, 1) := by decide +kernel
theorem dX11_many_10 : decode cX11_many 10 = .ok (.getfield 38, 3) := by decide +kernel
theorem dX11_many_13 : decode cX11_many 13 = .ok (.ldc 216, 2) := by decide +kernel
theorem dX11_many_15 : decode cX11_many 15 = .ok (.invokevirtual 200, 3) := by decide +kernel
theorem dX11_many_18 : decode cX11_many 18 = .ok (.aload_n 0, 1) := by decide +kernel
theorem dX11_many_19 : decode cX11_many 19 = .ok (.aload_n 0, 1) := by decide +kernel
theorem dX11_many_20 : decode cX11_many 20 = .ok (.getfield 38, 3) := by decide +kernel
theorem dX11_many_23 : decode cX11_many 23 = .ok (.iload_n 1, 1) := by decide +kernel
theorem dX11_many_24 : decode cX11_many 24 = .ok (.invokevirtual 201, 3) := by decide +kernel
theorem dX11_many_27 : decode cX11_many 27 = .ok (.ifCond .ne 6, 3) := by decide +kernel
theorem dX11_many_30 : decode cX11_many 30 = .ok (.bipush (-6), 2) := by decide +kernel
theorem dX11_many_32 : decode cX11_many 32 = .ok (.ireturn, 1) := by decide +kernel
theorem dX11_many_33 : decode cX11_many 33 = .ok (.aload_n 0, 1) := by decide +kernel
theorem dX11_many_34 : decode cX11_many 34 = .ok (.aload_n 0, 1) := by decide +kernel
theorem dX11_many_35 : decode cX11_many 35 = .ok (.getfield 38, 3) := by decide +kernel
theorem dX11_many_38 : decode cX11_many 38 = .ok (.getfield 205, 3) := by decide +kernel
theorem dX11_many_41 : decode cX11_many 41 = .ok (.i2l, 1) := by decide +kernel
theorem dX11_many_42 : decode cX11_many 42 = .ok (.putfield 87, 3) := by decide +kernel
theorem dX11_many_45 : decode cX11_many 45 = .ok (.iconst 1, 1) := by decide +kernel
theorem dX11_many_46 : decode cX11_many 46 = .ok (.ireturn, 1) := by decide +kernel
theorem dX11_bound_0 : decode cX11_bound 0 = .ok (.aload_n 0, 1) := by decide +kernel
theorem dX11_bound_1 : decode cX11_bound 1 = .ok (.getfield 10, 3) := by decide +kernel
theorem dX11_bound_4 : decode cX11_bound 4 = .ok (.iload_n 1, 1) := by decide +kernel
theorem dX11_bound_5 : decode cX11_bound 5 = .ok (.iload_n 2, 1) := by decide +kernel
theorem dX11_bound_6 : decode cX11_bound 6 = .ok (.invokevirtual 105, 3) := by decide +kernel
theorem dX11_bound_9 : decode cX11_bound 9 = .ok (.ifCond .eq 11, 3) := by decide +kernel
theorem dX11_bound_12 : decode cX11_bound 12 = .ok (.iload 4, 2) := by decide +kernel
theorem dX11_bound_14 : decode cX11_bound 14 = .ok (.invokestatic 197, 3) := by decide +kernel
theorem dX11_bound_17 : decode cX11_bound 17 = .ok (.ifCond .ne 5, 3) := by decide +kernel
theorem dX11_bound_20 : decode cX11_bound 20 = .ok (.iconst (-1), 1) := by decide +kernel
theorem dX11_bound_21 : decode cX11_bound 21 = .ok (.ireturn, 1) := by decide +kernel
theorem dX11_bound_22 : decode cX11_bound 22 = .ok (.aload_n 0, 1) := by decide +kernel
theorem dX11_bound_23 : decode cX11_bound 23 = .ok (.getfield 45, 3) := by decide +kernel
theorem dX11_bound_26 : decode cX11_bound 26 = .ok (.invokevirtual 217, 3) := by decide +kernel
theorem dX11_bound_29 : decode cX11_bound 29 = .ok (.aload_n 0, 1) := by decide +kernel
theorem dX11_bound_30 : decode cX11_bound 30 = .ok (.aload_n 0, 1) := by decide +kernel
theorem dX11_bound_31 : decode cX11_bound 31 = .ok (.getfield 45, 3) := by decide +kernel
theorem dX11_bound_34 : decode cX11_bound 34 = .ok (.iload 4, 2) := by decide +kernel
theorem dX11_bound_36 : decode cX11_bound 36 = .ok (.invokevirtual 201, 3) := by decide +kernel
theorem dX11_bound_39 : decode cX11_bound 39 = .ok (.ifCond .ne 6, 3) := by decide +kernel
theorem dX11_bound_42 : decode cX11_bound 42 = .ok (.bipush (-6), 2) := by decide +kernel
theorem dX11_bound_44 : decode cX11_bound 44 = .ok (.ireturn, 1) := by decide +kernel
theorem dX11_bound_45 : decode cX11_bound 45 = .ok (.aload_n 0, 1) := by decide +kernel
theorem dX11_bound_46 : decode cX11_bound 46 = .ok (.getfield 45, 3) := by decide +kernel
theorem dX11_bound_49 : decode cX11_bound 49 = .ok (.getfield 219, 3) := by decide +kernel
theorem dX11_bound_52 : decode cX11_bound 52 = .ok (.ifCond .ne 6, 3) := by decide +kernel
theorem dX11_bound_55 : decode cX11_bound 55 = .ok (.bipush (-9), 2) := by decide +kernel
theorem dX11_bound_57 : decode cX11_bound 57 = .ok (.ireturn, 1) := by decide +kernel
theorem dX11_bound_58 : decode cX11_bound 58 = .ok (.aload_n 0, 1) := by decide +kernel
theorem dX11_bound_59 : decode cX11_bound 59 = .ok (.getfield 10, 3) := by decide +kernel
theorem dX11_bound_62 : decode cX11_bound 62 = .ok (.iload_n 1, 1) := by decide +kernel
theorem dX11_bound_63 : decode cX11_bound 63 = .ok (.iload_n 2, 1) := by decide +kernel
theorem dX11_bound_64 : decode cX11_bound 64 = .ok (.invokevirtual 182, 3) := by decide +kernel
theorem dX11_bound_67 : decode cX11_bound 67 = .ok (.istore 5, 2) := by decide +kernel
theorem dX11_bound_69 : decode cX11_bound 69 = .ok (.iload_n 3, 1) := by decide +kernel
theorem dX11_bound_70 : decode cX11_bound 70 = .ok (.ifCond .eq 16, 3) := by decide +kernel
theorem dX11_bound_73 : decode cX11_bound 73 = .ok (.aload_n 0, 1) := by decide +kernel
theorem dX11_bound_74 : decode cX11_bound 74 = .ok (.getfield 45, 3) := by decide +kernel
theorem dX11_bound_77 : decode cX11_bound 77 = .ok (.getfield 222, 3) := by decide +kernel
theorem dX11_bound_80 : decode cX11_bound 80 = .ok (.iload 5, 2) := by decide +kernel
theorem dX11_bound_82 : decode cX11_bound 82 = .ok (.iaload, 1) := by decide +kernel
theorem dX11_bound_83 : decode cX11_bound 83 = .ok (.goto 13, 3) := by decide +kernel
theorem dX11_bound_86 : decode cX11_bound 86 = .ok (.aload_n 0, 1) := by decide +kernel
theorem dX11_bound_87 : decode cX11_bound 87 = .ok (.getfield 45, 3) := by decide +kernel
theorem dX11_bound_90 : decode cX11_bound 90 = .ok (.getfield 224, 3) := by decide +kernel
theorem dX11_bound_93 : decode cX11_bound 93 = .ok (.iload 5, 2) := by decide +kernel
theorem dX11_bound_95 : decode cX11_bound 95 = .ok (.iaload, 1) := by decide +kernel
theorem dX11_bound_96 : decode cX11_bound 96 = .ok (.ireturn, 1) := by decide +kernel
theorem dX11_sure_0 : decode cX11_sure 0 = .ok (.iload_n 1, 1) := by decide +kernel
theorem dX11_sure_1 : decode cX11_sure 1 = .ok (.invokestatic 197, 3) := by decide +kernel
theorem dX11_sure_4 : decode cX11_sure 4 = .ok (.ifCond .ne 5, 3) := by decide +kernel
theorem dX11_sure_7 : decode cX11_sure 7 = .ok (.iconst (-1), 1) := by decide +kernel
theorem dX11_sure_8 : decode cX11_sure 8 = .ok (.ireturn, 1) := by decide +kernel
theorem dX11_sure_9 : decode cX11_sure 9 = .ok (.aload_n 0, 1) := by decide +kernel
theorem dX11_sure_10 : decode cX11_sure 10 = .ok (.getfield 45, 3) := by decide +kernel
theorem dX11_sure_13 : decode cX11_sure 13 = .ok (.invokevirtual 217, 3) := by decide +kernel
theorem dX11_sure_16 : decode cX11_sure 16 = .ok (.aload_n 0, 1) := by decide +kernel
theorem dX11_sure_17 : decode cX11_sure 17 = .ok (.aload_n 0, 1) := by decide +kernel
theorem dX11_sure_18 : decode cX11_sure 18 = .ok (.getfield 45, 3) := by decide +kernel
theorem dX11_sure_21 : decode cX11_sure 21 = .ok (.iload_n 1, 1) := by decide +kernel
theorem dX11_sure_22 : decode cX11_sure 22 = .ok (.invokevirtual 201, 3) := by decide +kernel
theorem dX11_sure_25 : decode cX11_sure 25 = .ok (.ifCond .ne 6, 3) := by decide +kernel
theorem dX11_sure_28 : decode cX11_sure 28 = .ok (.bipush (-6), 2) := by decide +kernel
theorem dX11_sure_30 : decode cX11_sure 30 = .ok (.ireturn, 1) := by decide +kernel
theorem dX11_sure_31 : decode cX11_sure 31 = .ok (.aload_n 0, 1) := by decide +kernel
theorem dX11_sure_32 : decode cX11_sure 32 = .ok (.getfield 45, 3) := by decide +kernel
theorem dX11_sure_35 : decode cX11_sure 35 = .ok (.getfield 219, 3) := by decide +kernel
theorem dX11_sure_38 : decode cX11_sure 38 = .ok (.ifCond .eq 10, 3) := by decide +kernel
theorem dX11_sure_41 : decode cX11_sure 41 = .ok (.aload_n 0, 1) := by decide +kernel
theorem dX11_sure_42 : decode cX11_sure 42 = .ok (.invokevirtual 227, 3) := by decide +kernel
theorem dX11_sure_45 : decode cX11_sure 45 = .ok (.goto 5, 3) := by decide +kernel
theorem dX11_sure_48 : decode cX11_sure 48 = .ok (.bipush (-9), 2) := by decide +kernel
theorem dX11_sure_50 : decode cX11_sure 50 = .ok (.ireturn, 1) := by decide +kernel
theorem dX11_tries_0 : decode cX11_tries 0 = .ok (.aload_n 0, 1) := by decide +kernel
theorem dX11_tries_1 : decode cX11_tries 1 = .ok (.getfield 83, 3) := by decide +kernel
theorem dX11_tries_4 : decode cX11_tries 4 = .ok (.ireturn, 1) := by decide +kernel
theorem dX11_guess_0 : decode cX11_guess 0 = .ok (.aload_n 0, 1) := by decide +kernel
theorem dX11_guess_1 : decode cX11_guess 1 = .ok (.getfield 10, 3) := by decide +kernel
theorem dX11_guess_4 : decode cX11_guess 4 = .ok (.iload_n 1, 1) := by decide +kernel
theorem dX11_guess_5 : decode cX11_guess 5 = .ok (.iload_n 2, 1) := by decide +kernel
theorem dX11_guess_6 : decode cX11_guess 6 = .ok (.invokevirtual 105, 3) := by decide +kernel
theorem dX11_guess_9 : decode cX11_guess 9 = .ok (.ifCond .ne 5, 3) := by decide +kernel
theorem dX11_guess_12 : decode cX11_guess 12 = .ok (.iconst (-1), 1) := by decide +kernel
theorem dX11_guess_13 : decode cX11_guess 13 = .ok (.ireturn, 1) := by decide +kernel
theorem dX11_guess_14 : decode cX11_guess 14 = .ok (.aload_n 0, 1) := by decide +kernel
theorem dX11_guess_15 : decode cX11_guess 15 = .ok (.getfield 10, 3) := by decide +kernel
theorem dX11_guess_18 : decode cX11_guess 18 = .ok (.invokevirtual 230, 3) := by decide +kernel
theorem dX11_guess_21 : decode cX11_guess 21 = .ok (.istore_n 3, 1) := by decide +kernel
theorem dX11_guess_22 : decode cX11_guess 22 = .ok (.iload_n 3, 1) := by decide +kernel
theorem dX11_guess_23 : decode cX11_guess 23 = .ok (.ifCond .ne 9, 3) := by decide +kernel
theorem dX11_guess_26 : decode cX11_guess 26 = .ok (.aload_n 0, 1) := by decide +kernel
theorem dX11_guess_27 : decode cX11_guess 27 = .ok (.iconst 4, 1) := by decide +kernel
theorem dX11_guess_28 : decode cX11_guess 28 = .ok (.invokevirtual 147, 3) := by decide +kernel
theorem dX11_guess_31 : decode cX11_guess 31 = .ok (.ireturn, 1) := by decide +kernel
theorem dX11_guess_32 : decode cX11_guess 32 = .ok (.aload_n 0, 1) := by decide +kernel
theorem dX11_guess_33 : decode cX11_guess 33 = .ok (.getfield 10, 3) := by decide +kernel
theorem dX11_guess_36 : decode cX11_guess 36 = .ok (.iload_n 1, 1) := by decide +kernel
theorem dX11_guess_37 : decode cX11_guess 37 = .ok (.invokevirtual 233, 3) := by decide +kernel
theorem dX11_guess_40 : decode cX11_guess 40 = .ok (.aload_n 0, 1) := by decide +kernel
theorem dX11_guess_41 : decode cX11_guess 41 = .ok (.getfield 10, 3) := by decide +kernel
theorem dX11_guess_44 : decode cX11_guess 44 = .ok (.iload_n 2, 1) := by decide +kernel
theorem dX11_guess_45 : decode cX11_guess 45 = .ok (.invokevirtual 236, 3) := by decide +kernel
theorem dX11_guess_48 : decode cX11_guess 48 = .ok (.imul, 1) := by decide +kernel
theorem dX11_guess_49 : decode cX11_guess 49 = .ok (.iload_n 3, 1) := by decide +kernel
theorem dX11_guess_50 : decode cX11_guess 50 = .ok (.idiv, 1) := by decide +kernel
theorem dX11_guess_51 : decode cX11_guess 51 = .ok (.ireturn, 1) := by decide +kernel
theorem dX11_base_0 : decode cX11_base 0 = .ok (.aload_n 0, 1) := by decide +kernel
theorem dX11_base_1 : decode cX11_base 1 = .ok (.getfield 10, 3) := by decide +kernel
theorem dX11_base_4 : decode cX11_base 4 = .ok (.iload_n 1, 1) := by decide +kernel
theorem dX11_base_5 : decode cX11_base 5 = .ok (.iload_n 2, 1) := by decide +kernel
theorem dX11_base_6 : decode cX11_base 6 = .ok (.invokevirtual 105, 3) := by decide +kernel
theorem dX11_base_9 : decode cX11_base 9 = .ok (.ifCond .eq 14, 3) := by decide +kernel
theorem dX11_base_12 : decode cX11_base 12 = .ok (.iload_n 3, 1) := by decide +kernel
theorem dX11_base_13 : decode cX11_base 13 = .ok (.ifCond .lt 10, 3) := by decide +kernel
theorem dX11_base_16 : decode cX11_base 16 = .ok (.iload_n 3, 1) := by decide +kernel
theorem dX11_base_17 : decode cX11_base 17 = .ok (.sipush 200, 3) := by decide +kernel
theorem dX11_base_20 : decode cX11_base 20 = .ok (.if_icmp .le 5, 3) := by decide +kernel
theorem dX11_base_23 : decode cX11_base 23 = .ok (.iconst (-1), 1) := by decide +kernel
theorem dX11_base_24 : decode cX11_base 24 = .ok (.ireturn, 1) := by decide +kernel
theorem dX11_base_25 : decode cX11_base 25 = .ok (.aload_n 0, 1) := by decide +kernel
theorem dX11_base_26 : decode cX11_base 26 = .ok (.getfield 10, 3) := by decide +kernel
theorem dX11_base_29 : decode cX11_base 29 = .ok (.iload_n 1, 1) := by decide +kernel
theorem dX11_base_30 : decode cX11_base 30 = .ok (.iload_n 2, 1) := by decide +kernel
theorem dX11_base_31 : decode cX11_base 31 = .ok (.invokevirtual 182, 3) := by decide +kernel
theorem dX11_base_34 : decode cX11_base 34 = .ok (.istore 4, 2) := by decide +kernel
theorem dX11_base_36 : decode cX11_base 36 = .ok (.aload_n 0, 1) := by decide +kernel
theorem dX11_base_37 : decode cX11_base 37 = .ok (.getfield 10, 3) := by decide +kernel
theorem dX11_base_40 : decode cX11_base 40 = .ok (.getfield 51, 3) := by decide +kernel
theorem dX11_base_43 : decode cX11_base 43 = .ok (.iload 4, 2) := by decide +kernel
theorem dX11_base_45 : decode cX11_base 45 = .ok (.iaload, 1) := by decide +kernel
theorem dX11_base_46 : decode cX11_base 46 = .ok (.istore 5, 2) := by decide +kernel
theorem dX11_base_48 : decode cX11_base 48 = .ok (.aload_n 0, 1) := by decide +kernel
theorem dX11_base_49 : decode cX11_base 49 = .ok (.getfield 10, 3) := by decide +kernel
theorem dX11_base_52 : decode cX11_base 52 = .ok (.getfield 51, 3) := by decide +kernel
theorem dX11_base_55 : decode cX11_base 55 = .ok (.iload 4, 2) := by decide +kernel
theorem dX11_base_57 : decode cX11_base 57 = .ok (.iload_n 3, 1) := by decide +kernel
theorem dX11_base_58 : decode cX11_base 58 = .ok (.iastore, 1) := by decide +kernel
theorem dX11_base_59 : decode cX11_base 59 = .ok (.iload 5, 2) := by decide +kernel
theorem dX11_base_61 : decode cX11_base 61 = .ok (.ireturn, 1) := by decide +kernel
theorem dX11_changed_0 : decode cX11_changed 0 = .ok (.iload_n 1, 1) := by decide +kernel
theorem dX11_changed_1 : decode cX11_changed 1 = .ok (.invokestatic 197, 3) := by decide +kernel
theorem dX11_changed_4 : decode cX11_changed 4 = .ok (.ifCond .ne 5, 3) := by decide +kernel
theorem dX11_changed_7 : decode cX11_changed 7 = .ok (.iconst (-1), 1) := by decide +kernel
theorem dX11_changed_8 : decode cX11_changed 8 = .ok (.ireturn, 1) := by decide +kernel
theorem dX11_changed_9 : decode cX11_changed 9 = .ok (.aload_n 0, 1) := by decide +kernel
theorem dX11_changed_10 : decode cX11_changed 10 = .ok (.getfield 58, 3) := by decide +kernel
theorem dX11_changed_13 : decode cX11_changed 13 = .ok (.invokevirtual 239, 3) := by decide +kernel
theorem dX11_changed_16 : decode cX11_changed 16 = .ok (.aload_n 0, 1) := by decide +kernel
theorem dX11_changed_17 : decode cX11_changed 17 = .ok (.aload_n 0, 1) := by decide +kernel
theorem dX11_changed_18 : decode cX11_changed 18 = .ok (.getfield 58, 3) := by decide +kernel
theorem dX11_changed_21 : decode cX11_changed 21 = .ok (.iload_n 1, 1) := by decide +kernel
theorem dX11_changed_22 : decode cX11_changed 22 = .ok (.invokevirtual 240, 3) := by decide +kernel
theorem dX11_changed_25 : decode cX11_changed 25 = .ok (.ifCond .ne 6, 3) := by decide +kernel
theorem dX11_changed_28 : decode cX11_changed 28 = .ok (.bipush (-6), 2) := by decide +kernel
theorem dX11_changed_30 : decode cX11_changed 30 = .ok (.ireturn, 1) := by decide +kernel
theorem dX11_changed_31 : decode cX11_changed 31 = .ok (.aload_n 0, 1) := by decide +kernel
theorem dX11_changed_32 : decode cX11_changed 32 = .ok (.getfield 58, 3) := by decide +kernel
theorem dX11_changed_35 : decode cX11_changed 35 = .ok (.getfield 244, 3) := by decide +kernel
theorem dX11_changed_38 : decode cX11_changed 38 = .ok (.ifCond .eq 13, 3) := by decide +kernel
theorem dX11_changed_41 : decode cX11_changed 41 = .ok (.aload_n 0, 1) := by decide +kernel
theorem dX11_changed_42 : decode cX11_changed 42 = .ok (.getfield 58, 3) := by decide +kernel
theorem dX11_changed_45 : decode cX11_changed 45 = .ok (.getfield 245, 3) := by decide +kernel
theorem dX11_changed_48 : decode cX11_changed 48 = .ok (.goto 5, 3) := by decide +kernel
theorem dX11_changed_51 : decode cX11_changed 51 = .ok (.bipush (-9), 2) := by decide +kernel
theorem dX11_changed_53 : decode cX11_changed 53 = .ok (.ireturn, 1) := by decide +kernel
theorem dX11_worst_0 : decode cX11_worst 0 = .ok (.aload_n 0, 1) := by decide +kernel
theorem dX11_worst_1 : decode cX11_worst 1 = .ok (.getfield 10, 3) := by decide +kernel
theorem dX11_worst_4 : decode cX11_worst 4 = .ok (.iload_n 1, 1) := by decide +kernel
theorem dX11_worst_5 : decode cX11_worst 5 = .ok (.invokevirtual 116, 3) := by decide +kernel
theorem dX11_worst_8 : decode cX11_worst 8 = .ok (.ifCond .eq 26, 3) := by decide +kernel
theorem dX11_worst_11 : decode cX11_worst 11 = .ok (.aload_n 0, 1) := by decide +kernel
theorem dX11_worst_12 : decode cX11_worst 12 = .ok (.getfield 10, 3) := by decide +kernel
theorem dX11_worst_15 : decode cX11_worst 15 = .ok (.iload_n 2, 1) := by decide +kernel
theorem dX11_worst_16 : decode cX11_worst 16 = .ok (.invokevirtual 116, 3) := by decide +kernel
theorem dX11_worst_19 : decode cX11_worst 19 = .ok (.ifCond .eq 15, 3) := by decide +kernel
theorem dX11_worst_22 : decode cX11_worst 22 = .ok (.iload_n 1, 1) := by decide +kernel
theorem dX11_worst_23 : decode cX11_worst 23 = .ok (.iload_n 2, 1) := by decide +kernel
theorem dX11_worst_24 : decode cX11_worst 24 = .ok (.if_icmp .eq 10, 3) := by decide +kernel
theorem dX11_worst_27 : decode cX11_worst 27 = .ok (.iload_n 3, 1) := by decide +kernel
theorem dX11_worst_28 : decode cX11_worst 28 = .ok (.invokestatic 197, 3) := by decide +kernel
theorem dX11_worst_31 : decode cX11_worst 31 = .ok (.ifCond .ne 5, 3) := by decide +kernel
theorem dX11_worst_34 : decode cX11_worst 34 = .ok (.iconst (-1), 1) := by decide +kernel
theorem dX11_worst_35 : decode cX11_worst 35 = .ok (.ireturn, 1) := by decide +kernel
theorem dX11_worst_36 : decode cX11_worst 36 = .ok (.aload_n 0, 1) := by decide +kernel
theorem dX11_worst_37 : decode cX11_worst 37 = .ok (.getfield 10, 3) := by decide +kernel
theorem dX11_worst_40 : decode cX11_worst 40 = .ok (.getfield 120, 3) := by decide +kernel
theorem dX11_worst_43 : decode cX11_worst 43 = .ok (.iload_n 1, 1) := by decide +kernel
theorem dX11_worst_44 : decode cX11_worst 44 = .ok (.aaload, 1) := by decide +kernel
theorem dX11_worst_45 : decode cX11_worst 45 = .ok (.getfield 135, 3) := by decide +kernel
theorem dX11_worst_48 : decode cX11_worst 48 = .ok (.ifCond .ne 18, 3) := by decide +kernel
theorem dX11_worst_51 : decode cX11_worst 51 = .ok (.aload_n 0, 1) := by decide +kernel
theorem dX11_worst_52 : decode cX11_worst 52 = .ok (.getfield 10, 3) := by decide +kernel
theorem dX11_worst_55 : decode cX11_worst 55 = .ok (.getfield 120, 3) := by decide +kernel
theorem dX11_worst_58 : decode cX11_worst 58 = .ok (.iload_n 2, 1) := by decide +kernel
theorem dX11_worst_59 : decode cX11_worst 59 = .ok (.aaload, 1) := by decide +kernel
theorem dX11_worst_60 : decode cX11_worst 60 = .ok (.getfield 135, 3) := by decide +kernel
theorem dX11_worst_63 : decode cX11_worst 63 = .ok (.ifCond .eq 6, 3) := by decide +kernel
theorem dX11_worst_66 : decode cX11_worst 66 = .ok (.bipush (-4), 2) := by decide +kernel
theorem dX11_worst_68 : decode cX11_worst 68 = .ok (.ireturn, 1) := by decide +kernel
theorem dX11_worst_69 : decode cX11_worst 69 = .ok (.aload_n 0, 1) := by decide +kernel
theorem dX11_worst_70 : decode cX11_worst 70 = .ok (.getfield 23, 3) := by decide +kernel
theorem dX11_worst_73 : decode cX11_worst 73 = .ok (.aload_n 0, 1) := by decide +kernel
theorem dX11_worst_74 : decode cX11_worst 74 = .ok (.getfield 10, 3) := by decide +kernel
theorem dX11_worst_77 : decode cX11_worst 77 = .ok (.iload_n 2, 1) := by decide +kernel
theorem dX11_worst_78 : decode cX11_worst 78 = .ok (.invokevirtual 97, 3) := by decide +kernel
theorem dX11_worst_81 : decode cX11_worst 81 = .ok (.aload_n 0, 1) := by decide +kernel
theorem dX11_worst_82 : decode cX11_worst 82 = .ok (.getfield 65, 3) := by decide +kernel
theorem dX11_worst_85 : decode cX11_worst 85 = .ok (.iload_n 1, 1) := by decide +kernel
theorem dX11_worst_86 : decode cX11_worst 86 = .ok (.aload_n 0, 1) := by decide +kernel
theorem dX11_worst_87 : decode cX11_worst 87 = .ok (.getfield 23, 3) := by decide +kernel
theorem dX11_worst_90 : decode cX11_worst 90 = .ok (.invokevirtual 248, 3) := by decide +kernel
theorem dX11_worst_93 : decode cX11_worst 93 = .ok (.aload_n 0, 1) := by decide +kernel
theorem dX11_worst_94 : decode cX11_worst 94 = .ok (.aload_n 0, 1) := by decide +kernel
theorem dX11_worst_95 : decode cX11_worst 95 = .ok (.getfield 65, 3) := by decide +kernel
theorem dX11_worst_98 : decode cX11_worst 98 = .ok (.iload_n 3, 1) := by decide +kernel
theorem dX11_worst_99 : decode cX11_worst 99 = .ok (.invokevirtual 240, 3) := by decide +kernel
theorem dX11_worst_102 : decode cX11_worst 102 = .ok (.ifCond .ne 6, 3) := by decide +kernel
theorem dX11_worst_105 : decode cX11_worst 105 = .ok (.bipush (-6), 2) := by decide +kernel
theorem dX11_worst_107 : decode cX11_worst 107 = .ok (.ireturn, 1) := by decide +kernel
theorem dX11_worst_108 : decode cX11_worst 108 = .ok (.aload_n 0, 1) := by decide +kernel
theorem dX11_worst_109 : decode cX11_worst 109 = .ok (.getfield 65, 3) := by decide +kernel
theorem dX11_worst_112 : decode cX11_worst 112 = .ok (.getfield 252, 3) := by decide +kernel
theorem dX11_worst_115 : decode cX11_worst 115 = .ok (.ifCond .eq 14, 3) := by decide +kernel
theorem dX11_worst_118 : decode cX11_worst 118 = .ok (.aload_n 0, 1) := by decide +kernel
theorem dX11_worst_119 : decode cX11_worst 119 = .ok (.getfield 65, 3) := by decide +kernel
theorem dX11_worst_122 : decode cX11_worst 122 = .ok (.getfield 253, 3) := by decide +kernel
theorem dX11_worst_125 : decode cX11_worst 125 = .ok (.ineg, 1) := by decide +kernel
theorem dX11_worst_126 : decode cX11_worst 126 = .ok (.goto 5, 3) := by decide +kernel
theorem dX11_worst_129 : decode cX11_worst 129 = .ok (.bipush (-9), 2) := by decide +kernel
theorem dX11_worst_131 : decode cX11_worst 131 = .ok (.ireturn, 1) := by decide +kernel
theorem dX11_meters_0 : decode cX11_meters 0 = .ok (.iload_n 1, 1) := by decide +kernel
theorem dX11_meters_1 : decode cX11_meters 1 = .ok (.invokestatic 197, 3) := by decide +kernel
theorem dX11_meters_4 : decode cX11_meters 4 = .ok (.ifCond .ne 5, 3) := by decide +kernel
theorem dX11_meters_7 : decode cX11_meters 7 = .ok (.iconst (-1), 1) := by decide +kernel
theorem dX11_meters_8 : decode cX11_meters 8 = .ok (.ireturn, 1) := by decide +kernel
theorem dX11_meters_9 : decode cX11_meters 9 = .ok (.aload_n 0, 1) := by decide +kernel
theorem dX11_meters_10 : decode cX11_meters 10 = .ok (.getfield 38, 3) := by decide +kernel
theorem dX11_meters_13 : decode cX11_meters 13 = .ok (.iconst 1, 1) := by decide +kernel
theorem dX11_meters_14 : decode cX11_meters 14 = .ok (.invokevirtual 200, 3) := by decide +kernel
theorem dX11_meters_17 : decode cX11_meters 17 = .ok (.aload_n 0, 1) := by decide +kernel
theorem dX11_meters_18 : decode cX11_meters 18 = .ok (.aload_n 0, 1) := by decide +kernel
theorem dX11_meters_19 : decode cX11_meters 19 = .ok (.getfield 38, 3) := by decide +kernel
theorem dX11_meters_22 : decode cX11_meters 22 = .ok (.iload_n 1, 1) := by decide +kernel
theorem dX11_meters_23 : decode cX11_meters 23 = .ok (.invokevirtual 201, 3) := by decide +kernel
theorem dX11_meters_26 : decode cX11_meters 26 = .ok (.ifCond .ne 6, 3) := by decide +kernel
theorem dX11_meters_29 : decode cX11_meters 29 = .ok (.bipush (-6), 2) := by decide +kernel
theorem dX11_meters_31 : decode cX11_meters 31 = .ok (.ireturn, 1) := by decide +kernel
theorem dX11_meters_32 : decode cX11_meters 32 = .ok (.aload_n 0, 1) := by decide +kernel
theorem dX11_meters_33 : decode cX11_meters 33 = .ok (.getfield 38, 3) := by decide +kernel
theorem dX11_meters_36 : decode cX11_meters 36 = .ok (.getfield 205, 3) := by decide +kernel
theorem dX11_meters_39 : decode cX11_meters 39 = .ok (.ifCond .ne 6, 3) := by decide +kernel
theorem dX11_meters_42 : decode cX11_meters 42 = .ok (.bipush (-9), 2) := by decide +kernel
theorem dX11_meters_44 : decode cX11_meters 44 = .ok (.ireturn, 1) := by decide +kernel
theorem dX11_meters_45 : decode cX11_meters 45 = .ok (.aload_n 0, 1) := by decide +kernel
theorem dX11_meters_46 : decode cX11_meters 46 = .ok (.getfield 31, 3) := by decide +kernel
theorem dX11_meters_49 : decode cX11_meters 49 = .ok (.aload_n 0, 1) := by decide +kernel
theorem dX11_meters_50 : decode cX11_meters 50 = .ok (.getfield 38, 3) := by decide +kernel
theorem dX11_meters_53 : decode cX11_meters 53 = .ok (.invokevirtual 254, 3) := by decide +kernel
theorem dX11_meters_56 : decode cX11_meters 56 = .ok (.lstore_n 2, 1) := by decide +kernel
theorem dX11_meters_57 : decode cX11_meters 57 = .ok (.aload_n 0, 1) := by decide +kernel
theorem dX11_meters_58 : decode cX11_meters 58 = .ok (.aload_n 0, 1) := by decide +kernel
theorem dX11_meters_59 : decode cX11_meters 59 = .ok (.getfield 31, 3) := by decide +kernel
theorem dX11_meters_62 : decode cX11_meters 62 = .ok (.getfield 258, 3) := by decide +kernel
theorem dX11_meters_65 : decode cX11_meters 65 = .ok (.putfield 83, 3) := by decide +kernel
theorem dX11_meters_68 : decode cX11_meters 68 = .ok (.aload_n 0, 1) := by decide +kernel
theorem dX11_meters_69 : decode cX11_meters 69 = .ok (.getfield 31, 3) := by decide +kernel
theorem dX11_meters_72 : decode cX11_meters 72 = .ok (.getfield 261, 3) := by decide +kernel
theorem dX11_meters_75 : decode cX11_meters 75 = .ok (.ifCond .eq 6, 3) := by decide +kernel
theorem dX11_meters_78 : decode cX11_meters 78 = .ok (.bipush (-6), 2) := by decide +kernel
theorem dX11_meters_80 : decode cX11_meters 80 = .ok (.ireturn, 1) := by decide +kernel
theorem dX11_meters_81 : decode cX11_meters 81 = .ok (.aload_n 0, 1) := by decide +kernel
theorem dX11_meters_82 : decode cX11_meters 82 = .ok (.lload_n 2, 1) := by decide +kernel
theorem dX11_meters_83 : decode cX11_meters 83 = .ok (.putfield 87, 3) := by decide +kernel
theorem dX11_meters_86 : decode cX11_meters 86 = .ok (.lload_n 2, 1) := by decide +kernel
theorem dX11_meters_87 : decode cX11_meters 87 = .ok (.invokestatic 264, 3) := by decide +kernel
theorem dX11_meters_90 : decode cX11_meters 90 = .ok (.ireturn, 1) := by decide +kernel
theorem dX11_sheet_0 : decode cX11_sheet 0 = .ok (.iload_n 1, 1) := by decide +kernel
theorem dX11_sheet_1 : decode cX11_sheet 1 = .ok (.invokestatic 270, 3) := by decide +kernel
theorem dX11_sheet_4 : decode cX11_sheet 4 = .ok (.ifCond .eq 9, 3) := by decide +kernel
theorem dX11_sheet_7 : decode cX11_sheet 7 = .ok (.iload_n 2, 1) := by decide +kernel
theorem dX11_sheet_8 : decode cX11_sheet 8 = .ok (.bipush 24, 2) := by decide +kernel
theorem dX11_sheet_10 : decode cX11_sheet 10 = .ok (.if_icmp .le 5, 3) := by decide +kernel
theorem dX11_sheet_13 : decode cX11_sheet 13 = .ok (.iconst (-1), 1) := by decide +kernel
theorem dX11_sheet_14 : decode cX11_sheet 14 = .ok (.ireturn, 1) := by decide +kernel
theorem dX11_sheet_15 : decode cX11_sheet 15 = .ok (.iload_n 2, 1) := by decide +kernel
theorem dX11_sheet_16 : decode cX11_sheet 16 = .ok (.ifCond .ge 9, 3) := by decide +kernel
theorem dX11_sheet_19 : decode cX11_sheet 19 = .ok (.aload_n 0, 1) := by decide +kernel
theorem dX11_sheet_20 : decode cX11_sheet 20 = .ok (.iconst 5, 1) := by decide +kernel
theorem dX11_sheet_21 : decode cX11_sheet 21 = .ok (.invokevirtual 147, 3) := by decide +kernel
theorem dX11_sheet_24 : decode cX11_sheet 24 = .ok (.ireturn, 1) := by decide +kernel
theorem dX11_sheet_25 : decode cX11_sheet 25 = .ok (.aload_n 0, 1) := by decide +kernel
theorem dX11_sheet_26 : decode cX11_sheet 26 = .ok (.getfield 72, 3) := by decide +kernel
theorem dX11_sheet_29 : decode cX11_sheet 29 = .ok (.iload_n 1, 1) := by decide +kernel
theorem dX11_sheet_30 : decode cX11_sheet 30 = .ok (.iload_n 2, 1) := by decide +kernel
theorem dX11_sheet_31 : decode cX11_sheet 31 = .ok (.invokevirtual 273, 3) := by decide +kernel
theorem dX11_sheet_34 : decode cX11_sheet 34 = .ok (.iload_n 2, 1) := by decide +kernel
theorem dX11_sheet_35 : decode cX11_sheet 35 = .ok (.ireturn, 1) := by decide +kernel
theorem dX11_lay_0 : decode cX11_lay 0 = .ok (.iload_n 1, 1) := by decide +kernel
theorem dX11_lay_1 : decode cX11_lay 1 = .ok (.invokestatic 270, 3) := by decide +kernel
theorem dX11_lay_4 : decode cX11_lay 4 = .ok (.ifCond .ne 5, 3) := by decide +kernel
theorem dX11_lay_7 : decode cX11_lay 7 = .ok (.iconst (-1), 1) := by decide +kernel
theorem dX11_lay_8 : decode cX11_lay 8 = .ok (.ireturn, 1) := by decide +kernel
theorem dX11_lay_9 : decode cX11_lay 9 = .ok (.aload_n 0, 1) := by decide +kernel
theorem dX11_lay_10 : decode cX11_lay 10 = .ok (.getfield 72, 3) := by decide +kernel
theorem dX11_lay_13 : decode cX11_lay 13 = .ok (.getfield 276, 3) := by decide +kernel
theorem dX11_lay_16 : decode cX11_lay 16 = .ok (.iload_n 1, 1) := by decide +kernel
theorem dX11_lay_17 : decode cX11_lay 17 = .ok (.iaload, 1) := by decide +kernel
theorem dX11_lay_18 : decode cX11_lay 18 = .ok (.iconst (-1), 1) := by decide +kernel
theorem dX11_lay_19 : decode cX11_lay 19 = .ok (.if_icmp .ne 9, 3) := by decide +kernel
theorem dX11_lay_22 : decode cX11_lay 22 = .ok (.aload_n 0, 1) := by decide +kernel
theorem dX11_lay_23 : decode cX11_lay 23 = .ok (.iconst 1, 1) := by decide +kernel
theorem dX11_lay_24 : decode cX11_lay 24 = .ok (.invokevirtual 147, 3) := by decide +kernel
theorem dX11_lay_27 : decode cX11_lay 27 = .ok (.ireturn, 1) := by decide +kernel
theorem dX11_lay_28 : decode cX11_lay 28 = .ok (.iload_n 2, 1) := by decide +kernel
theorem dX11_lay_29 : decode cX11_lay 29 = .ok (.ifCond .lt 16, 3) := by decide +kernel
theorem dX11_lay_32 : decode cX11_lay 32 = .ok (.iload_n 2, 1) := by decide +kernel
theorem dX11_lay_33 : decode cX11_lay 33 = .ok (.aload_n 0, 1) := by decide +kernel
theorem dX11_lay_34 : decode cX11_lay 34 = .ok (.getfield 72, 3) := by decide +kernel
theorem dX11_lay_37 : decode cX11_lay 37 = .ok (.getfield 276, 3) := by decide +kernel
theorem dX11_lay_40 : decode cX11_lay 40 = .ok (.iload_n 1, 1) := by decide +kernel
theorem dX11_lay_41 : decode cX11_lay 41 = .ok (.iaload, 1) := by decide +kernel
theorem dX11_lay_42 : decode cX11_lay 42 = .ok (.if_icmp .lt 9, 3) := by decide +kernel
theorem dX11_lay_45 : decode cX11_lay 45 = .ok (.aload_n 0, 1) := by decide +kernel
theorem dX11_lay_46 : decode cX11_lay 46 = .ok (.iconst 2, 1) := by decide +kernel
theorem dX11_lay_47 : decode cX11_lay 47 = .ok (.invokevirtual 147, 3) := by decide +kernel
theorem dX11_lay_50 : decode cX11_lay 50 = .ok (.ireturn, 1) := by decide +kernel
theorem dX11_lay_51 : decode cX11_lay 51 = .ok (.aload_n 0, 1) := by decide +kernel
theorem dX11_lay_52 : decode cX11_lay 52 = .ok (.getfield 72, 3) := by decide +kernel
theorem dX11_lay_55 : decode cX11_lay 55 = .ok (.getfield 279, 3) := by decide +kernel
theorem dX11_lay_58 : decode cX11_lay 58 = .ok (.iload_n 1, 1) := by decide +kernel
theorem dX11_lay_59 : decode cX11_lay 59 = .ok (.aaload, 1) := by decide +kernel
theorem dX11_lay_60 : decode cX11_lay 60 = .ok (.iload_n 2, 1) := by decide +kernel
theorem dX11_lay_61 : decode cX11_lay 61 = .ok (.baload, 1) := by decide +kernel
theorem dX11_lay_62 : decode cX11_lay 62 = .ok (.istore 4, 2) := by decide +kernel
theorem dX11_lay_64 : decode cX11_lay 64 = .ok (.aload_n 0, 1) := by decide +kernel
theorem dX11_lay_65 : decode cX11_lay 65 = .ok (.getfield 72, 3) := by decide +kernel
theorem dX11_lay_68 : decode cX11_lay 68 = .ok (.getfield 279, 3) := by decide +kernel
theorem dX11_lay_71 : decode cX11_lay 71 = .ok (.iload_n 1, 1) := by decide +kernel
theorem dX11_lay_72 : decode cX11_lay 72 = .ok (.aaload, 1) := by decide +kernel
theorem dX11_lay_73 : decode cX11_lay 73 = .ok (.iload_n 2, 1) := by decide +kernel
theorem dX11_lay_74 : decode cX11_lay 74 = .ok (.iload_n 3, 1) := by decide +kernel
theorem dX11_lay_75 : decode cX11_lay 75 = .ok (.i2b, 1) := by decide +kernel
theorem dX11_lay_76 : decode cX11_lay 76 = .ok (.bastore, 1) := by decide +kernel
theorem dX11_lay_77 : decode cX11_lay 77 = .ok (.iload 4, 2) := by decide +kernel
theorem dX11_lay_79 : decode cX11_lay 79 = .ok (.sipush 1000, 3) := by decide +kernel
theorem dX11_lay_82 : decode cX11_lay 82 = .ok (.iadd, 1) := by decide +kernel
theorem dX11_lay_83 : decode cX11_lay 83 = .ok (.ireturn, 1) := by decide +kernel
theorem dX11_play_0 : decode cX11_play 0 = .ok (.iload_n 1, 1) := by decide +kernel
theorem dX11_play_1 : decode cX11_play 1 = .ok (.invokestatic 270, 3) := by decide +kernel
theorem dX11_play_4 : decode cX11_play 4 = .ok (.ifCond .eq 14, 3) := by decide +kernel
theorem dX11_play_7 : decode cX11_play 7 = .ok (.aload_n 0, 1) := by decide +kernel
theorem dX11_play_8 : decode cX11_play 8 = .ok (.getfield 10, 3) := by decide +kernel
theorem dX11_play_11 : decode cX11_play 11 = .ok (.iload_n 2, 1) := by decide +kernel
theorem dX11_play_12 : decode cX11_play 12 = .ok (.invokevirtual 116, 3) := by decide +kernel
theorem dX11_play_15 : decode cX11_play 15 = .ok (.ifCond .ne 5, 3) := by decide +kernel
theorem dX11_play_18 : decode cX11_play 18 = .ok (.iconst (-1), 1) := by decide +kernel
theorem dX11_play_19 : decode cX11_play 19 = .ok (.ireturn, 1) := by decide +kernel
theorem dX11_play_20 : decode cX11_play 20 = .ok (.aload_n 0, 1) := by decide +kernel
theorem dX11_play_21 : decode cX11_play 21 = .ok (.getfield 10, 3) := by decide +kernel
theorem dX11_play_24 : decode cX11_play 24 = .ok (.getfield 120, 3) := by decide +kernel
theorem dX11_play_27 : decode cX11_play 27 = .ok (.iload_n 2, 1) := by decide +kernel
theorem dX11_play_28 : decode cX11_play 28 = .ok (.aaload, 1) := by decide +kernel
theorem dX11_play_29 : decode cX11_play 29 = .ok (.astore_n 3, 1) := by decide +kernel
theorem dX11_play_30 : decode cX11_play 30 = .ok (.aload_n 3, 1) := by decide +kernel
theorem dX11_play_31 : decode cX11_play 31 = .ok (.iconst 1, 1) := by decide +kernel
theorem dX11_play_32 : decode cX11_play 32 = .ok (.invokevirtual 144, 3) := by decide +kernel
theorem dX11_play_35 : decode cX11_play 35 = .ok (.ifCond .ne 9, 3) := by decide +kernel
theorem dX11_play_38 : decode cX11_play 38 = .ok (.aload_n 0, 1) := by decide +kernel
theorem dX11_play_39 : decode cX11_play 39 = .ok (.iconst 3, 1) := by decide +kernel
theorem dX11_play_40 : decode cX11_play 40 = .ok (.invokevirtual 147, 3) := by decide +kernel
theorem dX11_play_43 : decode cX11_play 43 = .ok (.ireturn, 1) := by decide +kernel
theorem dX11_play_44 : decode cX11_play 44 = .ok (.aload_n 0, 1) := by decide +kernel
theorem dX11_play_45 : decode cX11_play 45 = .ok (.getfield 72, 3) := by decide +kernel
theorem dX11_play_48 : decode cX11_play 48 = .ok (.getfield 276, 3) := by decide +kernel
theorem dX11_play_51 : decode cX11_play 51 = .ok (.iload_n 1, 1) := by decide +kernel
theorem dX11_play_52 : decode cX11_play 52 = .ok (.iaload, 1) := by decide +kernel
theorem dX11_play_53 : decode cX11_play 53 = .ok (.iconst (-1), 1) := by decide +kernel
theorem dX11_play_54 : decode cX11_play 54 = .ok (.if_icmp .ne 9, 3) := by decide +kernel
theorem dX11_play_57 : decode cX11_play 57 = .ok (.aload_n 0, 1) := by decide +kernel
theorem dX11_play_58 : decode cX11_play 58 = .ok (.iconst 1, 1) := by decide +kernel
theorem dX11_play_59 : decode cX11_play 59 = .ok (.invokevirtual 147, 3) := by decide +kernel
theorem dX11_play_62 : decode cX11_play 62 = .ok (.ireturn, 1) := by decide +kernel
theorem dX11_play_63 : decode cX11_play 63 = .ok (.iconst 0, 1) := by decide +kernel
theorem dX11_play_64 : decode cX11_play 64 = .ok (.istore 4, 2) := by decide +kernel
theorem dX11_play_66 : decode cX11_play 66 = .ok (.iload 4, 2) := by decide +kernel
theorem dX11_play_68 : decode cX11_play 68 = .ok (.aload_n 0, 1) := by decide +kernel
theorem dX11_play_69 : decode cX11_play 69 = .ok (.getfield 72, 3) := by decide +kernel
theorem dX11_play_72 : decode cX11_play 72 = .ok (.getfield 276, 3) := by decide +kernel
theorem dX11_play_75 : decode cX11_play 75 = .ok (.iload_n 1, 1) := by decide +kernel
theorem dX11_play_76 : decode cX11_play 76 = .ok (.iaload, 1) := by decide +kernel
theorem dX11_play_77 : decode cX11_play 77 = .ok (.if_icmp .ge 31, 3) := by decide +kernel
theorem dX11_play_80 : decode cX11_play 80 = .ok (.aload_n 3, 1) := by decide +kernel
theorem dX11_play_81 : decode cX11_play 81 = .ok (.iload 4, 2) := by decide +kernel
theorem dX11_play_83 : decode cX11_play 83 = .ok (.aload_n 0, 1) := by decide +kernel
theorem dX11_play_84 : decode cX11_play 84 = .ok (.getfield 72, 3) := by decide +kernel
theorem dX11_play_87 : decode cX11_play 87 = .ok (.getfield 279, 3) := by decide +kernel
theorem dX11_play_90 : decode cX11_play 90 = .ok (.iload_n 1, 1) := by decide +kernel
theorem dX11_play_91 : decode cX11_play 91 = .ok (.aaload, 1) := by decide +kernel
theorem dX11_play_92 : decode cX11_play 92 = .ok (.iload 4, 2) := by decide +kernel
theorem dX11_play_94 : decode cX11_play 94 = .ok (.baload, 1) := by decide +kernel
theorem dX11_play_95 : decode cX11_play 95 = .ok (.sipush 255, 3) := by decide +kernel
theorem dX11_play_98 : decode cX11_play 98 = .ok (.iand, 1) := by decide +kernel
theorem dX11_play_99 : decode cX11_play 99 = .ok (.invokevirtual 168, 3) := by decide +kernel
theorem dX11_play_102 : decode cX11_play 102 = .ok (.iinc 4 1, 3) := by decide +kernel
theorem dX11_play_105 : decode cX11_play 105 = .ok (.goto (-39), 3) := by decide +kernel
theorem dX11_play_108 : decode cX11_play 108 = .ok (.aload_n 0, 1) := by decide +kernel
theorem dX11_play_109 : decode cX11_play 109 = .ok (.getfield 72, 3) := by decide +kernel
theorem dX11_play_112 : decode cX11_play 112 = .ok (.getfield 276, 3) := by decide +kernel
theorem dX11_play_115 : decode cX11_play 115 = .ok (.iload_n 1, 1) := by decide +kernel
theorem dX11_play_116 : decode cX11_play 116 = .ok (.iaload, 1) := by decide +kernel
theorem dX11_play_117 : decode cX11_play 117 = .ok (.ireturn, 1) := by decide +kernel
theorem dX11_tear_0 : decode cX11_tear 0 = .ok (.iload_n 1, 1) := by decide +kernel
theorem dX11_tear_1 : decode cX11_tear 1 = .ok (.invokestatic 270, 3) := by decide +kernel
theorem dX11_tear_4 : decode cX11_tear 4 = .ok (.ifCond .ne 5, 3) := by decide +kernel
theorem dX11_tear_7 : decode cX11_tear 7 = .ok (.iconst (-1), 1) := by decide +kernel
theorem dX11_tear_8 : decode cX11_tear 8 = .ok (.ireturn, 1) := by decide +kernel
theorem dX11_tear_9 : decode cX11_tear 9 = .ok (.aload_n 0, 1) := by decide +kernel
theorem dX11_tear_10 : decode cX11_tear 10 = .ok (.getfield 72, 3) := by decide +kernel
theorem dX11_tear_13 : decode cX11_tear 13 = .ok (.getfield 276, 3) := by decide +kernel
theorem dX11_tear_16 : decode cX11_tear 16 = .ok (.iload_n 1, 1) := by decide +kernel
theorem dX11_tear_17 : decode cX11_tear 17 = .ok (.iaload, 1) := by decide +kernel
theorem dX11_tear_18 : decode cX11_tear 18 = .ok (.iconst (-1), 1) := by decide +kernel
theorem dX11_tear_19 : decode cX11_tear 19 = .ok (.if_icmp .ne 9, 3) := by decide +kernel
theorem dX11_tear_22 : decode cX11_tear 22 = .ok (.aload_n 0, 1) := by decide +kernel
theorem dX11_tear_23 : decode cX11_tear 23 = .ok (.iconst 1, 1) := by decide +kernel
theorem dX11_tear_24 : decode cX11_tear 24 = .ok (.invokevirtual 147, 3) := by decide +kernel
theorem dX11_tear_27 : decode cX11_tear 27 = .ok (.ireturn, 1) := by decide +kernel
theorem dX11_tear_28 : decode cX11_tear 28 = .ok (.aload_n 0, 1) := by decide +kernel
theorem dX11_tear_29 : decode cX11_tear 29 = .ok (.getfield 72, 3) := by decide +kernel
theorem dX11_tear_32 : decode cX11_tear 32 = .ok (.getfield 276, 3) := by decide +kernel
theorem dX11_tear_35 : decode cX11_tear 35 = .ok (.iload_n 1, 1) := by decide +kernel
theorem dX11_tear_36 : decode cX11_tear 36 = .ok (.iconst (-1), 1) := by decide +kernel
theorem dX11_tear_37 : decode cX11_tear 37 = .ok (.iastore, 1) := by decide +kernel
theorem dX11_tear_38 : decode cX11_tear 38 = .ok (.iconst 1, 1) := by decide +kernel
theorem dX11_tear_39 : decode cX11_tear 39 = .ok (.ireturn, 1) := by decide +kernel
theorem dX11_copy_0 : decode cX11_copy 0 = .ok (.iload_n 1, 1) := by decide +kernel
theorem dX11_copy_1 : decode cX11_copy 1 = .ok (.invokestatic 270, 3) := by decide +kernel
theorem dX11_copy_4 : decode cX11_copy 4 = .ok (.ifCond .eq 10, 3) := by decide +kernel
theorem dX11_copy_7 : decode cX11_copy 7 = .ok (.iload_n 3, 1) := by decide +kernel
theorem dX11_copy_8 : decode cX11_copy 8 = .ok (.invokestatic 270, 3) := by decide +kernel
theorem dX11_copy_11 : decode cX11_copy 11 = .ok (.ifCond .ne 5, 3) := by decide +kernel
theorem dX11_copy_14 : decode cX11_copy 14 = .ok (.iconst (-1), 1) := by decide +kernel
theorem dX11_copy_15 : decode cX11_copy 15 = .ok (.ireturn, 1) := by decide +kernel
theorem dX11_copy_16 : decode cX11_copy 16 = .ok (.iload 5, 2) := by decide +kernel
theorem dX11_copy_18 : decode cX11_copy 18 = .ok (.ifCond .ge 9, 3) := by decide +kernel
theorem dX11_copy_21 : decode cX11_copy 21 = .ok (.aload_n 0, 1) := by decide +kernel
theorem dX11_copy_22 : decode cX11_copy 22 = .ok (.iconst 5, 1) := by decide +kernel
theorem dX11_copy_23 : decode cX11_copy 23 = .ok (.invokevirtual 147, 3) := by decide +kernel
theorem dX11_copy_26 : decode cX11_copy 26 = .ok (.ireturn, 1) := by decide +kernel
theorem dX11_copy_27 : decode cX11_copy 27 = .ok (.aload_n 0, 1) := by decide +kernel
theorem dX11_copy_28 : decode cX11_copy 28 = .ok (.getfield 72, 3) := by decide +kernel
theorem dX11_copy_31 : decode cX11_copy 31 = .ok (.getfield 276, 3) := by decide +kernel
theorem dX11_copy_34 : decode cX11_copy 34 = .ok (.iload_n 1, 1) := by decide +kernel
theorem dX11_copy_35 : decode cX11_copy 35 = .ok (.iaload, 1) := by decide +kernel
theorem dX11_copy_36 : decode cX11_copy 36 = .ok (.iconst (-1), 1) := by decide +kernel
theorem dX11_copy_37 : decode cX11_copy 37 = .ok (.if_icmp .eq 16, 3) := by decide +kernel
theorem dX11_copy_40 : decode cX11_copy 40 = .ok (.aload_n 0, 1) := by decide +kernel
theorem dX11_copy_41 : decode cX11_copy 41 = .ok (.getfield 72, 3) := by decide +kernel
theorem dX11_copy_44 : decode cX11_copy 44 = .ok (.getfield 276, 3) := by decide +kernel
theorem dX11_copy_47 : decode cX11_copy 47 = .ok (.iload_n 3, 1) := by decide +kernel
theorem dX11_copy_48 : decode cX11_copy 48 = .ok (.iaload, 1) := by decide +kernel
theorem dX11_copy_49 : decode cX11_copy 49 = .ok (.iconst (-1), 1) := by decide +kernel
theorem dX11_copy_50 : decode cX11_copy 50 = .ok (.if_icmp .ne 9, 3) := by decide +kernel
theorem dX11_copy_53 : decode cX11_copy 53 = .ok (.aload_n 0, 1) := by decide +kernel
theorem dX11_copy_54 : decode cX11_copy 54 = .ok (.iconst 1, 1) := by decide +kernel
theorem dX11_copy_55 : decode cX11_copy 55 = .ok (.invokevirtual 147, 3) := by decide +kernel
theorem dX11_copy_58 : decode cX11_copy 58 = .ok (.ireturn, 1) := by decide +kernel
theorem dX11_copy_59 : decode cX11_copy 59 = .ok (.aload_n 0, 1) := by decide +kernel
theorem dX11_copy_60 : decode cX11_copy 60 = .ok (.getfield 72, 3) := by decide +kernel
theorem dX11_copy_63 : decode cX11_copy 63 = .ok (.iload_n 1, 1) := by decide +kernel
theorem dX11_copy_64 : decode cX11_copy 64 = .ok (.iload_n 2, 1) := by decide +kernel
theorem dX11_copy_65 : decode cX11_copy 65 = .ok (.iload 5, 2) := by decide +kernel
theorem dX11_copy_67 : decode cX11_copy 67 = .ok (.invokevirtual 283, 3) := by decide +kernel
theorem dX11_copy_70 : decode cX11_copy 70 = .ok (.ifCond .eq 18, 3) := by decide +kernel
theorem dX11_copy_73 : decode cX11_copy 73 = .ok (.aload_n 0, 1) := by decide +kernel
theorem dX11_copy_74 : decode cX11_copy 74 = .ok (.getfield 72, 3) := by decide +kernel
theorem dX11_copy_77 : decode cX11_copy 77 = .ok (.iload_n 3, 1) := by decide +kernel
theorem dX11_copy_78 : decode cX11_copy 78 = .ok (.iload 4, 2) := by decide +kernel
theorem dX11_copy_80 : decode cX11_copy 80 = .ok (.iload 5, 2) := by decide +kernel
theorem dX11_copy_82 : decode cX11_copy 82 = .ok (.invokevirtual 283, 3) := by decide +kernel
theorem dX11_copy_85 : decode cX11_copy 85 = .ok (.ifCond .ne 9, 3) := by decide +kernel
theorem dX11_copy_88 : decode cX11_copy 88 = .ok (.aload_n 0, 1) := by decide +kernel
theorem dX11_copy_89 : decode cX11_copy 89 = .ok (.iconst 2, 1) := by decide +kernel
theorem dX11_copy_90 : decode cX11_copy 90 = .ok (.invokevirtual 147, 3) := by decide +kernel
theorem dX11_copy_93 : decode cX11_copy 93 = .ok (.ireturn, 1) := by decide +kernel
theorem dX11_copy_94 : decode cX11_copy 94 = .ok (.aload_n 0, 1) := by decide +kernel
theorem dX11_copy_95 : decode cX11_copy 95 = .ok (.getfield 72, 3) := by decide +kernel
theorem dX11_copy_98 : decode cX11_copy 98 = .ok (.getfield 279, 3) := by decide +kernel
theorem dX11_copy_101 : decode cX11_copy 101 = .ok (.iload_n 1, 1) := by decide +kernel
theorem dX11_copy_102 : decode cX11_copy 102 = .ok (.aaload, 1) := by decide +kernel
theorem dX11_copy_103 : decode cX11_copy 103 = .ok (.iload_n 2, 1) := by decide +kernel
theorem dX11_copy_104 : decode cX11_copy 104 = .ok (.aload_n 0, 1) := by decide +kernel
theorem dX11_copy_105 : decode cX11_copy 105 = .ok (.getfield 72, 3) := by decide +kernel
theorem dX11_copy_108 : decode cX11_copy 108 = .ok (.getfield 279, 3) := by decide +kernel
theorem dX11_copy_111 : decode cX11_copy 111 = .ok (.iload_n 3, 1) := by decide +kernel
theorem dX11_copy_112 : decode cX11_copy 112 = .ok (.aaload, 1) := by decide +kernel
theorem dX11_copy_113 : decode cX11_copy 113 = .ok (.iload 4, 2) := by decide +kernel
theorem dX11_copy_115 : decode cX11_copy 115 = .ok (.iload 5, 2) := by decide +kernel
theorem dX11_copy_117 : decode cX11_copy 117 = .ok (.invokestatic 287, 3) := by decide +kernel
theorem dX11_copy_120 : decode cX11_copy 120 = .ok (.iconst 1, 1) := by decide +kernel
theorem dX11_copy_121 : decode cX11_copy 121 = .ok (.ireturn, 1) := by decide +kernel
theorem dX11_asked_0 : decode cX11_asked 0 = .ok (.aload_n 0, 1) := by decide +kernel
theorem dX11_asked_1 : decode cX11_asked 1 = .ok (.getfield 87, 3) := by decide +kernel
theorem dX11_asked_4 : decode cX11_asked 4 = .ok (.lreturn, 1) := by decide +kernel
theorem dX11_count_0 : decode cX11_count 0 = .ok (.iload_n 1, 1) := by decide +kernel
theorem dX11_count_1 : decode cX11_count 1 = .ok (.tableswitch 75 0 4 #[35, 43, 51, 59, 67], 35) := by decide +kernel
theorem dX11_count_36 : decode cX11_count 36 = .ok (.aload_n 0, 1) := by decide +kernel
theorem dX11_count_37 : decode cX11_count 37 = .ok (.getfield 10, 3) := by decide +kernel
theorem dX11_count_40 : decode cX11_count 40 = .ok (.getfield 293, 3) := by decide +kernel
theorem dX11_count_43 : decode cX11_count 43 = .ok (.ireturn, 1) := by decide +kernel
theorem dX11_count_44 : decode cX11_count 44 = .ok (.aload_n 0, 1) := by decide +kernel
theorem dX11_count_45 : decode cX11_count 45 = .ok (.getfield 10, 3) := by decide +kernel
theorem dX11_count_48 : decode cX11_count 48 = .ok (.getfield 109, 3) := by decide +kernel
theorem dX11_count_51 : decode cX11_count 51 = .ok (.ireturn, 1) := by decide +kernel
theorem dX11_count_52 : decode cX11_count 52 = .ok (.aload_n 0, 1) := by decide +kernel
theorem dX11_count_53 : decode cX11_count 53 = .ok (.getfield 10, 3) := by decide +kernel
theorem dX11_count_56 : decode cX11_count 56 = .ok (.invokevirtual 296, 3) := by decide +kernel
theorem dX11_count_59 : decode cX11_count 59 = .ok (.ireturn, 1) := by decide +kernel
theorem dX11_count_60 : decode cX11_count 60 = .ok (.aload_n 0, 1) := by decide +kernel
theorem dX11_count_61 : decode cX11_count 61 = .ok (.getfield 10, 3) := by decide +kernel
theorem dX11_count_64 : decode cX11_count 64 = .ok (.invokevirtual 299, 3) := by decide +kernel
theorem dX11_count_67 : decode cX11_count 67 = .ok (.ireturn, 1) := by decide +kernel
theorem dX11_count_68 : decode cX11_count 68 = .ok (.aload_n 0, 1) := by decide +kernel
theorem dX11_count_69 : decode cX11_count 69 = .ok (.getfield 19, 3) := by decide +kernel
theorem dX11_count_72 : decode cX11_count 72 = .ok (.invokevirtual 302, 3) := by decide +kernel
theorem dX11_count_75 : decode cX11_count 75 = .ok (.ireturn, 1) := by decide +kernel
theorem dX11_count_76 : decode cX11_count 76 = .ok (.iconst (-1), 1) := by decide +kernel
theorem dX11_count_77 : decode cX11_count 77 = .ok (.ireturn, 1) := by decide +kernel
theorem dX11_finding_0 : decode cX11_finding 0 = .ok (.aload_n 0, 1) := by decide +kernel
theorem dX11_finding_1 : decode cX11_finding 1 = .ok (.getfield 91, 3) := by decide +kernel
theorem dX11_finding_4 : decode cX11_finding 4 = .ok (.ireturn, 1) := by decide +kernel
theorem dX11_findings_0 : decode cX11_findings 0 = .ok (.iload_n 1, 1) := by decide +kernel
theorem dX11_findings_1 : decode cX11_findings 1 = .ok (.iconst 1, 1) := by decide +kernel
theorem dX11_findings_2 : decode cX11_findings 2 = .ok (.if_icmp .lt 17, 3) := by decide +kernel
theorem dX11_findings_5 : decode cX11_findings 5 = .ok (.iload_n 1, 1) := by decide +kernel
theorem dX11_findings_6 : decode cX11_findings 6 = .ok (.iconst 5, 1) := by decide +kernel
theorem dX11_findings_7 : decode cX11_findings 7 = .ok (.if_icmp .gt 12, 3) := by decide +kernel
theorem dX11_findings_10 : decode cX11_findings 10 = .ok (.aload_n 0, 1) := by decide +kernel
theorem dX11_findings_11 : decode cX11_findings 11 = .ok (.getfield 94, 3) := by decide +kernel
theorem dX11_findings_14 : decode cX11_findings 14 = .ok (.iload_n 1, 1) := by decide +kernel
theorem dX11_findings_15 : decode cX11_findings 15 = .ok (.iaload, 1) := by decide +kernel
theorem dX11_findings_16 : decode cX11_findings 16 = .ok (.goto 4, 3) := by decide +kernel
theorem dX11_findings_19 : decode cX11_findings 19 = .ok (.iconst (-1), 1) := by decide +kernel
theorem dX11_findings_20 : decode cX11_findings 20 = .ok (.ireturn, 1) := by decide +kernel
theorem dX11_digest_0 : decode cX11_digest 0 = .ok (.ldc2_w 305, 3) := by decide +kernel
theorem dX11_digest_3 : decode cX11_digest 3 = .ok (.lstore_n 1, 1) := by decide +kernel
theorem dX11_digest_4 : decode cX11_digest 4 = .ok (.iconst 0, 1) := by decide +kernel
theorem dX11_digest_5 : decode cX11_digest 5 = .ok (.istore_n 3, 1) := by decide +kernel
theorem dX11_digest_6 : decode cX11_digest 6 = .ok (.iload_n 3, 1) := by decide +kernel
theorem dX11_digest_7 : decode cX11_digest 7 = .ok (.iconst 4, 1) := by decide +kernel
theorem dX11_digest_8 : decode cX11_digest 8 = .ok (.if_icmp .gt 22, 3) := by decide +kernel
theorem dX11_digest_11 : decode cX11_digest 11 = .ok (.ldc2_w 307, 3) := by decide +kernel
theorem dX11_digest_14 : decode cX11_digest 14 = .ok (.lload_n 1, 1) := by decide +kernel
theorem dX11_digest_15 : decode cX11_digest 15 = .ok (.lmul, 1) := by decide +kernel
theorem dX11_digest_16 : decode cX11_digest 16 = .ok (.aload_n 0, 1) := by decide +kernel
theorem dX11_digest_17 : decode cX11_digest 17 = .ok (.iload_n 3, 1) := by decide +kernel
theorem dX11_digest_18 : decode cX11_digest 18 = .ok (.invokevirtual 309, 3) := by decide +kernel
theorem dX11_digest_21 : decode cX11_digest 21 = .ok (.i2l, 1) := by decide +kernel
theorem dX11_digest_22 : decode cX11_digest 22 = .ok (.ladd, 1) := by decide +kernel
theorem dX11_digest_23 : decode cX11_digest 23 = .ok (.lstore_n 1, 1) := by decide +kernel
theorem dX11_digest_24 : decode cX11_digest 24 = .ok (.iinc 3 1, 3) := by decide +kernel
theorem dX11_digest_27 : decode cX11_digest 27 = .ok (.goto (-21), 3) := by decide +kernel
theorem dX11_digest_30 : decode cX11_digest 30 = .ok (.iconst 0, 1) := by decide +kernel
theorem dX11_digest_31 : decode cX11_digest 31 = .ok (.istore_n 3, 1) := by decide +kernel
theorem dX11_digest_32 : decode cX11_digest 32 = .ok (.iload_n 3, 1) := by decide +kernel
theorem dX11_digest_33 : decode cX11_digest 33 = .ok (.aload_n 0, 1) := by decide +kernel
theorem dX11_digest_34 : decode cX11_digest 34 = .ok (.getfield 10, 3) := by decide +kernel
theorem dX11_digest_37 : decode cX11_digest 37 = .ok (.getfield 109, 3) := by decide +kernel
theorem dX11_digest_40 : decode cX11_digest 40 = .ok (.if_icmp .ge 16, 3) := by decide +kernel
theorem dX11_digest_43 : decode cX11_digest 43 = .ok (.aload_n 0, 1) := by decide +kernel
theorem dX11_digest_44 : decode cX11_digest 44 = .ok (.lload_n 1, 1) := by decide +kernel
theorem dX11_digest_45 : decode cX11_digest 45 = .ok (.iload_n 3, 1) := by decide +kernel
theorem dX11_digest_46 : decode cX11_digest 46 = .ok (.invokevirtual 312, 3) := by decide +kernel
theorem dX11_digest_49 : decode cX11_digest 49 = .ok (.lstore_n 1, 1) := by decide +kernel
theorem dX11_digest_50 : decode cX11_digest 50 = .ok (.iinc 3 1, 3) := by decide +kernel
theorem dX11_digest_53 : decode cX11_digest 53 = .ok (.goto (-21), 3) := by decide +kernel
theorem dX11_digest_56 : decode cX11_digest 56 = .ok (.iconst 0, 1) := by decide +kernel
theorem dX11_digest_57 : decode cX11_digest 57 = .ok (.istore_n 3, 1) := by decide +kernel
theorem dX11_digest_58 : decode cX11_digest 58 = .ok (.iload_n 3, 1) := by decide +kernel
theorem dX11_digest_59 : decode cX11_digest 59 = .ok (.aload_n 0, 1) := by decide +kernel
theorem dX11_digest_60 : decode cX11_digest 60 = .ok (.getfield 10, 3) := by decide +kernel
theorem dX11_digest_63 : decode cX11_digest 63 = .ok (.getfield 293, 3) := by decide +kernel
theorem dX11_digest_66 : decode cX11_digest 66 = .ok (.if_icmp .ge 87, 3) := by decide +kernel
theorem dX11_digest_69 : decode cX11_digest 69 = .ok (.iconst 0, 1) := by decide +kernel
theorem dX11_digest_70 : decode cX11_digest 70 = .ok (.istore 4, 2) := by decide +kernel
theorem dX11_digest_72 : decode cX11_digest 72 = .ok (.iload 4, 2) := by decide +kernel
theorem dX11_digest_74 : decode cX11_digest 74 = .ok (.aload_n 0, 1) := by decide +kernel
theorem dX11_digest_75 : decode cX11_digest 75 = .ok (.getfield 10, 3) := by decide +kernel
theorem dX11_digest_78 : decode cX11_digest 78 = .ok (.getfield 293, 3) := by decide +kernel
theorem dX11_digest_81 : decode cX11_digest 81 = .ok (.if_icmp .ge 66, 3) := by decide +kernel
theorem dX11_digest_84 : decode cX11_digest 84 = .ok (.iload_n 3, 1) := by decide +kernel
theorem dX11_digest_85 : decode cX11_digest 85 = .ok (.iload 4, 2) := by decide +kernel
theorem dX11_digest_87 : decode cX11_digest 87 = .ok (.if_icmp .ne 6, 3) := by decide +kernel
theorem dX11_digest_90 : decode cX11_digest 90 = .ok (.goto 51, 3) := by decide +kernel
theorem dX11_digest_93 : decode cX11_digest 93 = .ok (.aload_n 0, 1) := by decide +kernel
theorem dX11_digest_94 : decode cX11_digest 94 = .ok (.getfield 10, 3) := by decide +kernel
theorem dX11_digest_97 : decode cX11_digest 97 = .ok (.iload_n 3, 1) := by decide +kernel
theorem dX11_digest_98 : decode cX11_digest 98 = .ok (.iload 4, 2) := by decide +kernel
theorem dX11_digest_100 : decode cX11_digest 100 = .ok (.invokevirtual 182, 3) := by decide +kernel
theorem dX11_digest_103 : decode cX11_digest 103 = .ok (.istore 5, 2) := by decide +kernel
theorem dX11_digest_105 : decode cX11_digest 105 = .ok (.ldc2_w 307, 3) := by decide +kernel
theorem dX11_digest_108 : decode cX11_digest 108 = .ok (.lload_n 1, 1) := by decide +kernel
theorem dX11_digest_109 : decode cX11_digest 109 = .ok (.lmul, 1) := by decide +kernel
theorem dX11_digest_110 : decode cX11_digest 110 = .ok (.aload_n 0, 1) := by decide +kernel
theorem dX11_digest_111 : decode cX11_digest 111 = .ok (.getfield 10, 3) := by decide +kernel
theorem dX11_digest_114 : decode cX11_digest 114 = .ok (.getfield 194, 3) := by decide +kernel
theorem dX11_digest_117 : decode cX11_digest 117 = .ok (.iload 5, 2) := by decide +kernel
theorem dX11_digest_119 : decode cX11_digest 119 = .ok (.iaload, 1) := by decide +kernel
theorem dX11_digest_120 : decode cX11_digest 120 = .ok (.i2l, 1) := by decide +kernel
theorem dX11_digest_121 : decode cX11_digest 121 = .ok (.ladd, 1) := by decide +kernel
theorem dX11_digest_122 : decode cX11_digest 122 = .ok (.lstore_n 1, 1) := by decide +kernel
theorem dX11_digest_123 : decode cX11_digest 123 = .ok (.ldc2_w 307, 3) := by decide +kernel
theorem dX11_digest_126 : decode cX11_digest 126 = .ok (.lload_n 1, 1) := by decide +kernel
theorem dX11_digest_127 : decode cX11_digest 127 = .ok (.lmul, 1) := by decide +kernel
theorem dX11_digest_128 : decode cX11_digest 128 = .ok (.aload_n 0, 1) := by decide +kernel
theorem dX11_digest_129 : decode cX11_digest 129 = .ok (.getfield 10, 3) := by decide +kernel
theorem dX11_digest_132 : decode cX11_digest 132 = .ok (.getfield 51, 3) := by decide +kernel
theorem dX11_digest_135 : decode cX11_digest 135 = .ok (.iload 5, 2) := by decide +kernel
theorem dX11_digest_137 : decode cX11_digest 137 = .ok (.iaload, 1) := by decide +kernel
theorem dX11_digest_138 : decode cX11_digest 138 = .ok (.i2l, 1) := by decide +kernel
theorem dX11_digest_139 : decode cX11_digest 139 = .ok (.ladd, 1) := by decide +kernel
theorem dX11_digest_140 : decode cX11_digest 140 = .ok (.lstore_n 1, 1) := by decide +kernel
theorem dX11_digest_141 : decode cX11_digest 141 = .ok (.iinc 4 1, 3) := by decide +kernel
theorem dX11_digest_144 : decode cX11_digest 144 = .ok (.goto (-72), 3) := by decide +kernel
theorem dX11_digest_147 : decode cX11_digest 147 = .ok (.iinc 3 1, 3) := by decide +kernel
theorem dX11_digest_150 : decode cX11_digest 150 = .ok (.goto (-92), 3) := by decide +kernel
theorem dX11_digest_153 : decode cX11_digest 153 = .ok (.iconst 0, 1) := by decide +kernel
theorem dX11_digest_154 : decode cX11_digest 154 = .ok (.istore_n 3, 1) := by decide +kernel
theorem dX11_digest_155 : decode cX11_digest 155 = .ok (.iload_n 3, 1) := by decide +kernel
theorem dX11_digest_156 : decode cX11_digest 156 = .ok (.iconst 4, 1) := by decide +kernel
theorem dX11_digest_157 : decode cX11_digest 157 = .ok (.if_icmp .ge 16, 3) := by decide +kernel
theorem dX11_digest_160 : decode cX11_digest 160 = .ok (.aload_n 0, 1) := by decide +kernel
theorem dX11_digest_161 : decode cX11_digest 161 = .ok (.lload_n 1, 1) := by decide +kernel
theorem dX11_digest_162 : decode cX11_digest 162 = .ok (.iload_n 3, 1) := by decide +kernel
theorem dX11_digest_163 : decode cX11_digest 163 = .ok (.invokevirtual 316, 3) := by decide +kernel
theorem dX11_digest_166 : decode cX11_digest 166 = .ok (.lstore_n 1, 1) := by decide +kernel
theorem dX11_digest_167 : decode cX11_digest 167 = .ok (.iinc 3 1, 3) := by decide +kernel
theorem dX11_digest_170 : decode cX11_digest 170 = .ok (.goto (-15), 3) := by decide +kernel
theorem dX11_digest_173 : decode cX11_digest 173 = .ok (.lload_n 1, 1) := by decide +kernel
theorem dX11_digest_174 : decode cX11_digest 174 = .ok (.lreturn, 1) := by decide +kernel
theorem dX11_isHour_0 : decode cX11_isHour 0 = .ok (.iload_n 0, 1) := by decide +kernel
theorem dX11_isHour_1 : decode cX11_isHour 1 = .ok (.ifCond .lt 13, 3) := by decide +kernel
theorem dX11_isHour_4 : decode cX11_isHour 4 = .ok (.iload_n 0, 1) := by decide +kernel
theorem dX11_isHour_5 : decode cX11_isHour 5 = .ok (.bipush 24, 2) := by decide +kernel
theorem dX11_isHour_7 : decode cX11_isHour 7 = .ok (.if_icmp .ge 7, 3) := by decide +kernel
theorem dX11_isHour_10 : decode cX11_isHour 10 = .ok (.iconst 1, 1) := by decide +kernel
theorem dX11_isHour_11 : decode cX11_isHour 11 = .ok (.goto 4, 3) := by decide +kernel
theorem dX11_isHour_14 : decode cX11_isHour 14 = .ok (.iconst 0, 1) := by decide +kernel
theorem dX11_isHour_15 : decode cX11_isHour 15 = .ok (.ireturn, 1) := by decide +kernel
theorem dX11_isLoadOrNone_0 : decode cX11_isLoadOrNone 0 = .ok (.iload_n 0, 1) := by decide +kernel
theorem dX11_isLoadOrNone_1 : decode cX11_isLoadOrNone 1 = .ok (.bipush (-9), 2) := by decide +kernel
theorem dX11_isLoadOrNone_3 : decode cX11_isLoadOrNone 3 = .ok (.if_icmp .eq 14, 3) := by decide +kernel
theorem dX11_isLoadOrNone_6 : decode cX11_isLoadOrNone 6 = .ok (.iload_n 0, 1) := by decide +kernel
theorem dX11_isLoadOrNone_7 : decode cX11_isLoadOrNone 7 = .ok (.ifCond .lt 14, 3) := by decide +kernel
theorem dX11_isLoadOrNone_10 : decode cX11_isLoadOrNone 10 = .ok (.iload_n 0, 1) := by decide +kernel
theorem dX11_isLoadOrNone_11 : decode cX11_isLoadOrNone 11 = .ok (.sipush 200, 3) := by decide +kernel
theorem dX11_isLoadOrNone_14 : decode cX11_isLoadOrNone 14 = .ok (.if_icmp .gt 7, 3) := by decide +kernel
theorem dX11_isLoadOrNone_17 : decode cX11_isLoadOrNone 17 = .ok (.iconst 1, 1) := by decide +kernel
theorem dX11_isLoadOrNone_18 : decode cX11_isLoadOrNone 18 = .ok (.goto 4, 3) := by decide +kernel
theorem dX11_isLoadOrNone_21 : decode cX11_isLoadOrNone 21 = .ok (.iconst 0, 1) := by decide +kernel
theorem dX11_isLoadOrNone_22 : decode cX11_isLoadOrNone 22 = .ok (.ireturn, 1) := by decide +kernel
theorem dX11_isTries_0 : decode cX11_isTries 0 = .ok (.iload_n 0, 1) := by decide +kernel
theorem dX11_isTries_1 : decode cX11_isTries 1 = .ok (.iconst 1, 1) := by decide +kernel
theorem dX11_isTries_2 : decode cX11_isTries 2 = .ok (.if_icmp .lt 14, 3) := by decide +kernel
theorem dX11_isTries_5 : decode cX11_isTries 5 = .ok (.iload_n 0, 1) := by decide +kernel
theorem dX11_isTries_6 : decode cX11_isTries 6 = .ok (.sipush 20000, 3) := by decide +kernel
theorem dX11_isTries_9 : decode cX11_isTries 9 = .ok (.if_icmp .gt 7, 3) := by decide +kernel
theorem dX11_isTries_12 : decode cX11_isTries 12 = .ok (.iconst 1, 1) := by decide +kernel
theorem dX11_isTries_13 : decode cX11_isTries 13 = .ok (.goto 4, 3) := by decide +kernel
theorem dX11_isTries_16 : decode cX11_isTries 16 = .ok (.iconst 0, 1) := by decide +kernel
theorem dX11_isTries_17 : decode cX11_isTries 17 = .ok (.ireturn, 1) := by decide +kernel
theorem dX11_isSheet_0 : decode cX11_isSheet 0 = .ok (.iload_n 0, 1) := by decide +kernel
theorem dX11_isSheet_1 : decode cX11_isSheet 1 = .ok (.ifCond .lt 12, 3) := by decide +kernel
theorem dX11_isSheet_4 : decode cX11_isSheet 4 = .ok (.iload_n 0, 1) := by decide +kernel
theorem dX11_isSheet_5 : decode cX11_isSheet 5 = .ok (.iconst 4, 1) := by decide +kernel
theorem dX11_isSheet_6 : decode cX11_isSheet 6 = .ok (.if_icmp .ge 7, 3) := by decide +kernel
theorem dX11_isSheet_9 : decode cX11_isSheet 9 = .ok (.iconst 1, 1) := by decide +kernel
theorem dX11_isSheet_10 : decode cX11_isSheet 10 = .ok (.goto 4, 3) := by decide +kernel
theorem dX11_isSheet_13 : decode cX11_isSheet 13 = .ok (.iconst 0, 1) := by decide +kernel
theorem dX11_isSheet_14 : decode cX11_isSheet 14 = .ok (.ireturn, 1) := by decide +kernel
theorem dX11_found_0 : decode cX11_found 0 = .ok (.aload_n 0, 1) := by decide +kernel
theorem dX11_found_1 : decode cX11_found 1 = .ok (.iload_n 1, 1) := by decide +kernel
theorem dX11_found_2 : decode cX11_found 2 = .ok (.putfield 91, 3) := by decide +kernel
theorem dX11_found_5 : decode cX11_found 5 = .ok (.aload_n 0, 1) := by decide +kernel
theorem dX11_found_6 : decode cX11_found 6 = .ok (.getfield 94, 3) := by decide +kernel
theorem dX11_found_9 : decode cX11_found 9 = .ok (.iload_n 1, 1) := by decide +kernel
theorem dX11_found_10 : decode cX11_found 10 = .ok (.dup2, 1) := by decide +kernel
theorem dX11_found_11 : decode cX11_found 11 = .ok (.iaload, 1) := by decide +kernel
theorem dX11_found_12 : decode cX11_found 12 = .ok (.iconst 1, 1) := by decide +kernel
theorem dX11_found_13 : decode cX11_found 13 = .ok (.iadd, 1) := by decide +kernel
theorem dX11_found_14 : decode cX11_found 14 = .ok (.iastore, 1) := by decide +kernel
theorem dX11_found_15 : decode cX11_found 15 = .ok (.bipush (-3), 2) := by decide +kernel
theorem dX11_found_17 : decode cX11_found 17 = .ok (.ireturn, 1) := by decide +kernel
theorem dX11_seekAll_0 : decode cX11_seekAll 0 = .ok (.aload_n 0, 1) := by decide +kernel
theorem dX11_seekAll_1 : decode cX11_seekAll 1 = .ok (.getfield 31, 3) := by decide +kernel
theorem dX11_seekAll_4 : decode cX11_seekAll 4 = .ok (.iload_n 2, 1) := by decide +kernel
theorem dX11_seekAll_5 : decode cX11_seekAll 5 = .ok (.invokevirtual 319, 3) := by decide +kernel
theorem dX11_seekAll_8 : decode cX11_seekAll 8 = .ok (.aload_n 0, 1) := by decide +kernel
theorem dX11_seekAll_9 : decode cX11_seekAll 9 = .ok (.getfield 31, 3) := by decide +kernel
theorem dX11_seekAll_12 : decode cX11_seekAll 12 = .ok (.aload_n 1, 1) := by decide +kernel
theorem dX11_seekAll_13 : decode cX11_seekAll 13 = .ok (.invokevirtual 320, 3) := by decide +kernel
theorem dX11_seekAll_16 : decode cX11_seekAll 16 = .ok (.aload_n 0, 1) := by decide +kernel
theorem dX11_seekAll_17 : decode cX11_seekAll 17 = .ok (.aload_n 0, 1) := by decide +kernel
theorem dX11_seekAll_18 : decode cX11_seekAll 18 = .ok (.getfield 31, 3) := by decide +kernel
theorem dX11_seekAll_21 : decode cX11_seekAll 21 = .ok (.getfield 258, 3) := by decide +kernel
theorem dX11_seekAll_24 : decode cX11_seekAll 24 = .ok (.putfield 83, 3) := by decide +kernel
theorem dX11_seekAll_27 : decode cX11_seekAll 27 = .ok (.aload_n 0, 1) := by decide +kernel
theorem dX11_seekAll_28 : decode cX11_seekAll 28 = .ok (.getfield 31, 3) := by decide +kernel
theorem dX11_seekAll_31 : decode cX11_seekAll 31 = .ok (.getfield 261, 3) := by decide +kernel
theorem dX11_seekAll_34 : decode cX11_seekAll 34 = .ok (.ifCond .ne 7, 3) := by decide +kernel
theorem dX11_seekAll_37 : decode cX11_seekAll 37 = .ok (.iconst 1, 1) := by decide +kernel
theorem dX11_seekAll_38 : decode cX11_seekAll 38 = .ok (.goto 4, 3) := by decide +kernel
theorem dX11_seekAll_41 : decode cX11_seekAll 41 = .ok (.iconst 0, 1) := by decide +kernel
theorem dX11_seekAll_42 : decode cX11_seekAll 42 = .ok (.ireturn, 1) := by decide +kernel
theorem dX11_seekBest_0 : decode cX11_seekBest 0 = .ok (.aload_n 0, 1) := by decide +kernel
theorem dX11_seekBest_1 : decode cX11_seekBest 1 = .ok (.iconst 0, 1) := by decide +kernel
theorem dX11_seekBest_2 : decode cX11_seekBest 2 = .ok (.putfield 79, 3) := by decide +kernel
theorem dX11_seekBest_5 : decode cX11_seekBest 5 = .ok (.aload_n 0, 1) := by decide +kernel
theorem dX11_seekBest_6 : decode cX11_seekBest 6 = .ok (.aload_n 1, 1) := by decide +kernel
theorem dX11_seekBest_7 : decode cX11_seekBest 7 = .ok (.iload_n 2, 1) := by decide +kernel
theorem dX11_seekBest_8 : decode cX11_seekBest 8 = .ok (.invokevirtual 201, 3) := by decide +kernel
theorem dX11_seekBest_11 : decode cX11_seekBest 11 = .ok (.ifCond .ne 5, 3) := by decide +kernel
theorem dX11_seekBest_14 : decode cX11_seekBest 14 = .ok (.iconst 0, 1) := by decide +kernel
theorem dX11_seekBest_15 : decode cX11_seekBest 15 = .ok (.ireturn, 1) := by decide +kernel
theorem dX11_seekBest_16 : decode cX11_seekBest 16 = .ok (.aload_n 1, 1) := by decide +kernel
theorem dX11_seekBest_17 : decode cX11_seekBest 17 = .ok (.getfield 324, 3) := by decide +kernel
theorem dX11_seekBest_20 : decode cX11_seekBest 20 = .ok (.ifCond .eq 11, 3) := by decide +kernel
theorem dX11_seekBest_23 : decode cX11_seekBest 23 = .ok (.aload_n 0, 1) := by decide +kernel
theorem dX11_seekBest_24 : decode cX11_seekBest 24 = .ok (.aload_n 1, 1) := by decide +kernel
theorem dX11_seekBest_25 : decode cX11_seekBest 25 = .ok (.getfield 327, 3) := by decide +kernel
theorem dX11_seekBest_28 : decode cX11_seekBest 28 = .ok (.invokevirtual 211, 3) := by decide +kernel
theorem dX11_seekBest_31 : decode cX11_seekBest 31 = .ok (.iconst 1, 1) := by decide +kernel
theorem dX11_seekBest_32 : decode cX11_seekBest 32 = .ok (.ireturn, 1) := by decide +kernel
theorem dX11_keepFit_0 : decode cX11_keepFit 0 = .ok (.aload_n 1, 1) := by decide +kernel
theorem dX11_keepFit_1 : decode cX11_keepFit 1 = .ok (.iconst 0, 1) := by decide +kernel
theorem dX11_keepFit_2 : decode cX11_keepFit 2 = .ok (.aload_n 0, 1) := by decide +kernel
theorem dX11_keepFit_3 : decode cX11_keepFit 3 = .ok (.getfield 76, 3) := by decide +kernel
theorem dX11_keepFit_6 : decode cX11_keepFit 6 = .ok (.iconst 0, 1) := by decide +kernel
theorem dX11_keepFit_7 : decode cX11_keepFit 7 = .ok (.bipush 36, 2) := by decide +kernel
theorem dX11_keepFit_9 : decode cX11_keepFit 9 = .ok (.invokestatic 287, 3) := by decide +kernel
theorem dX11_keepFit_12 : decode cX11_keepFit 12 = .ok (.aload_n 0, 1) := by decide +kernel
theorem dX11_keepFit_13 : decode cX11_keepFit 13 = .ok (.iconst 1, 1) := by decide +kernel
theorem dX11_keepFit_14 : decode cX11_keepFit 14 = .ok (.putfield 79, 3) := by decide +kernel
theorem dX11_keepFit_17 : decode cX11_keepFit 17 = .ok (.return_, 1) := by decide +kernel
theorem dX11_surePairs_0 : decode cX11_surePairs 0 = .ok (.iconst 0, 1) := by decide +kernel
theorem dX11_surePairs_1 : decode cX11_surePairs 1 = .ok (.istore_n 1, 1) := by decide +kernel
theorem dX11_surePairs_2 : decode cX11_surePairs 2 = .ok (.iconst 0, 1) := by decide +kernel
theorem dX11_surePairs_3 : decode cX11_surePairs 3 = .ok (.istore_n 2, 1) := by decide +kernel
theorem dX11_surePairs_4 : decode cX11_surePairs 4 = .ok (.iload_n 2, 1) := by decide +kernel
theorem dX11_surePairs_5 : decode cX11_surePairs 5 = .ok (.aload_n 0, 1) := by decide +kernel
theorem dX11_surePairs_6 : decode cX11_surePairs 6 = .ok (.getfield 19, 3) := by decide +kernel
theorem dX11_surePairs_9 : decode cX11_surePairs 9 = .ok (.getfield 330, 3) := by decide +kernel
theorem dX11_surePairs_12 : decode cX11_surePairs 12 = .ok (.if_icmp .ge 44, 3) := by decide +kernel
theorem dX11_surePairs_15 : decode cX11_surePairs 15 = .ok (.aload_n 0, 1) := by decide +kernel
theorem dX11_surePairs_16 : decode cX11_surePairs 16 = .ok (.getfield 19, 3) := by decide +kernel
theorem dX11_surePairs_19 : decode cX11_surePairs 19 = .ok (.iload_n 2, 1) := by decide +kernel
theorem dX11_surePairs_20 : decode cX11_surePairs 20 = .ok (.invokevirtual 333, 3) := by decide +kernel
theorem dX11_surePairs_23 : decode cX11_surePairs 23 = .ok (.ifCond .eq 27, 3) := by decide +kernel
theorem dX11_surePairs_26 : decode cX11_surePairs 26 = .ok (.aload_n 0, 1) := by decide +kernel
theorem dX11_surePairs_27 : decode cX11_surePairs 27 = .ok (.getfield 45, 3) := by decide +kernel
theorem dX11_surePairs_30 : decode cX11_surePairs 30 = .ok (.getfield 224, 3) := by decide +kernel
theorem dX11_surePairs_33 : decode cX11_surePairs 33 = .ok (.iload_n 2, 1) := by decide +kernel
theorem dX11_surePairs_34 : decode cX11_surePairs 34 = .ok (.iaload, 1) := by decide +kernel
theorem dX11_surePairs_35 : decode cX11_surePairs 35 = .ok (.aload_n 0, 1) := by decide +kernel
theorem dX11_surePairs_36 : decode cX11_surePairs 36 = .ok (.getfield 45, 3) := by decide +kernel
theorem dX11_surePairs_39 : decode cX11_surePairs 39 = .ok (.getfield 222, 3) := by decide +kernel
theorem dX11_surePairs_42 : decode cX11_surePairs 42 = .ok (.iload_n 2, 1) := by decide +kernel
theorem dX11_surePairs_43 : decode cX11_surePairs 43 = .ok (.iaload, 1) := by decide +kernel
theorem dX11_surePairs_44 : decode cX11_surePairs 44 = .ok (.if_icmp .ne 6, 3) := by decide +kernel
theorem dX11_surePairs_47 : decode cX11_surePairs 47 = .ok (.iinc 1 1, 3) := by decide +kernel
theorem dX11_surePairs_50 : decode cX11_surePairs 50 = .ok (.iinc 2 1, 3) := by decide +kernel
theorem dX11_surePairs_53 : decode cX11_surePairs 53 = .ok (.goto (-49), 3) := by decide +kernel
theorem dX11_surePairs_56 : decode cX11_surePairs 56 = .ok (.iload_n 1, 1) := by decide +kernel
theorem dX11_surePairs_57 : decode cX11_surePairs 57 = .ok (.ireturn, 1) := by decide +kernel
theorem dX11_digestLine_0 : decode cX11_digestLine 0 = .ok (.lload_n 1, 1) := by decide +kernel
theorem dX11_digestLine_1 : decode cX11_digestLine 1 = .ok (.lstore 4, 2) := by decide +kernel
theorem dX11_digestLine_3 : decode cX11_digestLine 3 = .ok (.iconst 0, 1) := by decide +kernel
theorem dX11_digestLine_4 : decode cX11_digestLine 4 = .ok (.istore 6, 2) := by decide +kernel
theorem dX11_digestLine_6 : decode cX11_digestLine 6 = .ok (.iload 6, 2) := by decide +kernel
theorem dX11_digestLine_8 : decode cX11_digestLine 8 = .ok (.iconst 5, 1) := by decide +kernel
theorem dX11_digestLine_9 : decode cX11_digestLine 9 = .ok (.if_icmp .gt 26, 3) := by decide +kernel
theorem dX11_digestLine_12 : decode cX11_digestLine 12 = .ok (.ldc2_w 307, 3) := by decide +kernel
theorem dX11_digestLine_15 : decode cX11_digestLine 15 = .ok (.lload 4, 2) := by decide +kernel
theorem dX11_digestLine_17 : decode cX11_digestLine 17 = .ok (.lmul, 1) := by decide +kernel
theorem dX11_digestLine_18 : decode cX11_digestLine 18 = .ok (.aload_n 0, 1) := by decide +kernel
theorem dX11_digestLine_19 : decode cX11_digestLine 19 = .ok (.iload_n 3, 1) := by decide +kernel
theorem dX11_digestLine_20 : decode cX11_digestLine 20 = .ok (.iload 6, 2) := by decide +kernel
theorem dX11_digestLine_22 : decode cX11_digestLine 22 = .ok (.invokevirtual 336, 3) := by decide +kernel
theorem dX11_digestLine_25 : decode cX11_digestLine 25 = .ok (.i2l, 1) := by decide +kernel
theorem dX11_digestLine_26 : decode cX11_digestLine 26 = .ok (.ladd, 1) := by decide +kernel
theorem dX11_digestLine_27 : decode cX11_digestLine 27 = .ok (.lstore 4, 2) := by decide +kernel
theorem dX11_digestLine_29 : decode cX11_digestLine 29 = .ok (.iinc 6 1, 3) := by decide +kernel
theorem dX11_digestLine_32 : decode cX11_digestLine 32 = .ok (.goto (-26), 3) := by decide +kernel
theorem dX11_digestLine_35 : decode cX11_digestLine 35 = .ok (.aload_n 0, 1) := by decide +kernel
theorem dX11_digestLine_36 : decode cX11_digestLine 36 = .ok (.getfield 10, 3) := by decide +kernel
theorem dX11_digestLine_39 : decode cX11_digestLine 39 = .ok (.getfield 120, 3) := by decide +kernel
theorem dX11_digestLine_42 : decode cX11_digestLine 42 = .ok (.iload_n 3, 1) := by decide +kernel
theorem dX11_digestLine_43 : decode cX11_digestLine 43 = .ok (.aaload, 1) := by decide +kernel
theorem dX11_digestLine_44 : decode cX11_digestLine 44 = .ok (.iconst 1, 1) := by decide +kernel
theorem dX11_digestLine_45 : decode cX11_digestLine 45 = .ok (.invokevirtual 144, 3) := by decide +kernel
theorem dX11_digestLine_48 : decode cX11_digestLine 48 = .ok (.ifCond .ne 6, 3) := by decide +kernel
theorem dX11_digestLine_51 : decode cX11_digestLine 51 = .ok (.lload 4, 2) := by decide +kernel
theorem dX11_digestLine_53 : decode cX11_digestLine 53 = .ok (.lreturn, 1) := by decide +kernel
theorem dX11_digestLine_54 : decode cX11_digestLine 54 = .ok (.iconst 0, 1) := by decide +kernel
theorem dX11_digestLine_55 : decode cX11_digestLine 55 = .ok (.istore 6, 2) := by decide +kernel
theorem dX11_digestLine_57 : decode cX11_digestLine 57 = .ok (.iload 6, 2) := by decide +kernel
theorem dX11_digestLine_59 : decode cX11_digestLine 59 = .ok (.bipush 24, 2) := by decide +kernel
theorem dX11_digestLine_61 : decode cX11_digestLine 61 = .ok (.if_icmp .ge 34, 3) := by decide +kernel
theorem dX11_digestLine_64 : decode cX11_digestLine 64 = .ok (.ldc2_w 307, 3) := by decide +kernel
theorem dX11_digestLine_67 : decode cX11_digestLine 67 = .ok (.lload 4, 2) := by decide +kernel
theorem dX11_digestLine_69 : decode cX11_digestLine 69 = .ok (.lmul, 1) := by decide +kernel
theorem dX11_digestLine_70 : decode cX11_digestLine 70 = .ok (.aload_n 0, 1) := by decide +kernel
theorem dX11_digestLine_71 : decode cX11_digestLine 71 = .ok (.getfield 10, 3) := by decide +kernel
theorem dX11_digestLine_74 : decode cX11_digestLine 74 = .ok (.getfield 120, 3) := by decide +kernel
theorem dX11_digestLine_77 : decode cX11_digestLine 77 = .ok (.iload_n 3, 1) := by decide +kernel
theorem dX11_digestLine_78 : decode cX11_digestLine 78 = .ok (.aaload, 1) := by decide +kernel
theorem dX11_digestLine_79 : decode cX11_digestLine 79 = .ok (.getfield 165, 3) := by decide +kernel
theorem dX11_digestLine_82 : decode cX11_digestLine 82 = .ok (.iload 6, 2) := by decide +kernel
theorem dX11_digestLine_84 : decode cX11_digestLine 84 = .ok (.iaload, 1) := by decide +kernel
theorem dX11_digestLine_85 : decode cX11_digestLine 85 = .ok (.i2l, 1) := by decide +kernel
theorem dX11_digestLine_86 : decode cX11_digestLine 86 = .ok (.ladd, 1) := by decide +kernel
theorem dX11_digestLine_87 : decode cX11_digestLine 87 = .ok (.lstore 4, 2) := by decide +kernel
theorem dX11_digestLine_89 : decode cX11_digestLine 89 = .ok (.iinc 6 1, 3) := by decide +kernel
theorem dX11_digestLine_92 : decode cX11_digestLine 92 = .ok (.goto (-35), 3) := by decide +kernel
theorem dX11_digestLine_95 : decode cX11_digestLine 95 = .ok (.lload 4, 2) := by decide +kernel
theorem dX11_digestLine_97 : decode cX11_digestLine 97 = .ok (.lreturn, 1) := by decide +kernel
theorem dX11_digestSheet_0 : decode cX11_digestSheet 0 = .ok (.ldc2_w 307, 3) := by decide +kernel
theorem dX11_digestSheet_3 : decode cX11_digestSheet 3 = .ok (.lload_n 1, 1) := by decide +kernel
theorem dX11_digestSheet_4 : decode cX11_digestSheet 4 = .ok (.lmul, 1) := by decide +kernel
theorem dX11_digestSheet_5 : decode cX11_digestSheet 5 = .ok (.aload_n 0, 1) := by decide +kernel
theorem dX11_digestSheet_6 : decode cX11_digestSheet 6 = .ok (.getfield 72, 3) := by decide +kernel
theorem dX11_digestSheet_9 : decode cX11_digestSheet 9 = .ok (.getfield 276, 3) := by decide +kernel
theorem dX11_digestSheet_12 : decode cX11_digestSheet 12 = .ok (.iload_n 3, 1) := by decide +kernel
theorem dX11_digestSheet_13 : decode cX11_digestSheet 13 = .ok (.iaload, 1) := by decide +kernel
theorem dX11_digestSheet_14 : decode cX11_digestSheet 14 = .ok (.i2l, 1) := by decide +kernel
theorem dX11_digestSheet_15 : decode cX11_digestSheet 15 = .ok (.ladd, 1) := by decide +kernel
theorem dX11_digestSheet_16 : decode cX11_digestSheet 16 = .ok (.lstore 4, 2) := by decide +kernel
theorem dX11_digestSheet_18 : decode cX11_digestSheet 18 = .ok (.iconst 0, 1) := by decide +kernel
theorem dX11_digestSheet_19 : decode cX11_digestSheet 19 = .ok (.istore 6, 2) := by decide +kernel
theorem dX11_digestSheet_21 : decode cX11_digestSheet 21 = .ok (.iload 6, 2) := by decide +kernel
theorem dX11_digestSheet_23 : decode cX11_digestSheet 23 = .ok (.aload_n 0, 1) := by decide +kernel
theorem dX11_digestSheet_24 : decode cX11_digestSheet 24 = .ok (.getfield 72, 3) := by decide +kernel
theorem dX11_digestSheet_27 : decode cX11_digestSheet 27 = .ok (.getfield 276, 3) := by decide +kernel
theorem dX11_digestSheet_30 : decode cX11_digestSheet 30 = .ok (.iload_n 3, 1) := by decide +kernel
theorem dX11_digestSheet_31 : decode cX11_digestSheet 31 = .ok (.iaload, 1) := by decide +kernel
theorem dX11_digestSheet_32 : decode cX11_digestSheet 32 = .ok (.if_icmp .ge 31, 3) := by decide +kernel
theorem dX11_digestSheet_35 : decode cX11_digestSheet 35 = .ok (.ldc2_w 307, 3) := by decide +kernel
theorem dX11_digestSheet_38 : decode cX11_digestSheet 38 = .ok (.lload 4, 2) := by decide +kernel
theorem dX11_digestSheet_40 : decode cX11_digestSheet 40 = .ok (.lmul, 1) := by decide +kernel
theorem dX11_digestSheet_41 : decode cX11_digestSheet 41 = .ok (.aload_n 0, 1) := by decide +kernel
theorem dX11_digestSheet_42 : decode cX11_digestSheet 42 = .ok (.getfield 72, 3) := by decide +kernel
theorem dX11_digestSheet_45 : decode cX11_digestSheet 45 = .ok (.getfield 279, 3) := by decide +kernel
theorem dX11_digestSheet_48 : decode cX11_digestSheet 48 = .ok (.iload_n 3, 1) := by decide +kernel
theorem dX11_digestSheet_49 : decode cX11_digestSheet 49 = .ok (.aaload, 1) := by decide +kernel
theorem dX11_digestSheet_50 : decode cX11_digestSheet 50 = .ok (.iload 6, 2) := by decide +kernel
theorem dX11_digestSheet_52 : decode cX11_digestSheet 52 = .ok (.baload, 1) := by decide +kernel
theorem dX11_digestSheet_53 : decode cX11_digestSheet 53 = .ok (.i2l, 1) := by decide +kernel
theorem dX11_digestSheet_54 : decode cX11_digestSheet 54 = .ok (.ladd, 1) := by decide +kernel
theorem dX11_digestSheet_55 : decode cX11_digestSheet 55 = .ok (.lstore 4, 2) := by decide +kernel
theorem dX11_digestSheet_57 : decode cX11_digestSheet 57 = .ok (.iinc 6 1, 3) := by decide +kernel
theorem dX11_digestSheet_60 : decode cX11_digestSheet 60 = .ok (.goto (-39), 3) := by decide +kernel
theorem dX11_digestSheet_63 : decode cX11_digestSheet 63 = .ok (.lload 4, 2) := by decide +kernel
theorem dX11_digestSheet_65 : decode cX11_digestSheet 65 = .ok (.lreturn, 1) := by decide +kernel
end
section
/-! decode rows -/
theorem dL_law_0 : decode cL_law 0 = .ok (.new 7, 3) := by decide +kernel
theorem dL_law_3 : decode cL_law 3 = .ok (.dup, 1) := by decide +kernel
theorem dL_law_4 : decode cL_law 4 = .ok (.invokespecial 9, 3) := by decide +kernel
theorem dL_law_7 : decode cL_law 7 = .ok (.astore_n 1, 1) := by decide +kernel
theorem dL_law_8 : decode cL_law 8 = .ok (.new 10, 3) := by decide +kernel
theorem dL_law_11 : decode cL_law 11 = .ok (.dup, 1) := by decide +kernel
theorem dL_law_12 : decode cL_law 12 = .ok (.invokespecial 12, 3) := by decide +kernel
theorem dL_law_15 : decode cL_law 15 = .ok (.astore_n 2, 1) := by decide +kernel
theorem dL_law_16 : decode cL_law 16 = .ok (.iconst 0, 1) := by decide +kernel
theorem dL_law_17 : decode cL_law 17 = .ok (.istore_n 3, 1) := by decide +kernel
theorem dL_law_18 : decode cL_law 18 = .ok (.iload_n 3, 1) := by decide +kernel
theorem dL_law_19 : decode cL_law 19 = .ok (.aload_n 0, 1) := by decide +kernel
theorem dL_law_20 : decode cL_law 20 = .ok (.arraylength, 1) := by decide +kernel
theorem dL_law_21 : decode cL_law 21 = .ok (.bipush 6, 2) := by decide +kernel
theorem dL_law_23 : decode cL_law 23 = .ok (.isub, 1) := by decide +kernel
theorem dL_law_24 : decode cL_law 24 = .ok (.if_icmp .gt 1235, 3) := by decide +kernel
theorem dL_law_27 : decode cL_law 27 = .ok (.aload_n 0, 1) := by decide +kernel
theorem dL_law_28 : decode cL_law 28 = .ok (.iload_n 3, 1) := by decide +kernel
theorem dL_law_29 : decode cL_law 29 = .ok (.iaload, 1) := by decide +kernel
theorem dL_law_30 : decode cL_law 30 = .ok (.bipush 63, 2) := by decide +kernel
theorem dL_law_32 : decode cL_law 32 = .ok (.iand, 1) := by decide +kernel
theorem dL_law_33 : decode cL_law 33 = .ok (.tableswitch 1220 0 32 #[147, 170, 213, 246, 279, 328, 361, 404, 447, 470, 513, 546, 589, 612, 645, 668, 737, 760, 773, 806, 849, 872, 915, 938, 971, 1014, 1047, 1070, 1133, 1147, 1170, 1183, 1206], 147) := by decide +kernel
theorem dL_law_180 : decode cL_law 180 = .ok (.aload_n 1, 1) := by decide +kernel
theorem dL_law_181 : decode cL_law 181 = .ok (.aload_n 0, 1) := by decide +kernel
theorem dL_law_182 : decode cL_law 182 = .ok (.iload_n 3, 1) := by decide +kernel
theorem dL_law_183 : decode cL_law 183 = .ok (.iconst 1, 1) := by decide +kernel
theorem dL_law_184 : decode cL_law 184 = .ok (.iadd, 1) := by decide +kernel
theorem dL_law_185 : decode cL_law 185 = .ok (.iaload, 1) := by decide +kernel
theorem dL_law_186 : decode cL_law 186 = .ok (.invokevirtual 13, 3) := by decide +kernel
theorem dL_law_189 : decode cL_law 189 = .ok (.aload_n 2, 1) := by decide +kernel
theorem dL_law_190 : decode cL_law 190 = .ok (.aload_n 0, 1) := by decide +kernel
theorem dL_law_191 : decode cL_law 191 = .ok (.iload_n 3, 1) := by decide +kernel
theorem dL_law_192 : decode cL_law 192 = .ok (.iconst 1, 1) := by decide +kernel
theorem dL_law_193 : decode cL_law 193 = .ok (.iadd, 1) := by decide +kernel
theorem dL_law_194 : decode cL_law 194 = .ok (.iaload, 1) := by decide +kernel
theorem dL_law_195 : decode cL_law 195 = .ok (.invokevirtual 17, 3) := by decide +kernel
theorem dL_law_198 : decode cL_law 198 = .ok (.if_icmp .eq 1055, 3) := by decide +kernel
theorem dL_law_201 : decode cL_law 201 = .ok (.iconst 0, 1) := by decide +kernel
theorem dL_law_202 : decode cL_law 202 = .ok (.ireturn, 1) := by decide +kernel
theorem dL_law_203 : decode cL_law 203 = .ok (.aload_n 1, 1) := by decide +kernel
theorem dL_law_204 : decode cL_law 204 = .ok (.aload_n 0, 1) := by decide +kernel
theorem dL_law_205 : decode cL_law 205 = .ok (.iload_n 3, 1) := by decide +kernel
theorem dL_law_206 : decode cL_law 206 = .ok (.iconst 1, 1) := by decide +kernel
theorem dL_law_207 : decode cL_law 207 = .ok (.iadd, 1) := by decide +kernel
theorem dL_law_208 : decode cL_law 208 = .ok (.iaload, 1) := by decide +kernel
theorem dL_law_209 : decode cL_law 209 = .ok (.aload_n 0, 1) := by decide +kernel
theorem dL_law_210 : decode cL_law 210 = .ok (.iload_n 3, 1) := by decide +kernel
theorem dL_law_211 : decode cL_law 211 = .ok (.iconst 2, 1) := by decide +kernel
theorem dL_law_212 : decode cL_law 212 = .ok (.iadd, 1) := by decide +kernel
theorem dL_law_213 : decode cL_law 213 = .ok (.iaload, 1) := by decide +kernel
theorem dL_law_214 : decode cL_law 214 = .ok (.aload_n 0, 1) := by decide +kernel
theorem dL_law_215 : decode cL_law 215 = .ok (.iload_n 3, 1) := by decide +kernel
theorem dL_law_216 : decode cL_law 216 = .ok (.iconst 3, 1) := by decide +kernel
theorem dL_law_217 : decode cL_law 217 = .ok (.iadd, 1) := by decide +kernel
theorem dL_law_218 : decode cL_law 218 = .ok (.iaload, 1) := by decide +kernel
theorem dL_law_219 : decode cL_law 219 = .ok (.invokevirtual 18, 3) := by decide +kernel
theorem dL_law_222 : decode cL_law 222 = .ok (.aload_n 2, 1) := by decide +kernel
theorem dL_law_223 : decode cL_law 223 = .ok (.aload_n 0, 1) := by decide +kernel
theorem dL_law_224 : decode cL_law 224 = .ok (.iload_n 3, 1) := by decide +kernel
theorem dL_law_225 : decode cL_law 225 = .ok (.iconst 1, 1) := by decide +kernel
theorem dL_law_226 : decode cL_law 226 = .ok (.iadd, 1) := by decide +kernel
theorem dL_law_227 : decode cL_law 227 = .ok (.iaload, 1) := by decide +kernel
theorem dL_law_228 : decode cL_law 228 = .ok (.aload_n 0, 1) := by decide +kernel
theorem dL_law_229 : decode cL_law 229 = .ok (.iload_n 3, 1) := by decide +kernel
theorem dL_law_230 : decode cL_law 230 = .ok (.iconst 2, 1) := by decide +kernel
theorem dL_law_231 : decode cL_law 231 = .ok (.iadd, 1) := by decide +kernel
theorem dL_law_232 : decode cL_law 232 = .ok (.iaload, 1) := by decide +kernel
theorem dL_law_233 : decode cL_law 233 = .ok (.aload_n 0, 1) := by decide +kernel
theorem dL_law_234 : decode cL_law 234 = .ok (.iload_n 3, 1) := by decide +kernel
theorem dL_law_235 : decode cL_law 235 = .ok (.iconst 3, 1) := by decide +kernel
theorem dL_law_236 : decode cL_law 236 = .ok (.iadd, 1) := by decide +kernel
theorem dL_law_237 : decode cL_law 237 = .ok (.iaload, 1) := by decide +kernel
theorem dL_law_238 : decode cL_law 238 = .ok (.invokevirtual 22, 3) := by decide +kernel
theorem dL_law_241 : decode cL_law 241 = .ok (.if_icmp .eq 1012, 3) := by decide +kernel
theorem dL_law_244 : decode cL_law 244 = .ok (.iconst 0, 1) := by decide +kernel
theorem dL_law_245 : decode cL_law 245 = .ok (.ireturn, 1) := by decide +kernel
theorem dL_law_246 : decode cL_law 246 = .ok (.aload_n 1, 1) := by decide +kernel
theorem dL_law_247 : decode cL_law 247 = .ok (.aload_n 0, 1) := by decide +kernel
theorem dL_law_248 : decode cL_law 248 = .ok (.iload_n 3, 1) := by decide +kernel
theorem dL_law_249 : decode cL_law 249 = .ok (.iconst 1, 1) := by decide +kernel
theorem dL_law_250 : decode cL_law 250 = .ok (.iadd, 1) := by decide +kernel
theorem dL_law_251 : decode cL_law 251 = .ok (.iaload, 1) := by decide +kernel
theorem dL_law_252 : decode cL_law 252 = .ok (.aload_n 0, 1) := by decide +kernel
theorem dL_law_253 : decode cL_law 253 = .ok (.iload_n 3, 1) := by decide +kernel
theorem dL_law_254 : decode cL_law 254 = .ok (.iconst 2, 1) := by decide +kernel
theorem dL_law_255 : decode cL_law 255 = .ok (.iadd, 1) := by decide +kernel
theorem dL_law_256 : decode cL_law 256 = .ok (.iaload, 1) := by decide +kernel
theorem dL_law_257 : decode cL_law 257 = .ok (.invokevirtual 23, 3) := by decide +kernel
theorem dL_law_260 : decode cL_law 260 = .ok (.aload_n 2, 1) := by decide +kernel
theorem dL_law_261 : decode cL_law 261 = .ok (.aload_n 0, 1) := by decide +kernel
theorem dL_law_262 : decode cL_law 262 = .ok (.iload_n 3, 1) := by decide +kernel
theorem dL_law_263 : decode cL_law 263 = .ok (.iconst 1, 1) := by decide +kernel
theorem dL_law_264 : decode cL_law 264 = .ok (.iadd, 1) := by decide +kernel
theorem dL_law_265 : decode cL_law 265 = .ok (.iaload, 1) := by decide +kernel
theorem dL_law_266 : decode cL_law 266 = .ok (.aload_n 0, 1) := by decide +kernel
theorem dL_law_267 : decode cL_law 267 = .ok (.iload_n 3, 1) := by decide +kernel
theorem dL_law_268 : decode cL_law 268 = .ok (.iconst 2, 1) := by decide +kernel
theorem dL_law_269 : decode cL_law 269 = .ok (.iadd, 1) := by decide +kernel
theorem dL_law_270 : decode cL_law 270 = .ok (.iaload, 1) := by decide +kernel
theorem dL_law_271 : decode cL_law 271 = .ok (.invokevirtual 27, 3) := by decide +kernel
theorem dL_law_274 : decode cL_law 274 = .ok (.if_icmp .eq 979, 3) := by decide +kernel
theorem dL_law_277 : decode cL_law 277 = .ok (.iconst 0, 1) := by decide +kernel
theorem dL_law_278 : decode cL_law 278 = .ok (.ireturn, 1) := by decide +kernel
theorem dL_law_279 : decode cL_law 279 = .ok (.aload_n 1, 1) := by decide +kernel
theorem dL_law_280 : decode cL_law 280 = .ok (.aload_n 0, 1) := by decide +kernel
theorem dL_law_281 : decode cL_law 281 = .ok (.iload_n 3, 1) := by decide +kernel
theorem dL_law_282 : decode cL_law 282 = .ok (.iconst 1, 1) := by decide +kernel
theorem dL_law_283 : decode cL_law 283 = .ok (.iadd, 1) := by decide +kernel
theorem dL_law_284 : decode cL_law 284 = .ok (.iaload, 1) := by decide +kernel
theorem dL_law_285 : decode cL_law 285 = .ok (.aload_n 0, 1) := by decide +kernel
theorem dL_law_286 : decode cL_law 286 = .ok (.iload_n 3, 1) := by decide +kernel
theorem dL_law_287 : decode cL_law 287 = .ok (.iconst 2, 1) := by decide +kernel
theorem dL_law_288 : decode cL_law 288 = .ok (.iadd, 1) := by decide +kernel
theorem dL_law_289 : decode cL_law 289 = .ok (.iaload, 1) := by decide +kernel
theorem dL_law_290 : decode cL_law 290 = .ok (.invokevirtual 28, 3) := by decide +kernel
theorem dL_law_293 : decode cL_law 293 = .ok (.aload_n 2, 1) := by decide +kernel
theorem dL_law_294 : decode cL_law 294 = .ok (.aload_n 0, 1) := by decide +kernel
theorem dL_law_295 : decode cL_law 295 = .ok (.iload_n 3, 1) := by decide +kernel
theorem dL_law_296 : decode cL_law 296 = .ok (.iconst 1, 1) := by decide +kernel
theorem dL_law_297 : decode cL_law 297 = .ok (.iadd, 1) := by decide +kernel
theorem dL_law_298 : decode cL_law 298 = .ok (.iaload, 1) := by decide +kernel
theorem dL_law_299 : decode cL_law 299 = .ok (.aload_n 0, 1) := by decide +kernel
theorem dL_law_300 : decode cL_law 300 = .ok (.iload_n 3, 1) := by decide +kernel
theorem dL_law_301 : decode cL_law 301 = .ok (.iconst 2, 1) := by decide +kernel
theorem dL_law_302 : decode cL_law 302 = .ok (.iadd, 1) := by decide +kernel
theorem dL_law_303 : decode cL_law 303 = .ok (.iaload, 1) := by decide +kernel
theorem dL_law_304 : decode cL_law 304 = .ok (.invokevirtual 31, 3) := by decide +kernel
theorem dL_law_307 : decode cL_law 307 = .ok (.if_icmp .eq 946, 3) := by decide +kernel
theorem dL_law_310 : decode cL_law 310 = .ok (.iconst 0, 1) := by decide +kernel
theorem dL_law_311 : decode cL_law 311 = .ok (.ireturn, 1) := by decide +kernel
theorem dL_law_312 : decode cL_law 312 = .ok (.aload_n 1, 1) := by decide +kernel
theorem dL_law_313 : decode cL_law 313 = .ok (.aload_n 0, 1) := by decide +kernel
theorem dL_law_314 : decode cL_law 314 = .ok (.iload_n 3, 1) := by decide +kernel
theorem dL_law_315 : decode cL_law 315 = .ok (.iconst 1, 1) := by decide +kernel
theorem dL_law_316 : decode cL_law 316 = .ok (.iadd, 1) := by decide +kernel
theorem dL_law_317 : decode cL_law 317 = .ok (.iaload, 1) := by decide +kernel
theorem dL_law_318 : decode cL_law 318 = .ok (.aload_n 0, 1) := by decide +kernel
theorem dL_law_319 : decode cL_law 319 = .ok (.iload_n 3, 1) := by decide +kernel
theorem dL_law_320 : decode cL_law 320 = .ok (.iconst 2, 1) := by decide +kernel
theorem dL_law_321 : decode cL_law 321 = .ok (.iadd, 1) := by decide +kernel
theorem dL_law_322 : decode cL_law 322 = .ok (.iaload, 1) := by decide +kernel
theorem dL_law_323 : decode cL_law 323 = .ok (.ifCond .eq 7, 3) := by decide +kernel
theorem dL_law_326 : decode cL_law 326 = .ok (.iconst 1, 1) := by decide +kernel
theorem dL_law_327 : decode cL_law 327 = .ok (.goto 4, 3) := by decide +kernel
theorem dL_law_330 : decode cL_law 330 = .ok (.iconst 0, 1) := by decide +kernel
theorem dL_law_331 : decode cL_law 331 = .ok (.invokevirtual 32, 3) := by decide +kernel
theorem dL_law_334 : decode cL_law 334 = .ok (.aload_n 2, 1) := by decide +kernel
theorem dL_law_335 : decode cL_law 335 = .ok (.aload_n 0, 1) := by decide +kernel
theorem dL_law_336 : decode cL_law 336 = .ok (.iload_n 3, 1) := by decide +kernel
theorem dL_law_337 : decode cL_law 337 = .ok (.iconst 1, 1) := by decide +kernel
theorem dL_law_338 : decode cL_law 338 = .ok (.iadd, 1) := by decide +kernel
theorem dL_law_339 : decode cL_law 339 = .ok (.iaload, 1) := by decide +kernel
theorem dL_law_340 : decode cL_law 340 = .ok (.aload_n 0, 1) := by decide +kernel
theorem dL_law_341 : decode cL_law 341 = .ok (.iload_n 3, 1) := by decide +kernel
theorem dL_law_342 : decode cL_law 342 = .ok (.iconst 2, 1) := by decide +kernel
theorem dL_law_343 : decode cL_law 343 = .ok (.iadd, 1) := by decide +kernel
theorem dL_law_344 : decode cL_law 344 = .ok (.iaload, 1) := by decide +kernel
theorem dL_law_345 : decode cL_law 345 = .ok (.ifCond .eq 7, 3) := by decide +kernel
theorem dL_law_348 : decode cL_law 348 = .ok (.iconst 1, 1) := by decide +kernel
theorem dL_law_349 : decode cL_law 349 = .ok (.goto 4, 3) := by decide +kernel
theorem dL_law_352 : decode cL_law 352 = .ok (.iconst 0, 1) := by decide +kernel
theorem dL_law_353 : decode cL_law 353 = .ok (.invokevirtual 36, 3) := by decide +kernel
theorem dL_law_356 : decode cL_law 356 = .ok (.if_icmp .eq 897, 3) := by decide +kernel
theorem dL_law_359 : decode cL_law 359 = .ok (.iconst 0, 1) := by decide +kernel
theorem dL_law_360 : decode cL_law 360 = .ok (.ireturn, 1) := by decide +kernel
theorem dL_law_361 : decode cL_law 361 = .ok (.aload_n 1, 1) := by decide +kernel
theorem dL_law_362 : decode cL_law 362 = .ok (.aload_n 0, 1) := by decide +kernel
theorem dL_law_363 : decode cL_law 363 = .ok (.iload_n 3, 1) := by decide +kernel
theorem dL_law_364 : decode cL_law 364 = .ok (.iconst 1, 1) := by decide +kernel
theorem dL_law_365 : decode cL_law 365 = .ok (.iadd, 1) := by decide +kernel
theorem dL_law_366 : decode cL_law 366 = .ok (.iaload, 1) := by decide +kernel
theorem dL_law_367 : decode cL_law 367 = .ok (.aload_n 0, 1) := by decide +kernel
theorem dL_law_368 : decode cL_law 368 = .ok (.iload_n 3, 1) := by decide +kernel
theorem dL_law_369 : decode cL_law 369 = .ok (.iconst 2, 1) := by decide +kernel
theorem dL_law_370 : decode cL_law 370 = .ok (.iadd, 1) := by decide +kernel
theorem dL_law_371 : decode cL_law 371 = .ok (.iaload, 1) := by decide +kernel
theorem dL_law_372 : decode cL_law 372 = .ok (.invokevirtual 37, 3) := by decide +kernel
theorem dL_law_375 : decode cL_law 375 = .ok (.aload_n 2, 1) := by decide +kernel
theorem dL_law_376 : decode cL_law 376 = .ok (.aload_n 0, 1) := by decide +kernel
theorem dL_law_377 : decode cL_law 377 = .ok (.iload_n 3, 1) := by decide +kernel
theorem dL_law_378 : decode cL_law 378 = .ok (.iconst 1, 1) := by decide +kernel
theorem dL_law_379 : decode cL_law 379 = .ok (.iadd, 1) := by decide +kernel
theorem dL_law_380 : decode cL_law 380 = .ok (.iaload, 1) := by decide +kernel
theorem dL_law_381 : decode cL_law 381 = .ok (.aload_n 0, 1) := by decide +kernel
theorem dL_law_382 : decode cL_law 382 = .ok (.iload_n 3, 1) := by decide +kernel
theorem dL_law_383 : decode cL_law 383 = .ok (.iconst 2, 1) := by decide +kernel
theorem dL_law_384 : decode cL_law 384 = .ok (.iadd, 1) := by decide +kernel
theorem dL_law_385 : decode cL_law 385 = .ok (.iaload, 1) := by decide +kernel
theorem dL_law_386 : decode cL_law 386 = .ok (.invokevirtual 40, 3) := by decide +kernel
theorem dL_law_389 : decode cL_law 389 = .ok (.if_icmp .eq 864, 3) := by decide +kernel
theorem dL_law_392 : decode cL_law 392 = .ok (.iconst 0, 1) := by decide +kernel
theorem dL_law_393 : decode cL_law 393 = .ok (.ireturn, 1) := by decide +kernel
theorem dL_law_394 : decode cL_law 394 = .ok (.aload_n 1, 1) := by decide +kernel
theorem dL_law_395 : decode cL_law 395 = .ok (.aload_n 0, 1) := by decide +kernel
theorem dL_law_396 : decode cL_law 396 = .ok (.iload_n 3, 1) := by decide +kernel
theorem dL_law_397 : decode cL_law 397 = .ok (.iconst 1, 1) := by decide +kernel
theorem dL_law_398 : decode cL_law 398 = .ok (.iadd, 1) := by decide +kernel
theorem dL_law_399 : decode cL_law 399 = .ok (.iaload, 1) := by decide +kernel
theorem dL_law_400 : decode cL_law 400 = .ok (.aload_n 0, 1) := by decide +kernel
theorem dL_law_401 : decode cL_law 401 = .ok (.iload_n 3, 1) := by decide +kernel
theorem dL_law_402 : decode cL_law 402 = .ok (.iconst 2, 1) := by decide +kernel
theorem dL_law_403 : decode cL_law 403 = .ok (.iadd, 1) := by decide +kernel
theorem dL_law_404 : decode cL_law 404 = .ok (.iaload, 1) := by decide +kernel
theorem dL_law_405 : decode cL_law 405 = .ok (.aload_n 0, 1) := by decide +kernel
theorem dL_law_406 : decode cL_law 406 = .ok (.iload_n 3, 1) := by decide +kernel
theorem dL_law_407 : decode cL_law 407 = .ok (.iconst 3, 1) := by decide +kernel
theorem dL_law_408 : decode cL_law 408 = .ok (.iadd, 1) := by decide +kernel
theorem dL_law_409 : decode cL_law 409 = .ok (.iaload, 1) := by decide +kernel
theorem dL_law_410 : decode cL_law 410 = .ok (.invokevirtual 41, 3) := by decide +kernel
theorem dL_law_413 : decode cL_law 413 = .ok (.aload_n 2, 1) := by decide +kernel
theorem dL_law_414 : decode cL_law 414 = .ok (.aload_n 0, 1) := by decide +kernel
theorem dL_law_415 : decode cL_law 415 = .ok (.iload_n 3, 1) := by decide +kernel
theorem dL_law_416 : decode cL_law 416 = .ok (.iconst 1, 1) := by decide +kernel
theorem dL_law_417 : decode cL_law 417 = .ok (.iadd, 1) := by decide +kernel
theorem dL_law_418 : decode cL_law 418 = .ok (.iaload, 1) := by decide +kernel
theorem dL_law_419 : decode cL_law 419 = .ok (.aload_n 0, 1) := by decide +kernel
theorem dL_law_420 : decode cL_law 420 = .ok (.iload_n 3, 1) := by decide +kernel
theorem dL_law_421 : decode cL_law 421 = .ok (.iconst 2, 1) := by decide +kernel
theorem dL_law_422 : decode cL_law 422 = .ok (.iadd, 1) := by decide +kernel
theorem dL_law_423 : decode cL_law 423 = .ok (.iaload, 1) := by decide +kernel
theorem dL_law_424 : decode cL_law 424 = .ok (.aload_n 0, 1) := by decide +kernel
theorem dL_law_425 : decode cL_law 425 = .ok (.iload_n 3, 1) := by decide +kernel
theorem dL_law_426 : decode cL_law 426 = .ok (.iconst 3, 1) := by decide +kernel
theorem dL_law_427 : decode cL_law 427 = .ok (.iadd, 1) := by decide +kernel
theorem dL_law_428 : decode cL_law 428 = .ok (.iaload, 1) := by decide +kernel
theorem dL_law_429 : decode cL_law 429 = .ok (.invokevirtual 44, 3) := by decide +kernel
theorem dL_law_432 : decode cL_law 432 = .ok (.if_icmp .eq 821, 3) := by decide +kernel
theorem dL_law_435 : decode cL_law 435 = .ok (.iconst 0, 1) := by decide +kernel
theorem dL_law_436 : decode cL_law 436 = .ok (.ireturn, 1) := by decide +kernel
theorem dL_law_437 : decode cL_law 437 = .ok (.aload_n 1, 1) := by decide +kernel
theorem dL_law_438 : decode cL_law 438 = .ok (.aload_n 0, 1) := by decide +kernel
theorem dL_law_439 : decode cL_law 439 = .ok (.iload_n 3, 1) := by decide +kernel
theorem dL_law_440 : decode cL_law 440 = .ok (.iconst 1, 1) := by decide +kernel
theorem dL_law_441 : decode cL_law 441 = .ok (.iadd, 1) := by decide +kernel
theorem dL_law_442 : decode cL_law 442 = .ok (.iaload, 1) := by decide +kernel
theorem dL_law_443 : decode cL_law 443 = .ok (.aload_n 0, 1) := by decide +kernel
theorem dL_law_444 : decode cL_law 444 = .ok (.iload_n 3, 1) := by decide +kernel
theorem dL_law_445 : decode cL_law 445 = .ok (.iconst 2, 1) := by decide +kernel
theorem dL_law_446 : decode cL_law 446 = .ok (.iadd, 1) := by decide +kernel
theorem dL_law_447 : decode cL_law 447 = .ok (.iaload, 1) := by decide +kernel
theorem dL_law_448 : decode cL_law 448 = .ok (.aload_n 0, 1) := by decide +kernel
theorem dL_law_449 : decode cL_law 449 = .ok (.iload_n 3, 1) := by decide +kernel
theorem dL_law_450 : decode cL_law 450 = .ok (.iconst 3, 1) := by decide +kernel
theorem dL_law_451 : decode cL_law 451 = .ok (.iadd, 1) := by decide +kernel
theorem dL_law_452 : decode cL_law 452 = .ok (.iaload, 1) := by decide +kernel
theorem dL_law_453 : decode cL_law 453 = .ok (.invokevirtual 45, 3) := by decide +kernel
theorem dL_law_456 : decode cL_law 456 = .ok (.aload_n 2, 1) := by decide +kernel
theorem dL_law_457 : decode cL_law 457 = .ok (.aload_n 0, 1) := by decide +kernel
theorem dL_law_458 : decode cL_law 458 = .ok (.iload_n 3, 1) := by decide +kernel
theorem dL_law_459 : decode cL_law 459 = .ok (.iconst 1, 1) := by decide +kernel
theorem dL_law_460 : decode cL_law 460 = .ok (.iadd, 1) := by decide +kernel
theorem dL_law_461 : decode cL_law 461 = .ok (.iaload, 1) := by decide +kernel
theorem dL_law_462 : decode cL_law 462 = .ok (.aload_n 0, 1) := by decide +kernel
theorem dL_law_463 : decode cL_law 463 = .ok (.iload_n 3, 1) := by decide +kernel
theorem dL_law_464 : decode cL_law 464 = .ok (.iconst 2, 1) := by decide +kernel
theorem dL_law_465 : decode cL_law 465 = .ok (.iadd, 1) := by decide +kernel
theorem dL_law_466 : decode cL_law 466 = .ok (.iaload, 1) := by decide +kernel
theorem dL_law_467 : decode cL_law 467 = .ok (.aload_n 0, 1) := by decide +kernel
theorem dL_law_468 : decode cL_law 468 = .ok (.iload_n 3, 1) := by decide +kernel
theorem dL_law_469 : decode cL_law 469 = .ok (.iconst 3, 1) := by decide +kernel
theorem dL_law_470 : decode cL_law 470 = .ok (.iadd, 1) := by decide +kernel
theorem dL_law_471 : decode cL_law 471 = .ok (.iaload, 1) := by decide +kernel
theorem dL_law_472 : decode cL_law 472 = .ok (.invokevirtual 48, 3) := by decide +kernel
theorem dL_law_475 : decode cL_law 475 = .ok (.if_icmp .eq 778, 3) := by decide +kernel
theorem dL_law_478 : decode cL_law 478 = .ok (.iconst 0, 1) := by decide +kernel
theorem dL_law_479 : decode cL_law 479 = .ok (.ireturn, 1) := by decide +kernel
theorem dL_law_480 : decode cL_law 480 = .ok (.aload_n 1, 1) := by decide +kernel
theorem dL_law_481 : decode cL_law 481 = .ok (.aload_n 0, 1) := by decide +kernel
theorem dL_law_482 : decode cL_law 482 = .ok (.iload_n 3, 1) := by decide +kernel
theorem dL_law_483 : decode cL_law 483 = .ok (.iconst 1, 1) := by decide +kernel
theorem dL_law_484 : decode cL_law 484 = .ok (.iadd, 1) := by decide +kernel
theorem dL_law_485 : decode cL_law 485 = .ok (.iaload, 1) := by decide +kernel
theorem dL_law_486 : decode cL_law 486 = .ok (.invokevirtual 49, 3) := by decide +kernel
theorem dL_law_489 : decode cL_law 489 = .ok (.aload_n 2, 1) := by decide +kernel
theorem dL_law_490 : decode cL_law 490 = .ok (.aload_n 0, 1) := by decide +kernel
theorem dL_law_491 : decode cL_law 491 = .ok (.iload_n 3, 1) := by decide +kernel
theorem dL_law_492 : decode cL_law 492 = .ok (.iconst 1, 1) := by decide +kernel
theorem dL_law_493 : decode cL_law 493 = .ok (.iadd, 1) := by decide +kernel
theorem dL_law_494 : decode cL_law 494 = .ok (.iaload, 1) := by decide +kernel
theorem dL_law_495 : decode cL_law 495 = .ok (.invokevirtual 52, 3) := by decide +kernel
theorem dL_law_498 : decode cL_law 498 = .ok (.if_icmp .eq 755, 3) := by decide +kernel
theorem dL_law_501 : decode cL_law 501 = .ok (.iconst 0, 1) := by decide +kernel
theorem dL_law_502 : decode cL_law 502 = .ok (.ireturn, 1) := by decide +kernel
theorem dL_law_503 : decode cL_law 503 = .ok (.aload_n 1, 1) := by decide +kernel
theorem dL_law_504 : decode cL_law 504 = .ok (.aload_n 0, 1) := by decide +kernel
theorem dL_law_505 : decode cL_law 505 = .ok (.iload_n 3, 1) := by decide +kernel
theorem dL_law_506 : decode cL_law 506 = .ok (.iconst 1, 1) := by decide +kernel
theorem dL_law_507 : decode cL_law 507 = .ok (.iadd, 1) := by decide +kernel
theorem dL_law_508 : decode cL_law 508 = .ok (.iaload, 1) := by decide +kernel
theorem dL_law_509 : decode cL_law 509 = .ok (.aload_n 0, 1) := by decide +kernel
theorem dL_law_510 : decode cL_law 510 = .ok (.iload_n 3, 1) := by decide +kernel
theorem dL_law_511 : decode cL_law 511 = .ok (.iconst 2, 1) := by decide +kernel
theorem dL_law_512 : decode cL_law 512 = .ok (.iadd, 1) := by decide +kernel
theorem dL_law_513 : decode cL_law 513 = .ok (.iaload, 1) := by decide +kernel
theorem dL_law_514 : decode cL_law 514 = .ok (.aload_n 0, 1) := by decide +kernel
theorem dL_law_515 : decode cL_law 515 = .ok (.iload_n 3, 1) := by decide +kernel
theorem dL_law_516 : decode cL_law 516 = .ok (.iconst 3, 1) := by decide +kernel
theorem dL_law_517 : decode cL_law 517 = .ok (.iadd, 1) := by decide +kernel
theorem dL_law_518 : decode cL_law 518 = .ok (.iaload, 1) := by decide +kernel
theorem dL_law_519 : decode cL_law 519 = .ok (.invokevirtual 53, 3) := by decide +kernel
theorem dL_law_522 : decode cL_law 522 = .ok (.aload_n 2, 1) := by decide +kernel
theorem dL_law_523 : decode cL_law 523 = .ok (.aload_n 0, 1) := by decide +kernel
theorem dL_law_524 : decode cL_law 524 = .ok (.iload_n 3, 1) := by decide +kernel
theorem dL_law_525 : decode cL_law 525 = .ok (.iconst 1, 1) := by decide +kernel
theorem dL_law_526 : decode cL_law 526 = .ok (.iadd, 1) := by decide +kernel
theorem dL_law_527 : decode cL_law 527 = .ok (.iaload, 1) := by decide +kernel
theorem dL_law_528 : decode cL_law 528 = .ok (.aload_n 0, 1) := by decide +kernel
theorem dL_law_529 : decode cL_law 529 = .ok (.iload_n 3, 1) := by decide +kernel
theorem dL_law_530 : decode cL_law 530 = .ok (.iconst 2, 1) := by decide +kernel
theorem dL_law_531 : decode cL_law 531 = .ok (.iadd, 1) := by decide +kernel
theorem dL_law_532 : decode cL_law 532 = .ok (.iaload, 1) := by decide +kernel
theorem dL_law_533 : decode cL_law 533 = .ok (.aload_n 0, 1) := by decide +kernel
theorem dL_law_534 : decode cL_law 534 = .ok (.iload_n 3, 1) := by decide +kernel
theorem dL_law_535 : decode cL_law 535 = .ok (.iconst 3, 1) := by decide +kernel
theorem dL_law_536 : decode cL_law 536 = .ok (.iadd, 1) := by decide +kernel
theorem dL_law_537 : decode cL_law 537 = .ok (.iaload, 1) := by decide +kernel
theorem dL_law_538 : decode cL_law 538 = .ok (.invokevirtual 56, 3) := by decide +kernel
theorem dL_law_541 : decode cL_law 541 = .ok (.if_icmp .eq 712, 3) := by decide +kernel
theorem dL_law_544 : decode cL_law 544 = .ok (.iconst 0, 1) := by decide +kernel
theorem dL_law_545 : decode cL_law 545 = .ok (.ireturn, 1) := by decide +kernel
theorem dL_law_546 : decode cL_law 546 = .ok (.aload_n 1, 1) := by decide +kernel
theorem dL_law_547 : decode cL_law 547 = .ok (.aload_n 0, 1) := by decide +kernel
theorem dL_law_548 : decode cL_law 548 = .ok (.iload_n 3, 1) := by decide +kernel
theorem dL_law_549 : decode cL_law 549 = .ok (.iconst 1, 1) := by decide +kernel
theorem dL_law_550 : decode cL_law 550 = .ok (.iadd, 1) := by decide +kernel
theorem dL_law_551 : decode cL_law 551 = .ok (.iaload, 1) := by decide +kernel
theorem dL_law_552 : decode cL_law 552 = .ok (.aload_n 0, 1) := by decide +kernel
theorem dL_law_553 : decode cL_law 553 = .ok (.iload_n 3, 1) := by decide +kernel
theorem dL_law_554 : decode cL_law 554 = .ok (.iconst 2, 1) := by decide +kernel
theorem dL_law_555 : decode cL_law 555 = .ok (.iadd, 1) := by decide +kernel
theorem dL_law_556 : decode cL_law 556 = .ok (.iaload, 1) := by decide +kernel
theorem dL_law_557 : decode cL_law 557 = .ok (.invokevirtual 57, 3) := by decide +kernel
theorem dL_law_560 : decode cL_law 560 = .ok (.aload_n 2, 1) := by decide +kernel
theorem dL_law_561 : decode cL_law 561 = .ok (.aload_n 0, 1) := by decide +kernel
theorem dL_law_562 : decode cL_law 562 = .ok (.iload_n 3, 1) := by decide +kernel
theorem dL_law_563 : decode cL_law 563 = .ok (.iconst 1, 1) := by decide +kernel
theorem dL_law_564 : decode cL_law 564 = .ok (.iadd, 1) := by decide +kernel
theorem dL_law_565 : decode cL_law 565 = .ok (.iaload, 1) := by decide +kernel
theorem dL_law_566 : decode cL_law 566 = .ok (.aload_n 0, 1) := by decide +kernel
theorem dL_law_567 : decode cL_law 567 = .ok (.iload_n 3, 1) := by decide +kernel
theorem dL_law_568 : decode cL_law 568 = .ok (.iconst 2, 1) := by decide +kernel
theorem dL_law_569 : decode cL_law 569 = .ok (.iadd, 1) := by decide +kernel
theorem dL_law_570 : decode cL_law 570 = .ok (.iaload, 1) := by decide +kernel
theorem dL_law_571 : decode cL_law 571 = .ok (.invokevirtual 60, 3) := by decide +kernel
theorem dL_law_574 : decode cL_law 574 = .ok (.if_icmp .eq 679, 3) := by decide +kernel
theorem dL_law_577 : decode cL_law 577 = .ok (.iconst 0, 1) := by decide +kernel
theorem dL_law_578 : decode cL_law 578 = .ok (.ireturn, 1) := by decide +kernel
theorem dL_law_579 : decode cL_law 579 = .ok (.aload_n 1, 1) := by decide +kernel
theorem dL_law_580 : decode cL_law 580 = .ok (.aload_n 0, 1) := by decide +kernel
theorem dL_law_581 : decode cL_law 581 = .ok (.iload_n 3, 1) := by decide +kernel
theorem dL_law_582 : decode cL_law 582 = .ok (.iconst 1, 1) := by decide +kernel
theorem dL_law_583 : decode cL_law 583 = .ok (.iadd, 1) := by decide +kernel
theorem dL_law_584 : decode cL_law 584 = .ok (.iaload, 1) := by decide +kernel
theorem dL_law_585 : decode cL_law 585 = .ok (.aload_n 0, 1) := by decide +kernel
theorem dL_law_586 : decode cL_law 586 = .ok (.iload_n 3, 1) := by decide +kernel
theorem dL_law_587 : decode cL_law 587 = .ok (.iconst 2, 1) := by decide +kernel
theorem dL_law_588 : decode cL_law 588 = .ok (.iadd, 1) := by decide +kernel
theorem dL_law_589 : decode cL_law 589 = .ok (.iaload, 1) := by decide +kernel
theorem dL_law_590 : decode cL_law 590 = .ok (.aload_n 0, 1) := by decide +kernel
theorem dL_law_591 : decode cL_law 591 = .ok (.iload_n 3, 1) := by decide +kernel
theorem dL_law_592 : decode cL_law 592 = .ok (.iconst 3, 1) := by decide +kernel
theorem dL_law_593 : decode cL_law 593 = .ok (.iadd, 1) := by decide +kernel
theorem dL_law_594 : decode cL_law 594 = .ok (.iaload, 1) := by decide +kernel
theorem dL_law_595 : decode cL_law 595 = .ok (.invokevirtual 61, 3) := by decide +kernel
theorem dL_law_598 : decode cL_law 598 = .ok (.aload_n 2, 1) := by decide +kernel
theorem dL_law_599 : decode cL_law 599 = .ok (.aload_n 0, 1) := by decide +kernel
theorem dL_law_600 : decode cL_law 600 = .ok (.iload_n 3, 1) := by decide +kernel
theorem dL_law_601 : decode cL_law 601 = .ok (.iconst 1, 1) := by decide +kernel
theorem dL_law_602 : decode cL_law 602 = .ok (.iadd, 1) := by decide +kernel
theorem dL_law_603 : decode cL_law 603 = .ok (.iaload, 1) := by decide +kernel
theorem dL_law_604 : decode cL_law 604 = .ok (.aload_n 0, 1) := by decide +kernel
theorem dL_law_605 : decode cL_law 605 = .ok (.iload_n 3, 1) := by decide +kernel
theorem dL_law_606 : decode cL_law 606 = .ok (.iconst 2, 1) := by decide +kernel
theorem dL_law_607 : decode cL_law 607 = .ok (.iadd, 1) := by decide +kernel
theorem dL_law_608 : decode cL_law 608 = .ok (.iaload, 1) := by decide +kernel
theorem dL_law_609 : decode cL_law 609 = .ok (.aload_n 0, 1) := by decide +kernel
theorem dL_law_610 : decode cL_law 610 = .ok (.iload_n 3, 1) := by decide +kernel
theorem dL_law_611 : decode cL_law 611 = .ok (.iconst 3, 1) := by decide +kernel
theorem dL_law_612 : decode cL_law 612 = .ok (.iadd, 1) := by decide +kernel
theorem dL_law_613 : decode cL_law 613 = .ok (.iaload, 1) := by decide +kernel
theorem dL_law_614 : decode cL_law 614 = .ok (.invokevirtual 64, 3) := by decide +kernel
theorem dL_law_617 : decode cL_law 617 = .ok (.if_icmp .eq 636, 3) := by decide +kernel
theorem dL_law_620 : decode cL_law 620 = .ok (.iconst 0, 1) := by decide +kernel
theorem dL_law_621 : decode cL_law 621 = .ok (.ireturn, 1) := by decide +kernel
theorem dL_law_622 : decode cL_law 622 = .ok (.aload_n 1, 1) := by decide +kernel
theorem dL_law_623 : decode cL_law 623 = .ok (.aload_n 0, 1) := by decide +kernel
theorem dL_law_624 : decode cL_law 624 = .ok (.iload_n 3, 1) := by decide +kernel
theorem dL_law_625 : decode cL_law 625 = .ok (.iconst 1, 1) := by decide +kernel
theorem dL_law_626 : decode cL_law 626 = .ok (.iadd, 1) := by decide +kernel
theorem dL_law_627 : decode cL_law 627 = .ok (.iaload, 1) := by decide +kernel
theorem dL_law_628 : decode cL_law 628 = .ok (.invokevirtual 65, 3) := by decide +kernel
theorem dL_law_631 : decode cL_law 631 = .ok (.aload_n 2, 1) := by decide +kernel
theorem dL_law_632 : decode cL_law 632 = .ok (.aload_n 0, 1) := by decide +kernel
theorem dL_law_633 : decode cL_law 633 = .ok (.iload_n 3, 1) := by decide +kernel
theorem dL_law_634 : decode cL_law 634 = .ok (.iconst 1, 1) := by decide +kernel
theorem dL_law_635 : decode cL_law 635 = .ok (.iadd, 1) := by decide +kernel
theorem dL_law_636 : decode cL_law 636 = .ok (.iaload, 1) := by decide +kernel
theorem dL_law_637 : decode cL_law 637 = .ok (.invokevirtual 68, 3) := by decide +kernel
theorem dL_law_640 : decode cL_law 640 = .ok (.if_icmp .eq 613, 3) := by decide +kernel
theorem dL_law_643 : decode cL_law 643 = .ok (.iconst 0, 1) := by decide +kernel
theorem dL_law_644 : decode cL_law 644 = .ok (.ireturn, 1) := by decide +kernel
theorem dL_law_645 : decode cL_law 645 = .ok (.aload_n 1, 1) := by decide +kernel
theorem dL_law_646 : decode cL_law 646 = .ok (.aload_n 0, 1) := by decide +kernel
theorem dL_law_647 : decode cL_law 647 = .ok (.iload_n 3, 1) := by decide +kernel
theorem dL_law_648 : decode cL_law 648 = .ok (.iconst 1, 1) := by decide +kernel
theorem dL_law_649 : decode cL_law 649 = .ok (.iadd, 1) := by decide +kernel
theorem dL_law_650 : decode cL_law 650 = .ok (.iaload, 1) := by decide +kernel
theorem dL_law_651 : decode cL_law 651 = .ok (.aload_n 0, 1) := by decide +kernel
theorem dL_law_652 : decode cL_law 652 = .ok (.iload_n 3, 1) := by decide +kernel
theorem dL_law_653 : decode cL_law 653 = .ok (.iconst 2, 1) := by decide +kernel
theorem dL_law_654 : decode cL_law 654 = .ok (.iadd, 1) := by decide +kernel
theorem dL_law_655 : decode cL_law 655 = .ok (.iaload, 1) := by decide +kernel
theorem dL_law_656 : decode cL_law 656 = .ok (.invokevirtual 69, 3) := by decide +kernel
theorem dL_law_659 : decode cL_law 659 = .ok (.aload_n 2, 1) := by decide +kernel
theorem dL_law_660 : decode cL_law 660 = .ok (.aload_n 0, 1) := by decide +kernel
theorem dL_law_661 : decode cL_law 661 = .ok (.iload_n 3, 1) := by decide +kernel
theorem dL_law_662 : decode cL_law 662 = .ok (.iconst 1, 1) := by decide +kernel
theorem dL_law_663 : decode cL_law 663 = .ok (.iadd, 1) := by decide +kernel
theorem dL_law_664 : decode cL_law 664 = .ok (.iaload, 1) := by decide +kernel
theorem dL_law_665 : decode cL_law 665 = .ok (.aload_n 0, 1) := by decide +kernel
theorem dL_law_666 : decode cL_law 666 = .ok (.iload_n 3, 1) := by decide +kernel
theorem dL_law_667 : decode cL_law 667 = .ok (.iconst 2, 1) := by decide +kernel
theorem dL_law_668 : decode cL_law 668 = .ok (.iadd, 1) := by decide +kernel
theorem dL_law_669 : decode cL_law 669 = .ok (.iaload, 1) := by decide +kernel
theorem dL_law_670 : decode cL_law 670 = .ok (.invokevirtual 72, 3) := by decide +kernel
theorem dL_law_673 : decode cL_law 673 = .ok (.if_icmp .eq 580, 3) := by decide +kernel
theorem dL_law_676 : decode cL_law 676 = .ok (.iconst 0, 1) := by decide +kernel
theorem dL_law_677 : decode cL_law 677 = .ok (.ireturn, 1) := by decide +kernel
theorem dL_law_678 : decode cL_law 678 = .ok (.aload_n 1, 1) := by decide +kernel
theorem dL_law_679 : decode cL_law 679 = .ok (.aload_n 0, 1) := by decide +kernel
theorem dL_law_680 : decode cL_law 680 = .ok (.iload_n 3, 1) := by decide +kernel
theorem dL_law_681 : decode cL_law 681 = .ok (.iconst 1, 1) := by decide +kernel
theorem dL_law_682 : decode cL_law 682 = .ok (.iadd, 1) := by decide +kernel
theorem dL_law_683 : decode cL_law 683 = .ok (.iaload, 1) := by decide +kernel
theorem dL_law_684 : decode cL_law 684 = .ok (.invokevirtual 73, 3) := by decide +kernel
theorem dL_law_687 : decode cL_law 687 = .ok (.aload_n 2, 1) := by decide +kernel
theorem dL_law_688 : decode cL_law 688 = .ok (.aload_n 0, 1) := by decide +kernel
theorem dL_law_689 : decode cL_law 689 = .ok (.iload_n 3, 1) := by decide +kernel
theorem dL_law_690 : decode cL_law 690 = .ok (.iconst 1, 1) := by decide +kernel
theorem dL_law_691 : decode cL_law 691 = .ok (.iadd, 1) := by decide +kernel
theorem dL_law_692 : decode cL_law 692 = .ok (.iaload, 1) := by decide +kernel
theorem dL_law_693 : decode cL_law 693 = .ok (.invokevirtual 76, 3) := by decide +kernel
theorem dL_law_696 : decode cL_law 696 = .ok (.if_icmp .eq 557, 3) := by decide +kernel
theorem dL_law_699 : decode cL_law 699 = .ok (.iconst 0, 1) := by decide +kernel
theorem dL_law_700 : decode cL_law 700 = .ok (.ireturn, 1) := by decide +kernel
theorem dL_law_701 : decode cL_law 701 = .ok (.aload_n 1, 1) := by decide +kernel
theorem dL_law_702 : decode cL_law 702 = .ok (.aload_n 0, 1) := by decide +kernel
theorem dL_law_703 : decode cL_law 703 = .ok (.iload_n 3, 1) := by decide +kernel
theorem dL_law_704 : decode cL_law 704 = .ok (.iconst 1, 1) := by decide +kernel
theorem dL_law_705 : decode cL_law 705 = .ok (.iadd, 1) := by decide +kernel
theorem dL_law_706 : decode cL_law 706 = .ok (.iaload, 1) := by decide +kernel
theorem dL_law_707 : decode cL_law 707 = .ok (.aload_n 0, 1) := by decide +kernel
theorem dL_law_708 : decode cL_law 708 = .ok (.iload_n 3, 1) := by decide +kernel
theorem dL_law_709 : decode cL_law 709 = .ok (.iconst 2, 1) := by decide +kernel
theorem dL_law_710 : decode cL_law 710 = .ok (.iadd, 1) := by decide +kernel
theorem dL_law_711 : decode cL_law 711 = .ok (.iaload, 1) := by decide +kernel
theorem dL_law_712 : decode cL_law 712 = .ok (.aload_n 0, 1) := by decide +kernel
theorem dL_law_713 : decode cL_law 713 = .ok (.iload_n 3, 1) := by decide +kernel
theorem dL_law_714 : decode cL_law 714 = .ok (.iconst 3, 1) := by decide +kernel
theorem dL_law_715 : decode cL_law 715 = .ok (.iadd, 1) := by decide +kernel
theorem dL_law_716 : decode cL_law 716 = .ok (.iaload, 1) := by decide +kernel
theorem dL_law_717 : decode cL_law 717 = .ok (.ifCond .eq 7, 3) := by decide +kernel
theorem dL_law_720 : decode cL_law 720 = .ok (.iconst 1, 1) := by decide +kernel
theorem dL_law_721 : decode cL_law 721 = .ok (.goto 4, 3) := by decide +kernel
theorem dL_law_724 : decode cL_law 724 = .ok (.iconst 0, 1) := by decide +kernel
theorem dL_law_725 : decode cL_law 725 = .ok (.aload_n 0, 1) := by decide +kernel
theorem dL_law_726 : decode cL_law 726 = .ok (.iload_n 3, 1) := by decide +kernel
theorem dL_law_727 : decode cL_law 727 = .ok (.iconst 4, 1) := by decide +kernel
theorem dL_law_728 : decode cL_law 728 = .ok (.iadd, 1) := by decide +kernel
theorem dL_law_729 : decode cL_law 729 = .ok (.iaload, 1) := by decide +kernel
theorem dL_law_730 : decode cL_law 730 = .ok (.invokevirtual 77, 3) := by decide +kernel
theorem dL_law_733 : decode cL_law 733 = .ok (.aload_n 2, 1) := by decide +kernel
theorem dL_law_734 : decode cL_law 734 = .ok (.aload_n 0, 1) := by decide +kernel
theorem dL_law_735 : decode cL_law 735 = .ok (.iload_n 3, 1) := by decide +kernel
theorem dL_law_736 : decode cL_law 736 = .ok (.iconst 1, 1) := by decide +kernel
theorem dL_law_737 : decode cL_law 737 = .ok (.iadd, 1) := by decide +kernel
theorem dL_law_738 : decode cL_law 738 = .ok (.iaload, 1) := by decide +kernel
theorem dL_law_739 : decode cL_law 739 = .ok (.aload_n 0, 1) := by decide +kernel
theorem dL_law_740 : decode cL_law 740 = .ok (.iload_n 3, 1) := by decide +kernel
theorem dL_law_741 : decode cL_law 741 = .ok (.iconst 2, 1) := by decide +kernel
theorem dL_law_742 : decode cL_law 742 = .ok (.iadd, 1) := by decide +kernel
theorem dL_law_743 : decode cL_law 743 = .ok (.iaload, 1) := by decide +kernel
theorem dL_law_744 : decode cL_law 744 = .ok (.aload_n 0, 1) := by decide +kernel
theorem dL_law_745 : decode cL_law 745 = .ok (.iload_n 3, 1) := by decide +kernel
theorem dL_law_746 : decode cL_law 746 = .ok (.iconst 3, 1) := by decide +kernel
theorem dL_law_747 : decode cL_law 747 = .ok (.iadd, 1) := by decide +kernel
theorem dL_law_748 : decode cL_law 748 = .ok (.iaload, 1) := by decide +kernel
theorem dL_law_749 : decode cL_law 749 = .ok (.ifCond .eq 7, 3) := by decide +kernel
theorem dL_law_752 : decode cL_law 752 = .ok (.iconst 1, 1) := by decide +kernel
theorem dL_law_753 : decode cL_law 753 = .ok (.goto 4, 3) := by decide +kernel
theorem dL_law_756 : decode cL_law 756 = .ok (.iconst 0, 1) := by decide +kernel
theorem dL_law_757 : decode cL_law 757 = .ok (.aload_n 0, 1) := by decide +kernel
theorem dL_law_758 : decode cL_law 758 = .ok (.iload_n 3, 1) := by decide +kernel
theorem dL_law_759 : decode cL_law 759 = .ok (.iconst 4, 1) := by decide +kernel
theorem dL_law_760 : decode cL_law 760 = .ok (.iadd, 1) := by decide +kernel
theorem dL_law_761 : decode cL_law 761 = .ok (.iaload, 1) := by decide +kernel
theorem dL_law_762 : decode cL_law 762 = .ok (.invokevirtual 81, 3) := by decide +kernel
theorem dL_law_765 : decode cL_law 765 = .ok (.if_icmp .eq 488, 3) := by decide +kernel
theorem dL_law_768 : decode cL_law 768 = .ok (.iconst 0, 1) := by decide +kernel
theorem dL_law_769 : decode cL_law 769 = .ok (.ireturn, 1) := by decide +kernel
theorem dL_law_770 : decode cL_law 770 = .ok (.aload_n 1, 1) := by decide +kernel
theorem dL_law_771 : decode cL_law 771 = .ok (.aload_n 0, 1) := by decide +kernel
theorem dL_law_772 : decode cL_law 772 = .ok (.iload_n 3, 1) := by decide +kernel
theorem dL_law_773 : decode cL_law 773 = .ok (.iconst 1, 1) := by decide +kernel
theorem dL_law_774 : decode cL_law 774 = .ok (.iadd, 1) := by decide +kernel
theorem dL_law_775 : decode cL_law 775 = .ok (.iaload, 1) := by decide +kernel
theorem dL_law_776 : decode cL_law 776 = .ok (.invokevirtual 82, 3) := by decide +kernel
theorem dL_law_779 : decode cL_law 779 = .ok (.aload_n 2, 1) := by decide +kernel
theorem dL_law_780 : decode cL_law 780 = .ok (.aload_n 0, 1) := by decide +kernel
theorem dL_law_781 : decode cL_law 781 = .ok (.iload_n 3, 1) := by decide +kernel
theorem dL_law_782 : decode cL_law 782 = .ok (.iconst 1, 1) := by decide +kernel
theorem dL_law_783 : decode cL_law 783 = .ok (.iadd, 1) := by decide +kernel
theorem dL_law_784 : decode cL_law 784 = .ok (.iaload, 1) := by decide +kernel
theorem dL_law_785 : decode cL_law 785 = .ok (.invokevirtual 85, 3) := by decide +kernel
theorem dL_law_788 : decode cL_law 788 = .ok (.if_icmp .eq 465, 3) := by decide +kernel
theorem dL_law_791 : decode cL_law 791 = .ok (.iconst 0, 1) := by decide +kernel
theorem dL_law_792 : decode cL_law 792 = .ok (.ireturn, 1) := by decide +kernel
theorem dL_law_793 : decode cL_law 793 = .ok (.aload_n 1, 1) := by decide +kernel
theorem dL_law_794 : decode cL_law 794 = .ok (.invokevirtual 86, 3) := by decide +kernel
theorem dL_law_797 : decode cL_law 797 = .ok (.aload_n 2, 1) := by decide +kernel
theorem dL_law_798 : decode cL_law 798 = .ok (.invokevirtual 90, 3) := by decide +kernel
theorem dL_law_801 : decode cL_law 801 = .ok (.if_icmp .eq 452, 3) := by decide +kernel
theorem dL_law_804 : decode cL_law 804 = .ok (.iconst 0, 1) := by decide +kernel
theorem dL_law_805 : decode cL_law 805 = .ok (.ireturn, 1) := by decide +kernel
theorem dL_law_806 : decode cL_law 806 = .ok (.aload_n 1, 1) := by decide +kernel
theorem dL_law_807 : decode cL_law 807 = .ok (.aload_n 0, 1) := by decide +kernel
theorem dL_law_808 : decode cL_law 808 = .ok (.iload_n 3, 1) := by decide +kernel
theorem dL_law_809 : decode cL_law 809 = .ok (.iconst 1, 1) := by decide +kernel
theorem dL_law_810 : decode cL_law 810 = .ok (.iadd, 1) := by decide +kernel
theorem dL_law_811 : decode cL_law 811 = .ok (.iaload, 1) := by decide +kernel
theorem dL_law_812 : decode cL_law 812 = .ok (.aload_n 0, 1) := by decide +kernel
theorem dL_law_813 : decode cL_law 813 = .ok (.iload_n 3, 1) := by decide +kernel
theorem dL_law_814 : decode cL_law 814 = .ok (.iconst 2, 1) := by decide +kernel
theorem dL_law_815 : decode cL_law 815 = .ok (.iadd, 1) := by decide +kernel
theorem dL_law_816 : decode cL_law 816 = .ok (.iaload, 1) := by decide +kernel
theorem dL_law_817 : decode cL_law 817 = .ok (.invokevirtual 91, 3) := by decide +kernel
theorem dL_law_820 : decode cL_law 820 = .ok (.aload_n 2, 1) := by decide +kernel
theorem dL_law_821 : decode cL_law 821 = .ok (.aload_n 0, 1) := by decide +kernel
theorem dL_law_822 : decode cL_law 822 = .ok (.iload_n 3, 1) := by decide +kernel
theorem dL_law_823 : decode cL_law 823 = .ok (.iconst 1, 1) := by decide +kernel
theorem dL_law_824 : decode cL_law 824 = .ok (.iadd, 1) := by decide +kernel
theorem dL_law_825 : decode cL_law 825 = .ok (.iaload, 1) := by decide +kernel
theorem dL_law_826 : decode cL_law 826 = .ok (.aload_n 0, 1) := by decide +kernel
theorem dL_law_827 : decode cL_law 827 = .ok (.iload_n 3, 1) := by decide +kernel
theorem dL_law_828 : decode cL_law 828 = .ok (.iconst 2, 1) := by decide +kernel
theorem dL_law_829 : decode cL_law 829 = .ok (.iadd, 1) := by decide +kernel
theorem dL_law_830 : decode cL_law 830 = .ok (.iaload, 1) := by decide +kernel
theorem dL_law_831 : decode cL_law 831 = .ok (.invokevirtual 94, 3) := by decide +kernel
theorem dL_law_834 : decode cL_law 834 = .ok (.if_icmp .eq 419, 3) := by decide +kernel
theorem dL_law_837 : decode cL_law 837 = .ok (.iconst 0, 1) := by decide +kernel
theorem dL_law_838 : decode cL_law 838 = .ok (.ireturn, 1) := by decide +kernel
theorem dL_law_839 : decode cL_law 839 = .ok (.aload_n 1, 1) := by decide +kernel
theorem dL_law_840 : decode cL_law 840 = .ok (.aload_n 0, 1) := by decide +kernel
theorem dL_law_841 : decode cL_law 841 = .ok (.iload_n 3, 1) := by decide +kernel
theorem dL_law_842 : decode cL_law 842 = .ok (.iconst 1, 1) := by decide +kernel
theorem dL_law_843 : decode cL_law 843 = .ok (.iadd, 1) := by decide +kernel
theorem dL_law_844 : decode cL_law 844 = .ok (.iaload, 1) := by decide +kernel
theorem dL_law_845 : decode cL_law 845 = .ok (.aload_n 0, 1) := by decide +kernel
theorem dL_law_846 : decode cL_law 846 = .ok (.iload_n 3, 1) := by decide +kernel
theorem dL_law_847 : decode cL_law 847 = .ok (.iconst 2, 1) := by decide +kernel
theorem dL_law_848 : decode cL_law 848 = .ok (.iadd, 1) := by decide +kernel
theorem dL_law_849 : decode cL_law 849 = .ok (.iaload, 1) := by decide +kernel
theorem dL_law_850 : decode cL_law 850 = .ok (.aload_n 0, 1) := by decide +kernel
theorem dL_law_851 : decode cL_law 851 = .ok (.iload_n 3, 1) := by decide +kernel
theorem dL_law_852 : decode cL_law 852 = .ok (.iconst 3, 1) := by decide +kernel
theorem dL_law_853 : decode cL_law 853 = .ok (.iadd, 1) := by decide +kernel
theorem dL_law_854 : decode cL_law 854 = .ok (.iaload, 1) := by decide +kernel
theorem dL_law_855 : decode cL_law 855 = .ok (.invokevirtual 95, 3) := by decide +kernel
theorem dL_law_858 : decode cL_law 858 = .ok (.aload_n 2, 1) := by decide +kernel
theorem dL_law_859 : decode cL_law 859 = .ok (.aload_n 0, 1) := by decide +kernel
theorem dL_law_860 : decode cL_law 860 = .ok (.iload_n 3, 1) := by decide +kernel
theorem dL_law_861 : decode cL_law 861 = .ok (.iconst 1, 1) := by decide +kernel
theorem dL_law_862 : decode cL_law 862 = .ok (.iadd, 1) := by decide +kernel
theorem dL_law_863 : decode cL_law 863 = .ok (.iaload, 1) := by decide +kernel
theorem dL_law_864 : decode cL_law 864 = .ok (.aload_n 0, 1) := by decide +kernel
theorem dL_law_865 : decode cL_law 865 = .ok (.iload_n 3, 1) := by decide +kernel
theorem dL_law_866 : decode cL_law 866 = .ok (.iconst 2, 1) := by decide +kernel
theorem dL_law_867 : decode cL_law 867 = .ok (.iadd, 1) := by decide +kernel
theorem dL_law_868 : decode cL_law 868 = .ok (.iaload, 1) := by decide +kernel
theorem dL_law_869 : decode cL_law 869 = .ok (.aload_n 0, 1) := by decide +kernel
theorem dL_law_870 : decode cL_law 870 = .ok (.iload_n 3, 1) := by decide +kernel
theorem dL_law_871 : decode cL_law 871 = .ok (.iconst 3, 1) := by decide +kernel
theorem dL_law_872 : decode cL_law 872 = .ok (.iadd, 1) := by decide +kernel
theorem dL_law_873 : decode cL_law 873 = .ok (.iaload, 1) := by decide +kernel
theorem dL_law_874 : decode cL_law 874 = .ok (.invokevirtual 98, 3) := by decide +kernel
theorem dL_law_877 : decode cL_law 877 = .ok (.if_icmp .eq 376, 3) := by decide +kernel
theorem dL_law_880 : decode cL_law 880 = .ok (.iconst 0, 1) := by decide +kernel
theorem dL_law_881 : decode cL_law 881 = .ok (.ireturn, 1) := by decide +kernel
theorem dL_law_882 : decode cL_law 882 = .ok (.aload_n 1, 1) := by decide +kernel
theorem dL_law_883 : decode cL_law 883 = .ok (.aload_n 0, 1) := by decide +kernel
theorem dL_law_884 : decode cL_law 884 = .ok (.iload_n 3, 1) := by decide +kernel
theorem dL_law_885 : decode cL_law 885 = .ok (.iconst 1, 1) := by decide +kernel
theorem dL_law_886 : decode cL_law 886 = .ok (.iadd, 1) := by decide +kernel
theorem dL_law_887 : decode cL_law 887 = .ok (.iaload, 1) := by decide +kernel
theorem dL_law_888 : decode cL_law 888 = .ok (.invokevirtual 99, 3) := by decide +kernel
theorem dL_law_891 : decode cL_law 891 = .ok (.aload_n 2, 1) := by decide +kernel
theorem dL_law_892 : decode cL_law 892 = .ok (.aload_n 0, 1) := by decide +kernel
theorem dL_law_893 : decode cL_law 893 = .ok (.iload_n 3, 1) := by decide +kernel
theorem dL_law_894 : decode cL_law 894 = .ok (.iconst 1, 1) := by decide +kernel
theorem dL_law_895 : decode cL_law 895 = .ok (.iadd, 1) := by decide +kernel
theorem dL_law_896 : decode cL_law 896 = .ok (.iaload, 1) := by decide +kernel
theorem dL_law_897 : decode cL_law 897 = .ok (.invokevirtual 102, 3) := by decide +kernel
theorem dL_law_900 : decode cL_law 900 = .ok (.if_icmp .eq 353, 3) := by decide +kernel
theorem dL_law_903 : decode cL_law 903 = .ok (.iconst 0, 1) := by decide +kernel
theorem dL_law_904 : decode cL_law 904 = .ok (.ireturn, 1) := by decide +kernel
theorem dL_law_905 : decode cL_law 905 = .ok (.aload_n 1, 1) := by decide +kernel
theorem dL_law_906 : decode cL_law 906 = .ok (.aload_n 0, 1) := by decide +kernel
theorem dL_law_907 : decode cL_law 907 = .ok (.iload_n 3, 1) := by decide +kernel
theorem dL_law_908 : decode cL_law 908 = .ok (.iconst 1, 1) := by decide +kernel
theorem dL_law_909 : decode cL_law 909 = .ok (.iadd, 1) := by decide +kernel
theorem dL_law_910 : decode cL_law 910 = .ok (.iaload, 1) := by decide +kernel
theorem dL_law_911 : decode cL_law 911 = .ok (.aload_n 0, 1) := by decide +kernel
theorem dL_law_912 : decode cL_law 912 = .ok (.iload_n 3, 1) := by decide +kernel
theorem dL_law_913 : decode cL_law 913 = .ok (.iconst 2, 1) := by decide +kernel
theorem dL_law_914 : decode cL_law 914 = .ok (.iadd, 1) := by decide +kernel
theorem dL_law_915 : decode cL_law 915 = .ok (.iaload, 1) := by decide +kernel
theorem dL_law_916 : decode cL_law 916 = .ok (.aload_n 0, 1) := by decide +kernel
theorem dL_law_917 : decode cL_law 917 = .ok (.iload_n 3, 1) := by decide +kernel
theorem dL_law_918 : decode cL_law 918 = .ok (.iconst 3, 1) := by decide +kernel
theorem dL_law_919 : decode cL_law 919 = .ok (.iadd, 1) := by decide +kernel
theorem dL_law_920 : decode cL_law 920 = .ok (.iaload, 1) := by decide +kernel
theorem dL_law_921 : decode cL_law 921 = .ok (.invokevirtual 103, 3) := by decide +kernel
theorem dL_law_924 : decode cL_law 924 = .ok (.aload_n 2, 1) := by decide +kernel
theorem dL_law_925 : decode cL_law 925 = .ok (.aload_n 0, 1) := by decide +kernel
theorem dL_law_926 : decode cL_law 926 = .ok (.iload_n 3, 1) := by decide +kernel
theorem dL_law_927 : decode cL_law 927 = .ok (.iconst 1, 1) := by decide +kernel
theorem dL_law_928 : decode cL_law 928 = .ok (.iadd, 1) := by decide +kernel
theorem dL_law_929 : decode cL_law 929 = .ok (.iaload, 1) := by decide +kernel
theorem dL_law_930 : decode cL_law 930 = .ok (.aload_n 0, 1) := by decide +kernel
theorem dL_law_931 : decode cL_law 931 = .ok (.iload_n 3, 1) := by decide +kernel
theorem dL_law_932 : decode cL_law 932 = .ok (.iconst 2, 1) := by decide +kernel
theorem dL_law_933 : decode cL_law 933 = .ok (.iadd, 1) := by decide +kernel
theorem dL_law_934 : decode cL_law 934 = .ok (.iaload, 1) := by decide +kernel
theorem dL_law_935 : decode cL_law 935 = .ok (.aload_n 0, 1) := by decide +kernel
theorem dL_law_936 : decode cL_law 936 = .ok (.iload_n 3, 1) := by decide +kernel
theorem dL_law_937 : decode cL_law 937 = .ok (.iconst 3, 1) := by decide +kernel
theorem dL_law_938 : decode cL_law 938 = .ok (.iadd, 1) := by decide +kernel
theorem dL_law_939 : decode cL_law 939 = .ok (.iaload, 1) := by decide +kernel
theorem dL_law_940 : decode cL_law 940 = .ok (.invokevirtual 106, 3) := by decide +kernel
theorem dL_law_943 : decode cL_law 943 = .ok (.if_icmp .eq 310, 3) := by decide +kernel
theorem dL_law_946 : decode cL_law 946 = .ok (.iconst 0, 1) := by decide +kernel
theorem dL_law_947 : decode cL_law 947 = .ok (.ireturn, 1) := by decide +kernel
theorem dL_law_948 : decode cL_law 948 = .ok (.aload_n 1, 1) := by decide +kernel
theorem dL_law_949 : decode cL_law 949 = .ok (.aload_n 0, 1) := by decide +kernel
theorem dL_law_950 : decode cL_law 950 = .ok (.iload_n 3, 1) := by decide +kernel
theorem dL_law_951 : decode cL_law 951 = .ok (.iconst 1, 1) := by decide +kernel
theorem dL_law_952 : decode cL_law 952 = .ok (.iadd, 1) := by decide +kernel
theorem dL_law_953 : decode cL_law 953 = .ok (.iaload, 1) := by decide +kernel
theorem dL_law_954 : decode cL_law 954 = .ok (.invokevirtual 107, 3) := by decide +kernel
theorem dL_law_957 : decode cL_law 957 = .ok (.aload_n 2, 1) := by decide +kernel
theorem dL_law_958 : decode cL_law 958 = .ok (.aload_n 0, 1) := by decide +kernel
theorem dL_law_959 : decode cL_law 959 = .ok (.iload_n 3, 1) := by decide +kernel
theorem dL_law_960 : decode cL_law 960 = .ok (.iconst 1, 1) := by decide +kernel
theorem dL_law_961 : decode cL_law 961 = .ok (.iadd, 1) := by decide +kernel
theorem dL_law_962 : decode cL_law 962 = .ok (.iaload, 1) := by decide +kernel
theorem dL_law_963 : decode cL_law 963 = .ok (.invokevirtual 110, 3) := by decide +kernel
theorem dL_law_966 : decode cL_law 966 = .ok (.if_icmp .eq 287, 3) := by decide +kernel
theorem dL_law_969 : decode cL_law 969 = .ok (.iconst 0, 1) := by decide +kernel
theorem dL_law_970 : decode cL_law 970 = .ok (.ireturn, 1) := by decide +kernel
theorem dL_law_971 : decode cL_law 971 = .ok (.aload_n 1, 1) := by decide +kernel
theorem dL_law_972 : decode cL_law 972 = .ok (.aload_n 0, 1) := by decide +kernel
theorem dL_law_973 : decode cL_law 973 = .ok (.iload_n 3, 1) := by decide +kernel
theorem dL_law_974 : decode cL_law 974 = .ok (.iconst 1, 1) := by decide +kernel
theorem dL_law_975 : decode cL_law 975 = .ok (.iadd, 1) := by decide +kernel
theorem dL_law_976 : decode cL_law 976 = .ok (.iaload, 1) := by decide +kernel
theorem dL_law_977 : decode cL_law 977 = .ok (.aload_n 0, 1) := by decide +kernel
theorem dL_law_978 : decode cL_law 978 = .ok (.iload_n 3, 1) := by decide +kernel
theorem dL_law_979 : decode cL_law 979 = .ok (.iconst 2, 1) := by decide +kernel
theorem dL_law_980 : decode cL_law 980 = .ok (.iadd, 1) := by decide +kernel
theorem dL_law_981 : decode cL_law 981 = .ok (.iaload, 1) := by decide +kernel
theorem dL_law_982 : decode cL_law 982 = .ok (.invokevirtual 111, 3) := by decide +kernel
theorem dL_law_985 : decode cL_law 985 = .ok (.aload_n 2, 1) := by decide +kernel
theorem dL_law_986 : decode cL_law 986 = .ok (.aload_n 0, 1) := by decide +kernel
theorem dL_law_987 : decode cL_law 987 = .ok (.iload_n 3, 1) := by decide +kernel
theorem dL_law_988 : decode cL_law 988 = .ok (.iconst 1, 1) := by decide +kernel
theorem dL_law_989 : decode cL_law 989 = .ok (.iadd, 1) := by decide +kernel
theorem dL_law_990 : decode cL_law 990 = .ok (.iaload, 1) := by decide +kernel
theorem dL_law_991 : decode cL_law 991 = .ok (.aload_n 0, 1) := by decide +kernel
theorem dL_law_992 : decode cL_law 992 = .ok (.iload_n 3, 1) := by decide +kernel
theorem dL_law_993 : decode cL_law 993 = .ok (.iconst 2, 1) := by decide +kernel
theorem dL_law_994 : decode cL_law 994 = .ok (.iadd, 1) := by decide +kernel
theorem dL_law_995 : decode cL_law 995 = .ok (.iaload, 1) := by decide +kernel
theorem dL_law_996 : decode cL_law 996 = .ok (.invokevirtual 114, 3) := by decide +kernel
theorem dL_law_999 : decode cL_law 999 = .ok (.if_icmp .eq 254, 3) := by decide +kernel
theorem dL_law_1002 : decode cL_law 1002 = .ok (.iconst 0, 1) := by decide +kernel
theorem dL_law_1003 : decode cL_law 1003 = .ok (.ireturn, 1) := by decide +kernel
theorem dL_law_1004 : decode cL_law 1004 = .ok (.aload_n 1, 1) := by decide +kernel
theorem dL_law_1005 : decode cL_law 1005 = .ok (.aload_n 0, 1) := by decide +kernel
theorem dL_law_1006 : decode cL_law 1006 = .ok (.iload_n 3, 1) := by decide +kernel
theorem dL_law_1007 : decode cL_law 1007 = .ok (.iconst 1, 1) := by decide +kernel
theorem dL_law_1008 : decode cL_law 1008 = .ok (.iadd, 1) := by decide +kernel
theorem dL_law_1009 : decode cL_law 1009 = .ok (.iaload, 1) := by decide +kernel
theorem dL_law_1010 : decode cL_law 1010 = .ok (.aload_n 0, 1) := by decide +kernel
theorem dL_law_1011 : decode cL_law 1011 = .ok (.iload_n 3, 1) := by decide +kernel
theorem dL_law_1012 : decode cL_law 1012 = .ok (.iconst 2, 1) := by decide +kernel
theorem dL_law_1013 : decode cL_law 1013 = .ok (.iadd, 1) := by decide +kernel
theorem dL_law_1014 : decode cL_law 1014 = .ok (.iaload, 1) := by decide +kernel
theorem dL_law_1015 : decode cL_law 1015 = .ok (.aload_n 0, 1) := by decide +kernel
theorem dL_law_1016 : decode cL_law 1016 = .ok (.iload_n 3, 1) := by decide +kernel
theorem dL_law_1017 : decode cL_law 1017 = .ok (.iconst 3, 1) := by decide +kernel
theorem dL_law_1018 : decode cL_law 1018 = .ok (.iadd, 1) := by decide +kernel
theorem dL_law_1019 : decode cL_law 1019 = .ok (.iaload, 1) := by decide +kernel
theorem dL_law_1020 : decode cL_law 1020 = .ok (.invokevirtual 115, 3) := by decide +kernel
theorem dL_law_1023 : decode cL_law 1023 = .ok (.aload_n 2, 1) := by decide +kernel
theorem dL_law_1024 : decode cL_law 1024 = .ok (.aload_n 0, 1) := by decide +kernel
theorem dL_law_1025 : decode cL_law 1025 = .ok (.iload_n 3, 1) := by decide +kernel
theorem dL_law_1026 : decode cL_law 1026 = .ok (.iconst 1, 1) := by decide +kernel
theorem dL_law_1027 : decode cL_law 1027 = .ok (.iadd, 1) := by decide +kernel
theorem dL_law_1028 : decode cL_law 1028 = .ok (.iaload, 1) := by decide +kernel
theorem dL_law_1029 : decode cL_law 1029 = .ok (.aload_n 0, 1) := by decide +kernel
theorem dL_law_1030 : decode cL_law 1030 = .ok (.iload_n 3, 1) := by decide +kernel
theorem dL_law_1031 : decode cL_law 1031 = .ok (.iconst 2, 1) := by decide +kernel
theorem dL_law_1032 : decode cL_law 1032 = .ok (.iadd, 1) := by decide +kernel
theorem dL_law_1033 : decode cL_law 1033 = .ok (.iaload, 1) := by decide +kernel
theorem dL_law_1034 : decode cL_law 1034 = .ok (.aload_n 0, 1) := by decide +kernel
theorem dL_law_1035 : decode cL_law 1035 = .ok (.iload_n 3, 1) := by decide +kernel
theorem dL_law_1036 : decode cL_law 1036 = .ok (.iconst 3, 1) := by decide +kernel
theorem dL_law_1037 : decode cL_law 1037 = .ok (.iadd, 1) := by decide +kernel
theorem dL_law_1038 : decode cL_law 1038 = .ok (.iaload, 1) := by decide +kernel
theorem dL_law_1039 : decode cL_law 1039 = .ok (.invokevirtual 118, 3) := by decide +kernel
theorem dL_law_1042 : decode cL_law 1042 = .ok (.if_icmp .eq 211, 3) := by decide +kernel
theorem dL_law_1045 : decode cL_law 1045 = .ok (.iconst 0, 1) := by decide +kernel
theorem dL_law_1046 : decode cL_law 1046 = .ok (.ireturn, 1) := by decide +kernel
theorem dL_law_1047 : decode cL_law 1047 = .ok (.aload_n 1, 1) := by decide +kernel
theorem dL_law_1048 : decode cL_law 1048 = .ok (.aload_n 0, 1) := by decide +kernel
theorem dL_law_1049 : decode cL_law 1049 = .ok (.iload_n 3, 1) := by decide +kernel
theorem dL_law_1050 : decode cL_law 1050 = .ok (.iconst 1, 1) := by decide +kernel
theorem dL_law_1051 : decode cL_law 1051 = .ok (.iadd, 1) := by decide +kernel
theorem dL_law_1052 : decode cL_law 1052 = .ok (.iaload, 1) := by decide +kernel
theorem dL_law_1053 : decode cL_law 1053 = .ok (.aload_n 0, 1) := by decide +kernel
theorem dL_law_1054 : decode cL_law 1054 = .ok (.iload_n 3, 1) := by decide +kernel
theorem dL_law_1055 : decode cL_law 1055 = .ok (.iconst 2, 1) := by decide +kernel
theorem dL_law_1056 : decode cL_law 1056 = .ok (.iadd, 1) := by decide +kernel
theorem dL_law_1057 : decode cL_law 1057 = .ok (.iaload, 1) := by decide +kernel
theorem dL_law_1058 : decode cL_law 1058 = .ok (.invokevirtual 119, 3) := by decide +kernel
theorem dL_law_1061 : decode cL_law 1061 = .ok (.aload_n 2, 1) := by decide +kernel
theorem dL_law_1062 : decode cL_law 1062 = .ok (.aload_n 0, 1) := by decide +kernel
theorem dL_law_1063 : decode cL_law 1063 = .ok (.iload_n 3, 1) := by decide +kernel
theorem dL_law_1064 : decode cL_law 1064 = .ok (.iconst 1, 1) := by decide +kernel
theorem dL_law_1065 : decode cL_law 1065 = .ok (.iadd, 1) := by decide +kernel
theorem dL_law_1066 : decode cL_law 1066 = .ok (.iaload, 1) := by decide +kernel
theorem dL_law_1067 : decode cL_law 1067 = .ok (.aload_n 0, 1) := by decide +kernel
theorem dL_law_1068 : decode cL_law 1068 = .ok (.iload_n 3, 1) := by decide +kernel
theorem dL_law_1069 : decode cL_law 1069 = .ok (.iconst 2, 1) := by decide +kernel
theorem dL_law_1070 : decode cL_law 1070 = .ok (.iadd, 1) := by decide +kernel
theorem dL_law_1071 : decode cL_law 1071 = .ok (.iaload, 1) := by decide +kernel
theorem dL_law_1072 : decode cL_law 1072 = .ok (.invokevirtual 122, 3) := by decide +kernel
theorem dL_law_1075 : decode cL_law 1075 = .ok (.if_icmp .eq 178, 3) := by decide +kernel
theorem dL_law_1078 : decode cL_law 1078 = .ok (.iconst 0, 1) := by decide +kernel
theorem dL_law_1079 : decode cL_law 1079 = .ok (.ireturn, 1) := by decide +kernel
theorem dL_law_1080 : decode cL_law 1080 = .ok (.aload_n 1, 1) := by decide +kernel
theorem dL_law_1081 : decode cL_law 1081 = .ok (.aload_n 0, 1) := by decide +kernel
theorem dL_law_1082 : decode cL_law 1082 = .ok (.iload_n 3, 1) := by decide +kernel
theorem dL_law_1083 : decode cL_law 1083 = .ok (.iconst 1, 1) := by decide +kernel
theorem dL_law_1084 : decode cL_law 1084 = .ok (.iadd, 1) := by decide +kernel
theorem dL_law_1085 : decode cL_law 1085 = .ok (.iaload, 1) := by decide +kernel
theorem dL_law_1086 : decode cL_law 1086 = .ok (.invokevirtual 123, 3) := by decide +kernel
theorem dL_law_1089 : decode cL_law 1089 = .ok (.aload_n 2, 1) := by decide +kernel
theorem dL_law_1090 : decode cL_law 1090 = .ok (.aload_n 0, 1) := by decide +kernel
theorem dL_law_1091 : decode cL_law 1091 = .ok (.iload_n 3, 1) := by decide +kernel
theorem dL_law_1092 : decode cL_law 1092 = .ok (.iconst 1, 1) := by decide +kernel
theorem dL_law_1093 : decode cL_law 1093 = .ok (.iadd, 1) := by decide +kernel
theorem dL_law_1094 : decode cL_law 1094 = .ok (.iaload, 1) := by decide +kernel
theorem dL_law_1095 : decode cL_law 1095 = .ok (.invokevirtual 126, 3) := by decide +kernel
theorem dL_law_1098 : decode cL_law 1098 = .ok (.if_icmp .eq 155, 3) := by decide +kernel
theorem dL_law_1101 : decode cL_law 1101 = .ok (.iconst 0, 1) := by decide +kernel
theorem dL_law_1102 : decode cL_law 1102 = .ok (.ireturn, 1) := by decide +kernel
theorem dL_law_1103 : decode cL_law 1103 = .ok (.aload_n 1, 1) := by decide +kernel
theorem dL_law_1104 : decode cL_law 1104 = .ok (.aload_n 0, 1) := by decide +kernel
theorem dL_law_1105 : decode cL_law 1105 = .ok (.iload_n 3, 1) := by decide +kernel
theorem dL_law_1106 : decode cL_law 1106 = .ok (.iconst 1, 1) := by decide +kernel
theorem dL_law_1107 : decode cL_law 1107 = .ok (.iadd, 1) := by decide +kernel
theorem dL_law_1108 : decode cL_law 1108 = .ok (.iaload, 1) := by decide +kernel
theorem dL_law_1109 : decode cL_law 1109 = .ok (.aload_n 0, 1) := by decide +kernel
theorem dL_law_1110 : decode cL_law 1110 = .ok (.iload_n 3, 1) := by decide +kernel
theorem dL_law_1111 : decode cL_law 1111 = .ok (.iconst 2, 1) := by decide +kernel
theorem dL_law_1112 : decode cL_law 1112 = .ok (.iadd, 1) := by decide +kernel
theorem dL_law_1113 : decode cL_law 1113 = .ok (.iaload, 1) := by decide +kernel
theorem dL_law_1114 : decode cL_law 1114 = .ok (.aload_n 0, 1) := by decide +kernel
theorem dL_law_1115 : decode cL_law 1115 = .ok (.iload_n 3, 1) := by decide +kernel
theorem dL_law_1116 : decode cL_law 1116 = .ok (.iconst 3, 1) := by decide +kernel
theorem dL_law_1117 : decode cL_law 1117 = .ok (.iadd, 1) := by decide +kernel
theorem dL_law_1118 : decode cL_law 1118 = .ok (.iaload, 1) := by decide +kernel
theorem dL_law_1119 : decode cL_law 1119 = .ok (.aload_n 0, 1) := by decide +kernel
theorem dL_law_1120 : decode cL_law 1120 = .ok (.iload_n 3, 1) := by decide +kernel
theorem dL_law_1121 : decode cL_law 1121 = .ok (.iconst 4, 1) := by decide +kernel
theorem dL_law_1122 : decode cL_law 1122 = .ok (.iadd, 1) := by decide +kernel
theorem dL_law_1123 : decode cL_law 1123 = .ok (.iaload, 1) := by decide +kernel
theorem dL_law_1124 : decode cL_law 1124 = .ok (.aload_n 0, 1) := by decide +kernel
theorem dL_law_1125 : decode cL_law 1125 = .ok (.iload_n 3, 1) := by decide +kernel
theorem dL_law_1126 : decode cL_law 1126 = .ok (.iconst 5, 1) := by decide +kernel
theorem dL_law_1127 : decode cL_law 1127 = .ok (.iadd, 1) := by decide +kernel
theorem dL_law_1128 : decode cL_law 1128 = .ok (.iaload, 1) := by decide +kernel
theorem dL_law_1129 : decode cL_law 1129 = .ok (.invokevirtual 127, 3) := by decide +kernel
theorem dL_law_1132 : decode cL_law 1132 = .ok (.aload_n 2, 1) := by decide +kernel
theorem dL_law_1133 : decode cL_law 1133 = .ok (.aload_n 0, 1) := by decide +kernel
theorem dL_law_1134 : decode cL_law 1134 = .ok (.iload_n 3, 1) := by decide +kernel
theorem dL_law_1135 : decode cL_law 1135 = .ok (.iconst 1, 1) := by decide +kernel
theorem dL_law_1136 : decode cL_law 1136 = .ok (.iadd, 1) := by decide +kernel
theorem dL_law_1137 : decode cL_law 1137 = .ok (.iaload, 1) := by decide +kernel
theorem dL_law_1138 : decode cL_law 1138 = .ok (.aload_n 0, 1) := by decide +kernel
theorem dL_law_1139 : decode cL_law 1139 = .ok (.iload_n 3, 1) := by decide +kernel
theorem dL_law_1140 : decode cL_law 1140 = .ok (.iconst 2, 1) := by decide +kernel
theorem dL_law_1141 : decode cL_law 1141 = .ok (.iadd, 1) := by decide +kernel
theorem dL_law_1142 : decode cL_law 1142 = .ok (.iaload, 1) := by decide +kernel
theorem dL_law_1143 : decode cL_law 1143 = .ok (.aload_n 0, 1) := by decide +kernel
theorem dL_law_1144 : decode cL_law 1144 = .ok (.iload_n 3, 1) := by decide +kernel
theorem dL_law_1145 : decode cL_law 1145 = .ok (.iconst 3, 1) := by decide +kernel
theorem dL_law_1146 : decode cL_law 1146 = .ok (.iadd, 1) := by decide +kernel
theorem dL_law_1147 : decode cL_law 1147 = .ok (.iaload, 1) := by decide +kernel
theorem dL_law_1148 : decode cL_law 1148 = .ok (.aload_n 0, 1) := by decide +kernel
theorem dL_law_1149 : decode cL_law 1149 = .ok (.iload_n 3, 1) := by decide +kernel
theorem dL_law_1150 : decode cL_law 1150 = .ok (.iconst 4, 1) := by decide +kernel
theorem dL_law_1151 : decode cL_law 1151 = .ok (.iadd, 1) := by decide +kernel
theorem dL_law_1152 : decode cL_law 1152 = .ok (.iaload, 1) := by decide +kernel
theorem dL_law_1153 : decode cL_law 1153 = .ok (.aload_n 0, 1) := by decide +kernel
theorem dL_law_1154 : decode cL_law 1154 = .ok (.iload_n 3, 1) := by decide +kernel
theorem dL_law_1155 : decode cL_law 1155 = .ok (.iconst 5, 1) := by decide +kernel
theorem dL_law_1156 : decode cL_law 1156 = .ok (.iadd, 1) := by decide +kernel
theorem dL_law_1157 : decode cL_law 1157 = .ok (.iaload, 1) := by decide +kernel
theorem dL_law_1158 : decode cL_law 1158 = .ok (.invokevirtual 131, 3) := by decide +kernel
theorem dL_law_1161 : decode cL_law 1161 = .ok (.if_icmp .eq 92, 3) := by decide +kernel
theorem dL_law_1164 : decode cL_law 1164 = .ok (.iconst 0, 1) := by decide +kernel
theorem dL_law_1165 : decode cL_law 1165 = .ok (.ireturn, 1) := by decide +kernel
theorem dL_law_1166 : decode cL_law 1166 = .ok (.aload_n 1, 1) := by decide +kernel
theorem dL_law_1167 : decode cL_law 1167 = .ok (.invokevirtual 132, 3) := by decide +kernel
theorem dL_law_1170 : decode cL_law 1170 = .ok (.aload_n 2, 1) := by decide +kernel
theorem dL_law_1171 : decode cL_law 1171 = .ok (.invokevirtual 136, 3) := by decide +kernel
theorem dL_law_1174 : decode cL_law 1174 = .ok (.lcmp, 1) := by decide +kernel
theorem dL_law_1175 : decode cL_law 1175 = .ok (.ifCond .eq 78, 3) := by decide +kernel
theorem dL_law_1178 : decode cL_law 1178 = .ok (.iconst 0, 1) := by decide +kernel
theorem dL_law_1179 : decode cL_law 1179 = .ok (.ireturn, 1) := by decide +kernel
theorem dL_law_1180 : decode cL_law 1180 = .ok (.aload_n 1, 1) := by decide +kernel
theorem dL_law_1181 : decode cL_law 1181 = .ok (.aload_n 0, 1) := by decide +kernel
theorem dL_law_1182 : decode cL_law 1182 = .ok (.iload_n 3, 1) := by decide +kernel
theorem dL_law_1183 : decode cL_law 1183 = .ok (.iconst 1, 1) := by decide +kernel
theorem dL_law_1184 : decode cL_law 1184 = .ok (.iadd, 1) := by decide +kernel
theorem dL_law_1185 : decode cL_law 1185 = .ok (.iaload, 1) := by decide +kernel
theorem dL_law_1186 : decode cL_law 1186 = .ok (.invokevirtual 137, 3) := by decide +kernel
theorem dL_law_1189 : decode cL_law 1189 = .ok (.aload_n 2, 1) := by decide +kernel
theorem dL_law_1190 : decode cL_law 1190 = .ok (.aload_n 0, 1) := by decide +kernel
theorem dL_law_1191 : decode cL_law 1191 = .ok (.iload_n 3, 1) := by decide +kernel
theorem dL_law_1192 : decode cL_law 1192 = .ok (.iconst 1, 1) := by decide +kernel
theorem dL_law_1193 : decode cL_law 1193 = .ok (.iadd, 1) := by decide +kernel
theorem dL_law_1194 : decode cL_law 1194 = .ok (.iaload, 1) := by decide +kernel
theorem dL_law_1195 : decode cL_law 1195 = .ok (.invokevirtual 140, 3) := by decide +kernel
theorem dL_law_1198 : decode cL_law 1198 = .ok (.if_icmp .eq 55, 3) := by decide +kernel
theorem dL_law_1201 : decode cL_law 1201 = .ok (.iconst 0, 1) := by decide +kernel
theorem dL_law_1202 : decode cL_law 1202 = .ok (.ireturn, 1) := by decide +kernel
theorem dL_law_1203 : decode cL_law 1203 = .ok (.aload_n 1, 1) := by decide +kernel
theorem dL_law_1204 : decode cL_law 1204 = .ok (.invokevirtual 141, 3) := by decide +kernel
theorem dL_law_1207 : decode cL_law 1207 = .ok (.aload_n 2, 1) := by decide +kernel
theorem dL_law_1208 : decode cL_law 1208 = .ok (.invokevirtual 144, 3) := by decide +kernel
theorem dL_law_1211 : decode cL_law 1211 = .ok (.if_icmp .eq 42, 3) := by decide +kernel
theorem dL_law_1214 : decode cL_law 1214 = .ok (.iconst 0, 1) := by decide +kernel
theorem dL_law_1215 : decode cL_law 1215 = .ok (.ireturn, 1) := by decide +kernel
theorem dL_law_1216 : decode cL_law 1216 = .ok (.aload_n 1, 1) := by decide +kernel
theorem dL_law_1217 : decode cL_law 1217 = .ok (.aload_n 0, 1) := by decide +kernel
theorem dL_law_1218 : decode cL_law 1218 = .ok (.iload_n 3, 1) := by decide +kernel
theorem dL_law_1219 : decode cL_law 1219 = .ok (.iconst 1, 1) := by decide +kernel
theorem dL_law_1220 : decode cL_law 1220 = .ok (.iadd, 1) := by decide +kernel
theorem dL_law_1221 : decode cL_law 1221 = .ok (.iaload, 1) := by decide +kernel
theorem dL_law_1222 : decode cL_law 1222 = .ok (.invokevirtual 145, 3) := by decide +kernel
theorem dL_law_1225 : decode cL_law 1225 = .ok (.aload_n 2, 1) := by decide +kernel
theorem dL_law_1226 : decode cL_law 1226 = .ok (.aload_n 0, 1) := by decide +kernel
theorem dL_law_1227 : decode cL_law 1227 = .ok (.iload_n 3, 1) := by decide +kernel
theorem dL_law_1228 : decode cL_law 1228 = .ok (.iconst 1, 1) := by decide +kernel
theorem dL_law_1229 : decode cL_law 1229 = .ok (.iadd, 1) := by decide +kernel
theorem dL_law_1230 : decode cL_law 1230 = .ok (.iaload, 1) := by decide +kernel
theorem dL_law_1231 : decode cL_law 1231 = .ok (.invokevirtual 148, 3) := by decide +kernel
theorem dL_law_1234 : decode cL_law 1234 = .ok (.if_icmp .eq 19, 3) := by decide +kernel
theorem dL_law_1237 : decode cL_law 1237 = .ok (.iconst 0, 1) := by decide +kernel
theorem dL_law_1238 : decode cL_law 1238 = .ok (.ireturn, 1) := by decide +kernel
theorem dL_law_1239 : decode cL_law 1239 = .ok (.aload_n 1, 1) := by decide +kernel
theorem dL_law_1240 : decode cL_law 1240 = .ok (.invokevirtual 149, 3) := by decide +kernel
theorem dL_law_1243 : decode cL_law 1243 = .ok (.aload_n 2, 1) := by decide +kernel
theorem dL_law_1244 : decode cL_law 1244 = .ok (.invokevirtual 152, 3) := by decide +kernel
theorem dL_law_1247 : decode cL_law 1247 = .ok (.lcmp, 1) := by decide +kernel
theorem dL_law_1248 : decode cL_law 1248 = .ok (.ifCond .eq 5, 3) := by decide +kernel
theorem dL_law_1251 : decode cL_law 1251 = .ok (.iconst 0, 1) := by decide +kernel
theorem dL_law_1252 : decode cL_law 1252 = .ok (.ireturn, 1) := by decide +kernel
theorem dL_law_1253 : decode cL_law 1253 = .ok (.iinc 3 6, 3) := by decide +kernel
theorem dL_law_1256 : decode cL_law 1256 = .ok (.goto (-1238), 3) := by decide +kernel
theorem dL_law_1259 : decode cL_law 1259 = .ok (.iconst 1, 1) := by decide +kernel
theorem dL_law_1260 : decode cL_law 1260 = .ok (.ireturn, 1) := by decide +kernel
end
section
/-! ===== numbers, loops, shapes of the many ===== -/
theorem nI_inc (i : Nat) : nI i + Int32.ofInt 1 = nI (i + 1) := nI_1 i
/-- downwards from N -/
theorem am_dn {P : Nat → Prop} (N : Nat) (h : ∀ i, i ≤ N → (∀ j, i < j → j ≤ N → P j) → P i) : ∀ i, i ≤ N → P i := by
  have key : ∀ k i, i + k = N → ∀ j, i ≤ j → j ≤ N → P j := by
    intro k
    induction k with
    | zero =>
      intro i hi j h1 h2
      have : j = N := by omega
      subst this
      exact h j (Nat.le_refl _) (fun q h3 h4 => by omega)
    | succ k ih =>
      intro i hi j h1 h2
      by_cases e : i < j
      · exact ih (i + 1) (by omega) j (by omega) h2
      · have : j = i := by omega
        subst this
        exact h j h2 (fun q h3 h4 => ih (j + 1) (by omega) q (by omega) h4)
  intro i hi
  exact key (N - i) i (by omega) i (Nat.le_refl _) hi
/-- by a measure -/
theorem am_wf {S : Type} {P : S → Prop} (μ : S → Nat) (h : ∀ s, (∀ s', μ s' < μ s → P s') → P s) : ∀ s, P s := by
  have key : ∀ n s, μ s < n → P s := by
    intro n
    induction n with
    | zero => intro s hs; omega
    | succ n ih => intro s hs; exact h s (fun s' h' => ih s' (by omega))
  intro s
  exact key (μ s + 1) s (by omega)
def nM : Int32 := -9
theorem nI_ne_neg {n : Nat} (h : n < 2 ^ 31) {x : Int32} (hx : x < 0) : nI n ≠ x := fun e => nI_pos h (e ▸ hx)
theorem nI_inj {a b : Nat} (ha : a < 2 ^ 31) (hb : b < 2 ^ 31) (h : nI a = nI b) : a = b := (nI_eq ha hb).mp h
section AWN
variable {G : am_G} {cc : ByteArray} {nL : Nat} {own : String} {d : Nat} {Ex : am_Ex} {pc : Nat} {L L' : List (Option Value)} {st : List Value} {I : am_I} {J : am_J}
theorem a_icmp_eqN {x y : Nat} {off : Int} {tgt : Nat} (hd : decode cc pc = .ok (.if_icmp .eq off, 3)) (ht : (pc : Int) + off = (tgt : Int)) (hx : x < 2 ^ 31) (hy : y < 2 ^ 31) (kt : x = y → AW G cc nL own d Ex tgt L st I J) (kf : x ≠ y → AW G cc nL own d Ex (pc + 3) L st I J) : AW G cc nL own d Ex pc L (.int (nI y) :: .int (nI x) :: st) I J := a_icmp_eq hd ht (fun h => kt ((nI_eq hx hy).mp h)) (fun h => kf (fun e => h ((nI_eq hx hy).mpr e)))
theorem a_icmp_neN {x y : Nat} {off : Int} {tgt : Nat} (hd : decode cc pc = .ok (.if_icmp .ne off, 3)) (ht : (pc : Int) + off = (tgt : Int)) (hx : x < 2 ^ 31) (hy : y < 2 ^ 31) (kt : x ≠ y → AW G cc nL own d Ex tgt L st I J) (kf : x = y → AW G cc nL own d Ex (pc + 3) L st I J) : AW G cc nL own d Ex pc L (.int (nI y) :: .int (nI x) :: st) I J := a_icmp_ne hd ht (fun h => kt (fun e => h ((nI_eq hx hy).mpr e))) (fun h => kf ((nI_eq hx hy).mp h))
theorem a_icmp_ltN {x y : Nat} {off : Int} {tgt : Nat} (hd : decode cc pc = .ok (.if_icmp .lt off, 3)) (ht : (pc : Int) + off = (tgt : Int)) (hx : x < 2 ^ 31) (hy : y < 2 ^ 31) (kt : x < y → AW G cc nL own d Ex tgt L st I J) (kf : y ≤ x → AW G cc nL own d Ex (pc + 3) L st I J) : AW G cc nL own d Ex pc L (.int (nI y) :: .int (nI x) :: st) I J := a_icmp_lt hd ht (fun h => kt ((nI_ltI hx hy).mp h)) (fun h => kf (by have := mt (nI_ltI hx hy).mpr h; omega))
theorem a_icmp_geN {x y : Nat} {off : Int} {tgt : Nat} (hd : decode cc pc = .ok (.if_icmp .ge off, 3)) (ht : (pc : Int) + off = (tgt : Int)) (hx : x < 2 ^ 31) (hy : y < 2 ^ 31) (kt : y ≤ x → AW G cc nL own d Ex tgt L st I J) (kf : x < y → AW G cc nL own d Ex (pc + 3) L st I J) : AW G cc nL own d Ex pc L (.int (nI y) :: .int (nI x) :: st) I J := a_icmp_ge hd ht (fun h => kt ((nI_leI hy hx).mp h)) (fun h => kf (by have := mt (nI_leI hy hx).mpr h; omega))
theorem a_icmp_gtN {x y : Nat} {off : Int} {tgt : Nat} (hd : decode cc pc = .ok (.if_icmp .gt off, 3)) (ht : (pc : Int) + off = (tgt : Int)) (hx : x < 2 ^ 31) (hy : y < 2 ^ 31) (kt : y < x → AW G cc nL own d Ex tgt L st I J) (kf : x ≤ y → AW G cc nL own d Ex (pc + 3) L st I J) : AW G cc nL own d Ex pc L (.int (nI y) :: .int (nI x) :: st) I J := a_icmp_gt hd ht (fun h => kt ((nI_ltI hy hx).mp h)) (fun h => kf (by have := mt (nI_ltI hy hx).mpr h; omega))
theorem a_icmp_leN {x y : Nat} {off : Int} {tgt : Nat} (hd : decode cc pc = .ok (.if_icmp .le off, 3)) (ht : (pc : Int) + off = (tgt : Int)) (hx : x < 2 ^ 31) (hy : y < 2 ^ 31) (kt : x ≤ y → AW G cc nL own d Ex tgt L st I J) (kf : y < x → AW G cc nL own d Ex (pc + 3) L st I J) : AW G cc nL own d Ex pc L (.int (nI y) :: .int (nI x) :: st) I J := a_icmp_le hd ht (fun h => kt ((nI_leI hx hy).mp h)) (fun h => kf (by have := mt (nI_leI hx hy).mpr h; omega))
theorem a_ticmp_eq {x y a b : Int32} {off : Int} {tgt pj : Nat} (hd : decode cc pc = .ok (.if_icmp .eq off, 3)) (ht : (pc : Int) + off = (tgt : Int)) (kt : AW G cc nL own d Ex pj L (.int a :: st) I J → AW G cc nL own d Ex tgt L st I J) (kf : AW G cc nL own d Ex pj L (.int b :: st) I J → AW G cc nL own d Ex (pc + 3) L st I J) (k : AW G cc nL own d Ex pj L (.int (if x = y then a else b) :: st) I J) : AW G cc nL own d Ex pc L (.int y :: .int x :: st) I J := a_icmp_eq hd ht (fun h => by rw [if_pos h] at k; exact kt k) (fun h => by rw [if_neg h] at k; exact kf k)
theorem a_tif_eq {x a b : Int32} {off : Int} {tgt pj : Nat} (hd : decode cc pc = .ok (.ifCond .eq off, 3)) (ht : (pc : Int) + off = (tgt : Int)) (kt : AW G cc nL own d Ex pj L (.int a :: st) I J → AW G cc nL own d Ex tgt L st I J) (kf : AW G cc nL own d Ex pj L (.int b :: st) I J → AW G cc nL own d Ex (pc + 3) L st I J) (k : AW G cc nL own d Ex pj L (.int (if x = 0 then a else b) :: st) I J) : AW G cc nL own d Ex pc L (.int x :: st) I J := a_if_eq hd ht (fun h => by rw [if_pos h] at k; exact kt k) (fun h => by rw [if_neg h] at k; exact kf k)
theorem a_ticmp_ne {x y a b : Int32} {off : Int} {tgt pj : Nat} (hd : decode cc pc = .ok (.if_icmp .ne off, 3)) (ht : (pc : Int) + off = (tgt : Int)) (kt : AW G cc nL own d Ex pj L (.int a :: st) I J → AW G cc nL own d Ex tgt L st I J) (kf : AW G cc nL own d Ex pj L (.int b :: st) I J → AW G cc nL own d Ex (pc + 3) L st I J) (k : AW G cc nL own d Ex pj L (.int (if x = y then b else a) :: st) I J) : AW G cc nL own d Ex pc L (.int y :: .int x :: st) I J := a_icmp_ne hd ht (fun h => by rw [if_neg h] at k; exact kt k) (fun h => by rw [if_pos h] at k; exact kf k)
theorem a_tif_ne {x a b : Int32} {off : Int} {tgt pj : Nat} (hd : decode cc pc = .ok (.ifCond .ne off, 3)) (ht : (pc : Int) + off = (tgt : Int)) (kt : AW G cc nL own d Ex pj L (.int a :: st) I J → AW G cc nL own d Ex tgt L st I J) (kf : AW G cc nL own d Ex pj L (.int b :: st) I J → AW G cc nL own d Ex (pc + 3) L st I J) (k : AW G cc nL own d Ex pj L (.int (if x = 0 then b else a) :: st) I J) : AW G cc nL own d Ex pc L (.int x :: st) I J := a_if_ne hd ht (fun h => by rw [if_neg h] at k; exact kt k) (fun h => by rw [if_pos h] at k; exact kf k)
theorem a_ticmp_lt {x y a b : Int32} {off : Int} {tgt pj : Nat} (hd : decode cc pc = .ok (.if_icmp .lt off, 3)) (ht : (pc : Int) + off = (tgt : Int)) (kt : AW G cc nL own d Ex pj L (.int a :: st) I J → AW G cc nL own d Ex tgt L st I J) (kf : AW G cc nL own d Ex pj L (.int b :: st) I J → AW G cc nL own d Ex (pc + 3) L st I J) (k : AW G cc nL own d Ex pj L (.int (if x < y then a else b) :: st) I J) : AW G cc nL own d Ex pc L (.int y :: .int x :: st) I J := a_icmp_lt hd ht (fun h => by rw [if_pos h] at k; exact kt k) (fun h => by rw [if_neg h] at k; exact kf k)
theorem a_tif_lt {x a b : Int32} {off : Int} {tgt pj : Nat} (hd : decode cc pc = .ok (.ifCond .lt off, 3)) (ht : (pc : Int) + off = (tgt : Int)) (kt : AW G cc nL own d Ex pj L (.int a :: st) I J → AW G cc nL own d Ex tgt L st I J) (kf : AW G cc nL own d Ex pj L (.int b :: st) I J → AW G cc nL own d Ex (pc + 3) L st I J) (k : AW G cc nL own d Ex pj L (.int (if x < 0 then a else b) :: st) I J) : AW G cc nL own d Ex pc L (.int x :: st) I J := a_if_lt hd ht (fun h => by rw [if_pos h] at k; exact kt k) (fun h => by rw [if_neg h] at k; exact kf k)
theorem a_ticmp_ge {x y a b : Int32} {off : Int} {tgt pj : Nat} (hd : decode cc pc = .ok (.if_icmp .ge off, 3)) (ht : (pc : Int) + off = (tgt : Int)) (kt : AW G cc nL own d Ex pj L (.int a :: st) I J → AW G cc nL own d Ex tgt L st I J) (kf : AW G cc nL own d Ex pj L (.int b :: st) I J → AW G cc nL own d Ex (pc + 3) L st I J) (k : AW G cc nL own d Ex pj L (.int (if y ≤ x then a else b) :: st) I J) : AW G cc nL own d Ex pc L (.int y :: .int x :: st) I J := a_icmp_ge hd ht (fun h => by rw [if_pos h] at k; exact kt k) (fun h => by rw [if_neg h] at k; exact kf k)
theorem a_tif_ge {x a b : Int32} {off : Int} {tgt pj : Nat} (hd : decode cc pc = .ok (.ifCond .ge off, 3)) (ht : (pc : Int) + off = (tgt : Int)) (kt : AW G cc nL own d Ex pj L (.int a :: st) I J → AW G cc nL own d Ex tgt L st I J) (kf : AW G cc nL own d Ex pj L (.int b :: st) I J → AW G cc nL own d Ex (pc + 3) L st I J) (k : AW G cc nL own d Ex pj L (.int (if 0 ≤ x then a else b) :: st) I J) : AW G cc nL own d Ex pc L (.int x :: st) I J := a_if_ge hd ht (fun h => by rw [if_pos h] at k; exact kt k) (fun h => by rw [if_neg h] at k; exact kf k)
theorem a_ticmp_gt {x y a b : Int32} {off : Int} {tgt pj : Nat} (hd : decode cc pc = .ok (.if_icmp .gt off, 3)) (ht : (pc : Int) + off = (tgt : Int)) (kt : AW G cc nL own d Ex pj L (.int a :: st) I J → AW G cc nL own d Ex tgt L st I J) (kf : AW G cc nL own d Ex pj L (.int b :: st) I J → AW G cc nL own d Ex (pc + 3) L st I J) (k : AW G cc nL own d Ex pj L (.int (if y < x then a else b) :: st) I J) : AW G cc nL own d Ex pc L (.int y :: .int x :: st) I J := a_icmp_gt hd ht (fun h => by rw [if_pos h] at k; exact kt k) (fun h => by rw [if_neg h] at k; exact kf k)
theorem a_tif_gt {x a b : Int32} {off : Int} {tgt pj : Nat} (hd : decode cc pc = .ok (.ifCond .gt off, 3)) (ht : (pc : Int) + off = (tgt : Int)) (kt : AW G cc nL own d Ex pj L (.int a :: st) I J → AW G cc nL own d Ex tgt L st I J) (kf : AW G cc nL own d Ex pj L (.int b :: st) I J → AW G cc nL own d Ex (pc + 3) L st I J) (k : AW G cc nL own d Ex pj L (.int (if 0 < x then a else b) :: st) I J) : AW G cc nL own d Ex pc L (.int x :: st) I J := a_if_gt hd ht (fun h => by rw [if_pos h] at k; exact kt k) (fun h => by rw [if_neg h] at k; exact kf k)
theorem a_ticmp_le {x y a b : Int32} {off : Int} {tgt pj : Nat} (hd : decode cc pc = .ok (.if_icmp .le off, 3)) (ht : (pc : Int) + off = (tgt : Int)) (kt : AW G cc nL own d Ex pj L (.int a :: st) I J → AW G cc nL own d Ex tgt L st I J) (kf : AW G cc nL own d Ex pj L (.int b :: st) I J → AW G cc nL own d Ex (pc + 3) L st I J) (k : AW G cc nL own d Ex pj L (.int (if x ≤ y then a else b) :: st) I J) : AW G cc nL own d Ex pc L (.int y :: .int x :: st) I J := a_icmp_le hd ht (fun h => by rw [if_pos h] at k; exact kt k) (fun h => by rw [if_neg h] at k; exact kf k)
theorem a_tif_le {x a b : Int32} {off : Int} {tgt pj : Nat} (hd : decode cc pc = .ok (.ifCond .le off, 3)) (ht : (pc : Int) + off = (tgt : Int)) (kt : AW G cc nL own d Ex pj L (.int a :: st) I J → AW G cc nL own d Ex tgt L st I J) (kf : AW G cc nL own d Ex pj L (.int b :: st) I J → AW G cc nL own d Ex (pc + 3) L st I J) (k : AW G cc nL own d Ex pj L (.int (if x ≤ 0 then a else b) :: st) I J) : AW G cc nL own d Ex pc L (.int x :: st) I J := a_if_le hd ht (fun h => by rw [if_pos h] at k; exact kt k) (fun h => by rw [if_neg h] at k; exact kf k)
theorem a_join (pj : Nat) (st0 : List Value) (h : AW G cc nL own d Ex pj L st0 I J) (k : AW G cc nL own d Ex pj L st0 I J → AW G cc nL own d Ex pc L st I J) : AW G cc nL own d Ex pc L st I J := k h
end AWN
theorem sh_line {i : Nat} (h : i < 12) : am_sh (20 + i) = .inl (2, [none, none, none, none, none, none, some (some (32 + i))]) := match i, h with
  | 0, _ => rfl
  | 1, _ => rfl
  | 2, _ => rfl
  | 3, _ => rfl
  | 4, _ => rfl
  | 5, _ => rfl
  | 6, _ => rfl
  | 7, _ => rfl
  | 8, _ => rfl
  | 9, _ => rfl
  | 10, _ => rfl
  | 11, _ => rfl
  | i + 12, h => absurd h (by omega)
theorem sh_read {i : Nat} (h : i < 12) : am_ar (32 + i) 0 24 := ⟨by unfold am_N; omega, match i, h with
  | 0, _ => rfl
  | 1, _ => rfl
  | 2, _ => rfl
  | 3, _ => rfl
  | 4, _ => rfl
  | 5, _ => rfl
  | 6, _ => rfl
  | 7, _ => rfl
  | 8, _ => rfl
  | 9, _ => rfl
  | 10, _ => rfl
  | 11, _ => rfl
  | i + 12, h => absurd h (by omega)⟩
theorem sh_byte {i : Nat} (h : i < 4) : am_ar (16 + i) 2 24 := ⟨by unfold am_N; omega, match i, h with
  | 0, _ => rfl
  | 1, _ => rfl
  | 2, _ => rfl
  | 3, _ => rfl
  | i + 4, h => absurd h (by omega)⟩
theorem sh_at {i j : Nat} {q : am_F} (h : i < 12) (hq : ([none, none, none, none, none, none, some (some (32 + i))] : List am_F)[j]? = some q) : am_at (20 + i) 2 j q := ⟨by unfold am_N; omega, _, sh_line h, hq⟩
theorem sh_ob {i : Nat} (h : i < 12) : am_ob (20 + i) RX4 := ⟨by unfold am_N; omega, _, _, _, sh_line h, rfl⟩
/-- a LINE's number, a PAIR's numbers -/
def isLn (n : Nat) (x : Int32) : Prop := ∃ l, l < n ∧ x = nI l
def isPr (N : Nat) (a b : Int32) : Prop := ∃ p q, p < N ∧ q < N ∧ p ≠ q ∧ a = nI p ∧ b = nI q
theorem rg_iff {x : Int32} {n : Nat} (hn : n < 2 ^ 31) : (0 ≤ x ∧ x < nI n) ↔ ∃ j, j < n ∧ x = nI j := by
  constructor
  · rintro ⟨h1, h2⟩
    obtain ⟨j, hj, e⟩ := nI_of (Int32.not_lt.mpr h1)
    exact ⟨j, by rw [e] at h2; exact (nI_ltI hj hn).mp h2, e⟩
  · rintro ⟨j, h1, rfl⟩
    exact ⟨nI_pos' (by omega), (nI_ltI (by omega) hn).mpr h1⟩
theorem rg_iff1 {x : Int32} {n : Nat} (hn : n < 2 ^ 31) : (0 ≤ x ∧ x ≤ nI n) ↔ ∃ j, j ≤ n ∧ x = nI j := by
  constructor
  · rintro ⟨h1, h2⟩
    obtain ⟨j, hj, e⟩ := nI_of (Int32.not_lt.mpr h1)
    exact ⟨j, by rw [e] at h2; exact (nI_leI hj hn).mp h2, e⟩
  · rintro ⟨j, h1, rfl⟩
    exact ⟨nI_pos' (by omega), (nI_leI (by omega) hn).mpr h1⟩
theorem rg_sub {x : Int32} {n : Nat} (hn : n < 2 ^ 31) : (0 ≤ x ∧ x ≤ nI n - 1) ↔ ∃ j, j < n ∧ x = nI j := by
  cases n with
  | zero =>
    constructor
    · rintro ⟨h1, h2⟩
      exact absurd (Int32.le_trans h1 h2) (by decide)
    · rintro ⟨j, h, -⟩
      omega
  | succ n =>
    rw [nI_pred, rg_iff1 (by omega)]
    exact ⟨fun ⟨j, h, e⟩ => ⟨j, by omega, e⟩, fun ⟨j, h, e⟩ => ⟨j, by omega, e⟩⟩
/-- how many below n -/
def cN (p : Nat → Bool) : Nat → Nat
  | 0 => 0
  | n + 1 => cN p n + (if p n then 1 else 0)
theorem cN_s (p : Nat → Bool) (n : Nat) : cN p (n + 1) = cN p n + (if p n then 1 else 0) := rfl
theorem cN_le (p : Nat → Bool) : ∀ n, cN p n ≤ n
  | 0 => Nat.le_refl _
  | n + 1 => by
    have := cN_le p n
    unfold cN
    split <;> omega
theorem ix_lt {N a b : Nat} (hN : N ≤ 6) (ha : a < N) (hb : b < N) : N * a + b < 36 := by
  have h1 : N * a ≤ N * (N - 1) := Nat.mul_le_mul_left N (by omega)
  have h2 : N * (N - 1) ≤ 6 * 5 := Nat.mul_le_mul hN (by omega)
  have h3 : N * (N - 1) + N = N * N := by
    rw [Nat.mul_sub, Nat.mul_one, Nat.sub_add_cancel]
    exact Nat.le_mul_of_pos_left N (by omega)
  have h4 : N * N ≤ 6 * 6 := Nat.mul_le_mul hN hN
  omega
theorem ix_lt2 {N a b : Nat} (ha : a < N) (hb : b < N) : N * a + b < N * N := by
  have h1 : N * (a + 1) ≤ N * N := Nat.mul_le_mul_left N (by omega)
  rw [Nat.mul_add] at h1
  omega
theorem sq_le {N : Nat} (hN : N ≤ 6) : N * N ≤ 36 := Nat.mul_le_mul hN hN
theorem cN_congr {p q : Nat → Bool} : ∀ n, (∀ i, i < n → p i = q i) → cN p n = cN q n
  | 0, _ => rfl
  | n + 1, h => by
    unfold cN
    rw [cN_congr n (fun i hi => h i (by omega)), h n (by omega)]
end
section
/-! ===== the reference: numbers, LINES, READINGS ===== -/
set_option maxHeartbeats 4000000 in
set_option maxRecDepth 100000 in
/-- in(v, low, high) -/
theorem c_in {G : am_G} {d : Nat} {I : am_I} {J : am_J} {K : Int32 → am_I → am_J → Prop} {a b c : Int32} (h1 : b ≤ a → a ≤ c → K 1 I J) (h0 : ¬ (b ≤ a ∧ a ≤ c) → K 0 I J) : CMi G d yX12_in [.int a, .int b, .int c] I J K := by
  refine CM.of (L0 := [_, _, _]) cX12_in 3 (some .boolean) (by decide) (by decide) kcX12_in (Nat.le_of_ble_eq_true rfl) rfl ?_
  refine a_iload_n dX12_in_0 rfl ?_
  refine a_iload_n dX12_in_1 rfl ?_
  refine a_icmp_lt (tgt := 14) dX12_in_2 (by decide) (fun h2 => ?_) (fun h2 => ?_)
  · refine a_iconst (v := nI 0) dX12_in_14 (by decide) ?_
    exact a_zreturn dX12_in_15 (by first | exact Or.inl rfl | exact Or.inr rfl) ⟨_, rfl, (h0 (fun h => Int32.not_le.mpr h2 h.1))⟩
  · refine a_iload_n dX12_in_5 rfl ?_
    refine a_iload_n dX12_in_6 rfl ?_
    refine a_icmp_gt (tgt := 14) dX12_in_7 (by decide) (fun h7 => ?_) (fun h7 => ?_)
    · refine a_iconst (v := nI 0) dX12_in_14 (by decide) ?_
      exact a_zreturn dX12_in_15 (by first | exact Or.inl rfl | exact Or.inr rfl) ⟨_, rfl, (h0 (fun h => Int32.not_le.mpr h7 h.2))⟩
    · refine a_iconst (v := nI 1) dX12_in_10 (by decide) ?_
      refine a_goto (tgt := 15) dX12_in_11 (by decide) ?_
      exact a_zreturn dX12_in_15 (by first | exact Or.inl rfl | exact Or.inr rfl) ⟨_, rfl, (h1 (Int32.not_lt.mp h2) (Int32.not_lt.mp h7))⟩

set_option maxHeartbeats 4000000 in
set_option maxRecDepth 100000 in
/-- meets(what) -/
theorem c_meets {G : am_G} {d : Nat} {I : am_I} {J : am_J} {K : Int32 → am_I → am_J → Prop} {f : Nat} (hf : f < 6) (hK : K (-3) (am_up (am_up I 63 0 (nI f)) 64 f (I 64 f + 1)) J) : CMi G d yX12_meets [.ref 63, .int (nI f)] I J K := by
  refine CM.of (L0 := [_, _]) cX12_meets 2 (some .int) (by decide) (by decide) kcX12_meets (Nat.le_of_ble_eq_true rfl) rfl ?_
  refine a_aload_n dX12_meets_0 rfl ?_
  refine a_iload_n dX12_meets_1 rfl ?_
  refine a_puti dX12_meets_2 kp_X12_108 ⟨by decide, _, rfl, rfl⟩ ?_
  refine a_aload_n dX12_meets_5 rfl ?_
  refine a_getr dX12_meets_6 kf_X12_7 ⟨by decide, _, rfl, rfl⟩ ?_
  refine a_iload_n dX12_meets_9 rfl ?_
  refine a_dup2 dX12_meets_10 rfl rfl ?_
  refine a_iald dX12_meets_11 ⟨by decide, rfl⟩ (by omega) rfl ?_
  refine a_iconst (v := nI 1) dX12_meets_12 (by decide) ?_
  refine a_iadd dX12_meets_13 (by first | exact nI_add _ _ | rfl) ?_
  refine a_iast dX12_meets_14 ⟨by decide, rfl⟩ (by omega) ?_
  refine a_bipush (v := (-3)) dX12_meets_15 (by decide) ?_
  exact a_ireturn dX12_meets_17 ⟨_, rfl, hK⟩

set_option maxHeartbeats 4000000 in
set_option maxRecDepth 100000 in
/-- tell(v, answer) -/
theorem c_tell {G : am_G} {d : Nat} {I : am_I} {J : am_J} {K : Int32 → am_I → am_J → Prop} {v : Int64} {a : Int32} (hK : K a I (am_upJ J 63 2 v)) : CMi G d yX12_tell [.ref 63, .long v, .int a] I J K := by
  refine CM.of (L0 := [_, _, _, _]) cX12_tell 4 (some .int) (by decide) (by decide) kcX12_tell (Nat.le_of_ble_eq_true rfl) rfl ?_
  refine a_aload_n dX12_tell_0 rfl ?_
  refine a_lload_n dX12_tell_1 rfl ?_
  refine a_putl dX12_tell_2 kp_X12_111 ⟨by decide, _, rfl, rfl⟩ ?_
  refine a_iload_n dX12_tell_5 rfl ?_
  exact a_ireturn dX12_tell_6 ⟨_, rfl, hK⟩

/-- the memory behind forget() -/
def mForget (I : am_I) : am_I := fun a b => if a = 72 ∧ b < 36 then -9 else if a = 73 ∧ b < 36 then 0 else am_up (am_up I 63 4 0) 63 15 0 a b
def mForgetI (I : am_I) (i : Nat) : am_I := fun a b => if a = 72 ∧ b < i then -9 else if a = 73 ∧ b < i then 0 else I a b
theorem mForgetI_s (I : am_I) (i : Nat) : am_up (am_up (mForgetI I i) 72 i (-9)) 73 i (nI 0) = mForgetI I (i + 1) := by
  funext a b
  simp only [am_up, mForgetI, show nI 0 = 0 from nI_0]
  by_cases h1 : a = 73
  · subst h1
    by_cases h2 : b = i
    · subst h2; simp
    · simp [h2, show (b < i + 1) = (b < i) by simp; omega]
  · by_cases h1 : a = 72
    · subst h1
      by_cases h2 : b = i
      · subst h2; simp
      · simp [h2, show (b < i + 1) = (b < i) by simp; omega]
    · simp [*]
set_option maxHeartbeats 4000000 in
set_option maxRecDepth 100000 in
theorem lp_forget {G : am_G} {d : Nat} {I0 : am_I} {J : am_J} {K : am_I → am_J → Prop}  (hK : K (mForgetI I0 36) J) : ∀ i, i ≤ 36 → AW G cX12_forget 2 RX12 d (am_ex G none (fun r I J => r = none ∧ K I J)) 12 [some (.ref 63), some (.int (nI i))] [] (mForgetI I0 i) J := by
  refine am_dn (36) (fun i hi ih => ?_)
  refine a_iload_n dX12_forget_12 rfl ?_
  refine a_bipush (v := nI 36) dX12_forget_13 (by decide) ?_
  refine a_icmp_geN (tgt := 39) dX12_forget_15 (by decide) (by omega) (by omega) (fun h => ?_) (fun h => ?_)
  · obtain rfl : i = 36 := by omega
    exact a_vreturn dX12_forget_39 ⟨rfl, hK⟩
  · refine a_aload_n dX12_forget_18 rfl ?_
    refine a_getr dX12_forget_19 kf_X12_39 ⟨by decide, _, rfl, rfl⟩ ?_
    refine a_iload_n dX12_forget_22 rfl ?_
    refine a_bipush (v := (-9)) dX12_forget_23 (by decide) ?_
    refine a_iast dX12_forget_25 ⟨by decide, rfl⟩ (by omega) ?_
    refine a_aload_n dX12_forget_26 rfl ?_
    refine a_getr dX12_forget_27 kf_X12_42 ⟨by decide, _, rfl, rfl⟩ ?_
    refine a_iload_n dX12_forget_30 rfl ?_
    refine a_iconst (v := nI 0) dX12_forget_31 (by decide) ?_
    refine a_iast dX12_forget_32 ⟨by decide, rfl⟩ (by omega) ?_
    refine a_mem (mForgetI_s I0 i) ?_
    refine a_iinc (L' := [_, _]) dX12_forget_33 rfl (nI_inc _) rfl ?_
    refine a_goto (tgt := 12) dX12_forget_36 (by decide) ?_
    exact ih (i + 1) (by omega) (by omega)

set_option maxHeartbeats 4000000 in
set_option maxRecDepth 100000 in
/-- forget() -/
theorem c_forget {G : am_G} {d : Nat} {I : am_I} {J : am_J} {K : am_I → am_J → Prop}  (hK : K (mForget I) J) : CMv G d yX12_forget [.ref 63] I J K := by
  refine CM.of (L0 := [_, _]) cX12_forget 2 none (by decide) (by decide) kcX12_forget (Nat.le_of_ble_eq_true rfl) rfl ?_
  refine a_aload_n dX12_forget_0 rfl ?_
  refine a_iconst (v := nI 0) dX12_forget_1 (by decide) ?_
  refine a_puti dX12_forget_2 kp_X12_115 ⟨by decide, _, rfl, rfl⟩ ?_
  refine a_aload_n dX12_forget_5 rfl ?_
  refine a_iconst (v := nI 0) dX12_forget_6 (by decide) ?_
  refine a_putz dX12_forget_7 kp_X12_118 ⟨by decide, _, rfl, rfl⟩ (by first | exact Or.inl rfl | exact Or.inr rfl) ?_
  refine a_iconst (v := nI 0) dX12_forget_10 (by decide) ?_
  refine a_istore_n (L' := [_, _]) dX12_forget_11 (Nat.le_of_ble_eq_true rfl) rfl ?_
  refine a_mem (I' := mForgetI (am_up (am_up I 63 4 (nI 0)) 63 15 (nI 0)) 0) (by funext a b; simp [mForgetI]) ?_
  exact lp_forget hK 0 (by omega)

set_option maxHeartbeats 4000000 in
set_option maxRecDepth 100000 in
/-- net(k) -/
theorem c_net {G : am_G} {d : Nat} {I : am_I} {J : am_J} {K : Int32 → am_I → am_J → Prop} {x : Int32} (h1 : ∀ k, 2 ≤ k → k ≤ 6 → x = nI k → K x (mForget (am_up I 63 3 x)) J) (h0 : ¬ (nI 2 ≤ x ∧ x ≤ nI 6) → K (-1) I J) : CMi G (d + 1) yX12_net [.ref 63, .int x] I J K := by
  refine CM.of (L0 := [_, _]) cX12_net 2 (some .int) (by decide) (by decide) kcX12_net (Nat.le_of_ble_eq_true rfl) rfl ?_
  refine a_iload_n dX12_net_0 rfl ?_
  refine a_iconst (v := nI 2) dX12_net_1 (by decide) ?_
  refine a_bipush (v := nI 6) dX12_net_2 (by decide) ?_
  refine a_callSi (As := [_, _, _]) dX12_net_4 km_X12_122 rfl rfl (Nat.le_of_ble_eq_true rfl) ?_
  refine c_in (fun e1 e2 => ?_) (fun e1 => ?_)
  · obtain ⟨k, hk, rfl⟩ := nI_of2 (n := 6) (M := nI 6) (by decide) (fun q => absurd (Int32.lt_of_le_of_lt e1 q) (by decide)) e2
    have e1 := (nI_leI (by omega) (by omega)).mp e1
    refine a_if_ne (tgt := 12) dX12_net_7 (by decide) (fun h7 => ?_) (fun h7 => ?_)
    · refine a_aload_n dX12_net_12 rfl ?_
      refine a_iload_n dX12_net_13 rfl ?_
      refine a_puti dX12_net_14 kp_X12_13 ⟨by decide, _, rfl, rfl⟩ ?_
      refine a_aload_n dX12_net_17 rfl ?_
      refine a_callVv (As := []) dX12_net_18 km_X12_105 ⟨by decide, _, _, _, rfl, rfl⟩ rfl rfl (Nat.le_of_ble_eq_true rfl) ?_
      refine c_forget ?_
      refine a_iload_n dX12_net_21 rfl ?_
      exact a_ireturn dX12_net_22 ⟨_, rfl, (h1 k e1 hk rfl)⟩
    · exact absurd h7 (by decide)
  · refine a_if_ne (tgt := 12) dX12_net_7 (by decide) (fun h7 => ?_) (fun h7 => ?_)
    · exact absurd h7 (by decide)
    · refine a_iconst (v := (-1)) dX12_net_10 (by decide) ?_
      exact a_ireturn dX12_net_11 ⟨_, rfl, (h0 e1)⟩

set_option maxHeartbeats 4000000 in
set_option maxRecDepth 100000 in
theorem c_isKnot {G : am_G} {d : Nat} {I : am_I} {J : am_J} {K : Int32 → am_I → am_J → Prop} {x : Int32} {n : Nat} (hn : I 63 3 = nI n) (hb : n < 2 ^ 31) (h1 : ∀ j, j < n → x = nI j → K 1 I J) (h0 : ¬ (∃ j, j < n ∧ x = nI j) → K 0 I J) : CMi G (d + 1) yX12_isKnot [.ref 63, .int x] I J K := by
  refine CM.of (L0 := [_, _]) cX12_isKnot 2 (some .boolean) (by decide) (by decide) kcX12_isKnot (Nat.le_of_ble_eq_true rfl) rfl ?_
  refine a_iload_n dX12_isKnot_0 rfl ?_
  refine a_iconst (v := nI 0) dX12_isKnot_1 (by decide) ?_
  refine a_aload_n dX12_isKnot_2 rfl ?_
  refine a_geti dX12_isKnot_3 kf_X12_13 ⟨by decide, _, rfl, rfl⟩ hn ?_
  refine a_iconst (v := nI 1) dX12_isKnot_6 (by decide) ?_
  refine a_isub dX12_isKnot_7 rfl ?_
  refine a_callSi (As := [_, _, _]) dX12_isKnot_8 km_X12_122 rfl rfl (Nat.le_of_ble_eq_true rfl) ?_
  refine c_in (fun e1 e2 => ?_) (fun e1 => ?_)
  · exact a_zreturn dX12_isKnot_11 (by first | exact Or.inl rfl | exact Or.inr rfl) ⟨_, rfl, (by obtain ⟨j, q1, q2⟩ := (rg_sub hb).mp ⟨e1, e2⟩; exact h1 j q1 q2)⟩
  · exact a_zreturn dX12_isKnot_11 (by first | exact Or.inl rfl | exact Or.inr rfl) ⟨_, rfl, (h0 (fun q => e1 ((rg_sub hb).mpr q)))⟩

set_option maxHeartbeats 4000000 in
set_option maxRecDepth 100000 in
theorem c_isLine {G : am_G} {d : Nat} {I : am_I} {J : am_J} {K : Int32 → am_I → am_J → Prop} {x : Int32} {n : Nat} (hn : I 63 4 = nI n) (hb : n < 2 ^ 31) (h1 : ∀ j, j < n → x = nI j → K 1 I J) (h0 : ¬ (∃ j, j < n ∧ x = nI j) → K 0 I J) : CMi G (d + 1) yX12_isLine [.ref 63, .int x] I J K := by
  refine CM.of (L0 := [_, _]) cX12_isLine 2 (some .boolean) (by decide) (by decide) kcX12_isLine (Nat.le_of_ble_eq_true rfl) rfl ?_
  refine a_iload_n dX12_isLine_0 rfl ?_
  refine a_iconst (v := nI 0) dX12_isLine_1 (by decide) ?_
  refine a_aload_n dX12_isLine_2 rfl ?_
  refine a_geti dX12_isLine_3 kf_X12_115 ⟨by decide, _, rfl, rfl⟩ hn ?_
  refine a_iconst (v := nI 1) dX12_isLine_6 (by decide) ?_
  refine a_isub dX12_isLine_7 rfl ?_
  refine a_callSi (As := [_, _, _]) dX12_isLine_8 km_X12_122 rfl rfl (Nat.le_of_ble_eq_true rfl) ?_
  refine c_in (fun e1 e2 => ?_) (fun e1 => ?_)
  · exact a_zreturn dX12_isLine_11 (by first | exact Or.inl rfl | exact Or.inr rfl) ⟨_, rfl, (by obtain ⟨j, q1, q2⟩ := (rg_sub hb).mp ⟨e1, e2⟩; exact h1 j q1 q2)⟩
  · exact a_zreturn dX12_isLine_11 (by first | exact Or.inl rfl | exact Or.inr rfl) ⟨_, rfl, (h0 (fun q => e1 ((rg_sub hb).mpr q)))⟩

set_option maxHeartbeats 4000000 in
set_option maxRecDepth 100000 in
theorem c_isPair {G : am_G} {d : Nat} {I : am_I} {J : am_J} {K : Int32 → am_I → am_J → Prop} {x y : Int32} {n : Nat} (hn : I 63 3 = nI n) (hb : n < 2 ^ 31) (h1 : ∀ p q, p < n → q < n → p ≠ q → x = nI p → y = nI q → K 1 I J) (h0 : ¬ isPr n x y → K 0 I J) : CMi G (d + 2) yX12_isPair [.ref 63, .int x, .int y] I J K := by
  refine CM.of (L0 := [_, _, _]) cX12_isPair 3 (some .boolean) (by decide) (by decide) kcX12_isPair (Nat.le_of_ble_eq_true rfl) rfl ?_
  refine a_aload_n dX12_isPair_0 rfl ?_
  refine a_iload_n dX12_isPair_1 rfl ?_
  refine a_callVi (As := [_]) dX12_isPair_2 km_X12_126 ⟨by decide, _, _, _, rfl, rfl⟩ rfl rfl (Nat.le_of_ble_eq_true rfl) ?_
  refine c_isKnot hn hb (fun p hp e1 => ?_) (fun e1 => ?_)
  · refine a_if_eq (tgt := 25) dX12_isPair_5 (by decide) (fun h5 => ?_) (fun h5 => ?_)
    · exact absurd h5 (by decide)
    · refine a_aload_n dX12_isPair_8 rfl ?_
      refine a_iload_n dX12_isPair_9 rfl ?_
      refine a_callVi (As := [_]) dX12_isPair_10 km_X12_126 ⟨by decide, _, _, _, rfl, rfl⟩ rfl rfl (Nat.le_of_ble_eq_true rfl) ?_
      refine c_isKnot hn hb (fun q hq e2 => ?_) (fun e2 => ?_)
      · refine a_if_eq (tgt := 25) dX12_isPair_13 (by decide) (fun h13 => ?_) (fun h13 => ?_)
        · exact absurd h13 (by decide)
        · refine a_iload_n dX12_isPair_16 rfl ?_
          refine a_iload_n dX12_isPair_17 rfl ?_
          refine a_icmp_eq (tgt := 25) dX12_isPair_18 (by decide) (fun h18 => ?_) (fun h18 => ?_)
          · refine a_iconst (v := nI 0) dX12_isPair_25 (by decide) ?_
            exact a_zreturn dX12_isPair_26 (by first | exact Or.inl rfl | exact Or.inr rfl) ⟨_, rfl, (h0 (fun ⟨p1, q1, a1, a2, a3, a4, a5⟩ => a3 (nI_inj (by omega) (by omega) (by rw [← a4, ← a5]; exact h18))))⟩
          · refine a_iconst (v := nI 1) dX12_isPair_21 (by decide) ?_
            refine a_goto (tgt := 26) dX12_isPair_22 (by decide) ?_
            exact a_zreturn dX12_isPair_26 (by first | exact Or.inl rfl | exact Or.inr rfl) ⟨_, rfl, (h1 p q hp hq (fun e => h18 (by rw [e1, e2, e])) e1 e2)⟩
      · refine a_if_eq (tgt := 25) dX12_isPair_13 (by decide) (fun h13 => ?_) (fun h13 => ?_)
        · refine a_iconst (v := nI 0) dX12_isPair_25 (by decide) ?_
          exact a_zreturn dX12_isPair_26 (by first | exact Or.inl rfl | exact Or.inr rfl) ⟨_, rfl, (h0 (fun ⟨p, q, a1, a2, a3, a4, a5⟩ => e2 ⟨q, a2, a5⟩))⟩
        · exact absurd h13 (by decide)
  · refine a_if_eq (tgt := 25) dX12_isPair_5 (by decide) (fun h5 => ?_) (fun h5 => ?_)
    · refine a_iconst (v := nI 0) dX12_isPair_25 (by decide) ?_
      exact a_zreturn dX12_isPair_26 (by first | exact Or.inl rfl | exact Or.inr rfl) ⟨_, rfl, (h0 (fun ⟨p, q, a1, a2, a3, a4, a5⟩ => e1 ⟨p, a1, a4⟩))⟩
    · exact absurd h5 (by decide)

def mLine (I : am_I) (n : Nat) (k a b : Int32) : am_I := am_up (am_up (am_up (am_up (am_up (am_up I 65 n k) 66 n a) 67 n b) 68 n 0) 69 n 100) 70 n (-9)
def mLost (I : am_I) (n i : Nat) : am_I := fun p j => if p = 71 ∧ 24 * n ≤ j ∧ j < 24 * n + i then -9 else I p j
theorem mLost_s (I : am_I) (n i : Nat) : am_up (mLost I n i) 71 (24 * n + i) (-9) = mLost I n (i + 1) := by
  funext a b
  simp only [am_up, mLost]
  by_cases h1 : a = 71
  · subst h1
    by_cases h2 : b = 24 * n + i
    · subst h2
      simp
    · by_cases h3 : 24 * n ≤ b ∧ b < 24 * n + i
      · simp [h2, h3, show b < 24 * n + (i + 1) by omega]
      · simp [h2, h3, show ¬ (24 * n ≤ b ∧ b < 24 * n + (i + 1)) by omega]
  · simp [h1]
set_option maxHeartbeats 4000000 in
set_option maxRecDepth 100000 in
theorem lp_line {G : am_G} {d : Nat} {I0 : am_I} {J : am_J} {K : Int32 → am_I → am_J → Prop} {n : Nat} {v1 v2 v3 : Int32} (hn : I0 63 4 = nI n) (hn12 : n < 12) (hK : K (nI n) (am_up (mLost I0 n 24) 63 4 (nI (n + 1))) J) : ∀ i, i ≤ 24 → AW G cX12_line 5 RX12 d (am_ex G (some .int) (fun r I J => ∃ x, r = some (.int x) ∧ K x I J)) 109 [some (.ref 63), some (.int v1), some (.int v2), some (.int v3), some (.int (nI i))] [] (mLost I0 n i) J := by
  refine am_dn (24) (fun i hi ih => ?_)
  refine a_iload dX12_line_109 rfl ?_
  refine a_bipush (v := nI 24) dX12_line_111 (by decide) ?_
  refine a_icmp_geN (tgt := 139) dX12_line_113 (by decide) (by omega) (by omega) (fun h => ?_) (fun h => ?_)
  · obtain rfl : i = 24 := by omega
    refine a_aload_n dX12_line_139 rfl ?_
    refine a_dup dX12_line_140 rfl ?_
    refine a_geti dX12_line_141 kf_X12_115 ⟨by decide, _, rfl, rfl⟩ hn ?_
    refine a_iconst (v := nI 1) dX12_line_144 (by decide) ?_
    refine a_iadd dX12_line_145 (by first | exact nI_add _ _ | rfl) ?_
    refine a_puti dX12_line_146 kp_X12_115 ⟨by decide, _, rfl, rfl⟩ ?_
    refine a_aload_n dX12_line_149 rfl ?_
    refine a_geti dX12_line_150 kf_X12_115 ⟨by decide, _, rfl, rfl⟩ rfl ?_
    refine a_iconst (v := nI 1) dX12_line_153 (by decide) ?_
    refine a_isub dX12_line_154 (show am_up (mLost I0 n 24) 63 4 (nI (n + 1)) 63 4 - nI 1 = nI n from nI_pred n) ?_
    exact a_ireturn dX12_line_155 ⟨_, rfl, hK⟩
  · refine a_aload_n dX12_line_116 rfl ?_
    refine a_getr dX12_line_117 kf_X12_36 ⟨by decide, _, rfl, rfl⟩ ?_
    refine a_bipush (v := nI 24) dX12_line_120 (by decide) ?_
    refine a_aload_n dX12_line_122 rfl ?_
    refine a_geti dX12_line_123 kf_X12_115 ⟨by decide, _, rfl, rfl⟩ hn ?_
    refine a_imul dX12_line_126 (by first | exact pk_mul _ _ | rfl) ?_
    refine a_iload dX12_line_127 rfl ?_
    refine a_iadd dX12_line_129 (by first | exact nI_add _ _ | rfl) ?_
    refine a_bipush (v := (-9)) dX12_line_130 (by decide) ?_
    refine a_iast dX12_line_132 ⟨by decide, rfl⟩ (by omega) ?_
    refine a_mem (mLost_s I0 n i) ?_
    refine a_iinc (L' := [_, _, _, _, _]) dX12_line_133 rfl (nI_inc _) rfl ?_
    refine a_goto (tgt := 109) dX12_line_136 (by decide) ?_
    exact ih (i + 1) (by omega) (by omega)

set_option maxHeartbeats 4000000 in
set_option maxRecDepth 100000 in
theorem c_line {G : am_G} {d : Nat} {I : am_I} {J : am_J} {K : Int32 → am_I → am_J → Prop} {x y z : Int32} {N n : Nat} (hN : I 63 3 = nI N) (hb : N ≤ 6) (hn : I 63 4 = nI n) (hn12 : n ≤ 12) (h1 : ∀ k p q, k ≤ 3 → p < N → q < N → p ≠ q → x = nI k → y = nI p → z = nI q → n < 12 → K (nI n) (am_up (mLost (mLine I n x y z) n 24) 63 4 (nI (n + 1))) J) (h2 : ∀ k, k ≤ 3 → x = nI k → isPr N y z → n = 12 → K (-2) I J) (h0 : ¬ ((nI 0 ≤ x ∧ x ≤ nI 3) ∧ isPr N y z) → K (-1) I J) : CMi G (d + 2) yX12_line [.ref 63, .int x, .int y, .int z] I J K := by
  refine CM.of (L0 := [_, _, _, _, _]) cX12_line 5 (some .int) (by decide) (by decide) kcX12_line (Nat.le_of_ble_eq_true rfl) rfl ?_
  refine a_iload_n dX12_line_0 rfl ?_
  refine a_iconst (v := nI 0) dX12_line_1 (by decide) ?_
  refine a_iconst (v := nI 3) dX12_line_2 (by decide) ?_
  refine a_callSi (As := [_, _, _]) dX12_line_3 km_X12_122 rfl rfl (Nat.le_of_ble_eq_true rfl) ?_
  refine c_in (fun e1 e2 => ?_) (fun e1 => ?_)
  · obtain ⟨k, hk, ek⟩ := (rg_iff1 (n := 3) (by decide)).mp ⟨e1, e2⟩
    refine a_if_eq (tgt := 30) dX12_line_6 (by decide) (fun h6 => ?_) (fun h6 => ?_)
    · exact absurd h6 (by decide)
    · refine a_aload_n dX12_line_9 rfl ?_
      refine a_iload_n dX12_line_10 rfl ?_
      refine a_callVi (As := [_]) dX12_line_11 km_X12_126 ⟨by decide, _, _, _, rfl, rfl⟩ rfl rfl (Nat.le_of_ble_eq_true rfl) ?_
      refine c_isKnot hN (by omega) (fun p hp e3 => ?_) (fun e3 => ?_)
      · refine a_if_eq (tgt := 30) dX12_line_14 (by decide) (fun h14 => ?_) (fun h14 => ?_)
        · exact absurd h14 (by decide)
        · refine a_aload_n dX12_line_17 rfl ?_
          refine a_iload_n dX12_line_18 rfl ?_
          refine a_callVi (As := [_]) dX12_line_19 km_X12_126 ⟨by decide, _, _, _, rfl, rfl⟩ rfl rfl (Nat.le_of_ble_eq_true rfl) ?_
          refine c_isKnot hN (by omega) (fun q hq e4 => ?_) (fun e4 => ?_)
          · refine a_if_eq (tgt := 30) dX12_line_22 (by decide) (fun h22 => ?_) (fun h22 => ?_)
            · exact absurd h22 (by decide)
            · refine a_iload_n dX12_line_25 rfl ?_
              refine a_iload_n dX12_line_26 rfl ?_
              refine a_icmp_ne (tgt := 32) dX12_line_27 (by decide) (fun h27 => ?_) (fun h27 => ?_)
              · have hpq : p ≠ q := fun e => h27 (by rw [e3, e4, e])
                refine a_aload_n dX12_line_32 rfl ?_
                refine a_geti dX12_line_33 kf_X12_115 ⟨by decide, _, rfl, rfl⟩ hn ?_
                refine a_bipush (v := nI 12) dX12_line_36 (by decide) ?_
                refine a_icmp_neN (tgt := 44) dX12_line_38 (by decide) (by omega) (by omega) (fun h38 => ?_) (fun h38 => ?_)
                · have hn12 : n < 12 := by omega
                  refine a_aload_n dX12_line_44 rfl ?_
                  refine a_getr dX12_line_45 kf_X12_17 ⟨by decide, _, rfl, rfl⟩ ?_
                  refine a_aload_n dX12_line_48 rfl ?_
                  refine a_geti dX12_line_49 kf_X12_115 ⟨by decide, _, rfl, rfl⟩ hn ?_
                  refine a_iload_n dX12_line_52 rfl ?_
                  refine a_iast dX12_line_53 ⟨by decide, rfl⟩ (by omega) ?_
                  refine a_aload_n dX12_line_54 rfl ?_
                  refine a_getr dX12_line_55 kf_X12_20 ⟨by decide, _, rfl, rfl⟩ ?_
                  refine a_aload_n dX12_line_58 rfl ?_
                  refine a_geti dX12_line_59 kf_X12_115 ⟨by decide, _, rfl, rfl⟩ hn ?_
                  refine a_iload_n dX12_line_62 rfl ?_
                  refine a_iast dX12_line_63 ⟨by decide, rfl⟩ (by omega) ?_
                  refine a_aload_n dX12_line_64 rfl ?_
                  refine a_getr dX12_line_65 kf_X12_23 ⟨by decide, _, rfl, rfl⟩ ?_
                  refine a_aload_n dX12_line_68 rfl ?_
                  refine a_geti dX12_line_69 kf_X12_115 ⟨by decide, _, rfl, rfl⟩ hn ?_
                  refine a_iload_n dX12_line_72 rfl ?_
                  refine a_iast dX12_line_73 ⟨by decide, rfl⟩ (by omega) ?_
                  refine a_aload_n dX12_line_74 rfl ?_
                  refine a_getr dX12_line_75 kf_X12_26 ⟨by decide, _, rfl, rfl⟩ ?_
                  refine a_aload_n dX12_line_78 rfl ?_
                  refine a_geti dX12_line_79 kf_X12_115 ⟨by decide, _, rfl, rfl⟩ hn ?_
                  refine a_iconst (v := nI 0) dX12_line_82 (by decide) ?_
                  refine a_zast dX12_line_83 ⟨by decide, rfl⟩ (by omega) (by first | exact Or.inl rfl | exact Or.inr rfl) ?_
                  refine a_aload_n dX12_line_84 rfl ?_
                  refine a_getr dX12_line_85 kf_X12_30 ⟨by decide, _, rfl, rfl⟩ ?_
                  refine a_aload_n dX12_line_88 rfl ?_
                  refine a_geti dX12_line_89 kf_X12_115 ⟨by decide, _, rfl, rfl⟩ hn ?_
                  refine a_bipush (v := nI 100) dX12_line_92 (by decide) ?_
                  refine a_iast dX12_line_94 ⟨by decide, rfl⟩ (by omega) ?_
                  refine a_aload_n dX12_line_95 rfl ?_
                  refine a_getr dX12_line_96 kf_X12_33 ⟨by decide, _, rfl, rfl⟩ ?_
                  refine a_aload_n dX12_line_99 rfl ?_
                  refine a_geti dX12_line_100 kf_X12_115 ⟨by decide, _, rfl, rfl⟩ hn ?_
                  refine a_bipush (v := (-9)) dX12_line_103 (by decide) ?_
                  refine a_iast dX12_line_105 ⟨by decide, rfl⟩ (by omega) ?_
                  refine a_iconst (v := nI 0) dX12_line_106 (by decide) ?_
                  refine a_istore (L' := [_, _, _, _, _]) dX12_line_107 (Nat.le_of_ble_eq_true rfl) rfl ?_
                  refine a_mem (I' := mLost (mLine I n x y z) n 0) (by funext a b; simp only [mLost, mLine]; rw [if_neg (fun h => by omega)]; rfl) ?_
                  exact lp_line (I0 := mLine I n x y z) hn hn12 (h1 k p q hk hp hq hpq ek e3 e4 hn12) 0 (by omega)
                · refine a_bipush (v := (-2)) dX12_line_41 (by decide) ?_
                  exact a_ireturn dX12_line_43 ⟨_, rfl, (h2 k hk ek ⟨p, q, hp, hq, hpq, e3, e4⟩ h38)⟩
              · refine a_iconst (v := (-1)) dX12_line_30 (by decide) ?_
                exact a_ireturn dX12_line_31 ⟨_, rfl, (h0 (fun ⟨_, p1, q1, a1, a2, a3, a4, a5⟩ => a3 (nI_inj (by omega) (by omega) (by rw [← a4, ← a5]; exact h27))))⟩
          · refine a_if_eq (tgt := 30) dX12_line_22 (by decide) (fun h22 => ?_) (fun h22 => ?_)
            · refine a_iconst (v := (-1)) dX12_line_30 (by decide) ?_
              exact a_ireturn dX12_line_31 ⟨_, rfl, (h0 (fun ⟨_, p, q, a1, a2, a3, a4, a5⟩ => e4 ⟨q, a2, a5⟩))⟩
            · exact absurd h22 (by decide)
      · refine a_if_eq (tgt := 30) dX12_line_14 (by decide) (fun h14 => ?_) (fun h14 => ?_)
        · refine a_iconst (v := (-1)) dX12_line_30 (by decide) ?_
          exact a_ireturn dX12_line_31 ⟨_, rfl, (h0 (fun ⟨_, p, q, a1, a2, a3, a4, a5⟩ => e3 ⟨p, a1, a4⟩))⟩
        · exact absurd h14 (by decide)
  · refine a_if_eq (tgt := 30) dX12_line_6 (by decide) (fun h6 => ?_) (fun h6 => ?_)
    · refine a_iconst (v := (-1)) dX12_line_30 (by decide) ?_
      exact a_ireturn dX12_line_31 ⟨_, rfl, (h0 (fun q => e1 q.1))⟩
    · exact absurd h6 (by decide)

set_option maxHeartbeats 4000000 in
set_option maxRecDepth 100000 in
theorem c_counts {G : am_G} {d : Nat} {I : am_I} {J : am_J} {K : Int32 → am_I → am_J → Prop} {l : Nat} (hl : l < 12) (h1 : (I 65 l = nI 1 ∨ I 65 l = nI 2) → K 1 I J) (h0 : ¬ (I 65 l = nI 1 ∨ I 65 l = nI 2) → K 0 I J) : CMi G d yX12_counts [.ref 63, .int (nI l)] I J K := by
  refine CM.of (L0 := [_, _]) cX12_counts 2 (some .boolean) (by decide) (by decide) kcX12_counts (Nat.le_of_ble_eq_true rfl) rfl ?_
  refine a_aload_n dX12_counts_0 rfl ?_
  refine a_getr dX12_counts_1 kf_X12_17 ⟨by decide, _, rfl, rfl⟩ ?_
  refine a_iload_n dX12_counts_4 rfl ?_
  refine a_iald dX12_counts_5 ⟨by decide, rfl⟩ (by omega) rfl ?_
  refine a_iconst (v := nI 1) dX12_counts_6 (by decide) ?_
  refine a_icmp_eq (tgt := 20) dX12_counts_7 (by decide) (fun h7 => ?_) (fun h7 => ?_)
  · refine a_iconst (v := nI 1) dX12_counts_20 (by decide) ?_
    refine a_goto (tgt := 25) dX12_counts_21 (by decide) ?_
    exact a_zreturn dX12_counts_25 (by first | exact Or.inl rfl | exact Or.inr rfl) ⟨_, rfl, (h1 (Or.inl h7))⟩
  · refine a_aload_n dX12_counts_10 rfl ?_
    refine a_getr dX12_counts_11 kf_X12_17 ⟨by decide, _, rfl, rfl⟩ ?_
    refine a_iload_n dX12_counts_14 rfl ?_
    refine a_iald dX12_counts_15 ⟨by decide, rfl⟩ (by omega) rfl ?_
    refine a_iconst (v := nI 2) dX12_counts_16 (by decide) ?_
    refine a_icmp_ne (tgt := 24) dX12_counts_17 (by decide) (fun h17 => ?_) (fun h17 => ?_)
    · refine a_iconst (v := nI 0) dX12_counts_24 (by decide) ?_
      exact a_zreturn dX12_counts_25 (by first | exact Or.inl rfl | exact Or.inr rfl) ⟨_, rfl, (h0 (fun q => q.elim h7 h17))⟩
    · refine a_iconst (v := nI 1) dX12_counts_20 (by decide) ?_
      refine a_goto (tgt := 25) dX12_counts_21 (by decide) ?_
      exact a_zreturn dX12_counts_25 (by first | exact Or.inl rfl | exact Or.inr rfl) ⟨_, rfl, (h1 (Or.inr h17))⟩

set_option maxHeartbeats 4000000 in
set_option maxRecDepth 100000 in
theorem c_counterOf {G : am_G} {d : Nat} {I : am_I} {J : am_J} {K : Int32 → am_I → am_J → Prop} {l : Nat} (hl : l < 12) (hK : K (if I 65 l = nI 1 then nI 256 else nI 65536) I J) : CMi G d yX12_counterOf [.ref 63, .int (nI l)] I J K := by
  refine CM.of (L0 := [_, _]) cX12_counterOf 2 (some .int) (by decide) (by decide) kcX12_counterOf (Nat.le_of_ble_eq_true rfl) rfl ?_
  refine a_aload_n dX12_counterOf_0 rfl ?_
  refine a_getr dX12_counterOf_1 kf_X12_17 ⟨by decide, _, rfl, rfl⟩ ?_
  refine a_iload_n dX12_counterOf_4 rfl ?_
  refine a_iald dX12_counterOf_5 ⟨by decide, rfl⟩ (by omega) rfl ?_
  refine a_iconst (v := nI 1) dX12_counterOf_6 (by decide) ?_
  refine a_ticmp_ne (tgt := 16) (pj := 18) (a := (nI 65536)) (b := (nI 256)) dX12_counterOf_7 (by decide) (fun kj => ?_) (fun kj => ?_) ?_
  · refine a_ldc dX12_counterOf_16 kk_X12_137 (show (65536 : Int32) = nI 65536 by decide) ?_
    exact kj
  · refine a_sipush (v := nI 256) dX12_counterOf_10 (by decide) ?_
    refine a_goto (tgt := 18) dX12_counterOf_13 (by decide) ?_
    exact kj
  exact a_ireturn dX12_counterOf_18 ⟨_, rfl, hK⟩

def rdL (I : am_I) (l : Nat) : Nat → Bool := fun h => decide (I 71 (24 * l + h) ≠ -9)
set_option maxHeartbeats 4000000 in
set_option maxRecDepth 100000 in
theorem lp_had {G : am_G} {d : Nat} {I0 : am_I} {J : am_J} {K : Int32 → am_I → am_J → Prop} {l : Nat} (hl : l < 12) (hK : K (nI (cN (rdL I0 l) 24)) I0 J) : ∀ i, i ≤ 24 → AW G cX12_had 4 RX12 d (am_ex G (some .int) (fun r I J => ∃ x, r = some (.int x) ∧ K x I J)) 4 [some (.ref 63), some (.int (nI l)), some (.int (nI (cN (rdL I0 l) i))), some (.int (nI i))] [] I0 J := by
  refine am_dn (24) (fun i hi ih => ?_)
  refine a_iload_n dX12_had_4 rfl ?_
  refine a_bipush (v := nI 24) dX12_had_5 (by decide) ?_
  refine a_icmp_geN (tgt := 40) dX12_had_7 (by decide) (by omega) (by omega) (fun h => ?_) (fun h => ?_)
  · obtain rfl : i = 24 := by omega
    refine a_iload_n dX12_had_40 rfl ?_
    exact a_ireturn dX12_had_41 ⟨_, rfl, hK⟩
  · refine a_iload_n dX12_had_10 rfl ?_
    refine a_aload_n dX12_had_11 rfl ?_
    refine a_getr dX12_had_12 kf_X12_36 ⟨by decide, _, rfl, rfl⟩ ?_
    refine a_bipush (v := nI 24) dX12_had_15 (by decide) ?_
    refine a_iload_n dX12_had_17 rfl ?_
    refine a_imul dX12_had_18 (by first | exact pk_mul _ _ | rfl) ?_
    refine a_iload_n dX12_had_19 rfl ?_
    refine a_iadd dX12_had_20 (by first | exact nI_add _ _ | rfl) ?_
    refine a_iald dX12_had_21 ⟨by decide, rfl⟩ (by omega) rfl ?_
    refine a_bipush (v := (-9)) dX12_had_22 (by decide) ?_
    refine a_ticmp_eq (tgt := 31) (pj := 32) (a := (nI 0)) (b := (nI 1)) dX12_had_24 (by decide) (fun kj => ?_) (fun kj => ?_) ?_
    · refine a_iconst (v := nI 0) dX12_had_31 (by decide) ?_
      exact kj
    · refine a_iconst (v := nI 1) dX12_had_27 (by decide) ?_
      refine a_goto (tgt := 32) dX12_had_28 (by decide) ?_
      exact kj
    refine a_iadd dX12_had_32 (show _ = nI (cN (rdL I0 l) (i + 1)) by rw [cN_s]; unfold rdL; by_cases e : I0 71 (24 * l + i) = -9 <;> simp [e, nI_add, nI_0]) ?_
    refine a_istore_n (L' := [_, _, _, _]) dX12_had_33 (Nat.le_of_ble_eq_true rfl) rfl ?_
    refine a_iinc (L' := [_, _, _, _]) dX12_had_34 rfl (nI_inc _) rfl ?_
    refine a_goto (tgt := 4) dX12_had_37 (by decide) ?_
    exact ih (i + 1) (by omega) (by omega)

set_option maxHeartbeats 4000000 in
set_option maxRecDepth 100000 in
theorem c_had {G : am_G} {d : Nat} {I : am_I} {J : am_J} {K : Int32 → am_I → am_J → Prop} {l : Nat} (hl : l < 12) (hK : K (nI (cN (rdL I l) 24)) I J) : CMi G d yX12_had [.ref 63, .int (nI l)] I J K := by
  refine CM.of (L0 := [_, _, _, _]) cX12_had 4 (some .int) (by decide) (by decide) kcX12_had (Nat.le_of_ble_eq_true rfl) rfl ?_
  refine a_iconst (v := nI 0) dX12_had_0 (by decide) ?_
  refine a_istore_n (L' := [_, _, _, _]) dX12_had_1 (Nat.le_of_ble_eq_true rfl) rfl ?_
  refine a_iconst (v := nI 0) dX12_had_2 (by decide) ?_
  refine a_istore_n (L' := [_, _, _, _]) dX12_had_3 (Nat.le_of_ble_eq_true rfl) rfl ?_
  exact lp_had hl hK 0 (by omega)

set_option maxHeartbeats 4000000 in
set_option maxRecDepth 100000 in
theorem c_down {G : am_G} {d : Nat} {I : am_I} {J : am_J} {K : Int32 → am_I → am_J → Prop} {x y : Int32} {n : Nat} (hn : I 63 4 = nI n) (hn12 : n ≤ 12) (hy : y = 0 ∨ y = 1) (hd : ∀ l, l < n → I 68 l = 0 ∨ I 68 l = 1) (h1 : ∀ l, l < n → x = nI l → K (I 68 l) (am_up I 68 l y) J) (h0 : ¬ isLn n x → K (-1) I J) : CMi G (d + 2) yX12_down [.ref 63, .int x, .int y] I J K := by
  refine CM.of (L0 := [_, _, _, _]) cX12_down 4 (some .int) (by decide) (by decide) kcX12_down (Nat.le_of_ble_eq_true rfl) rfl ?_
  refine a_aload_n dX12_down_0 rfl ?_
  refine a_iload_n dX12_down_1 rfl ?_
  refine a_callVi (As := [_]) dX12_down_2 km_X12_130 ⟨by decide, _, _, _, rfl, rfl⟩ rfl rfl (Nat.le_of_ble_eq_true rfl) ?_
  refine c_isLine hn (by omega) (fun l hl e1 => ?_) (fun e1 => ?_)
  · subst e1
    have hd := hd l hl
    refine a_if_ne (tgt := 10) dX12_down_5 (by decide) (fun h5 => ?_) (fun h5 => ?_)
    · refine a_aload_n dX12_down_10 rfl ?_
      refine a_getr dX12_down_11 kf_X12_26 ⟨by decide, _, rfl, rfl⟩ ?_
      refine a_iload_n dX12_down_14 rfl ?_
      refine a_zald dX12_down_15 ⟨by decide, rfl⟩ (by omega) rfl ?_
      refine a_tif_eq (tgt := 23) (pj := 24) (a := (nI 0)) (b := (nI 1)) dX12_down_16 (by decide) (fun kj => ?_) (fun kj => ?_) ?_
      · refine a_iconst (v := nI 0) dX12_down_23 (by decide) ?_
        exact kj
      · refine a_iconst (v := nI 1) dX12_down_19 (by decide) ?_
        refine a_goto (tgt := 24) dX12_down_20 (by decide) ?_
        exact kj
      refine a_topi (v := I 68 l) (by rcases hd with e | e <;> rw [e] <;> decide) ?_
      refine a_istore_n (L' := [_, _, _, _]) dX12_down_24 (Nat.le_of_ble_eq_true rfl) rfl ?_
      refine a_aload_n dX12_down_25 rfl ?_
      refine a_getr dX12_down_26 kf_X12_26 ⟨by decide, _, rfl, rfl⟩ ?_
      refine a_iload_n dX12_down_29 rfl ?_
      refine a_iload_n dX12_down_30 rfl ?_
      refine a_zast dX12_down_31 ⟨by decide, rfl⟩ (by omega) hy ?_
      refine a_iload_n dX12_down_32 rfl ?_
      exact a_ireturn dX12_down_33 ⟨_, rfl, (h1 l hl rfl)⟩
    · exact absurd h5 (by decide)
  · refine a_if_ne (tgt := 10) dX12_down_5 (by decide) (fun h5 => ?_) (fun h5 => ?_)
    · exact absurd h5 (by decide)
    · refine a_iconst (v := (-1)) dX12_down_8 (by decide) ?_
      exact a_ireturn dX12_down_9 ⟨_, rfl, (h0 e1)⟩

set_option maxHeartbeats 4000000 in
set_option maxRecDepth 100000 in
theorem c_rate {G : am_G} {d : Nat} {I : am_I} {J : am_J} {K : Int32 → am_I → am_J → Prop} {x y : Int32} {n : Nat} (hn : I 63 4 = nI n) (hn12 : n ≤ 12) (h1 : ∀ l r, l < n → x = nI l → r ≤ 60000 → y = nI r → K (I 69 l) (am_up I 69 l y) J) (h0 : ¬ (isLn n x ∧ nI 0 ≤ y ∧ y ≤ nI 60000) → K (-1) I J) : CMi G (d + 2) yX12_rate [.ref 63, .int x, .int y] I J K := by
  refine CM.of (L0 := [_, _, _, _]) cX12_rate 4 (some .int) (by decide) (by decide) kcX12_rate (Nat.le_of_ble_eq_true rfl) rfl ?_
  refine a_aload_n dX12_rate_0 rfl ?_
  refine a_iload_n dX12_rate_1 rfl ?_
  refine a_callVi (As := [_]) dX12_rate_2 km_X12_130 ⟨by decide, _, _, _, rfl, rfl⟩ rfl rfl (Nat.le_of_ble_eq_true rfl) ?_
  refine c_isLine hn (by omega) (fun l hl e1 => ?_) (fun e1 => ?_)
  · subst e1
    refine a_if_eq (tgt := 18) dX12_rate_5 (by decide) (fun h5 => ?_) (fun h5 => ?_)
    · exact absurd h5 (by decide)
    · refine a_iload_n dX12_rate_8 rfl ?_
      refine a_iconst (v := nI 0) dX12_rate_9 (by decide) ?_
      refine a_ldc dX12_rate_10 kk_X12_152 (show (60000 : Int32) = nI 60000 by decide) ?_
      refine a_callSi (As := [_, _, _]) dX12_rate_12 km_X12_122 rfl rfl (Nat.le_of_ble_eq_true rfl) ?_
      refine c_in (fun e1 e2 => ?_) (fun e1 => ?_)
      · obtain ⟨r, hr, er⟩ := (rg_iff1 (n := 60000) (by decide)).mp ⟨e1, e2⟩
        refine a_if_ne (tgt := 20) dX12_rate_15 (by decide) (fun h15 => ?_) (fun h15 => ?_)
        · refine a_aload_n dX12_rate_20 rfl ?_
          refine a_getr dX12_rate_21 kf_X12_30 ⟨by decide, _, rfl, rfl⟩ ?_
          refine a_iload_n dX12_rate_24 rfl ?_
          refine a_iald dX12_rate_25 ⟨by decide, rfl⟩ (by omega) rfl ?_
          refine a_istore_n (L' := [_, _, _, _]) dX12_rate_26 (Nat.le_of_ble_eq_true rfl) rfl ?_
          refine a_aload_n dX12_rate_27 rfl ?_
          refine a_getr dX12_rate_28 kf_X12_30 ⟨by decide, _, rfl, rfl⟩ ?_
          refine a_iload_n dX12_rate_31 rfl ?_
          refine a_iload_n dX12_rate_32 rfl ?_
          refine a_iast dX12_rate_33 ⟨by decide, rfl⟩ (by omega) ?_
          refine a_iload_n dX12_rate_34 rfl ?_
          exact a_ireturn dX12_rate_35 ⟨_, rfl, (h1 l r hl rfl hr er)⟩
        · exact absurd h15 (by decide)
      · refine a_if_ne (tgt := 20) dX12_rate_15 (by decide) (fun h15 => ?_) (fun h15 => ?_)
        · exact absurd h15 (by decide)
        · refine a_iconst (v := (-1)) dX12_rate_18 (by decide) ?_
          exact a_ireturn dX12_rate_19 ⟨_, rfl, (h0 (fun q => e1 q.2))⟩
  · refine a_if_eq (tgt := 18) dX12_rate_5 (by decide) (fun h5 => ?_) (fun h5 => ?_)
    · refine a_iconst (v := (-1)) dX12_rate_18 (by decide) ?_
      exact a_ireturn dX12_rate_19 ⟨_, rfl, (h0 (fun q => e1 q.1))⟩
    · exact absurd h5 (by decide)
end
section
/-! ===== the reference: tells, READINGS, CARRIED ===== -/
/-- what tells(l, j) answers -/
def tlR (I : am_I) (l j : Nat) : Int32 := if j = 0 then I 65 l else if j = 1 then I 66 l else if j = 2 then I 67 l else if j = 3 then I 68 l else if j = 4 then I 70 l else I 69 l
set_option maxHeartbeats 4000000 in
set_option maxRecDepth 100000 in
theorem c_tells {G : am_G} {d : Nat} {I : am_I} {J : am_J} {K : Int32 → am_I → am_J → Prop} {l j : Nat} (hl : l < 12) (hj : j ≤ 5) (hd : I 68 l = 0 ∨ I 68 l = 1) (hK : K (tlR I l j) I J) : CMi G d yX12_tells [.ref 63, .int (nI l), .int (nI j)] I J K := by
  refine CM.of (L0 := [_, _, _]) cX12_tells 3 (some .int) (by decide) (by decide) kcX12_tells (Nat.le_of_ble_eq_true rfl) rfl ?_
  refine a_iload_n dX12_tells_0 rfl ?_
  match j, hj, hK with
  | 0, _, hK =>
    refine a_tabIn (off := 35) (tgt := 36) dX12_tells_1 (by decide) (by decide) (by decide) (by decide) ?_
    refine a_aload_n dX12_tells_36 rfl ?_
    refine a_getr dX12_tells_37 kf_X12_17 ⟨by decide, _, rfl, rfl⟩ ?_
    refine a_iload_n dX12_tells_40 rfl ?_
    refine a_iald dX12_tells_41 ⟨by decide, rfl⟩ (by omega) rfl ?_
    exact a_ireturn dX12_tells_42 ⟨_, rfl, hK⟩
  | 1, _, hK =>
    refine a_tabIn (off := 42) (tgt := 43) dX12_tells_1 (by decide) (by decide) (by decide) (by decide) ?_
    refine a_aload_n dX12_tells_43 rfl ?_
    refine a_getr dX12_tells_44 kf_X12_20 ⟨by decide, _, rfl, rfl⟩ ?_
    refine a_iload_n dX12_tells_47 rfl ?_
    refine a_iald dX12_tells_48 ⟨by decide, rfl⟩ (by omega) rfl ?_
    exact a_ireturn dX12_tells_49 ⟨_, rfl, hK⟩
  | 2, _, hK =>
    refine a_tabIn (off := 49) (tgt := 50) dX12_tells_1 (by decide) (by decide) (by decide) (by decide) ?_
    refine a_aload_n dX12_tells_50 rfl ?_
    refine a_getr dX12_tells_51 kf_X12_23 ⟨by decide, _, rfl, rfl⟩ ?_
    refine a_iload_n dX12_tells_54 rfl ?_
    refine a_iald dX12_tells_55 ⟨by decide, rfl⟩ (by omega) rfl ?_
    exact a_ireturn dX12_tells_56 ⟨_, rfl, hK⟩
  | 3, _, hK =>
    refine a_tabIn (off := 56) (tgt := 57) dX12_tells_1 (by decide) (by decide) (by decide) (by decide) ?_
    refine a_aload_n dX12_tells_57 rfl ?_
    refine a_getr dX12_tells_58 kf_X12_26 ⟨by decide, _, rfl, rfl⟩ ?_
    refine a_iload_n dX12_tells_61 rfl ?_
    refine a_zald dX12_tells_62 ⟨by decide, rfl⟩ (by omega) rfl ?_
    refine a_tif_eq (tgt := 70) (pj := 71) (a := (nI 0)) (b := (nI 1)) dX12_tells_63 (by decide) (fun kj => ?_) (fun kj => ?_) ?_
    · refine a_iconst (v := nI 0) dX12_tells_70 (by decide) ?_
      exact kj
    · refine a_iconst (v := nI 1) dX12_tells_66 (by decide) ?_
      refine a_goto (tgt := 71) dX12_tells_67 (by decide) ?_
      exact kj
    refine a_topi (v := I 68 l) (by rcases hd with e | e <;> rw [e] <;> decide) ?_
    exact a_ireturn dX12_tells_71 ⟨_, rfl, hK⟩
  | 4, _, hK =>
    refine a_tabIn (off := 71) (tgt := 72) dX12_tells_1 (by decide) (by decide) (by decide) (by decide) ?_
    refine a_aload_n dX12_tells_72 rfl ?_
    refine a_getr dX12_tells_73 kf_X12_33 ⟨by decide, _, rfl, rfl⟩ ?_
    refine a_iload_n dX12_tells_76 rfl ?_
    refine a_iald dX12_tells_77 ⟨by decide, rfl⟩ (by omega) rfl ?_
    exact a_ireturn dX12_tells_78 ⟨_, rfl, hK⟩
  | 5, _, hK =>
    refine a_tabOut (tgt := 79) dX12_tells_1 (by decide) (by decide) ?_
    refine a_aload_n dX12_tells_79 rfl ?_
    refine a_getr dX12_tells_80 kf_X12_30 ⟨by decide, _, rfl, rfl⟩ ?_
    refine a_iload_n dX12_tells_83 rfl ?_
    refine a_iald dX12_tells_84 ⟨by decide, rfl⟩ (by omega) rfl ?_
    exact a_ireturn dX12_tells_85 ⟨_, rfl, hK⟩
  | j + 6, h, _ => exact absurd h (by omega)

set_option maxHeartbeats 4000000 in
set_option maxRecDepth 100000 in
theorem c_told {G : am_G} {d : Nat} {I : am_I} {J : am_J} {K : Int32 → am_I → am_J → Prop} {x y : Int32} {n : Nat} (hn : I 63 4 = nI n) (hn12 : n ≤ 12) (hd : ∀ l, l < n → I 68 l = 0 ∨ I 68 l = 1) (h1 : ∀ l j, l < n → x = nI l → j ≤ 5 → y = nI j → K (tlR I l j) I J) (h0 : ¬ (isLn n x ∧ nI 0 ≤ y ∧ y ≤ nI 5) → K (-1) I J) : CMi G (d + 2) yX12_told [.ref 63, .int x, .int y] I J K := by
  refine CM.of (L0 := [_, _, _]) cX12_told 3 (some .int) (by decide) (by decide) kcX12_told (Nat.le_of_ble_eq_true rfl) rfl ?_
  refine a_aload_n dX12_told_0 rfl ?_
  refine a_iload_n dX12_told_1 rfl ?_
  refine a_callVi (As := [_]) dX12_told_2 km_X12_130 ⟨by decide, _, _, _, rfl, rfl⟩ rfl rfl (Nat.le_of_ble_eq_true rfl) ?_
  refine c_isLine hn (by omega) (fun l hl e1 => ?_) (fun e1 => ?_)
  · subst e1
    have hl12 : l < 12 := by omega
    refine a_if_eq (tgt := 26) dX12_told_5 (by decide) (fun h5 => ?_) (fun h5 => ?_)
    · exact absurd h5 (by decide)
    · refine a_iload_n dX12_told_8 rfl ?_
      refine a_iconst (v := nI 0) dX12_told_9 (by decide) ?_
      refine a_iconst (v := nI 5) dX12_told_10 (by decide) ?_
      refine a_callSi (As := [_, _, _]) dX12_told_11 km_X12_122 rfl rfl (Nat.le_of_ble_eq_true rfl) ?_
      refine c_in (fun e1 e2 => ?_) (fun e1 => ?_)
      · obtain ⟨j, hj, ej⟩ := (rg_iff1 (n := 5) (by decide)).mp ⟨e1, e2⟩
        subst ej
        refine a_if_eq (tgt := 26) dX12_told_14 (by decide) (fun h14 => ?_) (fun h14 => ?_)
        · exact absurd h14 (by decide)
        · refine a_aload_n dX12_told_17 rfl ?_
          refine a_iload_n dX12_told_18 rfl ?_
          refine a_iload_n dX12_told_19 rfl ?_
          refine a_callVi (As := [_, _]) dX12_told_20 km_X12_133 ⟨by decide, _, _, _, rfl, rfl⟩ rfl rfl (Nat.le_of_ble_eq_true rfl) ?_
          refine c_tells hl12 hj (hd l hl) ?_
          refine a_goto (tgt := 27) dX12_told_23 (by decide) ?_
          exact a_ireturn dX12_told_27 ⟨_, rfl, (h1 l j hl rfl hj rfl)⟩
      · refine a_if_eq (tgt := 26) dX12_told_14 (by decide) (fun h14 => ?_) (fun h14 => ?_)
        · refine a_iconst (v := (-1)) dX12_told_26 (by decide) ?_
          exact a_ireturn dX12_told_27 ⟨_, rfl, (h0 (fun q => e1 q.2))⟩
        · exact absurd h14 (by decide)
  · refine a_if_eq (tgt := 26) dX12_told_5 (by decide) (fun h5 => ?_) (fun h5 => ?_)
    · refine a_iconst (v := (-1)) dX12_told_26 (by decide) ?_
      exact a_ireturn dX12_told_27 ⟨_, rfl, (h0 (fun q => e1 q.1))⟩
    · exact absurd h5 (by decide)

def ctR (I : am_I) (l : Nat) : Int32 := if I 65 l = nI 1 then nI 256 else nI 65536
def kdC (I : am_I) (l : Nat) : Prop := I 65 l = nI 1 ∨ I 65 l = nI 2
def mMeet (I : am_I) (f : Nat) : am_I := am_up (am_up I 63 0 (nI f)) 64 f (I 64 f + 1)
theorem ctR_ne (I : am_I) (l : Nat) : ¬ ctR I l = 0 := by
  unfold ctR
  split <;> decide
set_option maxHeartbeats 4000000 in
set_option maxRecDepth 100000 in
theorem c_reading {G : am_G} {d : Nat} {I : am_I} {J : am_J} {K : Int32 → am_I → am_J → Prop} {x y z : Int32} {n : Nat} (hn : I 63 4 = nI n) (hn12 : n ≤ 12) (h1 : ∀ l h, l < n → x = nI l → (0 ≤ z ∨ z = -9) → kdC I l → h < 24 → y = nI h → K (I 71 (24 * l + h)) (am_up I 71 (24 * l + h) (if z = -9 then -9 else z - z / ctR I l * ctR I l)) J)
  (h3 : ∀ l, l < n → x = nI l → (0 ≤ z ∨ z = -9) → ¬ kdC I l → K (-3) (mMeet I 3) J) (h2 : ∀ l, l < n → x = nI l → (0 ≤ z ∨ z = -9) → kdC I l → ¬ (nI 0 ≤ y ∧ y ≤ nI 23) → K (-3) (mMeet I 2) J) (h0 : ¬ (isLn n x ∧ (0 ≤ z ∨ z = -9)) → K (-1) I J) : CMi G (d + 2) yX12_reading [.ref 63, .int x, .int y, .int z] I J K := by
  refine CM.of (L0 := [_, _, _, _, _]) cX12_reading 5 (some .int) (by decide) (by decide) kcX12_reading (Nat.le_of_ble_eq_true rfl) rfl ?_
  refine a_aload_n dX12_reading_0 rfl ?_
  refine a_iload_n dX12_reading_1 rfl ?_
  refine a_callVi (As := [_]) dX12_reading_2 km_X12_130 ⟨by decide, _, _, _, rfl, rfl⟩ rfl rfl (Nat.le_of_ble_eq_true rfl) ?_
  refine c_isLine hn (by omega) (fun l hl e1 => ?_) (fun e1 => ?_)
  · subst e1
    have hl12 : l < 12 := by omega
    refine a_if_eq (tgt := 18) dX12_reading_5 (by decide) (fun h5 => ?_) (fun h5 => ?_)
    · exact absurd h5 (by decide)
    · refine a_iload_n dX12_reading_8 rfl ?_
      refine a_if_ge (tgt := 20) dX12_reading_9 (by decide) (fun h9 => ?_) (fun h9 => ?_)
      · have hz : 0 ≤ z ∨ z = -9 := Or.inl h9
        refine a_aload_n dX12_reading_20 rfl ?_
        refine a_iload_n dX12_reading_21 rfl ?_
        refine a_callVi (As := [_]) dX12_reading_22 km_X12_153 ⟨by decide, _, _, _, rfl, rfl⟩ rfl rfl (Nat.le_of_ble_eq_true rfl) ?_
        refine c_counts hl12 (fun ec => ?_) (fun ec => ?_)
        · refine a_if_ne (tgt := 34) dX12_reading_25 (by decide) (fun h25 => ?_) (fun h25 => ?_)
          · refine a_iload_n dX12_reading_34 rfl ?_
            refine a_iconst (v := nI 0) dX12_reading_35 (by decide) ?_
            refine a_bipush (v := nI 23) dX12_reading_36 (by decide) ?_
            refine a_callSi (As := [_, _, _]) dX12_reading_38 km_X12_122 rfl rfl (Nat.le_of_ble_eq_true rfl) ?_
            refine c_in (fun e1 e2 => ?_) (fun e1 => ?_)
            · obtain ⟨h, hh, eh⟩ := (rg_iff1 (n := 23) (by decide)).mp ⟨e1, e2⟩
              subst eh
              refine a_if_ne (tgt := 50) dX12_reading_41 (by decide) (fun h41 => ?_) (fun h41 => ?_)
              · refine a_aload_n dX12_reading_50 rfl ?_
                refine a_getr dX12_reading_51 kf_X12_36 ⟨by decide, _, rfl, rfl⟩ ?_
                refine a_bipush (v := nI 24) dX12_reading_54 (by decide) ?_
                refine a_iload_n dX12_reading_56 rfl ?_
                refine a_imul dX12_reading_57 (by first | exact pk_mul _ _ | rfl) ?_
                refine a_iload_n dX12_reading_58 rfl ?_
                refine a_iadd dX12_reading_59 (by first | exact nI_add _ _ | rfl) ?_
                refine a_iald dX12_reading_60 ⟨by decide, rfl⟩ (by omega) rfl ?_
                refine a_istore (L' := [_, _, _, _, _]) dX12_reading_61 (Nat.le_of_ble_eq_true rfl) rfl ?_
                refine a_aload_n dX12_reading_63 rfl ?_
                refine a_getr dX12_reading_64 kf_X12_36 ⟨by decide, _, rfl, rfl⟩ ?_
                refine a_bipush (v := nI 24) dX12_reading_67 (by decide) ?_
                refine a_iload_n dX12_reading_69 rfl ?_
                refine a_imul dX12_reading_70 (by first | exact pk_mul _ _ | rfl) ?_
                refine a_iload_n dX12_reading_71 rfl ?_
                refine a_iadd dX12_reading_72 (by first | exact nI_add _ _ | rfl) ?_
                refine a_iload_n dX12_reading_73 rfl ?_
                refine a_bipush (v := (-9)) dX12_reading_74 (by decide) ?_
                refine a_ticmp_ne (tgt := 84) (pj := 91) (a := (z - z / ctR I l * ctR I l)) (b := (-9)) dX12_reading_76 (by decide) (fun kj => ?_) (fun kj => ?_) ?_
                · refine a_iload_n dX12_reading_84 rfl ?_
                  refine a_aload_n dX12_reading_85 rfl ?_
                  refine a_iload_n dX12_reading_86 rfl ?_
                  refine a_callVi (As := [_]) dX12_reading_87 km_X12_142 ⟨by decide, _, _, _, rfl, rfl⟩ rfl rfl (Nat.le_of_ble_eq_true rfl) ?_
                  refine c_counterOf hl12 ?_
                  refine a_irem dX12_reading_90 (ctR_ne I l) rfl ?_
                  exact kj
                · refine a_bipush (v := (-9)) dX12_reading_79 (by decide) ?_
                  refine a_goto (tgt := 91) dX12_reading_81 (by decide) ?_
                  exact kj
                refine a_iast dX12_reading_91 ⟨by decide, rfl⟩ (by omega) ?_
                refine a_iload dX12_reading_92 rfl ?_
                exact a_ireturn dX12_reading_94 ⟨_, rfl, (h1 l h hl rfl hz ec (by omega) rfl)⟩
              · exact absurd h41 (by decide)
            · refine a_if_ne (tgt := 50) dX12_reading_41 (by decide) (fun h41 => ?_) (fun h41 => ?_)
              · exact absurd h41 (by decide)
              · refine a_aload_n dX12_reading_44 rfl ?_
                refine a_iconst (v := nI 2) dX12_reading_45 (by decide) ?_
                refine a_callVi (As := [_]) dX12_reading_46 km_X12_138 ⟨by decide, _, _, _, rfl, rfl⟩ rfl rfl (Nat.le_of_ble_eq_true rfl) ?_
                refine c_meets (by decide) ?_
                exact a_ireturn dX12_reading_49 ⟨_, rfl, (h2 l hl rfl hz ec e1)⟩
          · exact absurd h25 (by decide)
        · refine a_if_ne (tgt := 34) dX12_reading_25 (by decide) (fun h25 => ?_) (fun h25 => ?_)
          · exact absurd h25 (by decide)
          · refine a_aload_n dX12_reading_28 rfl ?_
            refine a_iconst (v := nI 3) dX12_reading_29 (by decide) ?_
            refine a_callVi (As := [_]) dX12_reading_30 km_X12_138 ⟨by decide, _, _, _, rfl, rfl⟩ rfl rfl (Nat.le_of_ble_eq_true rfl) ?_
            refine c_meets (by decide) ?_
            exact a_ireturn dX12_reading_33 ⟨_, rfl, (h3 l hl rfl hz ec)⟩
      · refine a_iload_n dX12_reading_12 rfl ?_
        refine a_bipush (v := (-9)) dX12_reading_13 (by decide) ?_
        refine a_icmp_eq (tgt := 20) dX12_reading_15 (by decide) (fun h15 => ?_) (fun h15 => ?_)
        · have hz : 0 ≤ z ∨ z = -9 := Or.inr h15
          refine a_aload_n dX12_reading_20 rfl ?_
          refine a_iload_n dX12_reading_21 rfl ?_
          refine a_callVi (As := [_]) dX12_reading_22 km_X12_153 ⟨by decide, _, _, _, rfl, rfl⟩ rfl rfl (Nat.le_of_ble_eq_true rfl) ?_
          refine c_counts hl12 (fun ec => ?_) (fun ec => ?_)
          · refine a_if_ne (tgt := 34) dX12_reading_25 (by decide) (fun h25 => ?_) (fun h25 => ?_)
            · refine a_iload_n dX12_reading_34 rfl ?_
              refine a_iconst (v := nI 0) dX12_reading_35 (by decide) ?_
              refine a_bipush (v := nI 23) dX12_reading_36 (by decide) ?_
              refine a_callSi (As := [_, _, _]) dX12_reading_38 km_X12_122 rfl rfl (Nat.le_of_ble_eq_true rfl) ?_
              refine c_in (fun e1 e2 => ?_) (fun e1 => ?_)
              · obtain ⟨h, hh, eh⟩ := (rg_iff1 (n := 23) (by decide)).mp ⟨e1, e2⟩
                subst eh
                refine a_if_ne (tgt := 50) dX12_reading_41 (by decide) (fun h41 => ?_) (fun h41 => ?_)
                · refine a_aload_n dX12_reading_50 rfl ?_
                  refine a_getr dX12_reading_51 kf_X12_36 ⟨by decide, _, rfl, rfl⟩ ?_
                  refine a_bipush (v := nI 24) dX12_reading_54 (by decide) ?_
                  refine a_iload_n dX12_reading_56 rfl ?_
                  refine a_imul dX12_reading_57 (by first | exact pk_mul _ _ | rfl) ?_
                  refine a_iload_n dX12_reading_58 rfl ?_
                  refine a_iadd dX12_reading_59 (by first | exact nI_add _ _ | rfl) ?_
                  refine a_iald dX12_reading_60 ⟨by decide, rfl⟩ (by omega) rfl ?_
                  refine a_istore (L' := [_, _, _, _, _]) dX12_reading_61 (Nat.le_of_ble_eq_true rfl) rfl ?_
                  refine a_aload_n dX12_reading_63 rfl ?_
                  refine a_getr dX12_reading_64 kf_X12_36 ⟨by decide, _, rfl, rfl⟩ ?_
                  refine a_bipush (v := nI 24) dX12_reading_67 (by decide) ?_
                  refine a_iload_n dX12_reading_69 rfl ?_
                  refine a_imul dX12_reading_70 (by first | exact pk_mul _ _ | rfl) ?_
                  refine a_iload_n dX12_reading_71 rfl ?_
                  refine a_iadd dX12_reading_72 (by first | exact nI_add _ _ | rfl) ?_
                  refine a_iload_n dX12_reading_73 rfl ?_
                  refine a_bipush (v := (-9)) dX12_reading_74 (by decide) ?_
                  refine a_ticmp_ne (tgt := 84) (pj := 91) (a := (z - z / ctR I l * ctR I l)) (b := (-9)) dX12_reading_76 (by decide) (fun kj => ?_) (fun kj => ?_) ?_
                  · refine a_iload_n dX12_reading_84 rfl ?_
                    refine a_aload_n dX12_reading_85 rfl ?_
                    refine a_iload_n dX12_reading_86 rfl ?_
                    refine a_callVi (As := [_]) dX12_reading_87 km_X12_142 ⟨by decide, _, _, _, rfl, rfl⟩ rfl rfl (Nat.le_of_ble_eq_true rfl) ?_
                    refine c_counterOf hl12 ?_
                    refine a_irem dX12_reading_90 (ctR_ne I l) rfl ?_
                    exact kj
                  · refine a_bipush (v := (-9)) dX12_reading_79 (by decide) ?_
                    refine a_goto (tgt := 91) dX12_reading_81 (by decide) ?_
                    exact kj
                  refine a_iast dX12_reading_91 ⟨by decide, rfl⟩ (by omega) ?_
                  refine a_iload dX12_reading_92 rfl ?_
                  exact a_ireturn dX12_reading_94 ⟨_, rfl, (h1 l h hl rfl hz ec (by omega) rfl)⟩
                · exact absurd h41 (by decide)
              · refine a_if_ne (tgt := 50) dX12_reading_41 (by decide) (fun h41 => ?_) (fun h41 => ?_)
                · exact absurd h41 (by decide)
                · refine a_aload_n dX12_reading_44 rfl ?_
                  refine a_iconst (v := nI 2) dX12_reading_45 (by decide) ?_
                  refine a_callVi (As := [_]) dX12_reading_46 km_X12_138 ⟨by decide, _, _, _, rfl, rfl⟩ rfl rfl (Nat.le_of_ble_eq_true rfl) ?_
                  refine c_meets (by decide) ?_
                  exact a_ireturn dX12_reading_49 ⟨_, rfl, (h2 l hl rfl hz ec e1)⟩
            · exact absurd h25 (by decide)
          · refine a_if_ne (tgt := 34) dX12_reading_25 (by decide) (fun h25 => ?_) (fun h25 => ?_)
            · exact absurd h25 (by decide)
            · refine a_aload_n dX12_reading_28 rfl ?_
              refine a_iconst (v := nI 3) dX12_reading_29 (by decide) ?_
              refine a_callVi (As := [_]) dX12_reading_30 km_X12_138 ⟨by decide, _, _, _, rfl, rfl⟩ rfl rfl (Nat.le_of_ble_eq_true rfl) ?_
              refine c_meets (by decide) ?_
              exact a_ireturn dX12_reading_33 ⟨_, rfl, (h3 l hl rfl hz ec)⟩
        · refine a_iconst (v := (-1)) dX12_reading_18 (by decide) ?_
          exact a_ireturn dX12_reading_19 ⟨_, rfl, (h0 (fun q => q.2.elim h9 h15))⟩
  · refine a_if_eq (tgt := 18) dX12_reading_5 (by decide) (fun h5 => ?_) (fun h5 => ?_)
    · refine a_iconst (v := (-1)) dX12_reading_18 (by decide) ?_
      exact a_ireturn dX12_reading_19 ⟨_, rfl, (h0 (fun q => e1 q.1))⟩
    · exact absurd h5 (by decide)

def ldR (I : am_I) (l i j : Nat) : Int32 := if 0 ≤ I 71 (24 * l + j) - I 71 (24 * l + i) then I 71 (24 * l + j) - I 71 (24 * l + i) else I 71 (24 * l + j) - I 71 (24 * l + i) + ctR I l
set_option maxHeartbeats 4000000 in
set_option maxRecDepth 100000 in
theorem c_loadOf {G : am_G} {d : Nat} {I : am_I} {J : am_J} {K : Int32 → am_I → am_J → Prop} {l i j : Nat} (hl : l < 12) (hi : i < 24) (hj : j < 24) (hK : K (ldR I l i j) I J) : CMi G (d + 1) yX12_loadOf [.ref 63, .int (nI l), .int (nI i), .int (nI j)] I J K := by
  refine CM.of (L0 := [_, _, _, _, _]) cX12_loadOf 5 (some .int) (by decide) (by decide) kcX12_loadOf (Nat.le_of_ble_eq_true rfl) rfl ?_
  refine a_aload_n dX12_loadOf_0 rfl ?_
  refine a_getr dX12_loadOf_1 kf_X12_36 ⟨by decide, _, rfl, rfl⟩ ?_
  refine a_bipush (v := nI 24) dX12_loadOf_4 (by decide) ?_
  refine a_iload_n dX12_loadOf_6 rfl ?_
  refine a_imul dX12_loadOf_7 (by first | exact pk_mul _ _ | rfl) ?_
  refine a_iload_n dX12_loadOf_8 rfl ?_
  refine a_iadd dX12_loadOf_9 (by first | exact nI_add _ _ | rfl) ?_
  refine a_iald dX12_loadOf_10 ⟨by decide, rfl⟩ (by omega) rfl ?_
  refine a_aload_n dX12_loadOf_11 rfl ?_
  refine a_getr dX12_loadOf_12 kf_X12_36 ⟨by decide, _, rfl, rfl⟩ ?_
  refine a_bipush (v := nI 24) dX12_loadOf_15 (by decide) ?_
  refine a_iload_n dX12_loadOf_17 rfl ?_
  refine a_imul dX12_loadOf_18 (by first | exact pk_mul _ _ | rfl) ?_
  refine a_iload_n dX12_loadOf_19 rfl ?_
  refine a_iadd dX12_loadOf_20 (by first | exact nI_add _ _ | rfl) ?_
  refine a_iald dX12_loadOf_21 ⟨by decide, rfl⟩ (by omega) rfl ?_
  refine a_isub dX12_loadOf_22 rfl ?_
  refine a_istore (L' := [_, _, _, _, _]) dX12_loadOf_23 (Nat.le_of_ble_eq_true rfl) rfl ?_
  refine a_iload dX12_loadOf_25 rfl ?_
  refine a_tif_ge (tgt := 41) (pj := 43) (a := (I 71 (24 * l + j) - I 71 (24 * l + i))) (b := (I 71 (24 * l + j) - I 71 (24 * l + i) + ctR I l)) dX12_loadOf_27 (by decide) (fun kj => ?_) (fun kj => ?_) ?_
  · refine a_iload dX12_loadOf_41 rfl ?_
    exact kj
  · refine a_iload dX12_loadOf_30 rfl ?_
    refine a_aload_n dX12_loadOf_32 rfl ?_
    refine a_iload_n dX12_loadOf_33 rfl ?_
    refine a_callVi (As := [_]) dX12_loadOf_34 km_X12_142 ⟨by decide, _, _, _, rfl, rfl⟩ rfl rfl (Nat.le_of_ble_eq_true rfl) ?_
    refine c_counterOf hl ?_
    refine a_iadd dX12_loadOf_37 rfl ?_
    refine a_goto (tgt := 43) dX12_loadOf_38 (by decide) ?_
    exact kj
  exact a_ireturn dX12_loadOf_43 ⟨_, rfl, hK⟩

set_option maxHeartbeats 4000000 in
set_option maxRecDepth 100000 in
theorem c_load {G : am_G} {d : Nat} {I : am_I} {J : am_J} {K : Int32 → am_I → am_J → Prop} {x y z : Int32} {n : Nat} (hn : I 63 4 = nI n) (hn12 : n ≤ 12) (h1 : ∀ l i j, l < n → x = nI l → kdC I l → i < j → j < 24 → y = nI i → z = nI j → I 71 (24 * l + i) ≠ -9 → I 71 (24 * l + j) ≠ -9 → K (if ctR I l ≤ I 69 l * nI (j - i) then 0 else 1) I (am_upJ J 63 2 (ldR I l i j).toInt64))
  (h4 : ∀ l i j, l < n → x = nI l → kdC I l → i < j → j < 24 → y = nI i → z = nI j → (I 71 (24 * l + i) = -9 ∨ I 71 (24 * l + j) = -9) → K (-3) (mMeet I 1) J)
  (h3 : ∀ l, l < n → x = nI l → ¬ kdC I l → K (-3) (mMeet I 3) J) (h2 : ∀ l, l < n → x = nI l → kdC I l → ¬ ((nI 0 ≤ y ∧ y ≤ nI 23) ∧ (nI 0 ≤ z ∧ z ≤ nI 23) ∧ y < z) → K (-3) (mMeet I 2) J) (h0 : ¬ isLn n x → K (-1) I J) : CMi G (d + 2) yX12_load [.ref 63, .int x, .int y, .int z] I J K := by
  refine CM.of (L0 := [_, _, _, _]) cX12_load 4 (some .int) (by decide) (by decide) kcX12_load (Nat.le_of_ble_eq_true rfl) rfl ?_
  refine a_aload_n dX12_load_0 rfl ?_
  refine a_iload_n dX12_load_1 rfl ?_
  refine a_callVi (As := [_]) dX12_load_2 km_X12_130 ⟨by decide, _, _, _, rfl, rfl⟩ rfl rfl (Nat.le_of_ble_eq_true rfl) ?_
  refine c_isLine hn (by omega) (fun l hl e1 => ?_) (fun e1 => ?_)
  · subst e1
    have hl12 : l < 12 := by omega
    refine a_if_ne (tgt := 10) dX12_load_5 (by decide) (fun h5 => ?_) (fun h5 => ?_)
    · refine a_aload_n dX12_load_10 rfl ?_
      refine a_iload_n dX12_load_11 rfl ?_
      refine a_callVi (As := [_]) dX12_load_12 km_X12_153 ⟨by decide, _, _, _, rfl, rfl⟩ rfl rfl (Nat.le_of_ble_eq_true rfl) ?_
      refine c_counts hl12 (fun ec => ?_) (fun ec => ?_)
      · refine a_if_ne (tgt := 24) dX12_load_15 (by decide) (fun h15 => ?_) (fun h15 => ?_)
        · refine a_iload_n dX12_load_24 rfl ?_
          refine a_iconst (v := nI 0) dX12_load_25 (by decide) ?_
          refine a_bipush (v := nI 23) dX12_load_26 (by decide) ?_
          refine a_callSi (As := [_, _, _]) dX12_load_28 km_X12_122 rfl rfl (Nat.le_of_ble_eq_true rfl) ?_
          refine c_in (fun e1 e2 => ?_) (fun e1 => ?_)
          · refine a_if_eq (tgt := 49) dX12_load_31 (by decide) (fun h31 => ?_) (fun h31 => ?_)
            · exact absurd h31 (by decide)
            · refine a_iload_n dX12_load_34 rfl ?_
              refine a_iconst (v := nI 0) dX12_load_35 (by decide) ?_
              refine a_bipush (v := nI 23) dX12_load_36 (by decide) ?_
              refine a_callSi (As := [_, _, _]) dX12_load_38 km_X12_122 rfl rfl (Nat.le_of_ble_eq_true rfl) ?_
              refine c_in (fun e3 e4 => ?_) (fun e3 => ?_)
              · refine a_if_eq (tgt := 49) dX12_load_41 (by decide) (fun h41 => ?_) (fun h41 => ?_)
                · exact absurd h41 (by decide)
                · refine a_iload_n dX12_load_44 rfl ?_
                  refine a_iload_n dX12_load_45 rfl ?_
                  refine a_icmp_lt (tgt := 55) dX12_load_46 (by decide) (fun h46 => ?_) (fun h46 => ?_)
                  · obtain ⟨i, hi, ei⟩ := (rg_iff1 (n := 23) (by decide)).mp ⟨e1, e2⟩
                    obtain ⟨j, hj, ej⟩ := (rg_iff1 (n := 23) (by decide)).mp ⟨e3, e4⟩
                    subst ei ej
                    have hij : i < j := (nI_ltI (by omega) (by omega)).mp h46
                    refine a_aload_n dX12_load_55 rfl ?_
                    refine a_getr dX12_load_56 kf_X12_36 ⟨by decide, _, rfl, rfl⟩ ?_
                    refine a_bipush (v := nI 24) dX12_load_59 (by decide) ?_
                    refine a_iload_n dX12_load_61 rfl ?_
                    refine a_imul dX12_load_62 (by first | exact pk_mul _ _ | rfl) ?_
                    refine a_iload_n dX12_load_63 rfl ?_
                    refine a_iadd dX12_load_64 (by first | exact nI_add _ _ | rfl) ?_
                    refine a_iald dX12_load_65 ⟨by decide, rfl⟩ (by omega) rfl ?_
                    refine a_bipush (v := (-9)) dX12_load_66 (by decide) ?_
                    refine a_icmp_eq (tgt := 87) dX12_load_68 (by decide) (fun h68 => ?_) (fun h68 => ?_)
                    · refine a_aload_n dX12_load_87 rfl ?_
                      refine a_iconst (v := nI 1) dX12_load_88 (by decide) ?_
                      refine a_callVi (As := [_]) dX12_load_89 km_X12_138 ⟨by decide, _, _, _, rfl, rfl⟩ rfl rfl (Nat.le_of_ble_eq_true rfl) ?_
                      refine c_meets (by decide) ?_
                      exact a_ireturn dX12_load_92 ⟨_, rfl, (h4 l i j hl rfl ec hij (by omega) rfl rfl (Or.inl h68))⟩
                    · refine a_aload_n dX12_load_71 rfl ?_
                      refine a_getr dX12_load_72 kf_X12_36 ⟨by decide, _, rfl, rfl⟩ ?_
                      refine a_bipush (v := nI 24) dX12_load_75 (by decide) ?_
                      refine a_iload_n dX12_load_77 rfl ?_
                      refine a_imul dX12_load_78 (by first | exact pk_mul _ _ | rfl) ?_
                      refine a_iload_n dX12_load_79 rfl ?_
                      refine a_iadd dX12_load_80 (by first | exact nI_add _ _ | rfl) ?_
                      refine a_iald dX12_load_81 ⟨by decide, rfl⟩ (by omega) rfl ?_
                      refine a_bipush (v := (-9)) dX12_load_82 (by decide) ?_
                      refine a_icmp_ne (tgt := 93) dX12_load_84 (by decide) (fun h84 => ?_) (fun h84 => ?_)
                      · refine a_aload_n dX12_load_93 rfl ?_
                        refine a_aload_n dX12_load_94 rfl ?_
                        refine a_iload_n dX12_load_95 rfl ?_
                        refine a_iload_n dX12_load_96 rfl ?_
                        refine a_iload_n dX12_load_97 rfl ?_
                        refine a_callVi (As := [_, _, _]) dX12_load_98 km_X12_156 ⟨by decide, _, _, _, rfl, rfl⟩ rfl rfl (Nat.le_of_ble_eq_true rfl) ?_
                        refine c_loadOf hl12 (by omega) (by omega) ?_
                        refine a_i2l dX12_load_101 rfl ?_
                        refine a_aload_n dX12_load_102 rfl ?_
                        refine a_getr dX12_load_103 kf_X12_30 ⟨by decide, _, rfl, rfl⟩ ?_
                        refine a_iload_n dX12_load_106 rfl ?_
                        refine a_iald dX12_load_107 ⟨by decide, rfl⟩ (by omega) rfl ?_
                        refine a_iload_n dX12_load_108 rfl ?_
                        refine a_iload_n dX12_load_109 rfl ?_
                        refine a_isub dX12_load_110 (pk_sub (by omega)) ?_
                        refine a_imul dX12_load_111 rfl ?_
                        refine a_aload_n dX12_load_112 rfl ?_
                        refine a_iload_n dX12_load_113 rfl ?_
                        refine a_callVi (As := [_]) dX12_load_114 km_X12_142 ⟨by decide, _, _, _, rfl, rfl⟩ rfl rfl (Nat.le_of_ble_eq_true rfl) ?_
                        refine c_counterOf hl12 ?_
                        refine a_topi (v := ctR I l) rfl ?_
                        refine a_ticmp_ge (tgt := 124) (pj := 125) (a := (nI 0)) (b := (nI 1)) dX12_load_117 (by decide) (fun kj => ?_) (fun kj => ?_) ?_
                        · refine a_iconst (v := nI 0) dX12_load_124 (by decide) ?_
                          exact kj
                        · refine a_iconst (v := nI 1) dX12_load_120 (by decide) ?_
                          refine a_goto (tgt := 125) dX12_load_121 (by decide) ?_
                          exact kj
                        refine a_callVi (As := [_, _]) dX12_load_125 km_X12_160 ⟨by decide, _, _, _, rfl, rfl⟩ rfl rfl (Nat.le_of_ble_eq_true rfl) ?_
                        refine c_tell ?_
                        exact a_ireturn dX12_load_128 ⟨_, rfl, (h1 l i j hl rfl ec hij (by omega) rfl rfl h68 h84)⟩
                      · refine a_aload_n dX12_load_87 rfl ?_
                        refine a_iconst (v := nI 1) dX12_load_88 (by decide) ?_
                        refine a_callVi (As := [_]) dX12_load_89 km_X12_138 ⟨by decide, _, _, _, rfl, rfl⟩ rfl rfl (Nat.le_of_ble_eq_true rfl) ?_
                        refine c_meets (by decide) ?_
                        exact a_ireturn dX12_load_92 ⟨_, rfl, (h4 l i j hl rfl ec hij (by omega) rfl rfl (Or.inr h84))⟩
                  · refine a_aload_n dX12_load_49 rfl ?_
                    refine a_iconst (v := nI 2) dX12_load_50 (by decide) ?_
                    refine a_callVi (As := [_]) dX12_load_51 km_X12_138 ⟨by decide, _, _, _, rfl, rfl⟩ rfl rfl (Nat.le_of_ble_eq_true rfl) ?_
                    refine c_meets (by decide) ?_
                    exact a_ireturn dX12_load_54 ⟨_, rfl, (h2 l hl rfl ec (fun q => h46 q.2.2))⟩
              · refine a_if_eq (tgt := 49) dX12_load_41 (by decide) (fun h41 => ?_) (fun h41 => ?_)
                · refine a_aload_n dX12_load_49 rfl ?_
                  refine a_iconst (v := nI 2) dX12_load_50 (by decide) ?_
                  refine a_callVi (As := [_]) dX12_load_51 km_X12_138 ⟨by decide, _, _, _, rfl, rfl⟩ rfl rfl (Nat.le_of_ble_eq_true rfl) ?_
                  refine c_meets (by decide) ?_
                  exact a_ireturn dX12_load_54 ⟨_, rfl, (h2 l hl rfl ec (fun q => e3 q.2.1))⟩
                · exact absurd h41 (by decide)
          · refine a_if_eq (tgt := 49) dX12_load_31 (by decide) (fun h31 => ?_) (fun h31 => ?_)
            · refine a_aload_n dX12_load_49 rfl ?_
              refine a_iconst (v := nI 2) dX12_load_50 (by decide) ?_
              refine a_callVi (As := [_]) dX12_load_51 km_X12_138 ⟨by decide, _, _, _, rfl, rfl⟩ rfl rfl (Nat.le_of_ble_eq_true rfl) ?_
              refine c_meets (by decide) ?_
              exact a_ireturn dX12_load_54 ⟨_, rfl, (h2 l hl rfl ec (fun q => e1 q.1))⟩
            · exact absurd h31 (by decide)
        · exact absurd h15 (by decide)
      · refine a_if_ne (tgt := 24) dX12_load_15 (by decide) (fun h15 => ?_) (fun h15 => ?_)
        · exact absurd h15 (by decide)
        · refine a_aload_n dX12_load_18 rfl ?_
          refine a_iconst (v := nI 3) dX12_load_19 (by decide) ?_
          refine a_callVi (As := [_]) dX12_load_20 km_X12_138 ⟨by decide, _, _, _, rfl, rfl⟩ rfl rfl (Nat.le_of_ble_eq_true rfl) ?_
          refine c_meets (by decide) ?_
          exact a_ireturn dX12_load_23 ⟨_, rfl, (h3 l hl rfl ec)⟩
    · exact absurd h5 (by decide)
  · refine a_if_ne (tgt := 10) dX12_load_5 (by decide) (fun h5 => ?_) (fun h5 => ?_)
    · exact absurd h5 (by decide)
    · refine a_iconst (v := (-1)) dX12_load_8 (by decide) ?_
      exact a_ireturn dX12_load_9 ⟨_, rfl, (h0 e1)⟩

set_option maxHeartbeats 4000000 in
set_option maxRecDepth 100000 in
theorem c_carried {G : am_G} {d : Nat} {I : am_I} {J : am_J} {K : Int32 → am_I → am_J → Prop} {x y : Int32} {n : Nat} (hn : I 63 4 = nI n) (hn12 : n ≤ 12) (h1 : ∀ l, l < n → x = nI l → (y = -9 ∨ nI 0 ≤ y ∧ y ≤ nI 200) → I 65 l ≠ nI 3 → K (I 70 l) (am_up I 70 l y) J)
  (h3 : ∀ l, l < n → x = nI l → (y = -9 ∨ nI 0 ≤ y ∧ y ≤ nI 200) → I 65 l = nI 3 → K (-3) (mMeet I 3) J) (h0 : ¬ (isLn n x ∧ (y = -9 ∨ nI 0 ≤ y ∧ y ≤ nI 200)) → K (-1) I J) : CMi G (d + 2) yX12_carried [.ref 63, .int x, .int y] I J K := by
  refine CM.of (L0 := [_, _, _, _]) cX12_carried 4 (some .int) (by decide) (by decide) kcX12_carried (Nat.le_of_ble_eq_true rfl) rfl ?_
  refine a_aload_n dX12_carried_0 rfl ?_
  refine a_iload_n dX12_carried_1 rfl ?_
  refine a_callVi (As := [_]) dX12_carried_2 km_X12_130 ⟨by decide, _, _, _, rfl, rfl⟩ rfl rfl (Nat.le_of_ble_eq_true rfl) ?_
  refine c_isLine hn (by omega) (fun l hl e1 => ?_) (fun e1 => ?_)
  · subst e1
    have hl12 : l < 12 := by omega
    refine a_if_eq (tgt := 25) dX12_carried_5 (by decide) (fun h5 => ?_) (fun h5 => ?_)
    · exact absurd h5 (by decide)
    · refine a_iload_n dX12_carried_8 rfl ?_
      refine a_bipush (v := (-9)) dX12_carried_9 (by decide) ?_
      refine a_icmp_eq (tgt := 27) dX12_carried_11 (by decide) (fun h11 => ?_) (fun h11 => ?_)
      · have hy : y = -9 ∨ nI 0 ≤ y ∧ y ≤ nI 200 := Or.inl h11
        refine a_aload_n dX12_carried_27 rfl ?_
        refine a_getr dX12_carried_28 kf_X12_17 ⟨by decide, _, rfl, rfl⟩ ?_
        refine a_iload_n dX12_carried_31 rfl ?_
        refine a_iald dX12_carried_32 ⟨by decide, rfl⟩ (by omega) rfl ?_
        refine a_iconst (v := nI 3) dX12_carried_33 (by decide) ?_
        refine a_icmp_ne (tgt := 43) dX12_carried_34 (by decide) (fun h34 => ?_) (fun h34 => ?_)
        · refine a_aload_n dX12_carried_43 rfl ?_
          refine a_getr dX12_carried_44 kf_X12_33 ⟨by decide, _, rfl, rfl⟩ ?_
          refine a_iload_n dX12_carried_47 rfl ?_
          refine a_iald dX12_carried_48 ⟨by decide, rfl⟩ (by omega) rfl ?_
          refine a_istore_n (L' := [_, _, _, _]) dX12_carried_49 (Nat.le_of_ble_eq_true rfl) rfl ?_
          refine a_aload_n dX12_carried_50 rfl ?_
          refine a_getr dX12_carried_51 kf_X12_33 ⟨by decide, _, rfl, rfl⟩ ?_
          refine a_iload_n dX12_carried_54 rfl ?_
          refine a_iload_n dX12_carried_55 rfl ?_
          refine a_iast dX12_carried_56 ⟨by decide, rfl⟩ (by omega) ?_
          refine a_iload_n dX12_carried_57 rfl ?_
          exact a_ireturn dX12_carried_58 ⟨_, rfl, (h1 l hl rfl hy h34)⟩
        · refine a_aload_n dX12_carried_37 rfl ?_
          refine a_iconst (v := nI 3) dX12_carried_38 (by decide) ?_
          refine a_callVi (As := [_]) dX12_carried_39 km_X12_138 ⟨by decide, _, _, _, rfl, rfl⟩ rfl rfl (Nat.le_of_ble_eq_true rfl) ?_
          refine c_meets (by decide) ?_
          exact a_ireturn dX12_carried_42 ⟨_, rfl, (h3 l hl rfl hy h34)⟩
      · refine a_iload_n dX12_carried_14 rfl ?_
        refine a_iconst (v := nI 0) dX12_carried_15 (by decide) ?_
        refine a_sipush (v := nI 200) dX12_carried_16 (by decide) ?_
        refine a_callSi (As := [_, _, _]) dX12_carried_19 km_X12_122 rfl rfl (Nat.le_of_ble_eq_true rfl) ?_
        refine c_in (fun e1 e2 => ?_) (fun e1 => ?_)
        · have hy : y = -9 ∨ nI 0 ≤ y ∧ y ≤ nI 200 := Or.inr ⟨e1, e2⟩
          refine a_if_ne (tgt := 27) dX12_carried_22 (by decide) (fun h22 => ?_) (fun h22 => ?_)
          · refine a_aload_n dX12_carried_27 rfl ?_
            refine a_getr dX12_carried_28 kf_X12_17 ⟨by decide, _, rfl, rfl⟩ ?_
            refine a_iload_n dX12_carried_31 rfl ?_
            refine a_iald dX12_carried_32 ⟨by decide, rfl⟩ (by omega) rfl ?_
            refine a_iconst (v := nI 3) dX12_carried_33 (by decide) ?_
            refine a_icmp_ne (tgt := 43) dX12_carried_34 (by decide) (fun h34 => ?_) (fun h34 => ?_)
            · refine a_aload_n dX12_carried_43 rfl ?_
              refine a_getr dX12_carried_44 kf_X12_33 ⟨by decide, _, rfl, rfl⟩ ?_
              refine a_iload_n dX12_carried_47 rfl ?_
              refine a_iald dX12_carried_48 ⟨by decide, rfl⟩ (by omega) rfl ?_
              refine a_istore_n (L' := [_, _, _, _]) dX12_carried_49 (Nat.le_of_ble_eq_true rfl) rfl ?_
              refine a_aload_n dX12_carried_50 rfl ?_
              refine a_getr dX12_carried_51 kf_X12_33 ⟨by decide, _, rfl, rfl⟩ ?_
              refine a_iload_n dX12_carried_54 rfl ?_
              refine a_iload_n dX12_carried_55 rfl ?_
              refine a_iast dX12_carried_56 ⟨by decide, rfl⟩ (by omega) ?_
              refine a_iload_n dX12_carried_57 rfl ?_
              exact a_ireturn dX12_carried_58 ⟨_, rfl, (h1 l hl rfl hy h34)⟩
            · refine a_aload_n dX12_carried_37 rfl ?_
              refine a_iconst (v := nI 3) dX12_carried_38 (by decide) ?_
              refine a_callVi (As := [_]) dX12_carried_39 km_X12_138 ⟨by decide, _, _, _, rfl, rfl⟩ rfl rfl (Nat.le_of_ble_eq_true rfl) ?_
              refine c_meets (by decide) ?_
              exact a_ireturn dX12_carried_42 ⟨_, rfl, (h3 l hl rfl hy h34)⟩
          · exact absurd h22 (by decide)
        · refine a_if_ne (tgt := 27) dX12_carried_22 (by decide) (fun h22 => ?_) (fun h22 => ?_)
          · exact absurd h22 (by decide)
          · refine a_iconst (v := (-1)) dX12_carried_25 (by decide) ?_
            exact a_ireturn dX12_carried_26 ⟨_, rfl, (h0 (fun q => q.2.elim h11 e1))⟩
  · refine a_if_eq (tgt := 25) dX12_carried_5 (by decide) (fun h5 => ?_) (fun h5 => ?_)
    · refine a_iconst (v := (-1)) dX12_carried_25 (by decide) ?_
      exact a_ireturn dX12_carried_26 ⟨_, rfl, (h0 (fun q => e1 q.1))⟩
    · exact absurd h5 (by decide)

set_option maxHeartbeats 4000000 in
set_option maxRecDepth 100000 in
theorem c_meter {G : am_G} {d : Nat} {I : am_I} {J : am_J} {K : Int32 → am_I → am_J → Prop} {x y z : Int32} {N : Nat} (hN : I 63 3 = nI N) (hb : N ≤ 6) (h1 : ∀ p q, p < N → q < N → p ≠ q → x = nI p → y = nI q → (z = -9 ∨ nI 0 ≤ z ∧ z ≤ nI 200) → K (I 72 (N * p + q)) (am_up I 72 (N * p + q) z) J) (h0 : ¬ (isPr N x y ∧ (z = -9 ∨ nI 0 ≤ z ∧ z ≤ nI 200)) → K (-1) I J) : CMi G (d + 3) yX12_meter [.ref 63, .int x, .int y, .int z] I J K := by
  refine CM.of (L0 := [_, _, _, _, _]) cX12_meter 5 (some .int) (by decide) (by decide) kcX12_meter (Nat.le_of_ble_eq_true rfl) rfl ?_
  refine a_aload_n dX12_meter_0 rfl ?_
  refine a_iload_n dX12_meter_1 rfl ?_
  refine a_iload_n dX12_meter_2 rfl ?_
  refine a_callVi (As := [_, _]) dX12_meter_3 km_X12_174 ⟨by decide, _, _, _, rfl, rfl⟩ rfl rfl (Nat.le_of_ble_eq_true rfl) ?_
  refine c_isPair hN (by omega) (fun p q hp hq hpq e1 e2 => ?_) (fun e1 => ?_)
  · subst e1 e2
    refine a_if_eq (tgt := 26) dX12_meter_6 (by decide) (fun h6 => ?_) (fun h6 => ?_)
    · exact absurd h6 (by decide)
    · refine a_iload_n dX12_meter_9 rfl ?_
      refine a_bipush (v := (-9)) dX12_meter_10 (by decide) ?_
      refine a_icmp_eq (tgt := 28) dX12_meter_12 (by decide) (fun h12 => ?_) (fun h12 => ?_)
      · have hz : z = -9 ∨ nI 0 ≤ z ∧ z ≤ nI 200 := Or.inl h12
        refine a_aload_n dX12_meter_28 rfl ?_
        refine a_getr dX12_meter_29 kf_X12_39 ⟨by decide, _, rfl, rfl⟩ ?_
        refine a_aload_n dX12_meter_32 rfl ?_
        refine a_geti dX12_meter_33 kf_X12_13 ⟨by decide, _, rfl, rfl⟩ hN ?_
        refine a_iload_n dX12_meter_36 rfl ?_
        refine a_imul dX12_meter_37 (by first | exact pk_mul _ _ | rfl) ?_
        refine a_iload_n dX12_meter_38 rfl ?_
        refine a_iadd dX12_meter_39 (by first | exact nI_add _ _ | rfl) ?_
        refine a_iald dX12_meter_40 ⟨by decide, rfl⟩ (ix_lt hb hp hq) rfl ?_
        refine a_istore (L' := [_, _, _, _, _]) dX12_meter_41 (Nat.le_of_ble_eq_true rfl) rfl ?_
        refine a_aload_n dX12_meter_43 rfl ?_
        refine a_getr dX12_meter_44 kf_X12_39 ⟨by decide, _, rfl, rfl⟩ ?_
        refine a_aload_n dX12_meter_47 rfl ?_
        refine a_geti dX12_meter_48 kf_X12_13 ⟨by decide, _, rfl, rfl⟩ hN ?_
        refine a_iload_n dX12_meter_51 rfl ?_
        refine a_imul dX12_meter_52 (by first | exact pk_mul _ _ | rfl) ?_
        refine a_iload_n dX12_meter_53 rfl ?_
        refine a_iadd dX12_meter_54 (by first | exact nI_add _ _ | rfl) ?_
        refine a_iload_n dX12_meter_55 rfl ?_
        refine a_iast dX12_meter_56 ⟨by decide, rfl⟩ (ix_lt hb hp hq) ?_
        refine a_iload dX12_meter_57 rfl ?_
        exact a_ireturn dX12_meter_59 ⟨_, rfl, (h1 p q hp hq hpq rfl rfl hz)⟩
      · refine a_iload_n dX12_meter_15 rfl ?_
        refine a_iconst (v := nI 0) dX12_meter_16 (by decide) ?_
        refine a_sipush (v := nI 200) dX12_meter_17 (by decide) ?_
        refine a_callSi (As := [_, _, _]) dX12_meter_20 km_X12_122 rfl rfl (Nat.le_of_ble_eq_true rfl) ?_
        refine c_in (fun e1 e2 => ?_) (fun e1 => ?_)
        · have hz : z = -9 ∨ nI 0 ≤ z ∧ z ≤ nI 200 := Or.inr ⟨e1, e2⟩
          refine a_if_ne (tgt := 28) dX12_meter_23 (by decide) (fun h23 => ?_) (fun h23 => ?_)
          · refine a_aload_n dX12_meter_28 rfl ?_
            refine a_getr dX12_meter_29 kf_X12_39 ⟨by decide, _, rfl, rfl⟩ ?_
            refine a_aload_n dX12_meter_32 rfl ?_
            refine a_geti dX12_meter_33 kf_X12_13 ⟨by decide, _, rfl, rfl⟩ hN ?_
            refine a_iload_n dX12_meter_36 rfl ?_
            refine a_imul dX12_meter_37 (by first | exact pk_mul _ _ | rfl) ?_
            refine a_iload_n dX12_meter_38 rfl ?_
            refine a_iadd dX12_meter_39 (by first | exact nI_add _ _ | rfl) ?_
            refine a_iald dX12_meter_40 ⟨by decide, rfl⟩ (ix_lt hb hp hq) rfl ?_
            refine a_istore (L' := [_, _, _, _, _]) dX12_meter_41 (Nat.le_of_ble_eq_true rfl) rfl ?_
            refine a_aload_n dX12_meter_43 rfl ?_
            refine a_getr dX12_meter_44 kf_X12_39 ⟨by decide, _, rfl, rfl⟩ ?_
            refine a_aload_n dX12_meter_47 rfl ?_
            refine a_geti dX12_meter_48 kf_X12_13 ⟨by decide, _, rfl, rfl⟩ hN ?_
            refine a_iload_n dX12_meter_51 rfl ?_
            refine a_imul dX12_meter_52 (by first | exact pk_mul _ _ | rfl) ?_
            refine a_iload_n dX12_meter_53 rfl ?_
            refine a_iadd dX12_meter_54 (by first | exact nI_add _ _ | rfl) ?_
            refine a_iload_n dX12_meter_55 rfl ?_
            refine a_iast dX12_meter_56 ⟨by decide, rfl⟩ (ix_lt hb hp hq) ?_
            refine a_iload dX12_meter_57 rfl ?_
            exact a_ireturn dX12_meter_59 ⟨_, rfl, (h1 p q hp hq hpq rfl rfl hz)⟩
          · exact absurd h23 (by decide)
        · refine a_if_ne (tgt := 28) dX12_meter_23 (by decide) (fun h23 => ?_) (fun h23 => ?_)
          · exact absurd h23 (by decide)
          · refine a_iconst (v := (-1)) dX12_meter_26 (by decide) ?_
            exact a_ireturn dX12_meter_27 ⟨_, rfl, (h0 (fun q => q.2.elim h12 e1))⟩
  · refine a_if_eq (tgt := 26) dX12_meter_6 (by decide) (fun h6 => ?_) (fun h6 => ?_)
    · refine a_iconst (v := (-1)) dX12_meter_26 (by decide) ?_
      exact a_ireturn dX12_meter_27 ⟨_, rfl, (h0 (fun q => e1 q.1))⟩
    · exact absurd h6 (by decide)

set_option maxHeartbeats 4000000 in
set_option maxRecDepth 100000 in
theorem c_base {G : am_G} {d : Nat} {I : am_I} {J : am_J} {K : Int32 → am_I → am_J → Prop} {x y z : Int32} {N : Nat} (hN : I 63 3 = nI N) (hb : N ≤ 6) (h1 : ∀ p q v, p < N → q < N → p ≠ q → x = nI p → y = nI q → v ≤ 200 → z = nI v → K (I 73 (N * p + q)) (am_up I 73 (N * p + q) z) J) (h0 : ¬ (isPr N x y ∧ nI 0 ≤ z ∧ z ≤ nI 200) → K (-1) I J) : CMi G (d + 3) yX12_base [.ref 63, .int x, .int y, .int z] I J K := by
  refine CM.of (L0 := [_, _, _, _, _]) cX12_base 5 (some .int) (by decide) (by decide) kcX12_base (Nat.le_of_ble_eq_true rfl) rfl ?_
  refine a_aload_n dX12_base_0 rfl ?_
  refine a_iload_n dX12_base_1 rfl ?_
  refine a_iload_n dX12_base_2 rfl ?_
  refine a_callVi (As := [_, _]) dX12_base_3 km_X12_174 ⟨by decide, _, _, _, rfl, rfl⟩ rfl rfl (Nat.le_of_ble_eq_true rfl) ?_
  refine c_isPair hN (by omega) (fun p q hp hq hpq e1 e2 => ?_) (fun e1 => ?_)
  · subst e1 e2
    refine a_if_eq (tgt := 20) dX12_base_6 (by decide) (fun h6 => ?_) (fun h6 => ?_)
    · exact absurd h6 (by decide)
    · refine a_iload_n dX12_base_9 rfl ?_
      refine a_iconst (v := nI 0) dX12_base_10 (by decide) ?_
      refine a_sipush (v := nI 200) dX12_base_11 (by decide) ?_
      refine a_callSi (As := [_, _, _]) dX12_base_14 km_X12_122 rfl rfl (Nat.le_of_ble_eq_true rfl) ?_
      refine c_in (fun e1 e2 => ?_) (fun e1 => ?_)
      · obtain ⟨v, hv, ev⟩ := (rg_iff1 (n := 200) (by decide)).mp ⟨e1, e2⟩
        refine a_if_ne (tgt := 22) dX12_base_17 (by decide) (fun h17 => ?_) (fun h17 => ?_)
        · refine a_aload_n dX12_base_22 rfl ?_
          refine a_getr dX12_base_23 kf_X12_42 ⟨by decide, _, rfl, rfl⟩ ?_
          refine a_aload_n dX12_base_26 rfl ?_
          refine a_geti dX12_base_27 kf_X12_13 ⟨by decide, _, rfl, rfl⟩ hN ?_
          refine a_iload_n dX12_base_30 rfl ?_
          refine a_imul dX12_base_31 (by first | exact pk_mul _ _ | rfl) ?_
          refine a_iload_n dX12_base_32 rfl ?_
          refine a_iadd dX12_base_33 (by first | exact nI_add _ _ | rfl) ?_
          refine a_iald dX12_base_34 ⟨by decide, rfl⟩ (ix_lt hb hp hq) rfl ?_
          refine a_istore (L' := [_, _, _, _, _]) dX12_base_35 (Nat.le_of_ble_eq_true rfl) rfl ?_
          refine a_aload_n dX12_base_37 rfl ?_
          refine a_getr dX12_base_38 kf_X12_42 ⟨by decide, _, rfl, rfl⟩ ?_
          refine a_aload_n dX12_base_41 rfl ?_
          refine a_geti dX12_base_42 kf_X12_13 ⟨by decide, _, rfl, rfl⟩ hN ?_
          refine a_iload_n dX12_base_45 rfl ?_
          refine a_imul dX12_base_46 (by first | exact pk_mul _ _ | rfl) ?_
          refine a_iload_n dX12_base_47 rfl ?_
          refine a_iadd dX12_base_48 (by first | exact nI_add _ _ | rfl) ?_
          refine a_iload_n dX12_base_49 rfl ?_
          refine a_iast dX12_base_50 ⟨by decide, rfl⟩ (ix_lt hb hp hq) ?_
          refine a_iload dX12_base_51 rfl ?_
          exact a_ireturn dX12_base_53 ⟨_, rfl, (h1 p q v hp hq hpq rfl rfl hv ev)⟩
        · exact absurd h17 (by decide)
      · refine a_if_ne (tgt := 22) dX12_base_17 (by decide) (fun h17 => ?_) (fun h17 => ?_)
        · exact absurd h17 (by decide)
        · refine a_iconst (v := (-1)) dX12_base_20 (by decide) ?_
          exact a_ireturn dX12_base_21 ⟨_, rfl, (h0 (fun q => e1 q.2))⟩
  · refine a_if_eq (tgt := 20) dX12_base_6 (by decide) (fun h6 => ?_) (fun h6 => ?_)
    · refine a_iconst (v := (-1)) dX12_base_20 (by decide) ?_
      exact a_ireturn dX12_base_21 ⟨_, rfl, (h0 (fun q => e1 q.1))⟩
    · exact absurd h6 (by decide)
end
