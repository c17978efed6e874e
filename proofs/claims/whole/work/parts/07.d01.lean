/-! decode rows -/
theorem dJ6_numberOfTrailingZeros_0f7a4_0 : decode cJ6_numberOfTrailingZeros_0f7a4 0 = .ok (.iload_n 0, 1) := by decide +kernel
theorem dJ6_numberOfTrailingZeros_0f7a4_1 : decode cJ6_numberOfTrailingZeros_0f7a4 1 = .ok (.iconst (-1), 1) := by decide +kernel
theorem dJ6_numberOfTrailingZeros_0f7a4_2 : decode cJ6_numberOfTrailingZeros_0f7a4 2 = .ok (.ixor, 1) := by decide +kernel
theorem dJ6_numberOfTrailingZeros_0f7a4_3 : decode cJ6_numberOfTrailingZeros_0f7a4 3 = .ok (.iload_n 0, 1) := by decide +kernel
theorem dJ6_numberOfTrailingZeros_0f7a4_4 : decode cJ6_numberOfTrailingZeros_0f7a4 4 = .ok (.iconst 1, 1) := by decide +kernel
theorem dJ6_numberOfTrailingZeros_0f7a4_5 : decode cJ6_numberOfTrailingZeros_0f7a4 5 = .ok (.isub, 1) := by decide +kernel
theorem dJ6_numberOfTrailingZeros_0f7a4_6 : decode cJ6_numberOfTrailingZeros_0f7a4 6 = .ok (.iand, 1) := by decide +kernel
theorem dJ6_numberOfTrailingZeros_0f7a4_7 : decode cJ6_numberOfTrailingZeros_0f7a4 7 = .ok (.istore_n 0, 1) := by decide +kernel
theorem dJ6_numberOfTrailingZeros_0f7a4_8 : decode cJ6_numberOfTrailingZeros_0f7a4 8 = .ok (.iload_n 0, 1) := by decide +kernel
theorem dJ6_numberOfTrailingZeros_0f7a4_9 : decode cJ6_numberOfTrailingZeros_0f7a4 9 = .ok (.ifCond .gt 8, 3) := by decide +kernel
theorem dJ6_numberOfTrailingZeros_0f7a4_12 : decode cJ6_numberOfTrailingZeros_0f7a4 12 = .ok (.iload_n 0, 1) := by decide +kernel
theorem dJ6_numberOfTrailingZeros_0f7a4_13 : decode cJ6_numberOfTrailingZeros_0f7a4 13 = .ok (.bipush 32, 2) := by decide +kernel
theorem dJ6_numberOfTrailingZeros_0f7a4_15 : decode cJ6_numberOfTrailingZeros_0f7a4 15 = .ok (.iand, 1) := by decide +kernel
theorem dJ6_numberOfTrailingZeros_0f7a4_16 : decode cJ6_numberOfTrailingZeros_0f7a4 16 = .ok (.ireturn, 1) := by decide +kernel
theorem dJ6_numberOfTrailingZeros_0f7a4_17 : decode cJ6_numberOfTrailingZeros_0f7a4 17 = .ok (.iconst 1, 1) := by decide +kernel
theorem dJ6_numberOfTrailingZeros_0f7a4_18 : decode cJ6_numberOfTrailingZeros_0f7a4 18 = .ok (.istore_n 1, 1) := by decide +kernel
theorem dJ6_numberOfTrailingZeros_0f7a4_19 : decode cJ6_numberOfTrailingZeros_0f7a4 19 = .ok (.iload_n 0, 1) := by decide +kernel
theorem dJ6_numberOfTrailingZeros_0f7a4_20 : decode cJ6_numberOfTrailingZeros_0f7a4 20 = .ok (.ldc_w 264, 3) := by decide +kernel
theorem dJ6_numberOfTrailingZeros_0f7a4_23 : decode cJ6_numberOfTrailingZeros_0f7a4 23 = .ok (.if_icmp .le 11, 3) := by decide +kernel
theorem dJ6_numberOfTrailingZeros_0f7a4_26 : decode cJ6_numberOfTrailingZeros_0f7a4 26 = .ok (.iinc 1 16, 3) := by decide +kernel
theorem dJ6_numberOfTrailingZeros_0f7a4_29 : decode cJ6_numberOfTrailingZeros_0f7a4 29 = .ok (.iload_n 0, 1) := by decide +kernel
theorem dJ6_numberOfTrailingZeros_0f7a4_30 : decode cJ6_numberOfTrailingZeros_0f7a4 30 = .ok (.bipush 16, 2) := by decide +kernel
theorem dJ6_numberOfTrailingZeros_0f7a4_32 : decode cJ6_numberOfTrailingZeros_0f7a4 32 = .ok (.iushr, 1) := by decide +kernel
theorem dJ6_numberOfTrailingZeros_0f7a4_33 : decode cJ6_numberOfTrailingZeros_0f7a4 33 = .ok (.istore_n 0, 1) := by decide +kernel
theorem dJ6_numberOfTrailingZeros_0f7a4_34 : decode cJ6_numberOfTrailingZeros_0f7a4 34 = .ok (.iload_n 0, 1) := by decide +kernel
theorem dJ6_numberOfTrailingZeros_0f7a4_35 : decode cJ6_numberOfTrailingZeros_0f7a4 35 = .ok (.sipush 256, 3) := by decide +kernel
theorem dJ6_numberOfTrailingZeros_0f7a4_38 : decode cJ6_numberOfTrailingZeros_0f7a4 38 = .ok (.if_icmp .le 11, 3) := by decide +kernel
theorem dJ6_numberOfTrailingZeros_0f7a4_41 : decode cJ6_numberOfTrailingZeros_0f7a4 41 = .ok (.iinc 1 8, 3) := by decide +kernel
theorem dJ6_numberOfTrailingZeros_0f7a4_44 : decode cJ6_numberOfTrailingZeros_0f7a4 44 = .ok (.iload_n 0, 1) := by decide +kernel
theorem dJ6_numberOfTrailingZeros_0f7a4_45 : decode cJ6_numberOfTrailingZeros_0f7a4 45 = .ok (.bipush 8, 2) := by decide +kernel
theorem dJ6_numberOfTrailingZeros_0f7a4_47 : decode cJ6_numberOfTrailingZeros_0f7a4 47 = .ok (.iushr, 1) := by decide +kernel
theorem dJ6_numberOfTrailingZeros_0f7a4_48 : decode cJ6_numberOfTrailingZeros_0f7a4 48 = .ok (.istore_n 0, 1) := by decide +kernel
theorem dJ6_numberOfTrailingZeros_0f7a4_49 : decode cJ6_numberOfTrailingZeros_0f7a4 49 = .ok (.iload_n 0, 1) := by decide +kernel
theorem dJ6_numberOfTrailingZeros_0f7a4_50 : decode cJ6_numberOfTrailingZeros_0f7a4 50 = .ok (.bipush 16, 2) := by decide +kernel
theorem dJ6_numberOfTrailingZeros_0f7a4_52 : decode cJ6_numberOfTrailingZeros_0f7a4 52 = .ok (.if_icmp .le 10, 3) := by decide +kernel
theorem dJ6_numberOfTrailingZeros_0f7a4_55 : decode cJ6_numberOfTrailingZeros_0f7a4 55 = .ok (.iinc 1 4, 3) := by decide +kernel
theorem dJ6_numberOfTrailingZeros_0f7a4_58 : decode cJ6_numberOfTrailingZeros_0f7a4 58 = .ok (.iload_n 0, 1) := by decide +kernel
theorem dJ6_numberOfTrailingZeros_0f7a4_59 : decode cJ6_numberOfTrailingZeros_0f7a4 59 = .ok (.iconst 4, 1) := by decide +kernel
theorem dJ6_numberOfTrailingZeros_0f7a4_60 : decode cJ6_numberOfTrailingZeros_0f7a4 60 = .ok (.iushr, 1) := by decide +kernel
theorem dJ6_numberOfTrailingZeros_0f7a4_61 : decode cJ6_numberOfTrailingZeros_0f7a4 61 = .ok (.istore_n 0, 1) := by decide +kernel
theorem dJ6_numberOfTrailingZeros_0f7a4_62 : decode cJ6_numberOfTrailingZeros_0f7a4 62 = .ok (.iload_n 0, 1) := by decide +kernel
theorem dJ6_numberOfTrailingZeros_0f7a4_63 : decode cJ6_numberOfTrailingZeros_0f7a4 63 = .ok (.iconst 4, 1) := by decide +kernel
theorem dJ6_numberOfTrailingZeros_0f7a4_64 : decode cJ6_numberOfTrailingZeros_0f7a4 64 = .ok (.if_icmp .le 10, 3) := by decide +kernel
theorem dJ6_numberOfTrailingZeros_0f7a4_67 : decode cJ6_numberOfTrailingZeros_0f7a4 67 = .ok (.iinc 1 2, 3) := by decide +kernel
theorem dJ6_numberOfTrailingZeros_0f7a4_70 : decode cJ6_numberOfTrailingZeros_0f7a4 70 = .ok (.iload_n 0, 1) := by decide +kernel
theorem dJ6_numberOfTrailingZeros_0f7a4_71 : decode cJ6_numberOfTrailingZeros_0f7a4 71 = .ok (.iconst 2, 1) := by decide +kernel
theorem dJ6_numberOfTrailingZeros_0f7a4_72 : decode cJ6_numberOfTrailingZeros_0f7a4 72 = .ok (.iushr, 1) := by decide +kernel
theorem dJ6_numberOfTrailingZeros_0f7a4_73 : decode cJ6_numberOfTrailingZeros_0f7a4 73 = .ok (.istore_n 0, 1) := by decide +kernel
theorem dJ6_numberOfTrailingZeros_0f7a4_74 : decode cJ6_numberOfTrailingZeros_0f7a4 74 = .ok (.iload_n 1, 1) := by decide +kernel
theorem dJ6_numberOfTrailingZeros_0f7a4_75 : decode cJ6_numberOfTrailingZeros_0f7a4 75 = .ok (.iload_n 0, 1) := by decide +kernel
theorem dJ6_numberOfTrailingZeros_0f7a4_76 : decode cJ6_numberOfTrailingZeros_0f7a4 76 = .ok (.iconst 1, 1) := by decide +kernel
theorem dJ6_numberOfTrailingZeros_0f7a4_77 : decode cJ6_numberOfTrailingZeros_0f7a4 77 = .ok (.iushr, 1) := by decide +kernel
theorem dJ6_numberOfTrailingZeros_0f7a4_78 : decode cJ6_numberOfTrailingZeros_0f7a4 78 = .ok (.iadd, 1) := by decide +kernel
theorem dJ6_numberOfTrailingZeros_0f7a4_79 : decode cJ6_numberOfTrailingZeros_0f7a4 79 = .ok (.ireturn, 1) := by decide +kernel
theorem dJ13_numberOfTrailingZeros_95d88_0 : decode cJ13_numberOfTrailingZeros_95d88 0 = .ok (.lload_n 0, 1) := by decide +kernel
theorem dJ13_numberOfTrailingZeros_95d88_1 : decode cJ13_numberOfTrailingZeros_95d88 1 = .ok (.l2i, 1) := by decide +kernel
theorem dJ13_numberOfTrailingZeros_95d88_2 : decode cJ13_numberOfTrailingZeros_95d88 2 = .ok (.istore_n 2, 1) := by decide +kernel
theorem dJ13_numberOfTrailingZeros_95d88_3 : decode cJ13_numberOfTrailingZeros_95d88 3 = .ok (.iload_n 2, 1) := by decide +kernel
theorem dJ13_numberOfTrailingZeros_95d88_4 : decode cJ13_numberOfTrailingZeros_95d88 4 = .ok (.ifCond .ne 17, 3) := by decide +kernel
theorem dJ13_numberOfTrailingZeros_95d88_7 : decode cJ13_numberOfTrailingZeros_95d88 7 = .ok (.bipush 32, 2) := by decide +kernel
theorem dJ13_numberOfTrailingZeros_95d88_9 : decode cJ13_numberOfTrailingZeros_95d88 9 = .ok (.lload_n 0, 1) := by decide +kernel
theorem dJ13_numberOfTrailingZeros_95d88_10 : decode cJ13_numberOfTrailingZeros_95d88 10 = .ok (.bipush 32, 2) := by decide +kernel
theorem dJ13_numberOfTrailingZeros_95d88_12 : decode cJ13_numberOfTrailingZeros_95d88 12 = .ok (.lushr, 1) := by decide +kernel
theorem dJ13_numberOfTrailingZeros_95d88_13 : decode cJ13_numberOfTrailingZeros_95d88 13 = .ok (.l2i, 1) := by decide +kernel
theorem dJ13_numberOfTrailingZeros_95d88_14 : decode cJ13_numberOfTrailingZeros_95d88 14 = .ok (.invokestatic 311, 3) := by decide +kernel
theorem dJ13_numberOfTrailingZeros_95d88_17 : decode cJ13_numberOfTrailingZeros_95d88 17 = .ok (.iadd, 1) := by decide +kernel
theorem dJ13_numberOfTrailingZeros_95d88_18 : decode cJ13_numberOfTrailingZeros_95d88 18 = .ok (.goto 7, 3) := by decide +kernel
theorem dJ13_numberOfTrailingZeros_95d88_21 : decode cJ13_numberOfTrailingZeros_95d88 21 = .ok (.iload_n 2, 1) := by decide +kernel
theorem dJ13_numberOfTrailingZeros_95d88_22 : decode cJ13_numberOfTrailingZeros_95d88 22 = .ok (.invokestatic 311, 3) := by decide +kernel
theorem dJ13_numberOfTrailingZeros_95d88_25 : decode cJ13_numberOfTrailingZeros_95d88 25 = .ok (.ireturn, 1) := by decide +kernel
theorem dJ13_bitCount_95d88_0 : decode cJ13_bitCount_95d88 0 = .ok (.lload_n 0, 1) := by decide +kernel
theorem dJ13_bitCount_95d88_1 : decode cJ13_bitCount_95d88 1 = .ok (.lload_n 0, 1) := by decide +kernel
theorem dJ13_bitCount_95d88_2 : decode cJ13_bitCount_95d88 2 = .ok (.iconst 1, 1) := by decide +kernel
theorem dJ13_bitCount_95d88_3 : decode cJ13_bitCount_95d88 3 = .ok (.lushr, 1) := by decide +kernel
theorem dJ13_bitCount_95d88_4 : decode cJ13_bitCount_95d88 4 = .ok (.ldc2_w 314, 3) := by decide +kernel
theorem dJ13_bitCount_95d88_7 : decode cJ13_bitCount_95d88 7 = .ok (.land, 1) := by decide +kernel
theorem dJ13_bitCount_95d88_8 : decode cJ13_bitCount_95d88 8 = .ok (.lsub, 1) := by decide +kernel
theorem dJ13_bitCount_95d88_9 : decode cJ13_bitCount_95d88 9 = .ok (.lstore_n 0, 1) := by decide +kernel
theorem dJ13_bitCount_95d88_10 : decode cJ13_bitCount_95d88 10 = .ok (.lload_n 0, 1) := by decide +kernel
theorem dJ13_bitCount_95d88_11 : decode cJ13_bitCount_95d88 11 = .ok (.ldc2_w 316, 3) := by decide +kernel
theorem dJ13_bitCount_95d88_14 : decode cJ13_bitCount_95d88 14 = .ok (.land, 1) := by decide +kernel
theorem dJ13_bitCount_95d88_15 : decode cJ13_bitCount_95d88 15 = .ok (.lload_n 0, 1) := by decide +kernel
theorem dJ13_bitCount_95d88_16 : decode cJ13_bitCount_95d88 16 = .ok (.iconst 2, 1) := by decide +kernel
theorem dJ13_bitCount_95d88_17 : decode cJ13_bitCount_95d88 17 = .ok (.lushr, 1) := by decide +kernel
theorem dJ13_bitCount_95d88_18 : decode cJ13_bitCount_95d88 18 = .ok (.ldc2_w 316, 3) := by decide +kernel
theorem dJ13_bitCount_95d88_21 : decode cJ13_bitCount_95d88 21 = .ok (.land, 1) := by decide +kernel
theorem dJ13_bitCount_95d88_22 : decode cJ13_bitCount_95d88 22 = .ok (.ladd, 1) := by decide +kernel
theorem dJ13_bitCount_95d88_23 : decode cJ13_bitCount_95d88 23 = .ok (.lstore_n 0, 1) := by decide +kernel
theorem dJ13_bitCount_95d88_24 : decode cJ13_bitCount_95d88 24 = .ok (.lload_n 0, 1) := by decide +kernel
theorem dJ13_bitCount_95d88_25 : decode cJ13_bitCount_95d88 25 = .ok (.lload_n 0, 1) := by decide +kernel
theorem dJ13_bitCount_95d88_26 : decode cJ13_bitCount_95d88 26 = .ok (.iconst 4, 1) := by decide +kernel
theorem dJ13_bitCount_95d88_27 : decode cJ13_bitCount_95d88 27 = .ok (.lushr, 1) := by decide +kernel
theorem dJ13_bitCount_95d88_28 : decode cJ13_bitCount_95d88 28 = .ok (.ladd, 1) := by decide +kernel
theorem dJ13_bitCount_95d88_29 : decode cJ13_bitCount_95d88 29 = .ok (.ldc2_w 318, 3) := by decide +kernel
theorem dJ13_bitCount_95d88_32 : decode cJ13_bitCount_95d88 32 = .ok (.land, 1) := by decide +kernel
theorem dJ13_bitCount_95d88_33 : decode cJ13_bitCount_95d88 33 = .ok (.lstore_n 0, 1) := by decide +kernel
theorem dJ13_bitCount_95d88_34 : decode cJ13_bitCount_95d88 34 = .ok (.lload_n 0, 1) := by decide +kernel
theorem dJ13_bitCount_95d88_35 : decode cJ13_bitCount_95d88 35 = .ok (.lload_n 0, 1) := by decide +kernel
theorem dJ13_bitCount_95d88_36 : decode cJ13_bitCount_95d88 36 = .ok (.bipush 8, 2) := by decide +kernel
theorem dJ13_bitCount_95d88_38 : decode cJ13_bitCount_95d88 38 = .ok (.lushr, 1) := by decide +kernel
theorem dJ13_bitCount_95d88_39 : decode cJ13_bitCount_95d88 39 = .ok (.ladd, 1) := by decide +kernel
theorem dJ13_bitCount_95d88_40 : decode cJ13_bitCount_95d88 40 = .ok (.lstore_n 0, 1) := by decide +kernel
theorem dJ13_bitCount_95d88_41 : decode cJ13_bitCount_95d88 41 = .ok (.lload_n 0, 1) := by decide +kernel
theorem dJ13_bitCount_95d88_42 : decode cJ13_bitCount_95d88 42 = .ok (.lload_n 0, 1) := by decide +kernel
theorem dJ13_bitCount_95d88_43 : decode cJ13_bitCount_95d88 43 = .ok (.bipush 16, 2) := by decide +kernel
theorem dJ13_bitCount_95d88_45 : decode cJ13_bitCount_95d88 45 = .ok (.lushr, 1) := by decide +kernel
theorem dJ13_bitCount_95d88_46 : decode cJ13_bitCount_95d88 46 = .ok (.ladd, 1) := by decide +kernel
theorem dJ13_bitCount_95d88_47 : decode cJ13_bitCount_95d88 47 = .ok (.lstore_n 0, 1) := by decide +kernel
theorem dJ13_bitCount_95d88_48 : decode cJ13_bitCount_95d88 48 = .ok (.lload_n 0, 1) := by decide +kernel
theorem dJ13_bitCount_95d88_49 : decode cJ13_bitCount_95d88 49 = .ok (.lload_n 0, 1) := by decide +kernel
theorem dJ13_bitCount_95d88_50 : decode cJ13_bitCount_95d88 50 = .ok (.bipush 32, 2) := by decide +kernel
theorem dJ13_bitCount_95d88_52 : decode cJ13_bitCount_95d88 52 = .ok (.lushr, 1) := by decide +kernel
theorem dJ13_bitCount_95d88_53 : decode cJ13_bitCount_95d88 53 = .ok (.ladd, 1) := by decide +kernel
theorem dJ13_bitCount_95d88_54 : decode cJ13_bitCount_95d88 54 = .ok (.lstore_n 0, 1) := by decide +kernel
theorem dJ13_bitCount_95d88_55 : decode cJ13_bitCount_95d88 55 = .ok (.lload_n 0, 1) := by decide +kernel
theorem dJ13_bitCount_95d88_56 : decode cJ13_bitCount_95d88 56 = .ok (.l2i, 1) := by decide +kernel
theorem dJ13_bitCount_95d88_57 : decode cJ13_bitCount_95d88 57 = .ok (.bipush 127, 2) := by decide +kernel
theorem dJ13_bitCount_95d88_59 : decode cJ13_bitCount_95d88 59 = .ok (.iand, 1) := by decide +kernel
theorem dJ13_bitCount_95d88_60 : decode cJ13_bitCount_95d88 60 = .ok (.ireturn, 1) := by decide +kernel
theorem dJ9_max_7cf53_0 : decode cJ9_max_7cf53 0 = .ok (.iload_n 0, 1) := by decide +kernel
theorem dJ9_max_7cf53_1 : decode cJ9_max_7cf53 1 = .ok (.iload_n 1, 1) := by decide +kernel
theorem dJ9_max_7cf53_2 : decode cJ9_max_7cf53 2 = .ok (.if_icmp .lt 7, 3) := by decide +kernel
theorem dJ9_max_7cf53_5 : decode cJ9_max_7cf53 5 = .ok (.iload_n 0, 1) := by decide +kernel
theorem dJ9_max_7cf53_6 : decode cJ9_max_7cf53 6 = .ok (.goto 4, 3) := by decide +kernel
theorem dJ9_max_7cf53_9 : decode cJ9_max_7cf53 9 = .ok (.iload_n 1, 1) := by decide +kernel
theorem dJ9_max_7cf53_10 : decode cJ9_max_7cf53 10 = .ok (.ireturn, 1) := by decide +kernel
theorem dJ9_min_7cf53_0 : decode cJ9_min_7cf53 0 = .ok (.iload_n 0, 1) := by decide +kernel
theorem dJ9_min_7cf53_1 : decode cJ9_min_7cf53 1 = .ok (.iload_n 1, 1) := by decide +kernel
theorem dJ9_min_7cf53_2 : decode cJ9_min_7cf53 2 = .ok (.if_icmp .gt 7, 3) := by decide +kernel
theorem dJ9_min_7cf53_5 : decode cJ9_min_7cf53 5 = .ok (.iload_n 0, 1) := by decide +kernel
theorem dJ9_min_7cf53_6 : decode cJ9_min_7cf53 6 = .ok (.goto 4, 3) := by decide +kernel
theorem dJ9_min_7cf53_9 : decode cJ9_min_7cf53 9 = .ok (.iload_n 1, 1) := by decide +kernel
theorem dJ9_min_7cf53_10 : decode cJ9_min_7cf53 10 = .ok (.ireturn, 1) := by decide +kernel
theorem dJ7_fill_53178_0 : decode cJ7_fill_53178 0 = .ok (.iconst 0, 1) := by decide +kernel
theorem dJ7_fill_53178_1 : decode cJ7_fill_53178 1 = .ok (.istore_n 2, 1) := by decide +kernel
theorem dJ7_fill_53178_2 : decode cJ7_fill_53178 2 = .ok (.aload_n 0, 1) := by decide +kernel
theorem dJ7_fill_53178_3 : decode cJ7_fill_53178 3 = .ok (.arraylength, 1) := by decide +kernel
theorem dJ7_fill_53178_4 : decode cJ7_fill_53178 4 = .ok (.istore_n 3, 1) := by decide +kernel
theorem dJ7_fill_53178_5 : decode cJ7_fill_53178 5 = .ok (.iload_n 2, 1) := by decide +kernel
theorem dJ7_fill_53178_6 : decode cJ7_fill_53178 6 = .ok (.iload_n 3, 1) := by decide +kernel
theorem dJ7_fill_53178_7 : decode cJ7_fill_53178 7 = .ok (.if_icmp .ge 13, 3) := by decide +kernel
theorem dJ7_fill_53178_10 : decode cJ7_fill_53178 10 = .ok (.aload_n 0, 1) := by decide +kernel
theorem dJ7_fill_53178_11 : decode cJ7_fill_53178 11 = .ok (.iload_n 2, 1) := by decide +kernel
theorem dJ7_fill_53178_12 : decode cJ7_fill_53178 12 = .ok (.iload_n 1, 1) := by decide +kernel
theorem dJ7_fill_53178_13 : decode cJ7_fill_53178 13 = .ok (.iastore, 1) := by decide +kernel
theorem dJ7_fill_53178_14 : decode cJ7_fill_53178 14 = .ok (.iinc 2 1, 3) := by decide +kernel
theorem dJ7_fill_53178_17 : decode cJ7_fill_53178 17 = .ok (.goto (-12), 3) := by decide +kernel
theorem dJ7_fill_53178_20 : decode cJ7_fill_53178 20 = .ok (.return_, 1) := by decide +kernel
theorem dJ7_fill_031fb_0 : decode cJ7_fill_031fb 0 = .ok (.iconst 0, 1) := by decide +kernel
theorem dJ7_fill_031fb_1 : decode cJ7_fill_031fb 1 = .ok (.istore_n 2, 1) := by decide +kernel
theorem dJ7_fill_031fb_2 : decode cJ7_fill_031fb 2 = .ok (.aload_n 0, 1) := by decide +kernel
theorem dJ7_fill_031fb_3 : decode cJ7_fill_031fb 3 = .ok (.arraylength, 1) := by decide +kernel
theorem dJ7_fill_031fb_4 : decode cJ7_fill_031fb 4 = .ok (.istore_n 3, 1) := by decide +kernel
theorem dJ7_fill_031fb_5 : decode cJ7_fill_031fb 5 = .ok (.iload_n 2, 1) := by decide +kernel
theorem dJ7_fill_031fb_6 : decode cJ7_fill_031fb 6 = .ok (.iload_n 3, 1) := by decide +kernel
theorem dJ7_fill_031fb_7 : decode cJ7_fill_031fb 7 = .ok (.if_icmp .ge 13, 3) := by decide +kernel
theorem dJ7_fill_031fb_10 : decode cJ7_fill_031fb 10 = .ok (.aload_n 0, 1) := by decide +kernel
theorem dJ7_fill_031fb_11 : decode cJ7_fill_031fb 11 = .ok (.iload_n 2, 1) := by decide +kernel
theorem dJ7_fill_031fb_12 : decode cJ7_fill_031fb 12 = .ok (.iload_n 1, 1) := by decide +kernel
theorem dJ7_fill_031fb_13 : decode cJ7_fill_031fb 13 = .ok (.bastore, 1) := by decide +kernel
theorem dJ7_fill_031fb_14 : decode cJ7_fill_031fb 14 = .ok (.iinc 2 1, 3) := by decide +kernel
theorem dJ7_fill_031fb_17 : decode cJ7_fill_031fb 17 = .ok (.goto (-12), 3) := by decide +kernel
theorem dJ7_fill_031fb_20 : decode cJ7_fill_031fb 20 = .ok (.return_, 1) := by decide +kernel
theorem dX12_init_0 : decode cX12_init 0 = .ok (.aload_n 0, 1) := by decide +kernel
theorem dX12_init_1 : decode cX12_init 1 = .ok (.invokespecial 1, 3) := by decide +kernel
theorem dX12_init_4 : decode cX12_init 4 = .ok (.aload_n 0, 1) := by decide +kernel
theorem dX12_init_5 : decode cX12_init 5 = .ok (.bipush 6, 2) := by decide +kernel
theorem dX12_init_7 : decode cX12_init 7 = .ok (.newarray .int, 2) := by decide +kernel
theorem dX12_init_9 : decode cX12_init 9 = .ok (.putfield 7, 3) := by decide +kernel
theorem dX12_init_12 : decode cX12_init 12 = .ok (.aload_n 0, 1) := by decide +kernel
theorem dX12_init_13 : decode cX12_init 13 = .ok (.iconst 2, 1) := by decide +kernel
theorem dX12_init_14 : decode cX12_init 14 = .ok (.putfield 13, 3) := by decide +kernel
theorem dX12_init_17 : decode cX12_init 17 = .ok (.aload_n 0, 1) := by decide +kernel
theorem dX12_init_18 : decode cX12_init 18 = .ok (.bipush 12, 2) := by decide +kernel
theorem dX12_init_20 : decode cX12_init 20 = .ok (.newarray .int, 2) := by decide +kernel
theorem dX12_init_22 : decode cX12_init 22 = .ok (.putfield 17, 3) := by decide +kernel
theorem dX12_init_25 : decode cX12_init 25 = .ok (.aload_n 0, 1) := by decide +kernel
theorem dX12_init_26 : decode cX12_init 26 = .ok (.bipush 12, 2) := by decide +kernel
theorem dX12_init_28 : decode cX12_init 28 = .ok (.newarray .int, 2) := by decide +kernel
theorem dX12_init_30 : decode cX12_init 30 = .ok (.putfield 20, 3) := by decide +kernel
theorem dX12_init_33 : decode cX12_init 33 = .ok (.aload_n 0, 1) := by decide +kernel
theorem dX12_init_34 : decode cX12_init 34 = .ok (.bipush 12, 2) := by decide +kernel
theorem dX12_init_36 : decode cX12_init 36 = .ok (.newarray .int, 2) := by decide +kernel
theorem dX12_init_38 : decode cX12_init 38 = .ok (.putfield 23, 3) := by decide +kernel
theorem dX12_init_41 : decode cX12_init 41 = .ok (.aload_n 0, 1) := by decide +kernel
theorem dX12_init_42 : decode cX12_init 42 = .ok (.bipush 12, 2) := by decide +kernel
theorem dX12_init_44 : decode cX12_init 44 = .ok (.newarray .boolean, 2) := by decide +kernel
theorem dX12_init_46 : decode cX12_init 46 = .ok (.putfield 26, 3) := by decide +kernel
theorem dX12_init_49 : decode cX12_init 49 = .ok (.aload_n 0, 1) := by decide +kernel
theorem dX12_init_50 : decode cX12_init 50 = .ok (.bipush 12, 2) := by decide +kernel
theorem dX12_init_52 : decode cX12_init 52 = .ok (.newarray .int, 2) := by decide +kernel
theorem dX12_init_54 : decode cX12_init 54 = .ok (.putfield 30, 3) := by decide +kernel
theorem dX12_init_57 : decode cX12_init 57 = .ok (.aload_n 0, 1) := by decide +kernel
theorem dX12_init_58 : decode cX12_init 58 = .ok (.bipush 12, 2) := by decide +kernel
theorem dX12_init_60 : decode cX12_init 60 = .ok (.newarray .int, 2) := by decide +kernel
theorem dX12_init_62 : decode cX12_init 62 = .ok (.putfield 33, 3) := by decide +kernel
theorem dX12_init_65 : decode cX12_init 65 = .ok (.aload_n 0, 1) := by decide +kernel
theorem dX12_init_66 : decode cX12_init 66 = .ok (.sipush 288, 3) := by decide +kernel
theorem dX12_init_69 : decode cX12_init 69 = .ok (.newarray .int, 2) := by decide +kernel
theorem dX12_init_71 : decode cX12_init 71 = .ok (.putfield 36, 3) := by decide +kernel
theorem dX12_init_74 : decode cX12_init 74 = .ok (.aload_n 0, 1) := by decide +kernel
theorem dX12_init_75 : decode cX12_init 75 = .ok (.bipush 36, 2) := by decide +kernel
theorem dX12_init_77 : decode cX12_init 77 = .ok (.newarray .int, 2) := by decide +kernel
theorem dX12_init_79 : decode cX12_init 79 = .ok (.putfield 39, 3) := by decide +kernel
theorem dX12_init_82 : decode cX12_init 82 = .ok (.aload_n 0, 1) := by decide +kernel
theorem dX12_init_83 : decode cX12_init 83 = .ok (.bipush 36, 2) := by decide +kernel
theorem dX12_init_85 : decode cX12_init 85 = .ok (.newarray .int, 2) := by decide +kernel
theorem dX12_init_87 : decode cX12_init 87 = .ok (.putfield 42, 3) := by decide +kernel
theorem dX12_init_90 : decode cX12_init 90 = .ok (.aload_n 0, 1) := by decide +kernel
theorem dX12_init_91 : decode cX12_init 91 = .ok (.bipush 36, 2) := by decide +kernel
theorem dX12_init_93 : decode cX12_init 93 = .ok (.newarray .int, 2) := by decide +kernel
theorem dX12_init_95 : decode cX12_init 95 = .ok (.putfield 45, 3) := by decide +kernel
theorem dX12_init_98 : decode cX12_init 98 = .ok (.aload_n 0, 1) := by decide +kernel
theorem dX12_init_99 : decode cX12_init 99 = .ok (.bipush 36, 2) := by decide +kernel
theorem dX12_init_101 : decode cX12_init 101 = .ok (.newarray .int, 2) := by decide +kernel
theorem dX12_init_103 : decode cX12_init 103 = .ok (.putfield 48, 3) := by decide +kernel
theorem dX12_init_106 : decode cX12_init 106 = .ok (.aload_n 0, 1) := by decide +kernel
theorem dX12_init_107 : decode cX12_init 107 = .ok (.bipush 36, 2) := by decide +kernel
theorem dX12_init_109 : decode cX12_init 109 = .ok (.newarray .int, 2) := by decide +kernel
theorem dX12_init_111 : decode cX12_init 111 = .ok (.putfield 51, 3) := by decide +kernel
theorem dX12_init_114 : decode cX12_init 114 = .ok (.aload_n 0, 1) := by decide +kernel
theorem dX12_init_115 : decode cX12_init 115 = .ok (.bipush 36, 2) := by decide +kernel
theorem dX12_init_117 : decode cX12_init 117 = .ok (.newarray .int, 2) := by decide +kernel
theorem dX12_init_119 : decode cX12_init 119 = .ok (.putfield 54, 3) := by decide +kernel
theorem dX12_init_122 : decode cX12_init 122 = .ok (.aload_n 0, 1) := by decide +kernel
theorem dX12_init_123 : decode cX12_init 123 = .ok (.bipush 36, 2) := by decide +kernel
theorem dX12_init_125 : decode cX12_init 125 = .ok (.newarray .int, 2) := by decide +kernel
theorem dX12_init_127 : decode cX12_init 127 = .ok (.putfield 57, 3) := by decide +kernel
theorem dX12_init_130 : decode cX12_init 130 = .ok (.aload_n 0, 1) := by decide +kernel
theorem dX12_init_131 : decode cX12_init 131 = .ok (.bipush 36, 2) := by decide +kernel
theorem dX12_init_133 : decode cX12_init 133 = .ok (.newarray .int, 2) := by decide +kernel
theorem dX12_init_135 : decode cX12_init 135 = .ok (.putfield 60, 3) := by decide +kernel
theorem dX12_init_138 : decode cX12_init 138 = .ok (.aload_n 0, 1) := by decide +kernel
theorem dX12_init_139 : decode cX12_init 139 = .ok (.bipush 36, 2) := by decide +kernel
theorem dX12_init_141 : decode cX12_init 141 = .ok (.newarray .int, 2) := by decide +kernel
theorem dX12_init_143 : decode cX12_init 143 = .ok (.putfield 63, 3) := by decide +kernel
theorem dX12_init_146 : decode cX12_init 146 = .ok (.aload_n 0, 1) := by decide +kernel
theorem dX12_init_147 : decode cX12_init 147 = .ok (.bipush 36, 2) := by decide +kernel
theorem dX12_init_149 : decode cX12_init 149 = .ok (.newarray .int, 2) := by decide +kernel
theorem dX12_init_151 : decode cX12_init 151 = .ok (.putfield 66, 3) := by decide +kernel
theorem dX12_init_154 : decode cX12_init 154 = .ok (.aload_n 0, 1) := by decide +kernel
theorem dX12_init_155 : decode cX12_init 155 = .ok (.bipush 12, 2) := by decide +kernel
theorem dX12_init_157 : decode cX12_init 157 = .ok (.newarray .int, 2) := by decide +kernel
theorem dX12_init_159 : decode cX12_init 159 = .ok (.putfield 69, 3) := by decide +kernel
theorem dX12_init_162 : decode cX12_init 162 = .ok (.aload_n 0, 1) := by decide +kernel
theorem dX12_init_163 : decode cX12_init 163 = .ok (.bipush 36, 2) := by decide +kernel
theorem dX12_init_165 : decode cX12_init 165 = .ok (.newarray .int, 2) := by decide +kernel
theorem dX12_init_167 : decode cX12_init 167 = .ok (.putfield 72, 3) := by decide +kernel
theorem dX12_init_170 : decode cX12_init 170 = .ok (.aload_n 0, 1) := by decide +kernel
theorem dX12_init_171 : decode cX12_init 171 = .ok (.bipush 36, 2) := by decide +kernel
theorem dX12_init_173 : decode cX12_init 173 = .ok (.newarray .int, 2) := by decide +kernel
theorem dX12_init_175 : decode cX12_init 175 = .ok (.putfield 75, 3) := by decide +kernel
theorem dX12_init_178 : decode cX12_init 178 = .ok (.aload_n 0, 1) := by decide +kernel
theorem dX12_init_179 : decode cX12_init 179 = .ok (.bipush 36, 2) := by decide +kernel
theorem dX12_init_181 : decode cX12_init 181 = .ok (.newarray .boolean, 2) := by decide +kernel
theorem dX12_init_183 : decode cX12_init 183 = .ok (.putfield 78, 3) := by decide +kernel
theorem dX12_init_186 : decode cX12_init 186 = .ok (.aload_n 0, 1) := by decide +kernel
theorem dX12_init_187 : decode cX12_init 187 = .ok (.bipush 36, 2) := by decide +kernel
theorem dX12_init_189 : decode cX12_init 189 = .ok (.newarray .int, 2) := by decide +kernel
theorem dX12_init_191 : decode cX12_init 191 = .ok (.putfield 81, 3) := by decide +kernel
theorem dX12_init_194 : decode cX12_init 194 = .ok (.aload_n 0, 1) := by decide +kernel
theorem dX12_init_195 : decode cX12_init 195 = .ok (.bipush 36, 2) := by decide +kernel
theorem dX12_init_197 : decode cX12_init 197 = .ok (.newarray .int, 2) := by decide +kernel
theorem dX12_init_199 : decode cX12_init 199 = .ok (.putfield 84, 3) := by decide +kernel
theorem dX12_init_202 : decode cX12_init 202 = .ok (.aload_n 0, 1) := by decide +kernel
theorem dX12_init_203 : decode cX12_init 203 = .ok (.bipush 36, 2) := by decide +kernel
theorem dX12_init_205 : decode cX12_init 205 = .ok (.newarray .int, 2) := by decide +kernel
theorem dX12_init_207 : decode cX12_init 207 = .ok (.putfield 87, 3) := by decide +kernel
theorem dX12_init_210 : decode cX12_init 210 = .ok (.aload_n 0, 1) := by decide +kernel
theorem dX12_init_211 : decode cX12_init 211 = .ok (.bipush 36, 2) := by decide +kernel
theorem dX12_init_213 : decode cX12_init 213 = .ok (.newarray .int, 2) := by decide +kernel
theorem dX12_init_215 : decode cX12_init 215 = .ok (.putfield 90, 3) := by decide +kernel
theorem dX12_init_218 : decode cX12_init 218 = .ok (.aload_n 0, 1) := by decide +kernel
theorem dX12_init_219 : decode cX12_init 219 = .ok (.bipush 36, 2) := by decide +kernel
theorem dX12_init_221 : decode cX12_init 221 = .ok (.newarray .int, 2) := by decide +kernel
theorem dX12_init_223 : decode cX12_init 223 = .ok (.putfield 93, 3) := by decide +kernel
theorem dX12_init_226 : decode cX12_init 226 = .ok (.aload_n 0, 1) := by decide +kernel
theorem dX12_init_227 : decode cX12_init 227 = .ok (.iconst 4, 1) := by decide +kernel
theorem dX12_init_228 : decode cX12_init 228 = .ok (.newarray .int, 2) := by decide +kernel
theorem dX12_init_230 : decode cX12_init 230 = .ok (.putfield 96, 3) := by decide +kernel
theorem dX12_init_233 : decode cX12_init 233 = .ok (.aload_n 0, 1) := by decide +kernel
theorem dX12_init_234 : decode cX12_init 234 = .ok (.bipush 96, 2) := by decide +kernel
theorem dX12_init_236 : decode cX12_init 236 = .ok (.newarray .int, 2) := by decide +kernel
theorem dX12_init_238 : decode cX12_init 238 = .ok (.putfield 99, 3) := by decide +kernel
theorem dX12_init_241 : decode cX12_init 241 = .ok (.aload_n 0, 1) := by decide +kernel
theorem dX12_init_242 : decode cX12_init 242 = .ok (.bipush 24, 2) := by decide +kernel
theorem dX12_init_244 : decode cX12_init 244 = .ok (.newarray .int, 2) := by decide +kernel
theorem dX12_init_246 : decode cX12_init 246 = .ok (.putfield 102, 3) := by decide +kernel
theorem dX12_init_249 : decode cX12_init 249 = .ok (.aload_n 0, 1) := by decide +kernel
theorem dX12_init_250 : decode cX12_init 250 = .ok (.invokevirtual 105, 3) := by decide +kernel
theorem dX12_init_253 : decode cX12_init 253 = .ok (.iconst 0, 1) := by decide +kernel
theorem dX12_init_254 : decode cX12_init 254 = .ok (.istore_n 1, 1) := by decide +kernel
theorem dX12_init_255 : decode cX12_init 255 = .ok (.iload_n 1, 1) := by decide +kernel
theorem dX12_init_256 : decode cX12_init 256 = .ok (.iconst 4, 1) := by decide +kernel
theorem dX12_init_257 : decode cX12_init 257 = .ok (.if_icmp .ge 17, 3) := by decide +kernel
theorem dX12_init_260 : decode cX12_init 260 = .ok (.aload_n 0, 1) := by decide +kernel
theorem dX12_init_261 : decode cX12_init 261 = .ok (.getfield 96, 3) := by decide +kernel
theorem dX12_init_264 : decode cX12_init 264 = .ok (.iload_n 1, 1) := by decide +kernel
theorem dX12_init_265 : decode cX12_init 265 = .ok (.bipush (-9), 2) := by decide +kernel
theorem dX12_init_267 : decode cX12_init 267 = .ok (.iastore, 1) := by decide +kernel
theorem dX12_init_268 : decode cX12_init 268 = .ok (.iinc 1 1, 3) := by decide +kernel
theorem dX12_init_271 : decode cX12_init 271 = .ok (.goto (-16), 3) := by decide +kernel
theorem dX12_init_274 : decode cX12_init 274 = .ok (.return_, 1) := by decide +kernel
theorem dX12_in_0 : decode cX12_in 0 = .ok (.iload_n 0, 1) := by decide +kernel
theorem dX12_in_1 : decode cX12_in 1 = .ok (.iload_n 1, 1) := by decide +kernel
theorem dX12_in_2 : decode cX12_in 2 = .ok (.if_icmp .lt 12, 3) := by decide +kernel
theorem dX12_in_5 : decode cX12_in 5 = .ok (.iload_n 0, 1) := by decide +kernel
theorem dX12_in_6 : decode cX12_in 6 = .ok (.iload_n 2, 1) := by decide +kernel
theorem dX12_in_7 : decode cX12_in 7 = .ok (.if_icmp .gt 7, 3) := by decide +kernel
theorem dX12_in_10 : decode cX12_in 10 = .ok (.iconst 1, 1) := by decide +kernel
theorem dX12_in_11 : decode cX12_in 11 = .ok (.goto 4, 3) := by decide +kernel
theorem dX12_in_14 : decode cX12_in 14 = .ok (.iconst 0, 1) := by decide +kernel
theorem dX12_in_15 : decode cX12_in 15 = .ok (.ireturn, 1) := by decide +kernel
theorem dX12_meets_0 : decode cX12_meets 0 = .ok (.aload_n 0, 1) := by decide +kernel
theorem dX12_meets_1 : decode cX12_meets 1 = .ok (.iload_n 1, 1) := by decide +kernel
theorem dX12_meets_2 : decode cX12_meets 2 = .ok (.putfield 108, 3) := by decide +kernel
theorem dX12_meets_5 : decode cX12_meets 5 = .ok (.aload_n 0, 1) := by decide +kernel
theorem dX12_meets_6 : decode cX12_meets 6 = .ok (.getfield 7, 3) := by decide +kernel
theorem dX12_meets_9 : decode cX12_meets 9 = .ok (.iload_n 1, 1) := by decide +kernel
theorem dX12_meets_10 : decode cX12_meets 10 = .ok (.dup2, 1) := by decide +kernel
theorem dX12_meets_11 : decode cX12_meets 11 = .ok (.iaload, 1) := by decide +kernel
theorem dX12_meets_12 : decode cX12_meets 12 = .ok (.iconst 1, 1) := by decide +kernel
theorem dX12_meets_13 : decode cX12_meets 13 = .ok (.iadd, 1) := by decide +kernel
theorem dX12_meets_14 : decode cX12_meets 14 = .ok (.iastore, 1) := by decide +kernel
theorem dX12_meets_15 : decode cX12_meets 15 = .ok (.bipush (-3), 2) := by decide +kernel
theorem dX12_meets_17 : decode cX12_meets 17 = .ok (.ireturn, 1) := by decide +kernel
theorem dX12_tell_0 : decode cX12_tell 0 = .ok (.aload_n 0, 1) := by decide +kernel
theorem dX12_tell_1 : decode cX12_tell 1 = .ok (.lload_n 1, 1) := by decide +kernel
theorem dX12_tell_2 : decode cX12_tell 2 = .ok (.putfield 111, 3) := by decide +kernel
theorem dX12_tell_5 : decode cX12_tell 5 = .ok (.iload_n 3, 1) := by decide +kernel
theorem dX12_tell_6 : decode cX12_tell 6 = .ok (.ireturn, 1) := by decide +kernel
theorem dX12_forget_0 : decode cX12_forget 0 = .ok (.aload_n 0, 1) := by decide +kernel
theorem dX12_forget_1 : decode cX12_forget 1 = .ok (.iconst 0, 1) := by decide +kernel
theorem dX12_forget_2 : decode cX12_forget 2 = .ok (.putfield 115, 3) := by decide +kernel
theorem dX12_forget_5 : decode cX12_forget 5 = .ok (.aload_n 0, 1) := by decide +kernel
theorem dX12_forget_6 : decode cX12_forget 6 = .ok (.iconst 0, 1) := by decide +kernel
theorem dX12_forget_7 : decode cX12_forget 7 = .ok (.putfield 118, 3) := by decide +kernel
theorem dX12_forget_10 : decode cX12_forget 10 = .ok (.iconst 0, 1) := by decide +kernel
theorem dX12_forget_11 : decode cX12_forget 11 = .ok (.istore_n 1, 1) := by decide +kernel
theorem dX12_forget_12 : decode cX12_forget 12 = .ok (.iload_n 1, 1) := by decide +kernel
theorem dX12_forget_13 : decode cX12_forget 13 = .ok (.bipush 36, 2) := by decide +kernel
theorem dX12_forget_15 : decode cX12_forget 15 = .ok (.if_icmp .ge 24, 3) := by decide +kernel
theorem dX12_forget_18 : decode cX12_forget 18 = .ok (.aload_n 0, 1) := by decide +kernel
theorem dX12_forget_19 : decode cX12_forget 19 = .ok (.getfield 39, 3) := by decide +kernel
theorem dX12_forget_22 : decode cX12_forget 22 = .ok (.iload_n 1, 1) := by decide +kernel
theorem dX12_forget_23 : decode cX12_forget 23 = .ok (.bipush (-9), 2) := by decide +kernel
theorem dX12_forget_25 : decode cX12_forget 25 = .ok (.iastore, 1) := by decide +kernel
theorem dX12_forget_26 : decode cX12_forget 26 = .ok (.aload_n 0, 1) := by decide +kernel
theorem dX12_forget_27 : decode cX12_forget 27 = .ok (.getfield 42, 3) := by decide +kernel
theorem dX12_forget_30 : decode cX12_forget 30 = .ok (.iload_n 1, 1) := by decide +kernel
theorem dX12_forget_31 : decode cX12_forget 31 = .ok (.iconst 0, 1) := by decide +kernel
theorem dX12_forget_32 : decode cX12_forget 32 = .ok (.iastore, 1) := by decide +kernel
theorem dX12_forget_33 : decode cX12_forget 33 = .ok (.iinc 1 1, 3) := by decide +kernel
theorem dX12_forget_36 : decode cX12_forget 36 = .ok (.goto (-24), 3) := by decide +kernel
theorem dX12_forget_39 : decode cX12_forget 39 = .ok (.return_, 1) := by decide +kernel
theorem dX12_net_0 : decode cX12_net 0 = .ok (.iload_n 1, 1) := by decide +kernel
theorem dX12_net_1 : decode cX12_net 1 = .ok (.iconst 2, 1) := by decide +kernel
theorem dX12_net_2 : decode cX12_net 2 = .ok (.bipush 6, 2) := by decide +kernel
theorem dX12_net_4 : decode cX12_net 4 = .ok (.invokestatic 122, 3) := by decide +kernel
theorem dX12_net_7 : decode cX12_net 7 = .ok (.ifCond .ne 5, 3) := by decide +kernel
theorem dX12_net_10 : decode cX12_net 10 = .ok (.iconst (-1), 1) := by decide +kernel
theorem dX12_net_11 : decode cX12_net 11 = .ok (.ireturn, 1) := by decide +kernel
theorem dX12_net_12 : decode cX12_net 12 = .ok (.aload_n 0, 1) := by decide +kernel
theorem dX12_net_13 : decode cX12_net 13 = .ok (.iload_n 1, 1) := by decide +kernel
theorem dX12_net_14 : decode cX12_net 14 = .ok (.putfield 13, 3) := by decide +kernel
theorem dX12_net_17 : decode cX12_net 17 = .ok (.aload_n 0, 1) := by decide +kernel
theorem dX12_net_18 : decode cX12_net 18 = .ok (.invokevirtual 105, 3) := by decide +kernel
theorem dX12_net_21 : decode cX12_net 21 = .ok (.iload_n 1, 1) := by decide +kernel
theorem dX12_net_22 : decode cX12_net 22 = .ok (.ireturn, 1) := by decide +kernel
theorem dX12_isKnot_0 : decode cX12_isKnot 0 = .ok (.iload_n 1, 1) := by decide +kernel
theorem dX12_isKnot_1 : decode cX12_isKnot 1 = .ok (.iconst 0, 1) := by decide +kernel
theorem dX12_isKnot_2 : decode cX12_isKnot 2 = .ok (.aload_n 0, 1) := by decide +kernel
theorem dX12_isKnot_3 : decode cX12_isKnot 3 = .ok (.getfield 13, 3) := by decide +kernel
theorem dX12_isKnot_6 : decode cX12_isKnot 6 = .ok (.iconst 1, 1) := by decide +kernel
theorem dX12_isKnot_7 : decode cX12_isKnot 7 = .ok (.isub, 1) := by decide +kernel
theorem dX12_isKnot_8 : decode cX12_isKnot 8 = .ok (.invokestatic 122, 3) := by decide +kernel
theorem dX12_isKnot_11 : decode cX12_isKnot 11 = .ok (.ireturn, 1) := by decide +kernel
theorem dX12_isLine_0 : decode cX12_isLine 0 = .ok (.iload_n 1, 1) := by decide +kernel
theorem dX12_isLine_1 : decode cX12_isLine 1 = .ok (.iconst 0, 1) := by decide +kernel
theorem dX12_isLine_2 : decode cX12_isLine 2 = .ok (.aload_n 0, 1) := by decide +kernel
theorem dX12_isLine_3 : decode cX12_isLine 3 = .ok (.getfield 115, 3) := by decide +kernel
theorem dX12_isLine_6 : decode cX12_isLine 6 = .ok (.iconst 1, 1) := by decide +kernel
theorem dX12_isLine_7 : decode cX12_isLine 7 = .ok (.isub, 1) := by decide +kernel
theorem dX12_isLine_8 : decode cX12_isLine 8 = .ok (.invokestatic 122, 3) := by decide +kernel
theorem dX12_isLine_11 : decode cX12_isLine 11 = .ok (.ireturn, 1) := by decide +kernel
theorem dX12_line_0 : decode cX12_line 0 = .ok (.iload_n 1, 1) := by decide +kernel
theorem dX12_line_1 : decode cX12_line 1 = .ok (.iconst 0, 1) := by decide +kernel
theorem dX12_line_2 : decode cX12_line 2 = .ok (.iconst 3, 1) := by decide +kernel
theorem dX12_line_3 : decode cX12_line 3 = .ok (.invokestatic 122, 3) := by decide +kernel
theorem dX12_line_6 : decode cX12_line 6 = .ok (.ifCond .eq 24, 3) := by decide +kernel
theorem dX12_line_9 : decode cX12_line 9 = .ok (.aload_n 0, 1) := by decide +kernel
theorem dX12_line_10 : decode cX12_line 10 = .ok (.iload_n 2, 1) := by decide +kernel
theorem dX12_line_11 : decode cX12_line 11 = .ok (.invokevirtual 126, 3) := by decide +kernel
theorem dX12_line_14 : decode cX12_line 14 = .ok (.ifCond .eq 16, 3) := by decide +kernel
theorem dX12_line_17 : decode cX12_line 17 = .ok (.aload_n 0, 1) := by decide +kernel
theorem dX12_line_18 : decode cX12_line 18 = .ok (.iload_n 3, 1) := by decide +kernel
theorem dX12_line_19 : decode cX12_line 19 = .ok (.invokevirtual 126, 3) := by decide +kernel
theorem dX12_line_22 : decode cX12_line 22 = .ok (.ifCond .eq 8, 3) := by decide +kernel
theorem dX12_line_25 : decode cX12_line 25 = .ok (.iload_n 2, 1) := by decide +kernel
theorem dX12_line_26 : decode cX12_line 26 = .ok (.iload_n 3, 1) := by decide +kernel
theorem dX12_line_27 : decode cX12_line 27 = .ok (.if_icmp .ne 5, 3) := by decide +kernel
theorem dX12_line_30 : decode cX12_line 30 = .ok (.iconst (-1), 1) := by decide +kernel
theorem dX12_line_31 : decode cX12_line 31 = .ok (.ireturn, 1) := by decide +kernel
theorem dX12_line_32 : decode cX12_line 32 = .ok (.aload_n 0, 1) := by decide +kernel
theorem dX12_line_33 : decode cX12_line 33 = .ok (.getfield 115, 3) := by decide +kernel
theorem dX12_line_36 : decode cX12_line 36 = .ok (.bipush 12, 2) := by decide +kernel
theorem dX12_line_38 : decode cX12_line 38 = .ok (.if_icmp .ne 6, 3) := by decide +kernel
theorem dX12_line_41 : decode cX12_line 41 = .ok (.bipush (-2), 2) := by decide +kernel
theorem dX12_line_43 : decode cX12_line 43 = .ok (.ireturn, 1) := by decide +kernel
theorem dX12_line_44 : decode cX12_line 44 = .ok (.aload_n 0, 1) := by decide +kernel
theorem dX12_line_45 : decode cX12_line 45 = .ok (.getfield 17, 3) := by decide +kernel
theorem dX12_line_48 : decode cX12_line 48 = .ok (.aload_n 0, 1) := by decide +kernel
theorem dX12_line_49 : decode cX12_line 49 = .ok (.getfield 115, 3) := by decide +kernel
theorem dX12_line_52 : decode cX12_line 52 = .ok (.iload_n 1, 1) := by decide +kernel
theorem dX12_line_53 : decode cX12_line 53 = .ok (.iastore, 1) := by decide +kernel
theorem dX12_line_54 : decode cX12_line 54 = .ok (.aload_n 0, 1) := by decide +kernel
theorem dX12_line_55 : decode cX12_line 55 = .ok (.getfield 20, 3) := by decide +kernel
theorem dX12_line_58 : decode cX12_line 58 = .ok (.aload_n 0, 1) := by decide +kernel
theorem dX12_line_59 : decode cX12_line 59 = .ok (.getfield 115, 3) := by decide +kernel
theorem dX12_line_62 : decode cX12_line 62 = .ok (.iload_n 2, 1) := by decide +kernel
theorem dX12_line_63 : decode cX12_line 63 = .ok (.iastore, 1) := by decide +kernel
theorem dX12_line_64 : decode cX12_line 64 = .ok (.aload_n 0, 1) := by decide +kernel
theorem dX12_line_65 : decode cX12_line 65 = .ok (.getfield 23, 3) := by decide +kernel
theorem dX12_line_68 : decode cX12_line 68 = .ok (.aload_n 0, 1) := by decide +kernel
theorem dX12_line_69 : decode cX12_line 69 = .ok (.getfield 115, 3) := by decide +kernel
theorem dX12_line_72 : decode cX12_line 72 = .ok (.iload_n 3, 1) := by decide +kernel
theorem dX12_line_73 : decode cX12_line 73 = .ok (.iastore, 1) := by decide +kernel
theorem dX12_line_74 : decode cX12_line 74 = .ok (.aload_n 0, 1) := by decide +kernel
theorem dX12_line_75 : decode cX12_line 75 = .ok (.getfield 26, 3) := by decide +kernel
theorem dX12_line_78 : decode cX12_line 78 = .ok (.aload_n 0, 1) := by decide +kernel
theorem dX12_line_79 : decode cX12_line 79 = .ok (.getfield 115, 3) := by decide +kernel
theorem dX12_line_82 : decode cX12_line 82 = .ok (.iconst 0, 1) := by decide +kernel
theorem dX12_line_83 : decode cX12_line 83 = .ok (.bastore, 1) := by decide +kernel
theorem dX12_line_84 : decode cX12_line 84 = .ok (.aload_n 0, 1) := by decide +kernel
theorem dX12_line_85 : decode cX12_line 85 = .ok (.getfield 30, 3) := by decide +kernel
theorem dX12_line_88 : decode cX12_line 88 = .ok (.aload_n 0, 1) := by decide +kernel
theorem dX12_line_89 : decode cX12_line 89 = .ok (.getfield 115, 3) := by decide +kernel
theorem dX12_line_92 : decode cX12_line 92 = .ok (.bipush 100, 2) := by decide +kernel
theorem dX12_line_94 : decode cX12_line 94 = .ok (.iastore, 1) := by decide +kernel
theorem dX12_line_95 : decode cX12_line 95 = .ok (.aload_n 0, 1) := by decide +kernel
theorem dX12_line_96 : decode cX12_line 96 = .ok (.getfield 33, 3) := by decide +kernel
theorem dX12_line_99 : decode cX12_line 99 = .ok (.aload_n 0, 1) := by decide +kernel
theorem dX12_line_100 : decode cX12_line 100 = .ok (.getfield 115, 3) := by decide +kernel
theorem dX12_line_103 : decode cX12_line 103 = .ok (.bipush (-9), 2) := by decide +kernel
theorem dX12_line_105 : decode cX12_line 105 = .ok (.iastore, 1) := by decide +kernel
theorem dX12_line_106 : decode cX12_line 106 = .ok (.iconst 0, 1) := by decide +kernel
theorem dX12_line_107 : decode cX12_line 107 = .ok (.istore 4, 2) := by decide +kernel
theorem dX12_line_109 : decode cX12_line 109 = .ok (.iload 4, 2) := by decide +kernel
theorem dX12_line_111 : decode cX12_line 111 = .ok (.bipush 24, 2) := by decide +kernel
theorem dX12_line_113 : decode cX12_line 113 = .ok (.if_icmp .ge 26, 3) := by decide +kernel
theorem dX12_line_116 : decode cX12_line 116 = .ok (.aload_n 0, 1) := by decide +kernel
theorem dX12_line_117 : decode cX12_line 117 = .ok (.getfield 36, 3) := by decide +kernel
theorem dX12_line_120 : decode cX12_line 120 = .ok (.bipush 24, 2) := by decide +kernel
theorem dX12_line_122 : decode cX12_line 122 = .ok (.aload_n 0, 1) := by decide +kernel
theorem dX12_line_123 : decode cX12_line 123 = .ok (.getfield 115, 3) := by decide +kernel
theorem dX12_line_126 : decode cX12_line 126 = .ok (.imul, 1) := by decide +kernel
theorem dX12_line_127 : decode cX12_line 127 = .ok (.iload 4, 2) := by decide +kernel
theorem dX12_line_129 : decode cX12_line 129 = .ok (.iadd, 1) := by decide +kernel
theorem dX12_line_130 : decode cX12_line 130 = .ok (.bipush (-9), 2) := by decide +kernel
theorem dX12_line_132 : decode cX12_line 132 = .ok (.iastore, 1) := by decide +kernel
theorem dX12_line_133 : decode cX12_line 133 = .ok (.iinc 4 1, 3) := by decide +kernel
theorem dX12_line_136 : decode cX12_line 136 = .ok (.goto (-27), 3) := by decide +kernel
theorem dX12_line_139 : decode cX12_line 139 = .ok (.aload_n 0, 1) := by decide +kernel
theorem dX12_line_140 : decode cX12_line 140 = .ok (.dup, 1) := by decide +kernel
theorem dX12_line_141 : decode cX12_line 141 = .ok (.getfield 115, 3) := by decide +kernel
theorem dX12_line_144 : decode cX12_line 144 = .ok (.iconst 1, 1) := by decide +kernel
theorem dX12_line_145 : decode cX12_line 145 = .ok (.iadd, 1) := by decide +kernel
theorem dX12_line_146 : decode cX12_line 146 = .ok (.putfield 115, 3) := by decide +kernel
theorem dX12_line_149 : decode cX12_line 149 = .ok (.aload_n 0, 1) := by decide +kernel
theorem dX12_line_150 : decode cX12_line 150 = .ok (.getfield 115, 3) := by decide +kernel
theorem dX12_line_153 : decode cX12_line 153 = .ok (.iconst 1, 1) := by decide +kernel
theorem dX12_line_154 : decode cX12_line 154 = .ok (.isub, 1) := by decide +kernel
theorem dX12_line_155 : decode cX12_line 155 = .ok (.ireturn, 1) := by decide +kernel
theorem dX12_tells_0 : decode cX12_tells 0 = .ok (.iload_n 2, 1) := by decide +kernel
theorem dX12_tells_1 : decode cX12_tells 1 = .ok (.tableswitch 78 0 4 #[35, 42, 49, 56, 71], 35) := by decide +kernel
theorem dX12_tells_36 : decode cX12_tells 36 = .ok (.aload_n 0, 1) := by decide +kernel
theorem dX12_tells_37 : decode cX12_tells 37 = .ok (.getfield 17, 3) := by decide +kernel
theorem dX12_tells_40 : decode cX12_tells 40 = .ok (.iload_n 1, 1) := by decide +kernel
theorem dX12_tells_41 : decode cX12_tells 41 = .ok (.iaload, 1) := by decide +kernel
theorem dX12_tells_42 : decode cX12_tells 42 = .ok (.ireturn, 1) := by decide +kernel
theorem dX12_tells_43 : decode cX12_tells 43 = .ok (.aload_n 0, 1) := by decide +kernel
theorem dX12_tells_44 : decode cX12_tells 44 = .ok (.getfield 20, 3) := by decide +kernel
theorem dX12_tells_47 : decode cX12_tells 47 = .ok (.iload_n 1, 1) := by decide +kernel
theorem dX12_tells_48 : decode cX12_tells 48 = .ok (.iaload, 1) := by decide +kernel
theorem dX12_tells_49 : decode cX12_tells 49 = .ok (.ireturn, 1) := by decide +kernel
theorem dX12_tells_50 : decode cX12_tells 50 = .ok (.aload_n 0, 1) := by decide +kernel
theorem dX12_tells_51 : decode cX12_tells 51 = .ok (.getfield 23, 3) := by decide +kernel
theorem dX12_tells_54 : decode cX12_tells 54 = .ok (.iload_n 1, 1) := by decide +kernel
theorem dX12_tells_55 : decode cX12_tells 55 = .ok (.iaload, 1) := by decide +kernel
theorem dX12_tells_56 : decode cX12_tells 56 = .ok (.ireturn, 1) := by decide +kernel
theorem dX12_tells_57 : decode cX12_tells 57 = .ok (.aload_n 0, 1) := by decide +kernel
theorem dX12_tells_58 : decode cX12_tells 58 = .ok (.getfield 26, 3) := by decide +kernel
theorem dX12_tells_61 : decode cX12_tells 61 = .ok (.iload_n 1, 1) := by decide +kernel
theorem dX12_tells_62 : decode cX12_tells 62 = .ok (.baload, 1) := by decide +kernel
theorem dX12_tells_63 : decode cX12_tells 63 = .ok (.ifCond .eq 7, 3) := by decide +kernel
theorem dX12_tells_66 : decode cX12_tells 66 = .ok (.iconst 1, 1) := by decide +kernel
theorem dX12_tells_67 : decode cX12_tells 67 = .ok (.goto 4, 3) := by decide +kernel
theorem dX12_tells_70 : decode cX12_tells 70 = .ok (.iconst 0, 1) := by decide +kernel
theorem dX12_tells_71 : decode cX12_tells 71 = .ok (.ireturn, 1) := by decide +kernel
theorem dX12_tells_72 : decode cX12_tells 72 = .ok (.aload_n 0, 1) := by decide +kernel
theorem dX12_tells_73 : decode cX12_tells 73 = .ok (.getfield 33, 3) := by decide +kernel
theorem dX12_tells_76 : decode cX12_tells 76 = .ok (.iload_n 1, 1) := by decide +kernel
theorem dX12_tells_77 : decode cX12_tells 77 = .ok (.iaload, 1) := by decide +kernel
theorem dX12_tells_78 : decode cX12_tells 78 = .ok (.ireturn, 1) := by decide +kernel
theorem dX12_tells_79 : decode cX12_tells 79 = .ok (.aload_n 0, 1) := by decide +kernel
theorem dX12_tells_80 : decode cX12_tells 80 = .ok (.getfield 30, 3) := by decide +kernel
theorem dX12_tells_83 : decode cX12_tells 83 = .ok (.iload_n 1, 1) := by decide +kernel
theorem dX12_tells_84 : decode cX12_tells 84 = .ok (.iaload, 1) := by decide +kernel
theorem dX12_tells_85 : decode cX12_tells 85 = .ok (.ireturn, 1) := by decide +kernel
theorem dX12_told_0 : decode cX12_told 0 = .ok (.aload_n 0, 1) := by decide +kernel
theorem dX12_told_1 : decode cX12_told 1 = .ok (.iload_n 1, 1) := by decide +kernel
theorem dX12_told_2 : decode cX12_told 2 = .ok (.invokevirtual 130, 3) := by decide +kernel
theorem dX12_told_5 : decode cX12_told 5 = .ok (.ifCond .eq 21, 3) := by decide +kernel
theorem dX12_told_8 : decode cX12_told 8 = .ok (.iload_n 2, 1) := by decide +kernel
theorem dX12_told_9 : decode cX12_told 9 = .ok (.iconst 0, 1) := by decide +kernel
theorem dX12_told_10 : decode cX12_told 10 = .ok (.iconst 5, 1) := by decide +kernel
theorem dX12_told_11 : decode cX12_told 11 = .ok (.invokestatic 122, 3) := by decide +kernel
theorem dX12_told_14 : decode cX12_told 14 = .ok (.ifCond .eq 12, 3) := by decide +kernel
theorem dX12_told_17 : decode cX12_told 17 = .ok (.aload_n 0, 1) := by decide +kernel
theorem dX12_told_18 : decode cX12_told 18 = .ok (.iload_n 1, 1) := by decide +kernel
theorem dX12_told_19 : decode cX12_told 19 = .ok (.iload_n 2, 1) := by decide +kernel
theorem dX12_told_20 : decode cX12_told 20 = .ok (.invokevirtual 133, 3) := by decide +kernel
theorem dX12_told_23 : decode cX12_told 23 = .ok (.goto 4, 3) := by decide +kernel
theorem dX12_told_26 : decode cX12_told 26 = .ok (.iconst (-1), 1) := by decide +kernel
theorem dX12_told_27 : decode cX12_told 27 = .ok (.ireturn, 1) := by decide +kernel
theorem dX12_counts_0 : decode cX12_counts 0 = .ok (.aload_n 0, 1) := by decide +kernel
theorem dX12_counts_1 : decode cX12_counts 1 = .ok (.getfield 17, 3) := by decide +kernel
theorem dX12_counts_4 : decode cX12_counts 4 = .ok (.iload_n 1, 1) := by decide +kernel
theorem dX12_counts_5 : decode cX12_counts 5 = .ok (.iaload, 1) := by decide +kernel
theorem dX12_counts_6 : decode cX12_counts 6 = .ok (.iconst 1, 1) := by decide +kernel
theorem dX12_counts_7 : decode cX12_counts 7 = .ok (.if_icmp .eq 13, 3) := by decide +kernel
theorem dX12_counts_10 : decode cX12_counts 10 = .ok (.aload_n 0, 1) := by decide +kernel
theorem dX12_counts_11 : decode cX12_counts 11 = .ok (.getfield 17, 3) := by decide +kernel
theorem dX12_counts_14 : decode cX12_counts 14 = .ok (.iload_n 1, 1) := by decide +kernel
theorem dX12_counts_15 : decode cX12_counts 15 = .ok (.iaload, 1) := by decide +kernel
theorem dX12_counts_16 : decode cX12_counts 16 = .ok (.iconst 2, 1) := by decide +kernel
theorem dX12_counts_17 : decode cX12_counts 17 = .ok (.if_icmp .ne 7, 3) := by decide +kernel
theorem dX12_counts_20 : decode cX12_counts 20 = .ok (.iconst 1, 1) := by decide +kernel
theorem dX12_counts_21 : decode cX12_counts 21 = .ok (.goto 4, 3) := by decide +kernel
theorem dX12_counts_24 : decode cX12_counts 24 = .ok (.iconst 0, 1) := by decide +kernel
theorem dX12_counts_25 : decode cX12_counts 25 = .ok (.ireturn, 1) := by decide +kernel
theorem dX12_counterOf_0 : decode cX12_counterOf 0 = .ok (.aload_n 0, 1) := by decide +kernel
theorem dX12_counterOf_1 : decode cX12_counterOf 1 = .ok (.getfield 17, 3) := by decide +kernel
theorem dX12_counterOf_4 : decode cX12_counterOf 4 = .ok (.iload_n 1, 1) := by decide +kernel
theorem dX12_counterOf_5 : decode cX12_counterOf 5 = .ok (.iaload, 1) := by decide +kernel
theorem dX12_counterOf_6 : decode cX12_counterOf 6 = .ok (.iconst 1, 1) := by decide +kernel
theorem dX12_counterOf_7 : decode cX12_counterOf 7 = .ok (.if_icmp .ne 9, 3) := by decide +kernel
theorem dX12_counterOf_10 : decode cX12_counterOf 10 = .ok (.sipush 256, 3) := by decide +kernel
theorem dX12_counterOf_13 : decode cX12_counterOf 13 = .ok (.goto 5, 3) := by decide +kernel
theorem dX12_counterOf_16 : decode cX12_counterOf 16 = .ok (.ldc 137, 2) := by decide +kernel
theorem dX12_counterOf_18 : decode cX12_counterOf 18 = .ok (.ireturn, 1) := by decide +kernel
theorem dX12_had_0 : decode cX12_had 0 = .ok (.iconst 0, 1) := by decide +kernel
theorem dX12_had_1 : decode cX12_had 1 = .ok (.istore_n 2, 1) := by decide +kernel
theorem dX12_had_2 : decode cX12_had 2 = .ok (.iconst 0, 1) := by decide +kernel
theorem dX12_had_3 : decode cX12_had 3 = .ok (.istore_n 3, 1) := by decide +kernel
theorem dX12_had_4 : decode cX12_had 4 = .ok (.iload_n 3, 1) := by decide +kernel
theorem dX12_had_5 : decode cX12_had 5 = .ok (.bipush 24, 2) := by decide +kernel
theorem dX12_had_7 : decode cX12_had 7 = .ok (.if_icmp .ge 33, 3) := by decide +kernel
theorem dX12_had_10 : decode cX12_had 10 = .ok (.iload_n 2, 1) := by decide +kernel
theorem dX12_had_11 : decode cX12_had 11 = .ok (.aload_n 0, 1) := by decide +kernel
theorem dX12_had_12 : decode cX12_had 12 = .ok (.getfield 36, 3) := by decide +kernel
theorem dX12_had_15 : decode cX12_had 15 = .ok (.bipush 24, 2) := by decide +kernel
theorem dX12_had_17 : decode cX12_had 17 = .ok (.iload_n 1, 1) := by decide +kernel
theorem dX12_had_18 : decode cX12_had 18 = .ok (.imul, 1) := by decide +kernel
theorem dX12_had_19 : decode cX12_had 19 = .ok (.iload_n 3, 1) := by decide +kernel
theorem dX12_had_20 : decode cX12_had 20 = .ok (.iadd, 1) := by decide +kernel
theorem dX12_had_21 : decode cX12_had 21 = .ok (.iaload, 1) := by decide +kernel
theorem dX12_had_22 : decode cX12_had 22 = .ok (.bipush (-9), 2) := by decide +kernel
theorem dX12_had_24 : decode cX12_had 24 = .ok (.if_icmp .eq 7, 3) := by decide +kernel
theorem dX12_had_27 : decode cX12_had 27 = .ok (.iconst 1, 1) := by decide +kernel
theorem dX12_had_28 : decode cX12_had 28 = .ok (.goto 4, 3) := by decide +kernel
theorem dX12_had_31 : decode cX12_had 31 = .ok (.iconst 0, 1) := by decide +kernel
theorem dX12_had_32 : decode cX12_had 32 = .ok (.iadd, 1) := by decide +kernel
theorem dX12_had_33 : decode cX12_had 33 = .ok (.istore_n 2, 1) := by decide +kernel
theorem dX12_had_34 : decode cX12_had 34 = .ok (.iinc 3 1, 3) := by decide +kernel
theorem dX12_had_37 : decode cX12_had 37 = .ok (.goto (-33), 3) := by decide +kernel
theorem dX12_had_40 : decode cX12_had 40 = .ok (.iload_n 2, 1) := by decide +kernel
theorem dX12_had_41 : decode cX12_had 41 = .ok (.ireturn, 1) := by decide +kernel
theorem dX12_mark_0 : decode cX12_mark 0 = .ok (.aload_n 0, 1) := by decide +kernel
theorem dX12_mark_1 : decode cX12_mark 1 = .ok (.iload_n 1, 1) := by decide +kernel
theorem dX12_mark_2 : decode cX12_mark 2 = .ok (.invokevirtual 130, 3) := by decide +kernel
theorem dX12_mark_5 : decode cX12_mark 5 = .ok (.ifCond .eq 12, 3) := by decide +kernel
theorem dX12_mark_8 : decode cX12_mark 8 = .ok (.iload_n 2, 1) := by decide +kernel
theorem dX12_mark_9 : decode cX12_mark 9 = .ok (.iconst 1, 1) := by decide +kernel
theorem dX12_mark_10 : decode cX12_mark 10 = .ok (.iconst 3, 1) := by decide +kernel
theorem dX12_mark_11 : decode cX12_mark 11 = .ok (.invokestatic 122, 3) := by decide +kernel
theorem dX12_mark_14 : decode cX12_mark 14 = .ok (.ifCond .ne 5, 3) := by decide +kernel
theorem dX12_mark_17 : decode cX12_mark 17 = .ok (.iconst (-1), 1) := by decide +kernel
theorem dX12_mark_18 : decode cX12_mark 18 = .ok (.ireturn, 1) := by decide +kernel
theorem dX12_mark_19 : decode cX12_mark 19 = .ok (.aload_n 0, 1) := by decide +kernel
theorem dX12_mark_20 : decode cX12_mark 20 = .ok (.getfield 17, 3) := by decide +kernel
theorem dX12_mark_23 : decode cX12_mark 23 = .ok (.iload_n 1, 1) := by decide +kernel
theorem dX12_mark_24 : decode cX12_mark 24 = .ok (.iaload, 1) := by decide +kernel
theorem dX12_mark_25 : decode cX12_mark 25 = .ok (.istore_n 3, 1) := by decide +kernel
theorem dX12_mark_26 : decode cX12_mark 26 = .ok (.iload_n 2, 1) := by decide +kernel
theorem dX12_mark_27 : decode cX12_mark 27 = .ok (.iload_n 3, 1) := by decide +kernel
theorem dX12_mark_28 : decode cX12_mark 28 = .ok (.if_icmp .eq 19, 3) := by decide +kernel
theorem dX12_mark_31 : decode cX12_mark 31 = .ok (.iload_n 2, 1) := by decide +kernel
theorem dX12_mark_32 : decode cX12_mark 32 = .ok (.iconst 1, 1) := by decide +kernel
theorem dX12_mark_33 : decode cX12_mark 33 = .ok (.if_icmp .ne 8, 3) := by decide +kernel
theorem dX12_mark_36 : decode cX12_mark 36 = .ok (.iload_n 3, 1) := by decide +kernel
theorem dX12_mark_37 : decode cX12_mark 37 = .ok (.iconst 2, 1) := by decide +kernel
theorem dX12_mark_38 : decode cX12_mark 38 = .ok (.if_icmp .eq 9, 3) := by decide +kernel
theorem dX12_mark_41 : decode cX12_mark 41 = .ok (.aload_n 0, 1) := by decide +kernel
theorem dX12_mark_42 : decode cX12_mark 42 = .ok (.iconst 3, 1) := by decide +kernel
theorem dX12_mark_43 : decode cX12_mark 43 = .ok (.invokevirtual 138, 3) := by decide +kernel
theorem dX12_mark_46 : decode cX12_mark 46 = .ok (.ireturn, 1) := by decide +kernel
theorem dX12_mark_47 : decode cX12_mark 47 = .ok (.iload_n 2, 1) := by decide +kernel
theorem dX12_mark_48 : decode cX12_mark 48 = .ok (.iconst 1, 1) := by decide +kernel
theorem dX12_mark_49 : decode cX12_mark 49 = .ok (.if_icmp .ne 9, 3) := by decide +kernel
theorem dX12_mark_52 : decode cX12_mark 52 = .ok (.aload_n 0, 1) := by decide +kernel
theorem dX12_mark_53 : decode cX12_mark 53 = .ok (.iload_n 1, 1) := by decide +kernel
theorem dX12_mark_54 : decode cX12_mark 54 = .ok (.invokevirtual 142, 3) := by decide +kernel
theorem dX12_mark_57 : decode cX12_mark 57 = .ok (.ireturn, 1) := by decide +kernel
theorem dX12_mark_58 : decode cX12_mark 58 = .ok (.iload_n 2, 1) := by decide +kernel
theorem dX12_mark_59 : decode cX12_mark 59 = .ok (.iconst 2, 1) := by decide +kernel
theorem dX12_mark_60 : decode cX12_mark 60 = .ok (.if_icmp .ne 9, 3) := by decide +kernel
theorem dX12_mark_63 : decode cX12_mark 63 = .ok (.aload_n 0, 1) := by decide +kernel
theorem dX12_mark_64 : decode cX12_mark 64 = .ok (.iload_n 1, 1) := by decide +kernel
theorem dX12_mark_65 : decode cX12_mark 65 = .ok (.invokevirtual 145, 3) := by decide +kernel
theorem dX12_mark_68 : decode cX12_mark 68 = .ok (.ireturn, 1) := by decide +kernel
theorem dX12_mark_69 : decode cX12_mark 69 = .ok (.iconst 0, 1) := by decide +kernel
theorem dX12_mark_70 : decode cX12_mark 70 = .ok (.istore 4, 2) := by decide +kernel
theorem dX12_mark_72 : decode cX12_mark 72 = .ok (.aload_n 0, 1) := by decide +kernel
theorem dX12_mark_73 : decode cX12_mark 73 = .ok (.bipush (-9), 2) := by decide +kernel
theorem dX12_mark_75 : decode cX12_mark 75 = .ok (.invokevirtual 148, 3) := by decide +kernel
theorem dX12_mark_78 : decode cX12_mark 78 = .ok (.iconst 0, 1) := by decide +kernel
theorem dX12_mark_79 : decode cX12_mark 79 = .ok (.istore 5, 2) := by decide +kernel
theorem dX12_mark_81 : decode cX12_mark 81 = .ok (.iload 5, 2) := by decide +kernel
theorem dX12_mark_83 : decode cX12_mark 83 = .ok (.aload_n 0, 1) := by decide +kernel
theorem dX12_mark_84 : decode cX12_mark 84 = .ok (.getfield 13, 3) := by decide +kernel
theorem dX12_mark_87 : decode cX12_mark 87 = .ok (.aload_n 0, 1) := by decide +kernel
theorem dX12_mark_88 : decode cX12_mark 88 = .ok (.getfield 13, 3) := by decide +kernel
theorem dX12_mark_91 : decode cX12_mark 91 = .ok (.imul, 1) := by decide +kernel
theorem dX12_mark_92 : decode cX12_mark 92 = .ok (.if_icmp .ge 44, 3) := by decide +kernel
theorem dX12_mark_95 : decode cX12_mark 95 = .ok (.iload 4, 2) := by decide +kernel
theorem dX12_mark_97 : decode cX12_mark 97 = .ok (.aload_n 0, 1) := by decide +kernel
theorem dX12_mark_98 : decode cX12_mark 98 = .ok (.getfield 48, 3) := by decide +kernel
theorem dX12_mark_101 : decode cX12_mark 101 = .ok (.iload 5, 2) := by decide +kernel
theorem dX12_mark_103 : decode cX12_mark 103 = .ok (.iaload, 1) := by decide +kernel
theorem dX12_mark_104 : decode cX12_mark 104 = .ok (.ifCond .lt 22, 3) := by decide +kernel
theorem dX12_mark_107 : decode cX12_mark 107 = .ok (.aload_n 0, 1) := by decide +kernel
theorem dX12_mark_108 : decode cX12_mark 108 = .ok (.getfield 48, 3) := by decide +kernel
theorem dX12_mark_111 : decode cX12_mark 111 = .ok (.iload 5, 2) := by decide +kernel
theorem dX12_mark_113 : decode cX12_mark 113 = .ok (.iaload, 1) := by decide +kernel
theorem dX12_mark_114 : decode cX12_mark 114 = .ok (.iload_n 1, 1) := by decide +kernel
theorem dX12_mark_115 : decode cX12_mark 115 = .ok (.ishr, 1) := by decide +kernel
theorem dX12_mark_116 : decode cX12_mark 116 = .ok (.iconst 1, 1) := by decide +kernel
theorem dX12_mark_117 : decode cX12_mark 117 = .ok (.iand, 1) := by decide +kernel
theorem dX12_mark_118 : decode cX12_mark 118 = .ok (.iconst 1, 1) := by decide +kernel
theorem dX12_mark_119 : decode cX12_mark 119 = .ok (.if_icmp .ne 7, 3) := by decide +kernel
theorem dX12_mark_122 : decode cX12_mark 122 = .ok (.iconst 1, 1) := by decide +kernel
theorem dX12_mark_123 : decode cX12_mark 123 = .ok (.goto 4, 3) := by decide +kernel
theorem dX12_mark_126 : decode cX12_mark 126 = .ok (.iconst 0, 1) := by decide +kernel
theorem dX12_mark_127 : decode cX12_mark 127 = .ok (.iadd, 1) := by decide +kernel
theorem dX12_mark_128 : decode cX12_mark 128 = .ok (.istore 4, 2) := by decide +kernel
theorem dX12_mark_130 : decode cX12_mark 130 = .ok (.iinc 5 1, 3) := by decide +kernel
theorem dX12_mark_133 : decode cX12_mark 133 = .ok (.goto (-52), 3) := by decide +kernel
theorem dX12_mark_136 : decode cX12_mark 136 = .ok (.iload 4, 2) := by decide +kernel
theorem dX12_mark_138 : decode cX12_mark 138 = .ok (.ireturn, 1) := by decide +kernel
theorem dX12_down_0 : decode cX12_down 0 = .ok (.aload_n 0, 1) := by decide +kernel
theorem dX12_down_1 : decode cX12_down 1 = .ok (.iload_n 1, 1) := by decide +kernel
theorem dX12_down_2 : decode cX12_down 2 = .ok (.invokevirtual 130, 3) := by decide +kernel
theorem dX12_down_5 : decode cX12_down 5 = .ok (.ifCond .ne 5, 3) := by decide +kernel
theorem dX12_down_8 : decode cX12_down 8 = .ok (.iconst (-1), 1) := by decide +kernel
theorem dX12_down_9 : decode cX12_down 9 = .ok (.ireturn, 1) := by decide +kernel
theorem dX12_down_10 : decode cX12_down 10 = .ok (.aload_n 0, 1) := by decide +kernel
theorem dX12_down_11 : decode cX12_down 11 = .ok (.getfield 26, 3) := by decide +kernel
theorem dX12_down_14 : decode cX12_down 14 = .ok (.iload_n 1, 1) := by decide +kernel
theorem dX12_down_15 : decode cX12_down 15 = .ok (.baload, 1) := by decide +kernel
theorem dX12_down_16 : decode cX12_down 16 = .ok (.ifCond .eq 7, 3) := by decide +kernel
theorem dX12_down_19 : decode cX12_down 19 = .ok (.iconst 1, 1) := by decide +kernel
theorem dX12_down_20 : decode cX12_down 20 = .ok (.goto 4, 3) := by decide +kernel
theorem dX12_down_23 : decode cX12_down 23 = .ok (.iconst 0, 1) := by decide +kernel
theorem dX12_down_24 : decode cX12_down 24 = .ok (.istore_n 3, 1) := by decide +kernel
theorem dX12_down_25 : decode cX12_down 25 = .ok (.aload_n 0, 1) := by decide +kernel
theorem dX12_down_26 : decode cX12_down 26 = .ok (.getfield 26, 3) := by decide +kernel
theorem dX12_down_29 : decode cX12_down 29 = .ok (.iload_n 1, 1) := by decide +kernel
theorem dX12_down_30 : decode cX12_down 30 = .ok (.iload_n 2, 1) := by decide +kernel
theorem dX12_down_31 : decode cX12_down 31 = .ok (.bastore, 1) := by decide +kernel
theorem dX12_down_32 : decode cX12_down 32 = .ok (.iload_n 3, 1) := by decide +kernel
theorem dX12_down_33 : decode cX12_down 33 = .ok (.ireturn, 1) := by decide +kernel
theorem dX12_rate_0 : decode cX12_rate 0 = .ok (.aload_n 0, 1) := by decide +kernel
theorem dX12_rate_1 : decode cX12_rate 1 = .ok (.iload_n 1, 1) := by decide +kernel
theorem dX12_rate_2 : decode cX12_rate 2 = .ok (.invokevirtual 130, 3) := by decide +kernel
theorem dX12_rate_5 : decode cX12_rate 5 = .ok (.ifCond .eq 13, 3) := by decide +kernel
theorem dX12_rate_8 : decode cX12_rate 8 = .ok (.iload_n 2, 1) := by decide +kernel
theorem dX12_rate_9 : decode cX12_rate 9 = .ok (.iconst 0, 1) := by decide +kernel
theorem dX12_rate_10 : decode cX12_rate 10 = .ok (.ldc 152, 2) := by decide +kernel
theorem dX12_rate_12 : decode cX12_rate 12 = .ok (.invokestatic 122, 3) := by decide +kernel
theorem dX12_rate_15 : decode cX12_rate 15 = .ok (.ifCond .ne 5, 3) := by decide +kernel
theorem dX12_rate_18 : decode cX12_rate 18 = .ok (.iconst (-1), 1) := by decide +kernel
theorem dX12_rate_19 : decode cX12_rate 19 = .ok (.ireturn, 1) := by decide +kernel
theorem dX12_rate_20 : decode cX12_rate 20 = .ok (.aload_n 0, 1) := by decide +kernel
theorem dX12_rate_21 : decode cX12_rate 21 = .ok (.getfield 30, 3) := by decide +kernel
theorem dX12_rate_24 : decode cX12_rate 24 = .ok (.iload_n 1, 1) := by decide +kernel
theorem dX12_rate_25 : decode cX12_rate 25 = .ok (.iaload, 1) := by decide +kernel
theorem dX12_rate_26 : decode cX12_rate 26 = .ok (.istore_n 3, 1) := by decide +kernel
theorem dX12_rate_27 : decode cX12_rate 27 = .ok (.aload_n 0, 1) := by decide +kernel
theorem dX12_rate_28 : decode cX12_rate 28 = .ok (.getfield 30, 3) := by decide +kernel
theorem dX12_rate_31 : decode cX12_rate 31 = .ok (.iload_n 1, 1) := by decide +kernel
theorem dX12_rate_32 : decode cX12_rate 32 = .ok (.iload_n 2, 1) := by decide +kernel
theorem dX12_rate_33 : decode cX12_rate 33 = .ok (.iastore, 1) := by decide +kernel
theorem dX12_rate_34 : decode cX12_rate 34 = .ok (.iload_n 3, 1) := by decide +kernel
theorem dX12_rate_35 : decode cX12_rate 35 = .ok (.ireturn, 1) := by decide +kernel
theorem dX12_reading_0 : decode cX12_reading 0 = .ok (.aload_n 0, 1) := by decide +kernel
theorem dX12_reading_1 : decode cX12_reading 1 = .ok (.iload_n 1, 1) := by decide +kernel
theorem dX12_reading_2 : decode cX12_reading 2 = .ok (.invokevirtual 130, 3) := by decide +kernel
theorem dX12_reading_5 : decode cX12_reading 5 = .ok (.ifCond .eq 13, 3) := by decide +kernel
theorem dX12_reading_8 : decode cX12_reading 8 = .ok (.iload_n 3, 1) := by decide +kernel
theorem dX12_reading_9 : decode cX12_reading 9 = .ok (.ifCond .ge 11, 3) := by decide +kernel
theorem dX12_reading_12 : decode cX12_reading 12 = .ok (.iload_n 3, 1) := by decide +kernel
theorem dX12_reading_13 : decode cX12_reading 13 = .ok (.bipush (-9), 2) := by decide +kernel
theorem dX12_reading_15 : decode cX12_reading 15 = .ok (.if_icmp .eq 5, 3) := by decide +kernel
theorem dX12_reading_18 : decode cX12_reading 18 = .ok (.iconst (-1), 1) := by decide +kernel
theorem dX12_reading_19 : decode cX12_reading 19 = .ok (.ireturn, 1) := by decide +kernel
theorem dX12_reading_20 : decode cX12_reading 20 = .ok (.aload_n 0, 1) := by decide +kernel
theorem dX12_reading_21 : decode cX12_reading 21 = .ok (.iload_n 1, 1) := by decide +kernel
theorem dX12_reading_22 : decode cX12_reading 22 = .ok (.invokevirtual 153, 3) := by decide +kernel
theorem dX12_reading_25 : decode cX12_reading 25 = .ok (.ifCond .ne 9, 3) := by decide +kernel
theorem dX12_reading_28 : decode cX12_reading 28 = .ok (.aload_n 0, 1) := by decide +kernel
theorem dX12_reading_29 : decode cX12_reading 29 = .ok (.iconst 3, 1) := by decide +kernel
theorem dX12_reading_30 : decode cX12_reading 30 = .ok (.invokevirtual 138, 3) := by decide +kernel
theorem dX12_reading_33 : decode cX12_reading 33 = .ok (.ireturn, 1) := by decide +kernel
theorem dX12_reading_34 : decode cX12_reading 34 = .ok (.iload_n 2, 1) := by decide +kernel
theorem dX12_reading_35 : decode cX12_reading 35 = .ok (.iconst 0, 1) := by decide +kernel
theorem dX12_reading_36 : decode cX12_reading 36 = .ok (.bipush 23, 2) := by decide +kernel
theorem dX12_reading_38 : decode cX12_reading 38 = .ok (.invokestatic 122, 3) := by decide +kernel
theorem dX12_reading_41 : decode cX12_reading 41 = .ok (.ifCond .ne 9, 3) := by decide +kernel
theorem dX12_reading_44 : decode cX12_reading 44 = .ok (.aload_n 0, 1) := by decide +kernel
theorem dX12_reading_45 : decode cX12_reading 45 = .ok (.iconst 2, 1) := by decide +kernel
theorem dX12_reading_46 : decode cX12_reading 46 = .ok (.invokevirtual 138, 3) := by decide +kernel
theorem dX12_reading_49 : decode cX12_reading 49 = .ok (.ireturn, 1) := by decide +kernel
theorem dX12_reading_50 : decode cX12_reading 50 = .ok (.aload_n 0, 1) := by decide +kernel
theorem dX12_reading_51 : decode cX12_reading 51 = .ok (.getfield 36, 3) := by decide +kernel
theorem dX12_reading_54 : decode cX12_reading 54 = .ok (.bipush 24, 2) := by decide +kernel
theorem dX12_reading_56 : decode cX12_reading 56 = .ok (.iload_n 1, 1) := by decide +kernel
theorem dX12_reading_57 : decode cX12_reading 57 = .ok (.imul, 1) := by decide +kernel
theorem dX12_reading_58 : decode cX12_reading 58 = .ok (.iload_n 2, 1) := by decide +kernel
theorem dX12_reading_59 : decode cX12_reading 59 = .ok (.iadd, 1) := by decide +kernel
theorem dX12_reading_60 : decode cX12_reading 60 = .ok (.iaload, 1) := by decide +kernel
theorem dX12_reading_61 : decode cX12_reading 61 = .ok (.istore 4, 2) := by decide +kernel
theorem dX12_reading_63 : decode cX12_reading 63 = .ok (.aload_n 0, 1) := by decide +kernel
theorem dX12_reading_64 : decode cX12_reading 64 = .ok (.getfield 36, 3) := by decide +kernel
theorem dX12_reading_67 : decode cX12_reading 67 = .ok (.bipush 24, 2) := by decide +kernel
theorem dX12_reading_69 : decode cX12_reading 69 = .ok (.iload_n 1, 1) := by decide +kernel
theorem dX12_reading_70 : decode cX12_reading 70 = .ok (.imul, 1) := by decide +kernel
theorem dX12_reading_71 : decode cX12_reading 71 = .ok (.iload_n 2, 1) := by decide +kernel
theorem dX12_reading_72 : decode cX12_reading 72 = .ok (.iadd, 1) := by decide +kernel
theorem dX12_reading_73 : decode cX12_reading 73 = .ok (.iload_n 3, 1) := by decide +kernel
theorem dX12_reading_74 : decode cX12_reading 74 = .ok (.bipush (-9), 2) := by decide +kernel
theorem dX12_reading_76 : decode cX12_reading 76 = .ok (.if_icmp .ne 8, 3) := by decide +kernel
theorem dX12_reading_79 : decode cX12_reading 79 = .ok (.bipush (-9), 2) := by decide +kernel
theorem dX12_reading_81 : decode cX12_reading 81 = .ok (.goto 10, 3) := by decide +kernel
theorem dX12_reading_84 : decode cX12_reading 84 = .ok (.iload_n 3, 1) := by decide +kernel
theorem dX12_reading_85 : decode cX12_reading 85 = .ok (.aload_n 0, 1) := by decide +kernel
theorem dX12_reading_86 : decode cX12_reading 86 = .ok (.iload_n 1, 1) := by decide +kernel
theorem dX12_reading_87 : decode cX12_reading 87 = .ok (.invokevirtual 142, 3) := by decide +kernel
theorem dX12_reading_90 : decode cX12_reading 90 = .ok (.irem, 1) := by decide +kernel
theorem dX12_reading_91 : decode cX12_reading 91 = .ok (.iastore, 1) := by decide +kernel
theorem dX12_reading_92 : decode cX12_reading 92 = .ok (.iload 4, 2) := by decide +kernel
theorem dX12_reading_94 : decode cX12_reading 94 = .ok (.ireturn, 1) := by decide +kernel
theorem dX12_loadOf_0 : decode cX12_loadOf 0 = .ok (.aload_n 0, 1) := by decide +kernel
theorem dX12_loadOf_1 : decode cX12_loadOf 1 = .ok (.getfield 36, 3) := by decide +kernel
theorem dX12_loadOf_4 : decode cX12_loadOf 4 = .ok (.bipush 24, 2) := by decide +kernel
theorem dX12_loadOf_6 : decode cX12_loadOf 6 = .ok (.iload_n 1, 1) := by decide +kernel
theorem dX12_loadOf_7 : decode cX12_loadOf 7 = .ok (.imul, 1) := by decide +kernel
theorem dX12_loadOf_8 : decode cX12_loadOf 8 = .ok (.iload_n 3, 1) := by decide +kernel
theorem dX12_loadOf_9 : decode cX12_loadOf 9 = .ok (.iadd, 1) := by decide +kernel
theorem dX12_loadOf_10 : decode cX12_loadOf 10 = .ok (.iaload, 1) := by decide +kernel
theorem dX12_loadOf_11 : decode cX12_loadOf 11 = .ok (.aload_n 0, 1) := by decide +kernel
theorem dX12_loadOf_12 : decode cX12_loadOf 12 = .ok (.getfield 36, 3) := by decide +kernel
theorem dX12_loadOf_15 : decode cX12_loadOf 15 = .ok (.bipush 24, 2) := by decide +kernel
theorem dX12_loadOf_17 : decode cX12_loadOf 17 = .ok (.iload_n 1, 1) := by decide +kernel
theorem dX12_loadOf_18 : decode cX12_loadOf 18 = .ok (.imul, 1) := by decide +kernel
theorem dX12_loadOf_19 : decode cX12_loadOf 19 = .ok (.iload_n 2, 1) := by decide +kernel
theorem dX12_loadOf_20 : decode cX12_loadOf 20 = .ok (.iadd, 1) := by decide +kernel
theorem dX12_loadOf_21 : decode cX12_loadOf 21 = .ok (.iaload, 1) := by decide +kernel
theorem dX12_loadOf_22 : decode cX12_loadOf 22 = .ok (.isub, 1) := by decide +kernel
theorem dX12_loadOf_23 : decode cX12_loadOf 23 = .ok (.istore 4, 2) := by decide +kernel
theorem dX12_loadOf_25 : decode cX12_loadOf 25 = .ok (.iload 4, 2) := by decide +kernel
theorem dX12_loadOf_27 : decode cX12_loadOf 27 = .ok (.ifCond .ge 14, 3) := by decide +kernel
theorem dX12_loadOf_30 : decode cX12_loadOf 30 = .ok (.iload 4, 2) := by decide +kernel
theorem dX12_loadOf_32 : decode cX12_loadOf 32 = .ok (.aload_n 0, 1) := by decide +kernel
theorem dX12_loadOf_33 : decode cX12_loadOf 33 = .ok (.iload_n 1, 1) := by decide +kernel
theorem dX12_loadOf_34 : decode cX12_loadOf 34 = .ok (.invokevirtual 142, 3) := by decide +kernel
theorem dX12_loadOf_37 : decode cX12_loadOf 37 = .ok (.iadd, 1) := by decide +kernel
theorem dX12_loadOf_38 : decode cX12_loadOf 38 = .ok (.goto 5, 3) := by decide +kernel
theorem dX12_loadOf_41 : decode cX12_loadOf 41 = .ok (.iload 4, 2) := by decide +kernel
theorem dX12_loadOf_43 : decode cX12_loadOf 43 = .ok (.ireturn, 1) := by decide +kernel
theorem dX12_load_0 : decode cX12_load 0 = .ok (.aload_n 0, 1) := by decide +kernel
theorem dX12_load_1 : decode cX12_load 1 = .ok (.iload_n 1, 1) := by decide +kernel
theorem dX12_load_2 : decode cX12_load 2 = .ok (.invokevirtual 130, 3) := by decide +kernel
theorem dX12_load_5 : decode cX12_load 5 = .ok (.ifCond .ne 5, 3) := by decide +kernel
theorem dX12_load_8 : decode cX12_load 8 = .ok (.iconst (-1), 1) := by decide +kernel
theorem dX12_load_9 : decode cX12_load 9 = .ok (.ireturn, 1) := by decide +kernel
theorem dX12_load_10 : decode cX12_load 10 = .ok (.aload_n 0, 1) := by decide +kernel
theorem dX12_load_11 : decode cX12_load 11 = .ok (.iload_n 1, 1) := by decide +kernel
theorem dX12_load_12 : decode cX12_load 12 = .ok (.invokevirtual 153, 3) := by decide +kernel
theorem dX12_load_15 : decode cX12_load 15 = .ok (.ifCond .ne 9, 3) := by decide +kernel
theorem dX12_load_18 : decode cX12_load 18 = .ok (.aload_n 0, 1) := by decide +kernel
theorem dX12_load_19 : decode cX12_load 19 = .ok (.iconst 3, 1) := by decide +kernel
theorem dX12_load_20 : decode cX12_load 20 = .ok (.invokevirtual 138, 3) := by decide +kernel
theorem dX12_load_23 : decode cX12_load 23 = .ok (.ireturn, 1) := by decide +kernel
theorem dX12_load_24 : decode cX12_load 24 = .ok (.iload_n 2, 1) := by decide +kernel
theorem dX12_load_25 : decode cX12_load 25 = .ok (.iconst 0, 1) := by decide +kernel
theorem dX12_load_26 : decode cX12_load 26 = .ok (.bipush 23, 2) := by decide +kernel
theorem dX12_load_28 : decode cX12_load 28 = .ok (.invokestatic 122, 3) := by decide +kernel
theorem dX12_load_31 : decode cX12_load 31 = .ok (.ifCond .eq 18, 3) := by decide +kernel
theorem dX12_load_34 : decode cX12_load 34 = .ok (.iload_n 3, 1) := by decide +kernel
theorem dX12_load_35 : decode cX12_load 35 = .ok (.iconst 0, 1) := by decide +kernel
theorem dX12_load_36 : decode cX12_load 36 = .ok (.bipush 23, 2) := by decide +kernel
theorem dX12_load_38 : decode cX12_load 38 = .ok (.invokestatic 122, 3) := by decide +kernel
theorem dX12_load_41 : decode cX12_load 41 = .ok (.ifCond .eq 8, 3) := by decide +kernel
theorem dX12_load_44 : decode cX12_load 44 = .ok (.iload_n 2, 1) := by decide +kernel
theorem dX12_load_45 : decode cX12_load 45 = .ok (.iload_n 3, 1) := by decide +kernel
theorem dX12_load_46 : decode cX12_load 46 = .ok (.if_icmp .lt 9, 3) := by decide +kernel
theorem dX12_load_49 : decode cX12_load 49 = .ok (.aload_n 0, 1) := by decide +kernel
theorem dX12_load_50 : decode cX12_load 50 = .ok (.iconst 2, 1) := by decide +kernel
theorem dX12_load_51 : decode cX12_load 51 = .ok (.invokevirtual 138, 3) := by decide +kernel
theorem dX12_load_54 : decode cX12_load 54 = .ok (.ireturn, 1) := by decide +kernel
theorem dX12_load_55 : decode cX12_load 55 = .ok (.aload_n 0, 1) := by decide +kernel
theorem dX12_load_56 : decode cX12_load 56 = .ok (.getfield 36, 3) := by decide +kernel
theorem dX12_load_59 : decode cX12_load 59 = .ok (.bipush 24, 2) := by decide +kernel
theorem dX12_load_61 : decode cX12_load 61 = .ok (.iload_n 1, 1) := by decide +kernel
theorem dX12_load_62 : decode cX12_load 62 = .ok (.imul, 1) := by decide +kernel
theorem dX12_load_63 : decode cX12_load 63 = .ok (.iload_n 2, 1) := by decide +kernel
theorem dX12_load_64 : decode cX12_load 64 = .ok (.iadd, 1) := by decide +kernel
theorem dX12_load_65 : decode cX12_load 65 = .ok (.iaload, 1) := by decide +kernel
theorem dX12_load_66 : decode cX12_load 66 = .ok (.bipush (-9), 2) := by decide +kernel
theorem dX12_load_68 : decode cX12_load 68 = .ok (.if_icmp .eq 19, 3) := by decide +kernel
theorem dX12_load_71 : decode cX12_load 71 = .ok (.aload_n 0, 1) := by decide +kernel
theorem dX12_load_72 : decode cX12_load 72 = .ok (.getfield 36, 3) := by decide +kernel
theorem dX12_load_75 : decode cX12_load 75 = .ok (.bipush 24, 2) := by decide +kernel
theorem dX12_load_77 : decode cX12_load 77 = .ok (.iload_n 1, 1) := by decide +kernel
theorem dX12_load_78 : decode cX12_load 78 = .ok (.imul, 1) := by decide +kernel
theorem dX12_load_79 : decode cX12_load 79 = .ok (.iload_n 3, 1) := by decide +kernel
theorem dX12_load_80 : decode cX12_load 80 = .ok (.iadd, 1) := by decide +kernel
theorem dX12_load_81 : decode cX12_load 81 = .ok (.iaload, 1) := by decide +kernel
theorem dX12_load_82 : decode cX12_load 82 = .ok (.bipush (-9), 2) := by decide +kernel
theorem dX12_load_84 : decode cX12_load 84 = .ok (.if_icmp .ne 9, 3) := by decide +kernel
theorem dX12_load_87 : decode cX12_load 87 = .ok (.aload_n 0, 1) := by decide +kernel
theorem dX12_load_88 : decode cX12_load 88 = .ok (.iconst 1, 1) := by decide +kernel
theorem dX12_load_89 : decode cX12_load 89 = .ok (.invokevirtual 138, 3) := by decide +kernel
theorem dX12_load_92 : decode cX12_load 92 = .ok (.ireturn, 1) := by decide +kernel
theorem dX12_load_93 : decode cX12_load 93 = .ok (.aload_n 0, 1) := by decide +kernel
theorem dX12_load_94 : decode cX12_load 94 = .ok (.aload_n 0, 1) := by decide +kernel
theorem dX12_load_95 : decode cX12_load 95 = .ok (.iload_n 1, 1) := by decide +kernel
theorem dX12_load_96 : decode cX12_load 96 = .ok (.iload_n 2, 1) := by decide +kernel
theorem dX12_load_97 : decode cX12_load 97 = .ok (.iload_n 3, 1) := by decide +kernel
theorem dX12_load_98 : decode cX12_load 98 = .ok (.invokevirtual 156, 3) := by decide +kernel
theorem dX12_load_101 : decode cX12_load 101 = .ok (.i2l, 1) := by decide +kernel
theorem dX12_load_102 : decode cX12_load 102 = .ok (.aload_n 0, 1) := by decide +kernel
theorem dX12_load_103 : decode cX12_load 103 = .ok (.getfield 30, 3) := by decide +kernel
theorem dX12_load_106 : decode cX12_load 106 = .ok (.iload_n 1, 1) := by decide +kernel
theorem dX12_load_107 : decode cX12_load 107 = .ok (.iaload, 1) := by decide +kernel
theorem dX12_load_108 : decode cX12_load 108 = .ok (.iload_n 3, 1) := by decide +kernel
theorem dX12_load_109 : decode cX12_load 109 = .ok (.iload_n 2, 1) := by decide +kernel
theorem dX12_load_110 : decode cX12_load 110 = .ok (.isub, 1) := by decide +kernel
theorem dX12_load_111 : decode cX12_load 111 = .ok (.imul, 1) := by decide +kernel
theorem dX12_load_112 : decode cX12_load 112 = .ok (.aload_n 0, 1) := by decide +kernel
theorem dX12_load_113 : decode cX12_load 113 = .ok (.iload_n 1, 1) := by decide +kernel
theorem dX12_load_114 : decode cX12_load 114 = .ok (.invokevirtual 142, 3) := by decide +kernel
theorem dX12_load_117 : decode cX12_load 117 = .ok (.if_icmp .ge 7, 3) := by decide +kernel
theorem dX12_load_120 : decode cX12_load 120 = .ok (.iconst 1, 1) := by decide +kernel
theorem dX12_load_121 : decode cX12_load 121 = .ok (.goto 4, 3) := by decide +kernel
theorem dX12_load_124 : decode cX12_load 124 = .ok (.iconst 0, 1) := by decide +kernel
theorem dX12_load_125 : decode cX12_load 125 = .ok (.invokevirtual 160, 3) := by decide +kernel
theorem dX12_load_128 : decode cX12_load 128 = .ok (.ireturn, 1) := by decide +kernel
theorem dX12_mean_0 : decode cX12_mean 0 = .ok (.aload_n 0, 1) := by decide +kernel
theorem dX12_mean_1 : decode cX12_mean 1 = .ok (.iload_n 1, 1) := by decide +kernel
theorem dX12_mean_2 : decode cX12_mean 2 = .ok (.invokevirtual 130, 3) := by decide +kernel
theorem dX12_mean_5 : decode cX12_mean 5 = .ok (.ifCond .ne 5, 3) := by decide +kernel
theorem dX12_mean_8 : decode cX12_mean 8 = .ok (.iconst (-1), 1) := by decide +kernel
theorem dX12_mean_9 : decode cX12_mean 9 = .ok (.ireturn, 1) := by decide +kernel
theorem dX12_mean_10 : decode cX12_mean 10 = .ok (.aload_n 0, 1) := by decide +kernel
theorem dX12_mean_11 : decode cX12_mean 11 = .ok (.iload_n 1, 1) := by decide +kernel
theorem dX12_mean_12 : decode cX12_mean 12 = .ok (.invokevirtual 153, 3) := by decide +kernel
theorem dX12_mean_15 : decode cX12_mean 15 = .ok (.ifCond .ne 9, 3) := by decide +kernel
theorem dX12_mean_18 : decode cX12_mean 18 = .ok (.aload_n 0, 1) := by decide +kernel
theorem dX12_mean_19 : decode cX12_mean 19 = .ok (.iconst 3, 1) := by decide +kernel
theorem dX12_mean_20 : decode cX12_mean 20 = .ok (.invokevirtual 138, 3) := by decide +kernel
theorem dX12_mean_23 : decode cX12_mean 23 = .ok (.ireturn, 1) := by decide +kernel
theorem dX12_mean_24 : decode cX12_mean 24 = .ok (.bipush (-9), 2) := by decide +kernel
theorem dX12_mean_26 : decode cX12_mean 26 = .ok (.istore_n 2, 1) := by decide +kernel
theorem dX12_mean_27 : decode cX12_mean 27 = .ok (.bipush (-9), 2) := by decide +kernel
theorem dX12_mean_29 : decode cX12_mean 29 = .ok (.istore_n 3, 1) := by decide +kernel
theorem dX12_mean_30 : decode cX12_mean 30 = .ok (.iconst 0, 1) := by decide +kernel
theorem dX12_mean_31 : decode cX12_mean 31 = .ok (.istore 4, 2) := by decide +kernel
theorem dX12_mean_33 : decode cX12_mean 33 = .ok (.iconst 0, 1) := by decide +kernel
theorem dX12_mean_34 : decode cX12_mean 34 = .ok (.istore 5, 2) := by decide +kernel
theorem dX12_mean_36 : decode cX12_mean 36 = .ok (.iload 5, 2) := by decide +kernel
theorem dX12_mean_38 : decode cX12_mean 38 = .ok (.bipush 24, 2) := by decide +kernel
theorem dX12_mean_40 : decode cX12_mean 40 = .ok (.if_icmp .ge 61, 3) := by decide +kernel
theorem dX12_mean_43 : decode cX12_mean 43 = .ok (.aload_n 0, 1) := by decide +kernel
theorem dX12_mean_44 : decode cX12_mean 44 = .ok (.getfield 36, 3) := by decide +kernel
theorem dX12_mean_47 : decode cX12_mean 47 = .ok (.bipush 24, 2) := by decide +kernel
theorem dX12_mean_49 : decode cX12_mean 49 = .ok (.iload_n 1, 1) := by decide +kernel
theorem dX12_mean_50 : decode cX12_mean 50 = .ok (.imul, 1) := by decide +kernel
theorem dX12_mean_51 : decode cX12_mean 51 = .ok (.iload 5, 2) := by decide +kernel
theorem dX12_mean_53 : decode cX12_mean 53 = .ok (.iadd, 1) := by decide +kernel
theorem dX12_mean_54 : decode cX12_mean 54 = .ok (.iaload, 1) := by decide +kernel
theorem dX12_mean_55 : decode cX12_mean 55 = .ok (.bipush (-9), 2) := by decide +kernel
theorem dX12_mean_57 : decode cX12_mean 57 = .ok (.if_icmp .eq 38, 3) := by decide +kernel
theorem dX12_mean_60 : decode cX12_mean 60 = .ok (.iload 4, 2) := by decide +kernel
theorem dX12_mean_62 : decode cX12_mean 62 = .ok (.iload_n 3, 1) := by decide +kernel
theorem dX12_mean_63 : decode cX12_mean 63 = .ok (.ifCond .lt 14, 3) := by decide +kernel
theorem dX12_mean_66 : decode cX12_mean 66 = .ok (.aload_n 0, 1) := by decide +kernel
theorem dX12_mean_67 : decode cX12_mean 67 = .ok (.iload_n 1, 1) := by decide +kernel
theorem dX12_mean_68 : decode cX12_mean 68 = .ok (.iload_n 3, 1) := by decide +kernel
theorem dX12_mean_69 : decode cX12_mean 69 = .ok (.iload 5, 2) := by decide +kernel
theorem dX12_mean_71 : decode cX12_mean 71 = .ok (.invokevirtual 156, 3) := by decide +kernel
theorem dX12_mean_74 : decode cX12_mean 74 = .ok (.goto 4, 3) := by decide +kernel
theorem dX12_mean_77 : decode cX12_mean 77 = .ok (.iconst 0, 1) := by decide +kernel
theorem dX12_mean_78 : decode cX12_mean 78 = .ok (.iadd, 1) := by decide +kernel
theorem dX12_mean_79 : decode cX12_mean 79 = .ok (.istore 4, 2) := by decide +kernel
theorem dX12_mean_81 : decode cX12_mean 81 = .ok (.iload_n 2, 1) := by decide +kernel
theorem dX12_mean_82 : decode cX12_mean 82 = .ok (.ifCond .ge 8, 3) := by decide +kernel
theorem dX12_mean_85 : decode cX12_mean 85 = .ok (.iload 5, 2) := by decide +kernel
theorem dX12_mean_87 : decode cX12_mean 87 = .ok (.goto 4, 3) := by decide +kernel
theorem dX12_mean_90 : decode cX12_mean 90 = .ok (.iload_n 2, 1) := by decide +kernel
theorem dX12_mean_91 : decode cX12_mean 91 = .ok (.istore_n 2, 1) := by decide +kernel
theorem dX12_mean_92 : decode cX12_mean 92 = .ok (.iload 5, 2) := by decide +kernel
theorem dX12_mean_94 : decode cX12_mean 94 = .ok (.istore_n 3, 1) := by decide +kernel
theorem dX12_mean_95 : decode cX12_mean 95 = .ok (.iinc 5 1, 3) := by decide +kernel
theorem dX12_mean_98 : decode cX12_mean 98 = .ok (.goto (-62), 3) := by decide +kernel
theorem dX12_mean_101 : decode cX12_mean 101 = .ok (.iload_n 2, 1) := by decide +kernel
theorem dX12_mean_102 : decode cX12_mean 102 = .ok (.iload_n 3, 1) := by decide +kernel
theorem dX12_mean_103 : decode cX12_mean 103 = .ok (.if_icmp .ne 11, 3) := by decide +kernel
theorem dX12_mean_106 : decode cX12_mean 106 = .ok (.aload_n 0, 1) := by decide +kernel
theorem dX12_mean_107 : decode cX12_mean 107 = .ok (.iconst 4, 1) := by decide +kernel
theorem dX12_mean_108 : decode cX12_mean 108 = .ok (.invokevirtual 138, 3) := by decide +kernel
theorem dX12_mean_111 : decode cX12_mean 111 = .ok (.goto 9, 3) := by decide +kernel
theorem dX12_mean_114 : decode cX12_mean 114 = .ok (.iload 4, 2) := by decide +kernel
theorem dX12_mean_116 : decode cX12_mean 116 = .ok (.iload_n 3, 1) := by decide +kernel
theorem dX12_mean_117 : decode cX12_mean 117 = .ok (.iload_n 2, 1) := by decide +kernel
theorem dX12_mean_118 : decode cX12_mean 118 = .ok (.isub, 1) := by decide +kernel
theorem dX12_mean_119 : decode cX12_mean 119 = .ok (.idiv, 1) := by decide +kernel
theorem dX12_mean_120 : decode cX12_mean 120 = .ok (.ireturn, 1) := by decide +kernel
theorem dX12_setRoutes_0 : decode cX12_setRoutes 0 = .ok (.iconst 0, 1) := by decide +kernel
theorem dX12_setRoutes_1 : decode cX12_setRoutes 1 = .ok (.istore_n 2, 1) := by decide +kernel
theorem dX12_setRoutes_2 : decode cX12_setRoutes 2 = .ok (.iload_n 2, 1) := by decide +kernel
theorem dX12_setRoutes_3 : decode cX12_setRoutes 3 = .ok (.bipush 36, 2) := by decide +kernel
theorem dX12_setRoutes_5 : decode cX12_setRoutes 5 = .ok (.if_icmp .ge 32, 3) := by decide +kernel
theorem dX12_setRoutes_8 : decode cX12_setRoutes 8 = .ok (.aload_n 0, 1) := by decide +kernel
theorem dX12_setRoutes_9 : decode cX12_setRoutes 9 = .ok (.getfield 51, 3) := by decide +kernel
theorem dX12_setRoutes_12 : decode cX12_setRoutes 12 = .ok (.iload_n 2, 1) := by decide +kernel
theorem dX12_setRoutes_13 : decode cX12_setRoutes 13 = .ok (.iload_n 2, 1) := by decide +kernel
theorem dX12_setRoutes_14 : decode cX12_setRoutes 14 = .ok (.bipush 6, 2) := by decide +kernel
theorem dX12_setRoutes_16 : decode cX12_setRoutes 16 = .ok (.idiv, 1) := by decide +kernel
theorem dX12_setRoutes_17 : decode cX12_setRoutes 17 = .ok (.iload_n 2, 1) := by decide +kernel
theorem dX12_setRoutes_18 : decode cX12_setRoutes 18 = .ok (.bipush 6, 2) := by decide +kernel
theorem dX12_setRoutes_20 : decode cX12_setRoutes 20 = .ok (.irem, 1) := by decide +kernel
theorem dX12_setRoutes_21 : decode cX12_setRoutes 21 = .ok (.if_icmp .ne 7, 3) := by decide +kernel
theorem dX12_setRoutes_24 : decode cX12_setRoutes 24 = .ok (.iconst 0, 1) := by decide +kernel
theorem dX12_setRoutes_25 : decode cX12_setRoutes 25 = .ok (.goto 5, 3) := by decide +kernel
theorem dX12_setRoutes_28 : decode cX12_setRoutes 28 = .ok (.bipush 100, 2) := by decide +kernel
theorem dX12_setRoutes_30 : decode cX12_setRoutes 30 = .ok (.iastore, 1) := by decide +kernel
theorem dX12_setRoutes_31 : decode cX12_setRoutes 31 = .ok (.iinc 2 1, 3) := by decide +kernel
theorem dX12_setRoutes_34 : decode cX12_setRoutes 34 = .ok (.goto (-32), 3) := by decide +kernel
theorem dX12_setRoutes_37 : decode cX12_setRoutes 37 = .ok (.iconst 0, 1) := by decide +kernel
theorem dX12_setRoutes_38 : decode cX12_setRoutes 38 = .ok (.istore_n 2, 1) := by decide +kernel
theorem dX12_setRoutes_39 : decode cX12_setRoutes 39 = .ok (.iload_n 2, 1) := by decide +kernel
theorem dX12_setRoutes_40 : decode cX12_setRoutes 40 = .ok (.aload_n 0, 1) := by decide +kernel
theorem dX12_setRoutes_41 : decode cX12_setRoutes 41 = .ok (.getfield 13, 3) := by decide +kernel
theorem dX12_setRoutes_44 : decode cX12_setRoutes 44 = .ok (.if_icmp .ge 139, 3) := by decide +kernel
theorem dX12_setRoutes_47 : decode cX12_setRoutes 47 = .ok (.iconst 0, 1) := by decide +kernel
theorem dX12_setRoutes_48 : decode cX12_setRoutes 48 = .ok (.istore_n 3, 1) := by decide +kernel
theorem dX12_setRoutes_49 : decode cX12_setRoutes 49 = .ok (.iload_n 3, 1) := by decide +kernel
theorem dX12_setRoutes_50 : decode cX12_setRoutes 50 = .ok (.aload_n 0, 1) := by decide +kernel
theorem dX12_setRoutes_51 : decode cX12_setRoutes 51 = .ok (.getfield 115, 3) := by decide +kernel
theorem dX12_setRoutes_54 : decode cX12_setRoutes 54 = .ok (.if_icmp .ge 123, 3) := by decide +kernel
theorem dX12_setRoutes_57 : decode cX12_setRoutes 57 = .ok (.iconst 0, 1) := by decide +kernel
theorem dX12_setRoutes_58 : decode cX12_setRoutes 58 = .ok (.istore 4, 2) := by decide +kernel
theorem dX12_setRoutes_60 : decode cX12_setRoutes 60 = .ok (.iload 4, 2) := by decide +kernel
theorem dX12_setRoutes_62 : decode cX12_setRoutes 62 = .ok (.aload_n 0, 1) := by decide +kernel
theorem dX12_setRoutes_63 : decode cX12_setRoutes 63 = .ok (.getfield 13, 3) := by decide +kernel
theorem dX12_setRoutes_66 : decode cX12_setRoutes 66 = .ok (.if_icmp .ge 105, 3) := by decide +kernel
theorem dX12_setRoutes_69 : decode cX12_setRoutes 69 = .ok (.aload_n 0, 1) := by decide +kernel
theorem dX12_setRoutes_70 : decode cX12_setRoutes 70 = .ok (.getfield 26, 3) := by decide +kernel
theorem dX12_setRoutes_73 : decode cX12_setRoutes 73 = .ok (.iload_n 3, 1) := by decide +kernel
theorem dX12_setRoutes_74 : decode cX12_setRoutes 74 = .ok (.baload, 1) := by decide +kernel
theorem dX12_setRoutes_75 : decode cX12_setRoutes 75 = .ok (.ifCond .ne 96, 3) := by decide +kernel
theorem dX12_setRoutes_78 : decode cX12_setRoutes 78 = .ok (.iload_n 3, 1) := by decide +kernel
theorem dX12_setRoutes_79 : decode cX12_setRoutes 79 = .ok (.iload_n 1, 1) := by decide +kernel
theorem dX12_setRoutes_80 : decode cX12_setRoutes 80 = .ok (.if_icmp .eq 91, 3) := by decide +kernel
theorem dX12_setRoutes_83 : decode cX12_setRoutes 83 = .ok (.aload_n 0, 1) := by decide +kernel
theorem dX12_setRoutes_84 : decode cX12_setRoutes 84 = .ok (.getfield 51, 3) := by decide +kernel
theorem dX12_setRoutes_87 : decode cX12_setRoutes 87 = .ok (.bipush 6, 2) := by decide +kernel
theorem dX12_setRoutes_89 : decode cX12_setRoutes 89 = .ok (.aload_n 0, 1) := by decide +kernel
theorem dX12_setRoutes_90 : decode cX12_setRoutes 90 = .ok (.getfield 23, 3) := by decide +kernel
theorem dX12_setRoutes_93 : decode cX12_setRoutes 93 = .ok (.iload_n 3, 1) := by decide +kernel
theorem dX12_setRoutes_94 : decode cX12_setRoutes 94 = .ok (.iaload, 1) := by decide +kernel
theorem dX12_setRoutes_95 : decode cX12_setRoutes 95 = .ok (.imul, 1) := by decide +kernel
theorem dX12_setRoutes_96 : decode cX12_setRoutes 96 = .ok (.iload 4, 2) := by decide +kernel
theorem dX12_setRoutes_98 : decode cX12_setRoutes 98 = .ok (.iadd, 1) := by decide +kernel
theorem dX12_setRoutes_99 : decode cX12_setRoutes 99 = .ok (.iaload, 1) := by decide +kernel
theorem dX12_setRoutes_100 : decode cX12_setRoutes 100 = .ok (.iconst 1, 1) := by decide +kernel
theorem dX12_setRoutes_101 : decode cX12_setRoutes 101 = .ok (.iadd, 1) := by decide +kernel
theorem dX12_setRoutes_102 : decode cX12_setRoutes 102 = .ok (.istore 5, 2) := by decide +kernel
theorem dX12_setRoutes_104 : decode cX12_setRoutes 104 = .ok (.aload_n 0, 1) := by decide +kernel
theorem dX12_setRoutes_105 : decode cX12_setRoutes 105 = .ok (.getfield 51, 3) := by decide +kernel
theorem dX12_setRoutes_108 : decode cX12_setRoutes 108 = .ok (.bipush 6, 2) := by decide +kernel
theorem dX12_setRoutes_110 : decode cX12_setRoutes 110 = .ok (.aload_n 0, 1) := by decide +kernel
theorem dX12_setRoutes_111 : decode cX12_setRoutes 111 = .ok (.getfield 20, 3) := by decide +kernel
theorem dX12_setRoutes_114 : decode cX12_setRoutes 114 = .ok (.iload_n 3, 1) := by decide +kernel
theorem dX12_setRoutes_115 : decode cX12_setRoutes 115 = .ok (.iaload, 1) := by decide +kernel
theorem dX12_setRoutes_116 : decode cX12_setRoutes 116 = .ok (.imul, 1) := by decide +kernel
theorem dX12_setRoutes_117 : decode cX12_setRoutes 117 = .ok (.iload 4, 2) := by decide +kernel
theorem dX12_setRoutes_119 : decode cX12_setRoutes 119 = .ok (.iadd, 1) := by decide +kernel
theorem dX12_setRoutes_120 : decode cX12_setRoutes 120 = .ok (.iload 5, 2) := by decide +kernel
theorem dX12_setRoutes_122 : decode cX12_setRoutes 122 = .ok (.aload_n 0, 1) := by decide +kernel
theorem dX12_setRoutes_123 : decode cX12_setRoutes 123 = .ok (.getfield 51, 3) := by decide +kernel
theorem dX12_setRoutes_126 : decode cX12_setRoutes 126 = .ok (.bipush 6, 2) := by decide +kernel
theorem dX12_setRoutes_128 : decode cX12_setRoutes 128 = .ok (.aload_n 0, 1) := by decide +kernel
theorem dX12_setRoutes_129 : decode cX12_setRoutes 129 = .ok (.getfield 20, 3) := by decide +kernel
theorem dX12_setRoutes_132 : decode cX12_setRoutes 132 = .ok (.iload_n 3, 1) := by decide +kernel
theorem dX12_setRoutes_133 : decode cX12_setRoutes 133 = .ok (.iaload, 1) := by decide +kernel
theorem dX12_setRoutes_134 : decode cX12_setRoutes 134 = .ok (.imul, 1) := by decide +kernel
theorem dX12_setRoutes_135 : decode cX12_setRoutes 135 = .ok (.iload 4, 2) := by decide +kernel
theorem dX12_setRoutes_137 : decode cX12_setRoutes 137 = .ok (.iadd, 1) := by decide +kernel
theorem dX12_setRoutes_138 : decode cX12_setRoutes 138 = .ok (.iaload, 1) := by decide +kernel
theorem dX12_setRoutes_139 : decode cX12_setRoutes 139 = .ok (.if_icmp .ge 8, 3) := by decide +kernel
theorem dX12_setRoutes_142 : decode cX12_setRoutes 142 = .ok (.iload 5, 2) := by decide +kernel
theorem dX12_setRoutes_144 : decode cX12_setRoutes 144 = .ok (.goto 20, 3) := by decide +kernel
theorem dX12_setRoutes_147 : decode cX12_setRoutes 147 = .ok (.aload_n 0, 1) := by decide +kernel
theorem dX12_setRoutes_148 : decode cX12_setRoutes 148 = .ok (.getfield 51, 3) := by decide +kernel
theorem dX12_setRoutes_151 : decode cX12_setRoutes 151 = .ok (.bipush 6, 2) := by decide +kernel
theorem dX12_setRoutes_153 : decode cX12_setRoutes 153 = .ok (.aload_n 0, 1) := by decide +kernel
theorem dX12_setRoutes_154 : decode cX12_setRoutes 154 = .ok (.getfield 20, 3) := by decide +kernel
theorem dX12_setRoutes_157 : decode cX12_setRoutes 157 = .ok (.iload_n 3, 1) := by decide +kernel
theorem dX12_setRoutes_158 : decode cX12_setRoutes 158 = .ok (.iaload, 1) := by decide +kernel
theorem dX12_setRoutes_159 : decode cX12_setRoutes 159 = .ok (.imul, 1) := by decide +kernel
theorem dX12_setRoutes_160 : decode cX12_setRoutes 160 = .ok (.iload 4, 2) := by decide +kernel
theorem dX12_setRoutes_162 : decode cX12_setRoutes 162 = .ok (.iadd, 1) := by decide +kernel
theorem dX12_setRoutes_163 : decode cX12_setRoutes 163 = .ok (.iaload, 1) := by decide +kernel
theorem dX12_setRoutes_164 : decode cX12_setRoutes 164 = .ok (.iastore, 1) := by decide +kernel
theorem dX12_setRoutes_165 : decode cX12_setRoutes 165 = .ok (.iinc 4 1, 3) := by decide +kernel
theorem dX12_setRoutes_168 : decode cX12_setRoutes 168 = .ok (.goto (-108), 3) := by decide +kernel
theorem dX12_setRoutes_171 : decode cX12_setRoutes 171 = .ok (.iinc 3 1, 3) := by decide +kernel
theorem dX12_setRoutes_174 : decode cX12_setRoutes 174 = .ok (.goto (-125), 3) := by decide +kernel
theorem dX12_setRoutes_177 : decode cX12_setRoutes 177 = .ok (.iinc 2 1, 3) := by decide +kernel
theorem dX12_setRoutes_180 : decode cX12_setRoutes 180 = .ok (.goto (-141), 3) := by decide +kernel
theorem dX12_setRoutes_183 : decode cX12_setRoutes 183 = .ok (.iconst 0, 1) := by decide +kernel
theorem dX12_setRoutes_184 : decode cX12_setRoutes 184 = .ok (.istore_n 2, 1) := by decide +kernel
theorem dX12_setRoutes_185 : decode cX12_setRoutes 185 = .ok (.iload_n 2, 1) := by decide +kernel
theorem dX12_setRoutes_186 : decode cX12_setRoutes 186 = .ok (.aload_n 0, 1) := by decide +kernel
theorem dX12_setRoutes_187 : decode cX12_setRoutes 187 = .ok (.getfield 13, 3) := by decide +kernel
theorem dX12_setRoutes_190 : decode cX12_setRoutes 190 = .ok (.if_icmp .ge 73, 3) := by decide +kernel
theorem dX12_setRoutes_193 : decode cX12_setRoutes 193 = .ok (.iconst 0, 1) := by decide +kernel
theorem dX12_setRoutes_194 : decode cX12_setRoutes 194 = .ok (.istore_n 3, 1) := by decide +kernel
theorem dX12_setRoutes_195 : decode cX12_setRoutes 195 = .ok (.iload_n 3, 1) := by decide +kernel
theorem dX12_setRoutes_196 : decode cX12_setRoutes 196 = .ok (.aload_n 0, 1) := by decide +kernel
theorem dX12_setRoutes_197 : decode cX12_setRoutes 197 = .ok (.getfield 13, 3) := by decide +kernel
theorem dX12_setRoutes_200 : decode cX12_setRoutes 200 = .ok (.if_icmp .ge 57, 3) := by decide +kernel
theorem dX12_setRoutes_203 : decode cX12_setRoutes 203 = .ok (.aload_n 0, 1) := by decide +kernel
theorem dX12_setRoutes_204 : decode cX12_setRoutes 204 = .ok (.getfield 48, 3) := by decide +kernel
theorem dX12_setRoutes_207 : decode cX12_setRoutes 207 = .ok (.aload_n 0, 1) := by decide +kernel
theorem dX12_setRoutes_208 : decode cX12_setRoutes 208 = .ok (.getfield 13, 3) := by decide +kernel
theorem dX12_setRoutes_211 : decode cX12_setRoutes 211 = .ok (.iload_n 2, 1) := by decide +kernel
theorem dX12_setRoutes_212 : decode cX12_setRoutes 212 = .ok (.imul, 1) := by decide +kernel
theorem dX12_setRoutes_213 : decode cX12_setRoutes 213 = .ok (.iload_n 3, 1) := by decide +kernel
theorem dX12_setRoutes_214 : decode cX12_setRoutes 214 = .ok (.iadd, 1) := by decide +kernel
theorem dX12_setRoutes_215 : decode cX12_setRoutes 215 = .ok (.iload_n 2, 1) := by decide +kernel
theorem dX12_setRoutes_216 : decode cX12_setRoutes 216 = .ok (.iload_n 3, 1) := by decide +kernel
theorem dX12_setRoutes_217 : decode cX12_setRoutes 217 = .ok (.if_icmp .eq 19, 3) := by decide +kernel
theorem dX12_setRoutes_220 : decode cX12_setRoutes 220 = .ok (.aload_n 0, 1) := by decide +kernel
theorem dX12_setRoutes_221 : decode cX12_setRoutes 221 = .ok (.getfield 51, 3) := by decide +kernel
theorem dX12_setRoutes_224 : decode cX12_setRoutes 224 = .ok (.bipush 6, 2) := by decide +kernel
theorem dX12_setRoutes_226 : decode cX12_setRoutes 226 = .ok (.iload_n 2, 1) := by decide +kernel
theorem dX12_setRoutes_227 : decode cX12_setRoutes 227 = .ok (.imul, 1) := by decide +kernel
theorem dX12_setRoutes_228 : decode cX12_setRoutes 228 = .ok (.iload_n 3, 1) := by decide +kernel
theorem dX12_setRoutes_229 : decode cX12_setRoutes 229 = .ok (.iadd, 1) := by decide +kernel
theorem dX12_setRoutes_230 : decode cX12_setRoutes 230 = .ok (.iaload, 1) := by decide +kernel
theorem dX12_setRoutes_231 : decode cX12_setRoutes 231 = .ok (.bipush 100, 2) := by decide +kernel
theorem dX12_setRoutes_233 : decode cX12_setRoutes 233 = .ok (.if_icmp .lt 8, 3) := by decide +kernel
theorem dX12_setRoutes_236 : decode cX12_setRoutes 236 = .ok (.bipush (-9), 2) := by decide +kernel
theorem dX12_setRoutes_238 : decode cX12_setRoutes 238 = .ok (.goto 12, 3) := by decide +kernel
theorem dX12_setRoutes_241 : decode cX12_setRoutes 241 = .ok (.aload_n 0, 1) := by decide +kernel
theorem dX12_setRoutes_242 : decode cX12_setRoutes 242 = .ok (.iload_n 2, 1) := by decide +kernel
theorem dX12_setRoutes_243 : decode cX12_setRoutes 243 = .ok (.iload_n 3, 1) := by decide +kernel
theorem dX12_setRoutes_244 : decode cX12_setRoutes 244 = .ok (.iload_n 1, 1) := by decide +kernel
theorem dX12_setRoutes_245 : decode cX12_setRoutes 245 = .ok (.bipush (-9), 2) := by decide +kernel
theorem dX12_setRoutes_247 : decode cX12_setRoutes 247 = .ok (.invokevirtual 164, 3) := by decide +kernel
theorem dX12_setRoutes_250 : decode cX12_setRoutes 250 = .ok (.iastore, 1) := by decide +kernel
theorem dX12_setRoutes_251 : decode cX12_setRoutes 251 = .ok (.iinc 3 1, 3) := by decide +kernel
theorem dX12_setRoutes_254 : decode cX12_setRoutes 254 = .ok (.goto (-59), 3) := by decide +kernel
theorem dX12_setRoutes_257 : decode cX12_setRoutes 257 = .ok (.iinc 2 1, 3) := by decide +kernel
theorem dX12_setRoutes_260 : decode cX12_setRoutes 260 = .ok (.goto (-75), 3) := by decide +kernel
theorem dX12_setRoutes_263 : decode cX12_setRoutes 263 = .ok (.return_, 1) := by decide +kernel
theorem dX12_routeOf_0 : decode cX12_routeOf 0 = .ok (.iconst 0, 1) := by decide +kernel
theorem dX12_routeOf_1 : decode cX12_routeOf 1 = .ok (.istore 5, 2) := by decide +kernel
theorem dX12_routeOf_3 : decode cX12_routeOf 3 = .ok (.iload_n 1, 1) := by decide +kernel
theorem dX12_routeOf_4 : decode cX12_routeOf 4 = .ok (.istore 6, 2) := by decide +kernel
theorem dX12_routeOf_6 : decode cX12_routeOf 6 = .ok (.aload_n 0, 1) := by decide +kernel
theorem dX12_routeOf_7 : decode cX12_routeOf 7 = .ok (.iconst 0, 1) := by decide +kernel
theorem dX12_routeOf_8 : decode cX12_routeOf 8 = .ok (.putfield 168, 3) := by decide +kernel
theorem dX12_routeOf_11 : decode cX12_routeOf 11 = .ok (.aload_n 0, 1) := by decide +kernel
theorem dX12_routeOf_12 : decode cX12_routeOf 12 = .ok (.bipush (-9), 2) := by decide +kernel
theorem dX12_routeOf_14 : decode cX12_routeOf 14 = .ok (.putfield 171, 3) := by decide +kernel
theorem dX12_routeOf_17 : decode cX12_routeOf 17 = .ok (.iload 6, 2) := by decide +kernel
theorem dX12_routeOf_19 : decode cX12_routeOf 19 = .ok (.iload_n 2, 1) := by decide +kernel
theorem dX12_routeOf_20 : decode cX12_routeOf 20 = .ok (.if_icmp .eq 127, 3) := by decide +kernel
theorem dX12_routeOf_23 : decode cX12_routeOf 23 = .ok (.iconst 0, 1) := by decide +kernel
theorem dX12_routeOf_24 : decode cX12_routeOf 24 = .ok (.istore 7, 2) := by decide +kernel
theorem dX12_routeOf_26 : decode cX12_routeOf 26 = .ok (.aload_n 0, 1) := by decide +kernel
theorem dX12_routeOf_27 : decode cX12_routeOf 27 = .ok (.getfield 26, 3) := by decide +kernel
theorem dX12_routeOf_30 : decode cX12_routeOf 30 = .ok (.iload 7, 2) := by decide +kernel
theorem dX12_routeOf_32 : decode cX12_routeOf 32 = .ok (.baload, 1) := by decide +kernel
theorem dX12_routeOf_33 : decode cX12_routeOf 33 = .ok (.ifCond .ne 55, 3) := by decide +kernel
theorem dX12_routeOf_36 : decode cX12_routeOf 36 = .ok (.iload 7, 2) := by decide +kernel
theorem dX12_routeOf_38 : decode cX12_routeOf 38 = .ok (.iload_n 3, 1) := by decide +kernel
theorem dX12_routeOf_39 : decode cX12_routeOf 39 = .ok (.if_icmp .eq 49, 3) := by decide +kernel
theorem dX12_routeOf_42 : decode cX12_routeOf 42 = .ok (.aload_n 0, 1) := by decide +kernel
theorem dX12_routeOf_43 : decode cX12_routeOf 43 = .ok (.getfield 20, 3) := by decide +kernel
theorem dX12_routeOf_46 : decode cX12_routeOf 46 = .ok (.iload 7, 2) := by decide +kernel
theorem dX12_routeOf_48 : decode cX12_routeOf 48 = .ok (.iaload, 1) := by decide +kernel
theorem dX12_routeOf_49 : decode cX12_routeOf 49 = .ok (.iload 6, 2) := by decide +kernel
theorem dX12_routeOf_51 : decode cX12_routeOf 51 = .ok (.if_icmp .ne 37, 3) := by decide +kernel
theorem dX12_routeOf_54 : decode cX12_routeOf 54 = .ok (.aload_n 0, 1) := by decide +kernel
theorem dX12_routeOf_55 : decode cX12_routeOf 55 = .ok (.getfield 51, 3) := by decide +kernel
theorem dX12_routeOf_58 : decode cX12_routeOf 58 = .ok (.bipush 6, 2) := by decide +kernel
theorem dX12_routeOf_60 : decode cX12_routeOf 60 = .ok (.aload_n 0, 1) := by decide +kernel
theorem dX12_routeOf_61 : decode cX12_routeOf 61 = .ok (.getfield 23, 3) := by decide +kernel
theorem dX12_routeOf_64 : decode cX12_routeOf 64 = .ok (.iload 7, 2) := by decide +kernel
theorem dX12_routeOf_66 : decode cX12_routeOf 66 = .ok (.iaload, 1) := by decide +kernel
theorem dX12_routeOf_67 : decode cX12_routeOf 67 = .ok (.imul, 1) := by decide +kernel
theorem dX12_routeOf_68 : decode cX12_routeOf 68 = .ok (.iload_n 2, 1) := by decide +kernel
theorem dX12_routeOf_69 : decode cX12_routeOf 69 = .ok (.iadd, 1) := by decide +kernel
theorem dX12_routeOf_70 : decode cX12_routeOf 70 = .ok (.iaload, 1) := by decide +kernel
theorem dX12_routeOf_71 : decode cX12_routeOf 71 = .ok (.aload_n 0, 1) := by decide +kernel
theorem dX12_routeOf_72 : decode cX12_routeOf 72 = .ok (.getfield 51, 3) := by decide +kernel
theorem dX12_routeOf_75 : decode cX12_routeOf 75 = .ok (.bipush 6, 2) := by decide +kernel
theorem dX12_routeOf_77 : decode cX12_routeOf 77 = .ok (.iload 6, 2) := by decide +kernel
theorem dX12_routeOf_79 : decode cX12_routeOf 79 = .ok (.imul, 1) := by decide +kernel
theorem dX12_routeOf_80 : decode cX12_routeOf 80 = .ok (.iload_n 2, 1) := by decide +kernel
theorem dX12_routeOf_81 : decode cX12_routeOf 81 = .ok (.iadd, 1) := by decide +kernel
theorem dX12_routeOf_82 : decode cX12_routeOf 82 = .ok (.iaload, 1) := by decide +kernel
theorem dX12_routeOf_83 : decode cX12_routeOf 83 = .ok (.iconst 1, 1) := by decide +kernel
theorem dX12_routeOf_84 : decode cX12_routeOf 84 = .ok (.isub, 1) := by decide +kernel
theorem dX12_routeOf_85 : decode cX12_routeOf 85 = .ok (.if_icmp .eq 9, 3) := by decide +kernel
theorem dX12_routeOf_88 : decode cX12_routeOf 88 = .ok (.iinc 7 1, 3) := by decide +kernel
theorem dX12_routeOf_91 : decode cX12_routeOf 91 = .ok (.goto (-65), 3) := by decide +kernel
theorem dX12_routeOf_94 : decode cX12_routeOf 94 = .ok (.aload_n 0, 1) := by decide +kernel
theorem dX12_routeOf_95 : decode cX12_routeOf 95 = .ok (.aload_n 0, 1) := by decide +kernel
theorem dX12_routeOf_96 : decode cX12_routeOf 96 = .ok (.getfield 168, 3) := by decide +kernel
theorem dX12_routeOf_99 : decode cX12_routeOf 99 = .ok (.iload 4, 2) := by decide +kernel
theorem dX12_routeOf_101 : decode cX12_routeOf 101 = .ok (.if_icmp .ne 8, 3) := by decide +kernel
theorem dX12_routeOf_104 : decode cX12_routeOf 104 = .ok (.iload 7, 2) := by decide +kernel
theorem dX12_routeOf_106 : decode cX12_routeOf 106 = .ok (.goto 7, 3) := by decide +kernel
theorem dX12_routeOf_109 : decode cX12_routeOf 109 = .ok (.aload_n 0, 1) := by decide +kernel
theorem dX12_routeOf_110 : decode cX12_routeOf 110 = .ok (.getfield 171, 3) := by decide +kernel
theorem dX12_routeOf_113 : decode cX12_routeOf 113 = .ok (.putfield 171, 3) := by decide +kernel
theorem dX12_routeOf_116 : decode cX12_routeOf 116 = .ok (.iload 5, 2) := by decide +kernel
theorem dX12_routeOf_118 : decode cX12_routeOf 118 = .ok (.iconst 1, 1) := by decide +kernel
theorem dX12_routeOf_119 : decode cX12_routeOf 119 = .ok (.iload 7, 2) := by decide +kernel
theorem dX12_routeOf_121 : decode cX12_routeOf 121 = .ok (.ishl, 1) := by decide +kernel
theorem dX12_routeOf_122 : decode cX12_routeOf 122 = .ok (.ior, 1) := by decide +kernel
theorem dX12_routeOf_123 : decode cX12_routeOf 123 = .ok (.istore 5, 2) := by decide +kernel
theorem dX12_routeOf_125 : decode cX12_routeOf 125 = .ok (.aload_n 0, 1) := by decide +kernel
theorem dX12_routeOf_126 : decode cX12_routeOf 126 = .ok (.getfield 23, 3) := by decide +kernel
theorem dX12_routeOf_129 : decode cX12_routeOf 129 = .ok (.iload 7, 2) := by decide +kernel
theorem dX12_routeOf_131 : decode cX12_routeOf 131 = .ok (.iaload, 1) := by decide +kernel
theorem dX12_routeOf_132 : decode cX12_routeOf 132 = .ok (.istore 6, 2) := by decide +kernel
theorem dX12_routeOf_134 : decode cX12_routeOf 134 = .ok (.aload_n 0, 1) := by decide +kernel
theorem dX12_routeOf_135 : decode cX12_routeOf 135 = .ok (.dup, 1) := by decide +kernel
theorem dX12_routeOf_136 : decode cX12_routeOf 136 = .ok (.getfield 168, 3) := by decide +kernel
theorem dX12_routeOf_139 : decode cX12_routeOf 139 = .ok (.iconst 1, 1) := by decide +kernel
theorem dX12_routeOf_140 : decode cX12_routeOf 140 = .ok (.iadd, 1) := by decide +kernel
theorem dX12_routeOf_141 : decode cX12_routeOf 141 = .ok (.putfield 168, 3) := by decide +kernel
theorem dX12_routeOf_144 : decode cX12_routeOf 144 = .ok (.goto (-127), 3) := by decide +kernel
theorem dX12_routeOf_147 : decode cX12_routeOf 147 = .ok (.iload 5, 2) := by decide +kernel
theorem dX12_routeOf_149 : decode cX12_routeOf 149 = .ok (.ireturn, 1) := by decide +kernel
theorem dX12_isPair_0 : decode cX12_isPair 0 = .ok (.aload_n 0, 1) := by decide +kernel
theorem dX12_isPair_1 : decode cX12_isPair 1 = .ok (.iload_n 1, 1) := by decide +kernel
theorem dX12_isPair_2 : decode cX12_isPair 2 = .ok (.invokevirtual 126, 3) := by decide +kernel
theorem dX12_isPair_5 : decode cX12_isPair 5 = .ok (.ifCond .eq 20, 3) := by decide +kernel
theorem dX12_isPair_8 : decode cX12_isPair 8 = .ok (.aload_n 0, 1) := by decide +kernel
theorem dX12_isPair_9 : decode cX12_isPair 9 = .ok (.iload_n 2, 1) := by decide +kernel
theorem dX12_isPair_10 : decode cX12_isPair 10 = .ok (.invokevirtual 126, 3) := by decide +kernel
theorem dX12_isPair_13 : decode cX12_isPair 13 = .ok (.ifCond .eq 12, 3) := by decide +kernel
theorem dX12_isPair_16 : decode cX12_isPair 16 = .ok (.iload_n 1, 1) := by decide +kernel
theorem dX12_isPair_17 : decode cX12_isPair 17 = .ok (.iload_n 2, 1) := by decide +kernel
theorem dX12_isPair_18 : decode cX12_isPair 18 = .ok (.if_icmp .eq 7, 3) := by decide +kernel
theorem dX12_isPair_21 : decode cX12_isPair 21 = .ok (.iconst 1, 1) := by decide +kernel
theorem dX12_isPair_22 : decode cX12_isPair 22 = .ok (.goto 4, 3) := by decide +kernel
theorem dX12_isPair_25 : decode cX12_isPair 25 = .ok (.iconst 0, 1) := by decide +kernel
theorem dX12_isPair_26 : decode cX12_isPair 26 = .ok (.ireturn, 1) := by decide +kernel
theorem dX12_route_0 : decode cX12_route 0 = .ok (.aload_n 0, 1) := by decide +kernel
theorem dX12_route_1 : decode cX12_route 1 = .ok (.iload_n 1, 1) := by decide +kernel
theorem dX12_route_2 : decode cX12_route 2 = .ok (.iload_n 2, 1) := by decide +kernel
theorem dX12_route_3 : decode cX12_route 3 = .ok (.invokevirtual 174, 3) := by decide +kernel
theorem dX12_route_6 : decode cX12_route 6 = .ok (.ifCond .ne 5, 3) := by decide +kernel
theorem dX12_route_9 : decode cX12_route 9 = .ok (.iconst (-1), 1) := by decide +kernel
theorem dX12_route_10 : decode cX12_route 10 = .ok (.ireturn, 1) := by decide +kernel
theorem dX12_route_11 : decode cX12_route 11 = .ok (.aload_n 0, 1) := by decide +kernel
theorem dX12_route_12 : decode cX12_route 12 = .ok (.bipush (-9), 2) := by decide +kernel
theorem dX12_route_14 : decode cX12_route 14 = .ok (.invokevirtual 148, 3) := by decide +kernel
theorem dX12_route_17 : decode cX12_route 17 = .ok (.aload_n 0, 1) := by decide +kernel
theorem dX12_route_18 : decode cX12_route 18 = .ok (.getfield 48, 3) := by decide +kernel
theorem dX12_route_21 : decode cX12_route 21 = .ok (.aload_n 0, 1) := by decide +kernel
theorem dX12_route_22 : decode cX12_route 22 = .ok (.getfield 13, 3) := by decide +kernel
theorem dX12_route_25 : decode cX12_route 25 = .ok (.iload_n 1, 1) := by decide +kernel
theorem dX12_route_26 : decode cX12_route 26 = .ok (.imul, 1) := by decide +kernel
theorem dX12_route_27 : decode cX12_route 27 = .ok (.iload_n 2, 1) := by decide +kernel
theorem dX12_route_28 : decode cX12_route 28 = .ok (.iadd, 1) := by decide +kernel
theorem dX12_route_29 : decode cX12_route 29 = .ok (.iaload, 1) := by decide +kernel
theorem dX12_route_30 : decode cX12_route 30 = .ok (.ifCond .ge 6, 3) := by decide +kernel
theorem dX12_route_33 : decode cX12_route 33 = .ok (.bipush (-9), 2) := by decide +kernel
theorem dX12_route_35 : decode cX12_route 35 = .ok (.ireturn, 1) := by decide +kernel
theorem dX12_route_36 : decode cX12_route 36 = .ok (.aload_n 0, 1) := by decide +kernel
theorem dX12_route_37 : decode cX12_route 37 = .ok (.iload_n 1, 1) := by decide +kernel
theorem dX12_route_38 : decode cX12_route 38 = .ok (.iload_n 2, 1) := by decide +kernel
theorem dX12_route_39 : decode cX12_route 39 = .ok (.bipush (-9), 2) := by decide +kernel
theorem dX12_route_41 : decode cX12_route 41 = .ok (.iload_n 3, 1) := by decide +kernel
theorem dX12_route_42 : decode cX12_route 42 = .ok (.invokevirtual 164, 3) := by decide +kernel
theorem dX12_route_45 : decode cX12_route 45 = .ok (.istore 4, 2) := by decide +kernel
theorem dX12_route_47 : decode cX12_route 47 = .ok (.iload_n 3, 1) := by decide +kernel
theorem dX12_route_48 : decode cX12_route 48 = .ok (.iconst (-1), 1) := by decide +kernel
theorem dX12_route_49 : decode cX12_route 49 = .ok (.if_icmp .ne 10, 3) := by decide +kernel
theorem dX12_route_52 : decode cX12_route 52 = .ok (.aload_n 0, 1) := by decide +kernel
theorem dX12_route_53 : decode cX12_route 53 = .ok (.getfield 168, 3) := by decide +kernel
theorem dX12_route_56 : decode cX12_route 56 = .ok (.goto 7, 3) := by decide +kernel
theorem dX12_route_59 : decode cX12_route 59 = .ok (.aload_n 0, 1) := by decide +kernel
theorem dX12_route_60 : decode cX12_route 60 = .ok (.getfield 171, 3) := by decide +kernel
theorem dX12_route_63 : decode cX12_route 63 = .ok (.ireturn, 1) := by decide +kernel
theorem dX12_carried_0 : decode cX12_carried 0 = .ok (.aload_n 0, 1) := by decide +kernel
theorem dX12_carried_1 : decode cX12_carried 1 = .ok (.iload_n 1, 1) := by decide +kernel
theorem dX12_carried_2 : decode cX12_carried 2 = .ok (.invokevirtual 130, 3) := by decide +kernel
theorem dX12_carried_5 : decode cX12_carried 5 = .ok (.ifCond .eq 20, 3) := by decide +kernel
theorem dX12_carried_8 : decode cX12_carried 8 = .ok (.iload_n 2, 1) := by decide +kernel
theorem dX12_carried_9 : decode cX12_carried 9 = .ok (.bipush (-9), 2) := by decide +kernel
theorem dX12_carried_11 : decode cX12_carried 11 = .ok (.if_icmp .eq 16, 3) := by decide +kernel
theorem dX12_carried_14 : decode cX12_carried 14 = .ok (.iload_n 2, 1) := by decide +kernel
theorem dX12_carried_15 : decode cX12_carried 15 = .ok (.iconst 0, 1) := by decide +kernel
theorem dX12_carried_16 : decode cX12_carried 16 = .ok (.sipush 200, 3) := by decide +kernel
theorem dX12_carried_19 : decode cX12_carried 19 = .ok (.invokestatic 122, 3) := by decide +kernel
theorem dX12_carried_22 : decode cX12_carried 22 = .ok (.ifCond .ne 5, 3) := by decide +kernel
theorem dX12_carried_25 : decode cX12_carried 25 = .ok (.iconst (-1), 1) := by decide +kernel
theorem dX12_carried_26 : decode cX12_carried 26 = .ok (.ireturn, 1) := by decide +kernel
theorem dX12_carried_27 : decode cX12_carried 27 = .ok (.aload_n 0, 1) := by decide +kernel
theorem dX12_carried_28 : decode cX12_carried 28 = .ok (.getfield 17, 3) := by decide +kernel
theorem dX12_carried_31 : decode cX12_carried 31 = .ok (.iload_n 1, 1) := by decide +kernel
theorem dX12_carried_32 : decode cX12_carried 32 = .ok (.iaload, 1) := by decide +kernel
theorem dX12_carried_33 : decode cX12_carried 33 = .ok (.iconst 3, 1) := by decide +kernel
theorem dX12_carried_34 : decode cX12_carried 34 = .ok (.if_icmp .ne 9, 3) := by decide +kernel
theorem dX12_carried_37 : decode cX12_carried 37 = .ok (.aload_n 0, 1) := by decide +kernel
theorem dX12_carried_38 : decode cX12_carried 38 = .ok (.iconst 3, 1) := by decide +kernel
theorem dX12_carried_39 : decode cX12_carried 39 = .ok (.invokevirtual 138, 3) := by decide +kernel
theorem dX12_carried_42 : decode cX12_carried 42 = .ok (.ireturn, 1) := by decide +kernel
theorem dX12_carried_43 : decode cX12_carried 43 = .ok (.aload_n 0, 1) := by decide +kernel
theorem dX12_carried_44 : decode cX12_carried 44 = .ok (.getfield 33, 3) := by decide +kernel
theorem dX12_carried_47 : decode cX12_carried 47 = .ok (.iload_n 1, 1) := by decide +kernel
theorem dX12_carried_48 : decode cX12_carried 48 = .ok (.iaload, 1) := by decide +kernel
theorem dX12_carried_49 : decode cX12_carried 49 = .ok (.istore_n 3, 1) := by decide +kernel
theorem dX12_carried_50 : decode cX12_carried 50 = .ok (.aload_n 0, 1) := by decide +kernel
theorem dX12_carried_51 : decode cX12_carried 51 = .ok (.getfield 33, 3) := by decide +kernel
theorem dX12_carried_54 : decode cX12_carried 54 = .ok (.iload_n 1, 1) := by decide +kernel
theorem dX12_carried_55 : decode cX12_carried 55 = .ok (.iload_n 2, 1) := by decide +kernel
theorem dX12_carried_56 : decode cX12_carried 56 = .ok (.iastore, 1) := by decide +kernel
theorem dX12_carried_57 : decode cX12_carried 57 = .ok (.iload_n 3, 1) := by decide +kernel
theorem dX12_carried_58 : decode cX12_carried 58 = .ok (.ireturn, 1) := by decide +kernel
theorem dX12_meter_0 : decode cX12_meter 0 = .ok (.aload_n 0, 1) := by decide +kernel
theorem dX12_meter_1 : decode cX12_meter 1 = .ok (.iload_n 1, 1) := by decide +kernel
theorem dX12_meter_2 : decode cX12_meter 2 = .ok (.iload_n 2, 1) := by decide +kernel
theorem dX12_meter_3 : decode cX12_meter 3 = .ok (.invokevirtual 174, 3) := by decide +kernel
theorem dX12_meter_6 : decode cX12_meter 6 = .ok (.ifCond .eq 20, 3) := by decide +kernel
theorem dX12_meter_9 : decode cX12_meter 9 = .ok (.iload_n 3, 1) := by decide +kernel
theorem dX12_meter_10 : decode cX12_meter 10 = .ok (.bipush (-9), 2) := by decide +kernel
theorem dX12_meter_12 : decode cX12_meter 12 = .ok (.if_icmp .eq 16, 3) := by decide +kernel
theorem dX12_meter_15 : decode cX12_meter 15 = .ok (.iload_n 3, 1) := by decide +kernel
theorem dX12_meter_16 : decode cX12_meter 16 = .ok (.iconst 0, 1) := by decide +kernel
theorem dX12_meter_17 : decode cX12_meter 17 = .ok (.sipush 200, 3) := by decide +kernel
theorem dX12_meter_20 : decode cX12_meter 20 = .ok (.invokestatic 122, 3) := by decide +kernel
theorem dX12_meter_23 : decode cX12_meter 23 = .ok (.ifCond .ne 5, 3) := by decide +kernel
theorem dX12_meter_26 : decode cX12_meter 26 = .ok (.iconst (-1), 1) := by decide +kernel
theorem dX12_meter_27 : decode cX12_meter 27 = .ok (.ireturn, 1) := by decide +kernel
theorem dX12_meter_28 : decode cX12_meter 28 = .ok (.aload_n 0, 1) := by decide +kernel
theorem dX12_meter_29 : decode cX12_meter 29 = .ok (.getfield 39, 3) := by decide +kernel
theorem dX12_meter_32 : decode cX12_meter 32 = .ok (.aload_n 0, 1) := by decide +kernel
theorem dX12_meter_33 : decode cX12_meter 33 = .ok (.getfield 13, 3) := by decide +kernel
theorem dX12_meter_36 : decode cX12_meter 36 = .ok (.iload_n 1, 1) := by decide +kernel
theorem dX12_meter_37 : decode cX12_meter 37 = .ok (.imul, 1) := by decide +kernel
theorem dX12_meter_38 : decode cX12_meter 38 = .ok (.iload_n 2, 1) := by decide +kernel
theorem dX12_meter_39 : decode cX12_meter 39 = .ok (.iadd, 1) := by decide +kernel
theorem dX12_meter_40 : decode cX12_meter 40 = .ok (.iaload, 1) := by decide +kernel
theorem dX12_meter_41 : decode cX12_meter 41 = .ok (.istore 4, 2) := by decide +kernel
theorem dX12_meter_43 : decode cX12_meter 43 = .ok (.aload_n 0, 1) := by decide +kernel
theorem dX12_meter_44 : decode cX12_meter 44 = .ok (.getfield 39, 3) := by decide +kernel
theorem dX12_meter_47 : decode cX12_meter 47 = .ok (.aload_n 0, 1) := by decide +kernel
theorem dX12_meter_48 : decode cX12_meter 48 = .ok (.getfield 13, 3) := by decide +kernel
theorem dX12_meter_51 : decode cX12_meter 51 = .ok (.iload_n 1, 1) := by decide +kernel
theorem dX12_meter_52 : decode cX12_meter 52 = .ok (.imul, 1) := by decide +kernel
theorem dX12_meter_53 : decode cX12_meter 53 = .ok (.iload_n 2, 1) := by decide +kernel
theorem dX12_meter_54 : decode cX12_meter 54 = .ok (.iadd, 1) := by decide +kernel
theorem dX12_meter_55 : decode cX12_meter 55 = .ok (.iload_n 3, 1) := by decide +kernel
theorem dX12_meter_56 : decode cX12_meter 56 = .ok (.iastore, 1) := by decide +kernel
theorem dX12_meter_57 : decode cX12_meter 57 = .ok (.iload 4, 2) := by decide +kernel
theorem dX12_meter_59 : decode cX12_meter 59 = .ok (.ireturn, 1) := by decide +kernel
