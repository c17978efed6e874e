/-! decode rows -/
theorem dX12_later_0 : decode cX12_later 0 = .ok (.lload_n 0, 1) := by decide +kernel
theorem dX12_later_1 : decode cX12_later 1 = .ok (.lload_n 0, 1) := by decide +kernel
theorem dX12_later_2 : decode cX12_later 2 = .ok (.lneg, 1) := by decide +kernel
theorem dX12_later_3 : decode cX12_later 3 = .ok (.land, 1) := by decide +kernel
theorem dX12_later_4 : decode cX12_later 4 = .ok (.lstore_n 2, 1) := by decide +kernel
theorem dX12_later_5 : decode cX12_later 5 = .ok (.lload_n 0, 1) := by decide +kernel
theorem dX12_later_6 : decode cX12_later 6 = .ok (.lload_n 2, 1) := by decide +kernel
theorem dX12_later_7 : decode cX12_later 7 = .ok (.ladd, 1) := by decide +kernel
theorem dX12_later_8 : decode cX12_later 8 = .ok (.lstore 4, 2) := by decide +kernel
theorem dX12_later_10 : decode cX12_later 10 = .ok (.lload 4, 2) := by decide +kernel
theorem dX12_later_12 : decode cX12_later 12 = .ok (.lload_n 0, 1) := by decide +kernel
theorem dX12_later_13 : decode cX12_later 13 = .ok (.lload 4, 2) := by decide +kernel
theorem dX12_later_15 : decode cX12_later 15 = .ok (.lxor, 1) := by decide +kernel
theorem dX12_later_16 : decode cX12_later 16 = .ok (.lload_n 2, 1) := by decide +kernel
theorem dX12_later_17 : decode cX12_later 17 = .ok (.ldiv, 1) := by decide +kernel
theorem dX12_later_18 : decode cX12_later 18 = .ok (.iconst 2, 1) := by decide +kernel
theorem dX12_later_19 : decode cX12_later 19 = .ok (.lshr, 1) := by decide +kernel
theorem dX12_later_20 : decode cX12_later 20 = .ok (.lor, 1) := by decide +kernel
theorem dX12_later_21 : decode cX12_later 21 = .ok (.lreturn, 1) := by decide +kernel
theorem dX12_isAlone_0 : decode cX12_isAlone 0 = .ok (.iconst 0, 1) := by decide +kernel
theorem dX12_isAlone_1 : decode cX12_isAlone 1 = .ok (.istore 4, 2) := by decide +kernel
theorem dX12_isAlone_3 : decode cX12_isAlone 3 = .ok (.iload 4, 2) := by decide +kernel
theorem dX12_isAlone_5 : decode cX12_isAlone 5 = .ok (.iload_n 3, 1) := by decide +kernel
theorem dX12_isAlone_6 : decode cX12_isAlone 6 = .ok (.if_icmp .ge 49, 3) := by decide +kernel
theorem dX12_isAlone_9 : decode cX12_isAlone 9 = .ok (.aload_n 0, 1) := by decide +kernel
theorem dX12_isAlone_10 : decode cX12_isAlone 10 = .ok (.getfield 66, 3) := by decide +kernel
theorem dX12_isAlone_13 : decode cX12_isAlone 13 = .ok (.aload_n 0, 1) := by decide +kernel
theorem dX12_isAlone_14 : decode cX12_isAlone 14 = .ok (.getfield 93, 3) := by decide +kernel
theorem dX12_isAlone_17 : decode cX12_isAlone 17 = .ok (.iload 4, 2) := by decide +kernel
theorem dX12_isAlone_19 : decode cX12_isAlone 19 = .ok (.iaload, 1) := by decide +kernel
theorem dX12_isAlone_20 : decode cX12_isAlone 20 = .ok (.lload_n 1, 1) := by decide +kernel
theorem dX12_isAlone_21 : decode cX12_isAlone 21 = .ok (.iload 4, 2) := by decide +kernel
theorem dX12_isAlone_23 : decode cX12_isAlone 23 = .ok (.lshr, 1) := by decide +kernel
theorem dX12_isAlone_24 : decode cX12_isAlone 24 = .ok (.lconst 1, 1) := by decide +kernel
theorem dX12_isAlone_25 : decode cX12_isAlone 25 = .ok (.land, 1) := by decide +kernel
theorem dX12_isAlone_26 : decode cX12_isAlone 26 = .ok (.lconst 1, 1) := by decide +kernel
theorem dX12_isAlone_27 : decode cX12_isAlone 27 = .ok (.lcmp, 1) := by decide +kernel
theorem dX12_isAlone_28 : decode cX12_isAlone 28 = .ok (.ifCond .ne 18, 3) := by decide +kernel
theorem dX12_isAlone_31 : decode cX12_isAlone 31 = .ok (.aload_n 0, 1) := by decide +kernel
theorem dX12_isAlone_32 : decode cX12_isAlone 32 = .ok (.getfield 90, 3) := by decide +kernel
theorem dX12_isAlone_35 : decode cX12_isAlone 35 = .ok (.aload_n 0, 1) := by decide +kernel
theorem dX12_isAlone_36 : decode cX12_isAlone 36 = .ok (.getfield 93, 3) := by decide +kernel
theorem dX12_isAlone_39 : decode cX12_isAlone 39 = .ok (.iload 4, 2) := by decide +kernel
theorem dX12_isAlone_41 : decode cX12_isAlone 41 = .ok (.iaload, 1) := by decide +kernel
theorem dX12_isAlone_42 : decode cX12_isAlone 42 = .ok (.iaload, 1) := by decide +kernel
theorem dX12_isAlone_43 : decode cX12_isAlone 43 = .ok (.goto 5, 3) := by decide +kernel
theorem dX12_isAlone_46 : decode cX12_isAlone 46 = .ok (.bipush (-9), 2) := by decide +kernel
theorem dX12_isAlone_48 : decode cX12_isAlone 48 = .ok (.iastore, 1) := by decide +kernel
theorem dX12_isAlone_49 : decode cX12_isAlone 49 = .ok (.iinc 4 1, 3) := by decide +kernel
theorem dX12_isAlone_52 : decode cX12_isAlone 52 = .ok (.goto (-49), 3) := by decide +kernel
theorem dX12_isAlone_55 : decode cX12_isAlone 55 = .ok (.iconst 0, 1) := by decide +kernel
theorem dX12_isAlone_56 : decode cX12_isAlone 56 = .ok (.istore 4, 2) := by decide +kernel
theorem dX12_isAlone_58 : decode cX12_isAlone 58 = .ok (.iload 4, 2) := by decide +kernel
theorem dX12_isAlone_60 : decode cX12_isAlone 60 = .ok (.bipush 36, 2) := by decide +kernel
theorem dX12_isAlone_62 : decode cX12_isAlone 62 = .ok (.if_icmp .ge 17, 3) := by decide +kernel
theorem dX12_isAlone_65 : decode cX12_isAlone 65 = .ok (.aload_n 0, 1) := by decide +kernel
theorem dX12_isAlone_66 : decode cX12_isAlone 66 = .ok (.getfield 78, 3) := by decide +kernel
theorem dX12_isAlone_69 : decode cX12_isAlone 69 = .ok (.iload 4, 2) := by decide +kernel
theorem dX12_isAlone_71 : decode cX12_isAlone 71 = .ok (.iconst 0, 1) := by decide +kernel
theorem dX12_isAlone_72 : decode cX12_isAlone 72 = .ok (.bastore, 1) := by decide +kernel
theorem dX12_isAlone_73 : decode cX12_isAlone 73 = .ok (.iinc 4 1, 3) := by decide +kernel
theorem dX12_isAlone_76 : decode cX12_isAlone 76 = .ok (.goto (-18), 3) := by decide +kernel
theorem dX12_isAlone_79 : decode cX12_isAlone 79 = .ok (.aload_n 0, 1) := by decide +kernel
theorem dX12_isAlone_80 : decode cX12_isAlone 80 = .ok (.iconst 1, 1) := by decide +kernel
theorem dX12_isAlone_81 : decode cX12_isAlone 81 = .ok (.invokevirtual 212, 3) := by decide +kernel
theorem dX12_isAlone_84 : decode cX12_isAlone 84 = .ok (.istore 4, 2) := by decide +kernel
theorem dX12_isAlone_86 : decode cX12_isAlone 86 = .ok (.iload 4, 2) := by decide +kernel
theorem dX12_isAlone_88 : decode cX12_isAlone 88 = .ok (.iconst 1, 1) := by decide +kernel
theorem dX12_isAlone_89 : decode cX12_isAlone 89 = .ok (.if_icmp .ne 32, 3) := by decide +kernel
theorem dX12_isAlone_92 : decode cX12_isAlone 92 = .ok (.aload_n 0, 1) := by decide +kernel
theorem dX12_isAlone_93 : decode cX12_isAlone 93 = .ok (.iconst 0, 1) := by decide +kernel
theorem dX12_isAlone_94 : decode cX12_isAlone 94 = .ok (.invokevirtual 212, 3) := by decide +kernel
theorem dX12_isAlone_97 : decode cX12_isAlone 97 = .ok (.istore 4, 2) := by decide +kernel
theorem dX12_isAlone_99 : decode cX12_isAlone 99 = .ok (.iload 4, 2) := by decide +kernel
theorem dX12_isAlone_101 : decode cX12_isAlone 101 = .ok (.ifCond .ge 8, 3) := by decide +kernel
theorem dX12_isAlone_104 : decode cX12_isAlone 104 = .ok (.iload 4, 2) := by decide +kernel
theorem dX12_isAlone_106 : decode cX12_isAlone 106 = .ok (.goto 14, 3) := by decide +kernel
theorem dX12_isAlone_109 : decode cX12_isAlone 109 = .ok (.iload 4, 2) := by decide +kernel
theorem dX12_isAlone_111 : decode cX12_isAlone 111 = .ok (.iconst 1, 1) := by decide +kernel
theorem dX12_isAlone_112 : decode cX12_isAlone 112 = .ok (.if_icmp .ne 7, 3) := by decide +kernel
theorem dX12_isAlone_115 : decode cX12_isAlone 115 = .ok (.iconst 0, 1) := by decide +kernel
theorem dX12_isAlone_116 : decode cX12_isAlone 116 = .ok (.goto 4, 3) := by decide +kernel
theorem dX12_isAlone_119 : decode cX12_isAlone 119 = .ok (.iconst 1, 1) := by decide +kernel
theorem dX12_isAlone_120 : decode cX12_isAlone 120 = .ok (.ireturn, 1) := by decide +kernel
theorem dX12_isAlone_121 : decode cX12_isAlone 121 = .ok (.iload 4, 2) := by decide +kernel
theorem dX12_isAlone_123 : decode cX12_isAlone 123 = .ok (.ireturn, 1) := by decide +kernel
theorem dX12_isSheet_0 : decode cX12_isSheet 0 = .ok (.iload_n 0, 1) := by decide +kernel
theorem dX12_isSheet_1 : decode cX12_isSheet 1 = .ok (.iconst 0, 1) := by decide +kernel
theorem dX12_isSheet_2 : decode cX12_isSheet 2 = .ok (.iconst 3, 1) := by decide +kernel
theorem dX12_isSheet_3 : decode cX12_isSheet 3 = .ok (.invokestatic 122, 3) := by decide +kernel
theorem dX12_isSheet_6 : decode cX12_isSheet 6 = .ok (.ireturn, 1) := by decide +kernel
theorem dX12_looked_0 : decode cX12_looked 0 = .ok (.iload_n 1, 1) := by decide +kernel
theorem dX12_looked_1 : decode cX12_looked 1 = .ok (.invokestatic 233, 3) := by decide +kernel
theorem dX12_looked_4 : decode cX12_looked 4 = .ok (.ifCond .ne 7, 3) := by decide +kernel
theorem dX12_looked_7 : decode cX12_looked 7 = .ok (.iconst (-1), 1) := by decide +kernel
theorem dX12_looked_8 : decode cX12_looked 8 = .ok (.goto 21, 3) := by decide +kernel
theorem dX12_looked_11 : decode cX12_looked 11 = .ok (.aload_n 0, 1) := by decide +kernel
theorem dX12_looked_12 : decode cX12_looked 12 = .ok (.getfield 96, 3) := by decide +kernel
theorem dX12_looked_15 : decode cX12_looked 15 = .ok (.iload_n 1, 1) := by decide +kernel
theorem dX12_looked_16 : decode cX12_looked 16 = .ok (.iaload, 1) := by decide +kernel
theorem dX12_looked_17 : decode cX12_looked 17 = .ok (.ifCond .ge 11, 3) := by decide +kernel
theorem dX12_looked_20 : decode cX12_looked 20 = .ok (.aload_n 0, 1) := by decide +kernel
theorem dX12_looked_21 : decode cX12_looked 21 = .ok (.iconst 1, 1) := by decide +kernel
theorem dX12_looked_22 : decode cX12_looked 22 = .ok (.invokevirtual 138, 3) := by decide +kernel
theorem dX12_looked_25 : decode cX12_looked 25 = .ok (.goto 4, 3) := by decide +kernel
theorem dX12_looked_28 : decode cX12_looked 28 = .ok (.iconst 0, 1) := by decide +kernel
theorem dX12_looked_29 : decode cX12_looked 29 = .ok (.ireturn, 1) := by decide +kernel
theorem dX12_sheet_0 : decode cX12_sheet 0 = .ok (.iload_n 1, 1) := by decide +kernel
theorem dX12_sheet_1 : decode cX12_sheet 1 = .ok (.invokestatic 233, 3) := by decide +kernel
theorem dX12_sheet_4 : decode cX12_sheet 4 = .ok (.ifCond .eq 9, 3) := by decide +kernel
theorem dX12_sheet_7 : decode cX12_sheet 7 = .ok (.iload_n 2, 1) := by decide +kernel
theorem dX12_sheet_8 : decode cX12_sheet 8 = .ok (.bipush 24, 2) := by decide +kernel
theorem dX12_sheet_10 : decode cX12_sheet 10 = .ok (.if_icmp .le 5, 3) := by decide +kernel
theorem dX12_sheet_13 : decode cX12_sheet 13 = .ok (.iconst (-1), 1) := by decide +kernel
theorem dX12_sheet_14 : decode cX12_sheet 14 = .ok (.ireturn, 1) := by decide +kernel
theorem dX12_sheet_15 : decode cX12_sheet 15 = .ok (.iload_n 2, 1) := by decide +kernel
theorem dX12_sheet_16 : decode cX12_sheet 16 = .ok (.ifCond .ge 9, 3) := by decide +kernel
theorem dX12_sheet_19 : decode cX12_sheet 19 = .ok (.aload_n 0, 1) := by decide +kernel
theorem dX12_sheet_20 : decode cX12_sheet 20 = .ok (.iconst 5, 1) := by decide +kernel
theorem dX12_sheet_21 : decode cX12_sheet 21 = .ok (.invokevirtual 138, 3) := by decide +kernel
theorem dX12_sheet_24 : decode cX12_sheet 24 = .ok (.ireturn, 1) := by decide +kernel
theorem dX12_sheet_25 : decode cX12_sheet 25 = .ok (.aload_n 0, 1) := by decide +kernel
theorem dX12_sheet_26 : decode cX12_sheet 26 = .ok (.getfield 96, 3) := by decide +kernel
theorem dX12_sheet_29 : decode cX12_sheet 29 = .ok (.iload_n 1, 1) := by decide +kernel
theorem dX12_sheet_30 : decode cX12_sheet 30 = .ok (.iload_n 2, 1) := by decide +kernel
theorem dX12_sheet_31 : decode cX12_sheet 31 = .ok (.iastore, 1) := by decide +kernel
theorem dX12_sheet_32 : decode cX12_sheet 32 = .ok (.iconst 0, 1) := by decide +kernel
theorem dX12_sheet_33 : decode cX12_sheet 33 = .ok (.istore_n 3, 1) := by decide +kernel
theorem dX12_sheet_34 : decode cX12_sheet 34 = .ok (.iload_n 3, 1) := by decide +kernel
theorem dX12_sheet_35 : decode cX12_sheet 35 = .ok (.bipush 24, 2) := by decide +kernel
theorem dX12_sheet_37 : decode cX12_sheet 37 = .ok (.if_icmp .ge 21, 3) := by decide +kernel
theorem dX12_sheet_40 : decode cX12_sheet 40 = .ok (.aload_n 0, 1) := by decide +kernel
theorem dX12_sheet_41 : decode cX12_sheet 41 = .ok (.getfield 99, 3) := by decide +kernel
theorem dX12_sheet_44 : decode cX12_sheet 44 = .ok (.bipush 24, 2) := by decide +kernel
theorem dX12_sheet_46 : decode cX12_sheet 46 = .ok (.iload_n 1, 1) := by decide +kernel
theorem dX12_sheet_47 : decode cX12_sheet 47 = .ok (.imul, 1) := by decide +kernel
theorem dX12_sheet_48 : decode cX12_sheet 48 = .ok (.iload_n 3, 1) := by decide +kernel
theorem dX12_sheet_49 : decode cX12_sheet 49 = .ok (.iadd, 1) := by decide +kernel
theorem dX12_sheet_50 : decode cX12_sheet 50 = .ok (.iconst 0, 1) := by decide +kernel
theorem dX12_sheet_51 : decode cX12_sheet 51 = .ok (.iastore, 1) := by decide +kernel
theorem dX12_sheet_52 : decode cX12_sheet 52 = .ok (.iinc 3 1, 3) := by decide +kernel
theorem dX12_sheet_55 : decode cX12_sheet 55 = .ok (.goto (-21), 3) := by decide +kernel
theorem dX12_sheet_58 : decode cX12_sheet 58 = .ok (.iload_n 2, 1) := by decide +kernel
theorem dX12_sheet_59 : decode cX12_sheet 59 = .ok (.ireturn, 1) := by decide +kernel
theorem dX12_lay_0 : decode cX12_lay 0 = .ok (.aload_n 0, 1) := by decide +kernel
theorem dX12_lay_1 : decode cX12_lay 1 = .ok (.iload_n 1, 1) := by decide +kernel
theorem dX12_lay_2 : decode cX12_lay 2 = .ok (.invokevirtual 236, 3) := by decide +kernel
theorem dX12_lay_5 : decode cX12_lay 5 = .ok (.istore 4, 2) := by decide +kernel
theorem dX12_lay_7 : decode cX12_lay 7 = .ok (.iload 4, 2) := by decide +kernel
theorem dX12_lay_9 : decode cX12_lay 9 = .ok (.ifCond .ge 6, 3) := by decide +kernel
theorem dX12_lay_12 : decode cX12_lay 12 = .ok (.iload 4, 2) := by decide +kernel
theorem dX12_lay_14 : decode cX12_lay 14 = .ok (.ireturn, 1) := by decide +kernel
theorem dX12_lay_15 : decode cX12_lay 15 = .ok (.iload_n 2, 1) := by decide +kernel
theorem dX12_lay_16 : decode cX12_lay 16 = .ok (.iconst 0, 1) := by decide +kernel
theorem dX12_lay_17 : decode cX12_lay 17 = .ok (.aload_n 0, 1) := by decide +kernel
theorem dX12_lay_18 : decode cX12_lay 18 = .ok (.getfield 96, 3) := by decide +kernel
theorem dX12_lay_21 : decode cX12_lay 21 = .ok (.iload_n 1, 1) := by decide +kernel
theorem dX12_lay_22 : decode cX12_lay 22 = .ok (.iaload, 1) := by decide +kernel
theorem dX12_lay_23 : decode cX12_lay 23 = .ok (.iconst 1, 1) := by decide +kernel
theorem dX12_lay_24 : decode cX12_lay 24 = .ok (.isub, 1) := by decide +kernel
theorem dX12_lay_25 : decode cX12_lay 25 = .ok (.invokestatic 122, 3) := by decide +kernel
theorem dX12_lay_28 : decode cX12_lay 28 = .ok (.ifCond .ne 9, 3) := by decide +kernel
theorem dX12_lay_31 : decode cX12_lay 31 = .ok (.aload_n 0, 1) := by decide +kernel
theorem dX12_lay_32 : decode cX12_lay 32 = .ok (.iconst 2, 1) := by decide +kernel
theorem dX12_lay_33 : decode cX12_lay 33 = .ok (.invokevirtual 138, 3) := by decide +kernel
theorem dX12_lay_36 : decode cX12_lay 36 = .ok (.ireturn, 1) := by decide +kernel
theorem dX12_lay_37 : decode cX12_lay 37 = .ok (.aload_n 0, 1) := by decide +kernel
theorem dX12_lay_38 : decode cX12_lay 38 = .ok (.getfield 99, 3) := by decide +kernel
theorem dX12_lay_41 : decode cX12_lay 41 = .ok (.bipush 24, 2) := by decide +kernel
theorem dX12_lay_43 : decode cX12_lay 43 = .ok (.iload_n 1, 1) := by decide +kernel
theorem dX12_lay_44 : decode cX12_lay 44 = .ok (.imul, 1) := by decide +kernel
theorem dX12_lay_45 : decode cX12_lay 45 = .ok (.iload_n 2, 1) := by decide +kernel
theorem dX12_lay_46 : decode cX12_lay 46 = .ok (.iadd, 1) := by decide +kernel
theorem dX12_lay_47 : decode cX12_lay 47 = .ok (.iaload, 1) := by decide +kernel
theorem dX12_lay_48 : decode cX12_lay 48 = .ok (.istore 5, 2) := by decide +kernel
theorem dX12_lay_50 : decode cX12_lay 50 = .ok (.aload_n 0, 1) := by decide +kernel
theorem dX12_lay_51 : decode cX12_lay 51 = .ok (.getfield 99, 3) := by decide +kernel
theorem dX12_lay_54 : decode cX12_lay 54 = .ok (.bipush 24, 2) := by decide +kernel
theorem dX12_lay_56 : decode cX12_lay 56 = .ok (.iload_n 1, 1) := by decide +kernel
theorem dX12_lay_57 : decode cX12_lay 57 = .ok (.imul, 1) := by decide +kernel
theorem dX12_lay_58 : decode cX12_lay 58 = .ok (.iload_n 2, 1) := by decide +kernel
theorem dX12_lay_59 : decode cX12_lay 59 = .ok (.iadd, 1) := by decide +kernel
theorem dX12_lay_60 : decode cX12_lay 60 = .ok (.iload_n 3, 1) := by decide +kernel
theorem dX12_lay_61 : decode cX12_lay 61 = .ok (.i2b, 1) := by decide +kernel
theorem dX12_lay_62 : decode cX12_lay 62 = .ok (.iastore, 1) := by decide +kernel
theorem dX12_lay_63 : decode cX12_lay 63 = .ok (.iload 5, 2) := by decide +kernel
theorem dX12_lay_65 : decode cX12_lay 65 = .ok (.sipush 1000, 3) := by decide +kernel
theorem dX12_lay_68 : decode cX12_lay 68 = .ok (.iadd, 1) := by decide +kernel
theorem dX12_lay_69 : decode cX12_lay 69 = .ok (.ireturn, 1) := by decide +kernel
theorem dX12_play_0 : decode cX12_play 0 = .ok (.iload_n 1, 1) := by decide +kernel
theorem dX12_play_1 : decode cX12_play 1 = .ok (.invokestatic 233, 3) := by decide +kernel
theorem dX12_play_4 : decode cX12_play 4 = .ok (.ifCond .eq 11, 3) := by decide +kernel
theorem dX12_play_7 : decode cX12_play 7 = .ok (.aload_n 0, 1) := by decide +kernel
theorem dX12_play_8 : decode cX12_play 8 = .ok (.iload_n 2, 1) := by decide +kernel
theorem dX12_play_9 : decode cX12_play 9 = .ok (.invokevirtual 130, 3) := by decide +kernel
theorem dX12_play_12 : decode cX12_play 12 = .ok (.ifCond .ne 5, 3) := by decide +kernel
theorem dX12_play_15 : decode cX12_play 15 = .ok (.iconst (-1), 1) := by decide +kernel
theorem dX12_play_16 : decode cX12_play 16 = .ok (.ireturn, 1) := by decide +kernel
theorem dX12_play_17 : decode cX12_play 17 = .ok (.aload_n 0, 1) := by decide +kernel
theorem dX12_play_18 : decode cX12_play 18 = .ok (.iload_n 2, 1) := by decide +kernel
theorem dX12_play_19 : decode cX12_play 19 = .ok (.invokevirtual 153, 3) := by decide +kernel
theorem dX12_play_22 : decode cX12_play 22 = .ok (.ifCond .ne 9, 3) := by decide +kernel
theorem dX12_play_25 : decode cX12_play 25 = .ok (.aload_n 0, 1) := by decide +kernel
theorem dX12_play_26 : decode cX12_play 26 = .ok (.iconst 3, 1) := by decide +kernel
theorem dX12_play_27 : decode cX12_play 27 = .ok (.invokevirtual 138, 3) := by decide +kernel
theorem dX12_play_30 : decode cX12_play 30 = .ok (.ireturn, 1) := by decide +kernel
theorem dX12_play_31 : decode cX12_play 31 = .ok (.aload_n 0, 1) := by decide +kernel
theorem dX12_play_32 : decode cX12_play 32 = .ok (.getfield 96, 3) := by decide +kernel
theorem dX12_play_35 : decode cX12_play 35 = .ok (.iload_n 1, 1) := by decide +kernel
theorem dX12_play_36 : decode cX12_play 36 = .ok (.iaload, 1) := by decide +kernel
theorem dX12_play_37 : decode cX12_play 37 = .ok (.ifCond .ge 9, 3) := by decide +kernel
theorem dX12_play_40 : decode cX12_play 40 = .ok (.aload_n 0, 1) := by decide +kernel
theorem dX12_play_41 : decode cX12_play 41 = .ok (.iconst 1, 1) := by decide +kernel
theorem dX12_play_42 : decode cX12_play 42 = .ok (.invokevirtual 138, 3) := by decide +kernel
theorem dX12_play_45 : decode cX12_play 45 = .ok (.ireturn, 1) := by decide +kernel
theorem dX12_play_46 : decode cX12_play 46 = .ok (.iconst 0, 1) := by decide +kernel
theorem dX12_play_47 : decode cX12_play 47 = .ok (.istore_n 3, 1) := by decide +kernel
theorem dX12_play_48 : decode cX12_play 48 = .ok (.iload_n 3, 1) := by decide +kernel
theorem dX12_play_49 : decode cX12_play 49 = .ok (.aload_n 0, 1) := by decide +kernel
theorem dX12_play_50 : decode cX12_play 50 = .ok (.getfield 96, 3) := by decide +kernel
theorem dX12_play_53 : decode cX12_play 53 = .ok (.iload_n 1, 1) := by decide +kernel
theorem dX12_play_54 : decode cX12_play 54 = .ok (.iaload, 1) := by decide +kernel
theorem dX12_play_55 : decode cX12_play 55 = .ok (.if_icmp .ge 35, 3) := by decide +kernel
theorem dX12_play_58 : decode cX12_play 58 = .ok (.aload_n 0, 1) := by decide +kernel
theorem dX12_play_59 : decode cX12_play 59 = .ok (.getfield 36, 3) := by decide +kernel
theorem dX12_play_62 : decode cX12_play 62 = .ok (.bipush 24, 2) := by decide +kernel
theorem dX12_play_64 : decode cX12_play 64 = .ok (.iload_n 2, 1) := by decide +kernel
theorem dX12_play_65 : decode cX12_play 65 = .ok (.imul, 1) := by decide +kernel
theorem dX12_play_66 : decode cX12_play 66 = .ok (.iload_n 3, 1) := by decide +kernel
theorem dX12_play_67 : decode cX12_play 67 = .ok (.iadd, 1) := by decide +kernel
theorem dX12_play_68 : decode cX12_play 68 = .ok (.aload_n 0, 1) := by decide +kernel
theorem dX12_play_69 : decode cX12_play 69 = .ok (.getfield 99, 3) := by decide +kernel
theorem dX12_play_72 : decode cX12_play 72 = .ok (.bipush 24, 2) := by decide +kernel
theorem dX12_play_74 : decode cX12_play 74 = .ok (.iload_n 1, 1) := by decide +kernel
theorem dX12_play_75 : decode cX12_play 75 = .ok (.imul, 1) := by decide +kernel
theorem dX12_play_76 : decode cX12_play 76 = .ok (.iload_n 3, 1) := by decide +kernel
theorem dX12_play_77 : decode cX12_play 77 = .ok (.iadd, 1) := by decide +kernel
theorem dX12_play_78 : decode cX12_play 78 = .ok (.iaload, 1) := by decide +kernel
theorem dX12_play_79 : decode cX12_play 79 = .ok (.sipush 255, 3) := by decide +kernel
theorem dX12_play_82 : decode cX12_play 82 = .ok (.iand, 1) := by decide +kernel
theorem dX12_play_83 : decode cX12_play 83 = .ok (.iastore, 1) := by decide +kernel
theorem dX12_play_84 : decode cX12_play 84 = .ok (.iinc 3 1, 3) := by decide +kernel
theorem dX12_play_87 : decode cX12_play 87 = .ok (.goto (-39), 3) := by decide +kernel
theorem dX12_play_90 : decode cX12_play 90 = .ok (.aload_n 0, 1) := by decide +kernel
theorem dX12_play_91 : decode cX12_play 91 = .ok (.getfield 96, 3) := by decide +kernel
theorem dX12_play_94 : decode cX12_play 94 = .ok (.iload_n 1, 1) := by decide +kernel
theorem dX12_play_95 : decode cX12_play 95 = .ok (.iaload, 1) := by decide +kernel
theorem dX12_play_96 : decode cX12_play 96 = .ok (.ireturn, 1) := by decide +kernel
theorem dX12_tear_0 : decode cX12_tear 0 = .ok (.aload_n 0, 1) := by decide +kernel
theorem dX12_tear_1 : decode cX12_tear 1 = .ok (.iload_n 1, 1) := by decide +kernel
theorem dX12_tear_2 : decode cX12_tear 2 = .ok (.invokevirtual 236, 3) := by decide +kernel
theorem dX12_tear_5 : decode cX12_tear 5 = .ok (.istore_n 2, 1) := by decide +kernel
theorem dX12_tear_6 : decode cX12_tear 6 = .ok (.iload_n 2, 1) := by decide +kernel
theorem dX12_tear_7 : decode cX12_tear 7 = .ok (.ifCond .ge 5, 3) := by decide +kernel
theorem dX12_tear_10 : decode cX12_tear 10 = .ok (.iload_n 2, 1) := by decide +kernel
theorem dX12_tear_11 : decode cX12_tear 11 = .ok (.ireturn, 1) := by decide +kernel
theorem dX12_tear_12 : decode cX12_tear 12 = .ok (.aload_n 0, 1) := by decide +kernel
theorem dX12_tear_13 : decode cX12_tear 13 = .ok (.getfield 96, 3) := by decide +kernel
theorem dX12_tear_16 : decode cX12_tear 16 = .ok (.iload_n 1, 1) := by decide +kernel
theorem dX12_tear_17 : decode cX12_tear 17 = .ok (.bipush (-9), 2) := by decide +kernel
theorem dX12_tear_19 : decode cX12_tear 19 = .ok (.iastore, 1) := by decide +kernel
theorem dX12_tear_20 : decode cX12_tear 20 = .ok (.iconst 1, 1) := by decide +kernel
theorem dX12_tear_21 : decode cX12_tear 21 = .ok (.ireturn, 1) := by decide +kernel
theorem dX12_copy_0 : decode cX12_copy 0 = .ok (.iload_n 1, 1) := by decide +kernel
theorem dX12_copy_1 : decode cX12_copy 1 = .ok (.invokestatic 233, 3) := by decide +kernel
theorem dX12_copy_4 : decode cX12_copy 4 = .ok (.ifCond .eq 10, 3) := by decide +kernel
theorem dX12_copy_7 : decode cX12_copy 7 = .ok (.iload_n 3, 1) := by decide +kernel
theorem dX12_copy_8 : decode cX12_copy 8 = .ok (.invokestatic 233, 3) := by decide +kernel
theorem dX12_copy_11 : decode cX12_copy 11 = .ok (.ifCond .ne 5, 3) := by decide +kernel
theorem dX12_copy_14 : decode cX12_copy 14 = .ok (.iconst (-1), 1) := by decide +kernel
theorem dX12_copy_15 : decode cX12_copy 15 = .ok (.ireturn, 1) := by decide +kernel
theorem dX12_copy_16 : decode cX12_copy 16 = .ok (.iload 5, 2) := by decide +kernel
theorem dX12_copy_18 : decode cX12_copy 18 = .ok (.ifCond .ge 9, 3) := by decide +kernel
theorem dX12_copy_21 : decode cX12_copy 21 = .ok (.aload_n 0, 1) := by decide +kernel
theorem dX12_copy_22 : decode cX12_copy 22 = .ok (.iconst 5, 1) := by decide +kernel
theorem dX12_copy_23 : decode cX12_copy 23 = .ok (.invokevirtual 138, 3) := by decide +kernel
theorem dX12_copy_26 : decode cX12_copy 26 = .ok (.ireturn, 1) := by decide +kernel
theorem dX12_copy_27 : decode cX12_copy 27 = .ok (.aload_n 0, 1) := by decide +kernel
theorem dX12_copy_28 : decode cX12_copy 28 = .ok (.getfield 96, 3) := by decide +kernel
theorem dX12_copy_31 : decode cX12_copy 31 = .ok (.iload_n 1, 1) := by decide +kernel
theorem dX12_copy_32 : decode cX12_copy 32 = .ok (.iaload, 1) := by decide +kernel
theorem dX12_copy_33 : decode cX12_copy 33 = .ok (.ifCond .lt 12, 3) := by decide +kernel
theorem dX12_copy_36 : decode cX12_copy 36 = .ok (.aload_n 0, 1) := by decide +kernel
theorem dX12_copy_37 : decode cX12_copy 37 = .ok (.getfield 96, 3) := by decide +kernel
theorem dX12_copy_40 : decode cX12_copy 40 = .ok (.iload_n 3, 1) := by decide +kernel
theorem dX12_copy_41 : decode cX12_copy 41 = .ok (.iaload, 1) := by decide +kernel
theorem dX12_copy_42 : decode cX12_copy 42 = .ok (.ifCond .ge 9, 3) := by decide +kernel
theorem dX12_copy_45 : decode cX12_copy 45 = .ok (.aload_n 0, 1) := by decide +kernel
theorem dX12_copy_46 : decode cX12_copy 46 = .ok (.iconst 1, 1) := by decide +kernel
theorem dX12_copy_47 : decode cX12_copy 47 = .ok (.invokevirtual 138, 3) := by decide +kernel
theorem dX12_copy_50 : decode cX12_copy 50 = .ok (.ireturn, 1) := by decide +kernel
theorem dX12_copy_51 : decode cX12_copy 51 = .ok (.iload_n 2, 1) := by decide +kernel
theorem dX12_copy_52 : decode cX12_copy 52 = .ok (.ifCond .lt 43, 3) := by decide +kernel
theorem dX12_copy_55 : decode cX12_copy 55 = .ok (.iload 4, 2) := by decide +kernel
theorem dX12_copy_57 : decode cX12_copy 57 = .ok (.ifCond .lt 38, 3) := by decide +kernel
theorem dX12_copy_60 : decode cX12_copy 60 = .ok (.iload_n 2, 1) := by decide +kernel
theorem dX12_copy_61 : decode cX12_copy 61 = .ok (.i2l, 1) := by decide +kernel
theorem dX12_copy_62 : decode cX12_copy 62 = .ok (.iload 5, 2) := by decide +kernel
theorem dX12_copy_64 : decode cX12_copy 64 = .ok (.i2l, 1) := by decide +kernel
theorem dX12_copy_65 : decode cX12_copy 65 = .ok (.ladd, 1) := by decide +kernel
theorem dX12_copy_66 : decode cX12_copy 66 = .ok (.aload_n 0, 1) := by decide +kernel
theorem dX12_copy_67 : decode cX12_copy 67 = .ok (.getfield 96, 3) := by decide +kernel
theorem dX12_copy_70 : decode cX12_copy 70 = .ok (.iload_n 1, 1) := by decide +kernel
theorem dX12_copy_71 : decode cX12_copy 71 = .ok (.iaload, 1) := by decide +kernel
theorem dX12_copy_72 : decode cX12_copy 72 = .ok (.i2l, 1) := by decide +kernel
theorem dX12_copy_73 : decode cX12_copy 73 = .ok (.lcmp, 1) := by decide +kernel
theorem dX12_copy_74 : decode cX12_copy 74 = .ok (.ifCond .gt 21, 3) := by decide +kernel
theorem dX12_copy_77 : decode cX12_copy 77 = .ok (.iload 4, 2) := by decide +kernel
theorem dX12_copy_79 : decode cX12_copy 79 = .ok (.i2l, 1) := by decide +kernel
theorem dX12_copy_80 : decode cX12_copy 80 = .ok (.iload 5, 2) := by decide +kernel
theorem dX12_copy_82 : decode cX12_copy 82 = .ok (.i2l, 1) := by decide +kernel
theorem dX12_copy_83 : decode cX12_copy 83 = .ok (.ladd, 1) := by decide +kernel
theorem dX12_copy_84 : decode cX12_copy 84 = .ok (.aload_n 0, 1) := by decide +kernel
theorem dX12_copy_85 : decode cX12_copy 85 = .ok (.getfield 96, 3) := by decide +kernel
theorem dX12_copy_88 : decode cX12_copy 88 = .ok (.iload_n 3, 1) := by decide +kernel
theorem dX12_copy_89 : decode cX12_copy 89 = .ok (.iaload, 1) := by decide +kernel
theorem dX12_copy_90 : decode cX12_copy 90 = .ok (.i2l, 1) := by decide +kernel
theorem dX12_copy_91 : decode cX12_copy 91 = .ok (.lcmp, 1) := by decide +kernel
theorem dX12_copy_92 : decode cX12_copy 92 = .ok (.ifCond .le 9, 3) := by decide +kernel
theorem dX12_copy_95 : decode cX12_copy 95 = .ok (.aload_n 0, 1) := by decide +kernel
theorem dX12_copy_96 : decode cX12_copy 96 = .ok (.iconst 2, 1) := by decide +kernel
theorem dX12_copy_97 : decode cX12_copy 97 = .ok (.invokevirtual 138, 3) := by decide +kernel
theorem dX12_copy_100 : decode cX12_copy 100 = .ok (.ireturn, 1) := by decide +kernel
theorem dX12_copy_101 : decode cX12_copy 101 = .ok (.iconst 0, 1) := by decide +kernel
theorem dX12_copy_102 : decode cX12_copy 102 = .ok (.istore 6, 2) := by decide +kernel
theorem dX12_copy_104 : decode cX12_copy 104 = .ok (.iload 6, 2) := by decide +kernel
theorem dX12_copy_106 : decode cX12_copy 106 = .ok (.iload 5, 2) := by decide +kernel
theorem dX12_copy_108 : decode cX12_copy 108 = .ok (.if_icmp .ge 30, 3) := by decide +kernel
theorem dX12_copy_111 : decode cX12_copy 111 = .ok (.aload_n 0, 1) := by decide +kernel
theorem dX12_copy_112 : decode cX12_copy 112 = .ok (.getfield 102, 3) := by decide +kernel
theorem dX12_copy_115 : decode cX12_copy 115 = .ok (.iload 6, 2) := by decide +kernel
theorem dX12_copy_117 : decode cX12_copy 117 = .ok (.aload_n 0, 1) := by decide +kernel
theorem dX12_copy_118 : decode cX12_copy 118 = .ok (.getfield 99, 3) := by decide +kernel
theorem dX12_copy_121 : decode cX12_copy 121 = .ok (.bipush 24, 2) := by decide +kernel
theorem dX12_copy_123 : decode cX12_copy 123 = .ok (.iload_n 1, 1) := by decide +kernel
theorem dX12_copy_124 : decode cX12_copy 124 = .ok (.imul, 1) := by decide +kernel
theorem dX12_copy_125 : decode cX12_copy 125 = .ok (.iload_n 2, 1) := by decide +kernel
theorem dX12_copy_126 : decode cX12_copy 126 = .ok (.iadd, 1) := by decide +kernel
theorem dX12_copy_127 : decode cX12_copy 127 = .ok (.iload 6, 2) := by decide +kernel
theorem dX12_copy_129 : decode cX12_copy 129 = .ok (.iadd, 1) := by decide +kernel
theorem dX12_copy_130 : decode cX12_copy 130 = .ok (.iaload, 1) := by decide +kernel
theorem dX12_copy_131 : decode cX12_copy 131 = .ok (.iastore, 1) := by decide +kernel
theorem dX12_copy_132 : decode cX12_copy 132 = .ok (.iinc 6 1, 3) := by decide +kernel
theorem dX12_copy_135 : decode cX12_copy 135 = .ok (.goto (-31), 3) := by decide +kernel
theorem dX12_copy_138 : decode cX12_copy 138 = .ok (.iconst 0, 1) := by decide +kernel
theorem dX12_copy_139 : decode cX12_copy 139 = .ok (.istore 6, 2) := by decide +kernel
theorem dX12_copy_141 : decode cX12_copy 141 = .ok (.iload 6, 2) := by decide +kernel
theorem dX12_copy_143 : decode cX12_copy 143 = .ok (.iload 5, 2) := by decide +kernel
theorem dX12_copy_145 : decode cX12_copy 145 = .ok (.if_icmp .ge 31, 3) := by decide +kernel
theorem dX12_copy_148 : decode cX12_copy 148 = .ok (.aload_n 0, 1) := by decide +kernel
theorem dX12_copy_149 : decode cX12_copy 149 = .ok (.getfield 99, 3) := by decide +kernel
theorem dX12_copy_152 : decode cX12_copy 152 = .ok (.bipush 24, 2) := by decide +kernel
theorem dX12_copy_154 : decode cX12_copy 154 = .ok (.iload_n 3, 1) := by decide +kernel
theorem dX12_copy_155 : decode cX12_copy 155 = .ok (.imul, 1) := by decide +kernel
theorem dX12_copy_156 : decode cX12_copy 156 = .ok (.iload 4, 2) := by decide +kernel
theorem dX12_copy_158 : decode cX12_copy 158 = .ok (.iadd, 1) := by decide +kernel
theorem dX12_copy_159 : decode cX12_copy 159 = .ok (.iload 6, 2) := by decide +kernel
theorem dX12_copy_161 : decode cX12_copy 161 = .ok (.iadd, 1) := by decide +kernel
theorem dX12_copy_162 : decode cX12_copy 162 = .ok (.aload_n 0, 1) := by decide +kernel
theorem dX12_copy_163 : decode cX12_copy 163 = .ok (.getfield 102, 3) := by decide +kernel
theorem dX12_copy_166 : decode cX12_copy 166 = .ok (.iload 6, 2) := by decide +kernel
theorem dX12_copy_168 : decode cX12_copy 168 = .ok (.iaload, 1) := by decide +kernel
theorem dX12_copy_169 : decode cX12_copy 169 = .ok (.iastore, 1) := by decide +kernel
theorem dX12_copy_170 : decode cX12_copy 170 = .ok (.iinc 6 1, 3) := by decide +kernel
theorem dX12_copy_173 : decode cX12_copy 173 = .ok (.goto (-32), 3) := by decide +kernel
theorem dX12_copy_176 : decode cX12_copy 176 = .ok (.iconst 1, 1) := by decide +kernel
theorem dX12_copy_177 : decode cX12_copy 177 = .ok (.ireturn, 1) := by decide +kernel
theorem dX12_asked_0 : decode cX12_asked 0 = .ok (.aload_n 0, 1) := by decide +kernel
theorem dX12_asked_1 : decode cX12_asked 1 = .ok (.getfield 111, 3) := by decide +kernel
theorem dX12_asked_4 : decode cX12_asked 4 = .ok (.lreturn, 1) := by decide +kernel
theorem dX12_tellsCount_0 : decode cX12_tellsCount 0 = .ok (.iload_n 1, 1) := by decide +kernel
theorem dX12_tellsCount_1 : decode cX12_tellsCount 1 = .ok (.iconst 2, 1) := by decide +kernel
theorem dX12_tellsCount_2 : decode cX12_tellsCount 2 = .ok (.if_icmp .ge 19, 3) := by decide +kernel
theorem dX12_tellsCount_5 : decode cX12_tellsCount 5 = .ok (.iload_n 1, 1) := by decide +kernel
theorem dX12_tellsCount_6 : decode cX12_tellsCount 6 = .ok (.ifCond .ne 10, 3) := by decide +kernel
theorem dX12_tellsCount_9 : decode cX12_tellsCount 9 = .ok (.aload_n 0, 1) := by decide +kernel
theorem dX12_tellsCount_10 : decode cX12_tellsCount 10 = .ok (.getfield 13, 3) := by decide +kernel
theorem dX12_tellsCount_13 : decode cX12_tellsCount 13 = .ok (.goto 7, 3) := by decide +kernel
theorem dX12_tellsCount_16 : decode cX12_tellsCount 16 = .ok (.aload_n 0, 1) := by decide +kernel
theorem dX12_tellsCount_17 : decode cX12_tellsCount 17 = .ok (.getfield 115, 3) := by decide +kernel
theorem dX12_tellsCount_20 : decode cX12_tellsCount 20 = .ok (.ireturn, 1) := by decide +kernel
theorem dX12_tellsCount_21 : decode cX12_tellsCount 21 = .ok (.iconst 0, 1) := by decide +kernel
theorem dX12_tellsCount_22 : decode cX12_tellsCount 22 = .ok (.istore_n 2, 1) := by decide +kernel
theorem dX12_tellsCount_23 : decode cX12_tellsCount 23 = .ok (.iconst 0, 1) := by decide +kernel
theorem dX12_tellsCount_24 : decode cX12_tellsCount 24 = .ok (.istore_n 3, 1) := by decide +kernel
theorem dX12_tellsCount_25 : decode cX12_tellsCount 25 = .ok (.iload_n 3, 1) := by decide +kernel
theorem dX12_tellsCount_26 : decode cX12_tellsCount 26 = .ok (.aload_n 0, 1) := by decide +kernel
theorem dX12_tellsCount_27 : decode cX12_tellsCount 27 = .ok (.getfield 115, 3) := by decide +kernel
theorem dX12_tellsCount_30 : decode cX12_tellsCount 30 = .ok (.if_icmp .ge 33, 3) := by decide +kernel
theorem dX12_tellsCount_33 : decode cX12_tellsCount 33 = .ok (.iload_n 1, 1) := by decide +kernel
theorem dX12_tellsCount_34 : decode cX12_tellsCount 34 = .ok (.iconst 2, 1) := by decide +kernel
theorem dX12_tellsCount_35 : decode cX12_tellsCount 35 = .ok (.if_icmp .ne 28, 3) := by decide +kernel
theorem dX12_tellsCount_38 : decode cX12_tellsCount 38 = .ok (.iload_n 2, 1) := by decide +kernel
theorem dX12_tellsCount_39 : decode cX12_tellsCount 39 = .ok (.aload_n 0, 1) := by decide +kernel
theorem dX12_tellsCount_40 : decode cX12_tellsCount 40 = .ok (.getfield 33, 3) := by decide +kernel
theorem dX12_tellsCount_43 : decode cX12_tellsCount 43 = .ok (.iload_n 3, 1) := by decide +kernel
theorem dX12_tellsCount_44 : decode cX12_tellsCount 44 = .ok (.iaload, 1) := by decide +kernel
theorem dX12_tellsCount_45 : decode cX12_tellsCount 45 = .ok (.bipush (-9), 2) := by decide +kernel
theorem dX12_tellsCount_47 : decode cX12_tellsCount 47 = .ok (.if_icmp .eq 7, 3) := by decide +kernel
theorem dX12_tellsCount_50 : decode cX12_tellsCount 50 = .ok (.iconst 1, 1) := by decide +kernel
theorem dX12_tellsCount_51 : decode cX12_tellsCount 51 = .ok (.goto 4, 3) := by decide +kernel
theorem dX12_tellsCount_54 : decode cX12_tellsCount 54 = .ok (.iconst 0, 1) := by decide +kernel
theorem dX12_tellsCount_55 : decode cX12_tellsCount 55 = .ok (.iadd, 1) := by decide +kernel
theorem dX12_tellsCount_56 : decode cX12_tellsCount 56 = .ok (.istore_n 2, 1) := by decide +kernel
theorem dX12_tellsCount_57 : decode cX12_tellsCount 57 = .ok (.iinc 3 1, 3) := by decide +kernel
theorem dX12_tellsCount_60 : decode cX12_tellsCount 60 = .ok (.goto (-35), 3) := by decide +kernel
theorem dX12_tellsCount_63 : decode cX12_tellsCount 63 = .ok (.aload_n 0, 1) := by decide +kernel
theorem dX12_tellsCount_64 : decode cX12_tellsCount 64 = .ok (.bipush (-9), 2) := by decide +kernel
theorem dX12_tellsCount_66 : decode cX12_tellsCount 66 = .ok (.invokevirtual 148, 3) := by decide +kernel
theorem dX12_tellsCount_69 : decode cX12_tellsCount 69 = .ok (.iconst 0, 1) := by decide +kernel
theorem dX12_tellsCount_70 : decode cX12_tellsCount 70 = .ok (.istore_n 3, 1) := by decide +kernel
theorem dX12_tellsCount_71 : decode cX12_tellsCount 71 = .ok (.iload_n 3, 1) := by decide +kernel
theorem dX12_tellsCount_72 : decode cX12_tellsCount 72 = .ok (.aload_n 0, 1) := by decide +kernel
theorem dX12_tellsCount_73 : decode cX12_tellsCount 73 = .ok (.getfield 13, 3) := by decide +kernel
theorem dX12_tellsCount_76 : decode cX12_tellsCount 76 = .ok (.if_icmp .ge 96, 3) := by decide +kernel
theorem dX12_tellsCount_79 : decode cX12_tellsCount 79 = .ok (.iload_n 1, 1) := by decide +kernel
theorem dX12_tellsCount_80 : decode cX12_tellsCount 80 = .ok (.iconst 2, 1) := by decide +kernel
theorem dX12_tellsCount_81 : decode cX12_tellsCount 81 = .ok (.if_icmp .le 91, 3) := by decide +kernel
theorem dX12_tellsCount_84 : decode cX12_tellsCount 84 = .ok (.iconst 0, 1) := by decide +kernel
theorem dX12_tellsCount_85 : decode cX12_tellsCount 85 = .ok (.istore 4, 2) := by decide +kernel
theorem dX12_tellsCount_87 : decode cX12_tellsCount 87 = .ok (.iload 4, 2) := by decide +kernel
theorem dX12_tellsCount_89 : decode cX12_tellsCount 89 = .ok (.aload_n 0, 1) := by decide +kernel
theorem dX12_tellsCount_90 : decode cX12_tellsCount 90 = .ok (.getfield 13, 3) := by decide +kernel
theorem dX12_tellsCount_93 : decode cX12_tellsCount 93 = .ok (.if_icmp .ge 73, 3) := by decide +kernel
theorem dX12_tellsCount_96 : decode cX12_tellsCount 96 = .ok (.aload_n 0, 1) := by decide +kernel
theorem dX12_tellsCount_97 : decode cX12_tellsCount 97 = .ok (.getfield 13, 3) := by decide +kernel
theorem dX12_tellsCount_100 : decode cX12_tellsCount 100 = .ok (.iload_n 3, 1) := by decide +kernel
theorem dX12_tellsCount_101 : decode cX12_tellsCount 101 = .ok (.imul, 1) := by decide +kernel
theorem dX12_tellsCount_102 : decode cX12_tellsCount 102 = .ok (.iload 4, 2) := by decide +kernel
theorem dX12_tellsCount_104 : decode cX12_tellsCount 104 = .ok (.iadd, 1) := by decide +kernel
theorem dX12_tellsCount_105 : decode cX12_tellsCount 105 = .ok (.istore 5, 2) := by decide +kernel
theorem dX12_tellsCount_107 : decode cX12_tellsCount 107 = .ok (.iload_n 2, 1) := by decide +kernel
theorem dX12_tellsCount_108 : decode cX12_tellsCount 108 = .ok (.iload_n 3, 1) := by decide +kernel
theorem dX12_tellsCount_109 : decode cX12_tellsCount 109 = .ok (.iload 4, 2) := by decide +kernel
theorem dX12_tellsCount_111 : decode cX12_tellsCount 111 = .ok (.if_icmp .ne 7, 3) := by decide +kernel
theorem dX12_tellsCount_114 : decode cX12_tellsCount 114 = .ok (.iconst 0, 1) := by decide +kernel
theorem dX12_tellsCount_115 : decode cX12_tellsCount 115 = .ok (.goto 43, 3) := by decide +kernel
theorem dX12_tellsCount_118 : decode cX12_tellsCount 118 = .ok (.iload_n 1, 1) := by decide +kernel
theorem dX12_tellsCount_119 : decode cX12_tellsCount 119 = .ok (.iconst 3, 1) := by decide +kernel
theorem dX12_tellsCount_120 : decode cX12_tellsCount 120 = .ok (.if_icmp .ne 23, 3) := by decide +kernel
theorem dX12_tellsCount_123 : decode cX12_tellsCount 123 = .ok (.aload_n 0, 1) := by decide +kernel
theorem dX12_tellsCount_124 : decode cX12_tellsCount 124 = .ok (.getfield 39, 3) := by decide +kernel
theorem dX12_tellsCount_127 : decode cX12_tellsCount 127 = .ok (.iload 5, 2) := by decide +kernel
theorem dX12_tellsCount_129 : decode cX12_tellsCount 129 = .ok (.iaload, 1) := by decide +kernel
theorem dX12_tellsCount_130 : decode cX12_tellsCount 130 = .ok (.bipush (-9), 2) := by decide +kernel
theorem dX12_tellsCount_132 : decode cX12_tellsCount 132 = .ok (.if_icmp .eq 7, 3) := by decide +kernel
theorem dX12_tellsCount_135 : decode cX12_tellsCount 135 = .ok (.iconst 1, 1) := by decide +kernel
theorem dX12_tellsCount_136 : decode cX12_tellsCount 136 = .ok (.goto 22, 3) := by decide +kernel
theorem dX12_tellsCount_139 : decode cX12_tellsCount 139 = .ok (.iconst 0, 1) := by decide +kernel
theorem dX12_tellsCount_140 : decode cX12_tellsCount 140 = .ok (.goto 18, 3) := by decide +kernel
theorem dX12_tellsCount_143 : decode cX12_tellsCount 143 = .ok (.aload_n 0, 1) := by decide +kernel
theorem dX12_tellsCount_144 : decode cX12_tellsCount 144 = .ok (.getfield 48, 3) := by decide +kernel
theorem dX12_tellsCount_147 : decode cX12_tellsCount 147 = .ok (.iload 5, 2) := by decide +kernel
theorem dX12_tellsCount_149 : decode cX12_tellsCount 149 = .ok (.iaload, 1) := by decide +kernel
theorem dX12_tellsCount_150 : decode cX12_tellsCount 150 = .ok (.ifCond .ge 7, 3) := by decide +kernel
theorem dX12_tellsCount_153 : decode cX12_tellsCount 153 = .ok (.iconst 1, 1) := by decide +kernel
theorem dX12_tellsCount_154 : decode cX12_tellsCount 154 = .ok (.goto 4, 3) := by decide +kernel
theorem dX12_tellsCount_157 : decode cX12_tellsCount 157 = .ok (.iconst 0, 1) := by decide +kernel
theorem dX12_tellsCount_158 : decode cX12_tellsCount 158 = .ok (.iadd, 1) := by decide +kernel
theorem dX12_tellsCount_159 : decode cX12_tellsCount 159 = .ok (.istore_n 2, 1) := by decide +kernel
theorem dX12_tellsCount_160 : decode cX12_tellsCount 160 = .ok (.iinc 4 1, 3) := by decide +kernel
theorem dX12_tellsCount_163 : decode cX12_tellsCount 163 = .ok (.goto (-76), 3) := by decide +kernel
theorem dX12_tellsCount_166 : decode cX12_tellsCount 166 = .ok (.iinc 3 1, 3) := by decide +kernel
theorem dX12_tellsCount_169 : decode cX12_tellsCount 169 = .ok (.goto (-98), 3) := by decide +kernel
theorem dX12_tellsCount_172 : decode cX12_tellsCount 172 = .ok (.iload_n 2, 1) := by decide +kernel
theorem dX12_tellsCount_173 : decode cX12_tellsCount 173 = .ok (.ireturn, 1) := by decide +kernel
theorem dX12_count_0 : decode cX12_count 0 = .ok (.iload_n 1, 1) := by decide +kernel
theorem dX12_count_1 : decode cX12_count 1 = .ok (.iconst 0, 1) := by decide +kernel
theorem dX12_count_2 : decode cX12_count 2 = .ok (.iconst 4, 1) := by decide +kernel
theorem dX12_count_3 : decode cX12_count 3 = .ok (.invokestatic 122, 3) := by decide +kernel
theorem dX12_count_6 : decode cX12_count 6 = .ok (.ifCond .eq 11, 3) := by decide +kernel
theorem dX12_count_9 : decode cX12_count 9 = .ok (.aload_n 0, 1) := by decide +kernel
theorem dX12_count_10 : decode cX12_count 10 = .ok (.iload_n 1, 1) := by decide +kernel
theorem dX12_count_11 : decode cX12_count 11 = .ok (.invokevirtual 239, 3) := by decide +kernel
theorem dX12_count_14 : decode cX12_count 14 = .ok (.goto 4, 3) := by decide +kernel
theorem dX12_count_17 : decode cX12_count 17 = .ok (.iconst (-1), 1) := by decide +kernel
theorem dX12_count_18 : decode cX12_count 18 = .ok (.ireturn, 1) := by decide +kernel
theorem dX12_finding_0 : decode cX12_finding 0 = .ok (.aload_n 0, 1) := by decide +kernel
theorem dX12_finding_1 : decode cX12_finding 1 = .ok (.getfield 108, 3) := by decide +kernel
theorem dX12_finding_4 : decode cX12_finding 4 = .ok (.ireturn, 1) := by decide +kernel
theorem dX12_findings_0 : decode cX12_findings 0 = .ok (.iload_n 1, 1) := by decide +kernel
theorem dX12_findings_1 : decode cX12_findings 1 = .ok (.iconst 1, 1) := by decide +kernel
theorem dX12_findings_2 : decode cX12_findings 2 = .ok (.iconst 5, 1) := by decide +kernel
theorem dX12_findings_3 : decode cX12_findings 3 = .ok (.invokestatic 122, 3) := by decide +kernel
theorem dX12_findings_6 : decode cX12_findings 6 = .ok (.ifCond .eq 12, 3) := by decide +kernel
theorem dX12_findings_9 : decode cX12_findings 9 = .ok (.aload_n 0, 1) := by decide +kernel
theorem dX12_findings_10 : decode cX12_findings 10 = .ok (.getfield 7, 3) := by decide +kernel
theorem dX12_findings_13 : decode cX12_findings 13 = .ok (.iload_n 1, 1) := by decide +kernel
theorem dX12_findings_14 : decode cX12_findings 14 = .ok (.iaload, 1) := by decide +kernel
theorem dX12_findings_15 : decode cX12_findings 15 = .ok (.goto 4, 3) := by decide +kernel
theorem dX12_findings_18 : decode cX12_findings 18 = .ok (.iconst (-1), 1) := by decide +kernel
theorem dX12_findings_19 : decode cX12_findings 19 = .ok (.ireturn, 1) := by decide +kernel
theorem dX12_digest_0 : decode cX12_digest 0 = .ok (.ldc2_w 242, 3) := by decide +kernel
theorem dX12_digest_3 : decode cX12_digest 3 = .ok (.lstore_n 1, 1) := by decide +kernel
theorem dX12_digest_4 : decode cX12_digest 4 = .ok (.iconst 0, 1) := by decide +kernel
theorem dX12_digest_5 : decode cX12_digest 5 = .ok (.istore_n 3, 1) := by decide +kernel
theorem dX12_digest_6 : decode cX12_digest 6 = .ok (.iload_n 3, 1) := by decide +kernel
theorem dX12_digest_7 : decode cX12_digest 7 = .ok (.iconst 4, 1) := by decide +kernel
theorem dX12_digest_8 : decode cX12_digest 8 = .ok (.if_icmp .gt 22, 3) := by decide +kernel
theorem dX12_digest_11 : decode cX12_digest 11 = .ok (.ldc2_w 244, 3) := by decide +kernel
theorem dX12_digest_14 : decode cX12_digest 14 = .ok (.lload_n 1, 1) := by decide +kernel
theorem dX12_digest_15 : decode cX12_digest 15 = .ok (.lmul, 1) := by decide +kernel
theorem dX12_digest_16 : decode cX12_digest 16 = .ok (.aload_n 0, 1) := by decide +kernel
theorem dX12_digest_17 : decode cX12_digest 17 = .ok (.iload_n 3, 1) := by decide +kernel
theorem dX12_digest_18 : decode cX12_digest 18 = .ok (.invokevirtual 239, 3) := by decide +kernel
theorem dX12_digest_21 : decode cX12_digest 21 = .ok (.i2l, 1) := by decide +kernel
theorem dX12_digest_22 : decode cX12_digest 22 = .ok (.ladd, 1) := by decide +kernel
theorem dX12_digest_23 : decode cX12_digest 23 = .ok (.lstore_n 1, 1) := by decide +kernel
theorem dX12_digest_24 : decode cX12_digest 24 = .ok (.iinc 3 1, 3) := by decide +kernel
theorem dX12_digest_27 : decode cX12_digest 27 = .ok (.goto (-21), 3) := by decide +kernel
theorem dX12_digest_30 : decode cX12_digest 30 = .ok (.iconst 0, 1) := by decide +kernel
theorem dX12_digest_31 : decode cX12_digest 31 = .ok (.istore_n 3, 1) := by decide +kernel
theorem dX12_digest_32 : decode cX12_digest 32 = .ok (.iload_n 3, 1) := by decide +kernel
theorem dX12_digest_33 : decode cX12_digest 33 = .ok (.aload_n 0, 1) := by decide +kernel
theorem dX12_digest_34 : decode cX12_digest 34 = .ok (.getfield 115, 3) := by decide +kernel
theorem dX12_digest_37 : decode cX12_digest 37 = .ok (.if_icmp .ge 83, 3) := by decide +kernel
theorem dX12_digest_40 : decode cX12_digest 40 = .ok (.iconst 0, 1) := by decide +kernel
theorem dX12_digest_41 : decode cX12_digest 41 = .ok (.istore 4, 2) := by decide +kernel
theorem dX12_digest_43 : decode cX12_digest 43 = .ok (.iload 4, 2) := by decide +kernel
theorem dX12_digest_45 : decode cX12_digest 45 = .ok (.iconst 5, 1) := by decide +kernel
theorem dX12_digest_46 : decode cX12_digest 46 = .ok (.if_icmp .gt 24, 3) := by decide +kernel
theorem dX12_digest_49 : decode cX12_digest 49 = .ok (.ldc2_w 244, 3) := by decide +kernel
theorem dX12_digest_52 : decode cX12_digest 52 = .ok (.lload_n 1, 1) := by decide +kernel
theorem dX12_digest_53 : decode cX12_digest 53 = .ok (.lmul, 1) := by decide +kernel
theorem dX12_digest_54 : decode cX12_digest 54 = .ok (.aload_n 0, 1) := by decide +kernel
theorem dX12_digest_55 : decode cX12_digest 55 = .ok (.iload_n 3, 1) := by decide +kernel
theorem dX12_digest_56 : decode cX12_digest 56 = .ok (.iload 4, 2) := by decide +kernel
theorem dX12_digest_58 : decode cX12_digest 58 = .ok (.invokevirtual 133, 3) := by decide +kernel
theorem dX12_digest_61 : decode cX12_digest 61 = .ok (.i2l, 1) := by decide +kernel
theorem dX12_digest_62 : decode cX12_digest 62 = .ok (.ladd, 1) := by decide +kernel
theorem dX12_digest_63 : decode cX12_digest 63 = .ok (.lstore_n 1, 1) := by decide +kernel
theorem dX12_digest_64 : decode cX12_digest 64 = .ok (.iinc 4 1, 3) := by decide +kernel
theorem dX12_digest_67 : decode cX12_digest 67 = .ok (.goto (-24), 3) := by decide +kernel
theorem dX12_digest_70 : decode cX12_digest 70 = .ok (.iconst 0, 1) := by decide +kernel
theorem dX12_digest_71 : decode cX12_digest 71 = .ok (.istore 4, 2) := by decide +kernel
theorem dX12_digest_73 : decode cX12_digest 73 = .ok (.iload 4, 2) := by decide +kernel
theorem dX12_digest_75 : decode cX12_digest 75 = .ok (.bipush 24, 2) := by decide +kernel
theorem dX12_digest_77 : decode cX12_digest 77 = .ok (.if_icmp .ge 37, 3) := by decide +kernel
theorem dX12_digest_80 : decode cX12_digest 80 = .ok (.aload_n 0, 1) := by decide +kernel
theorem dX12_digest_81 : decode cX12_digest 81 = .ok (.iload_n 3, 1) := by decide +kernel
theorem dX12_digest_82 : decode cX12_digest 82 = .ok (.invokevirtual 153, 3) := by decide +kernel
theorem dX12_digest_85 : decode cX12_digest 85 = .ok (.ifCond .eq 29, 3) := by decide +kernel
theorem dX12_digest_88 : decode cX12_digest 88 = .ok (.ldc2_w 244, 3) := by decide +kernel
theorem dX12_digest_91 : decode cX12_digest 91 = .ok (.lload_n 1, 1) := by decide +kernel
theorem dX12_digest_92 : decode cX12_digest 92 = .ok (.lmul, 1) := by decide +kernel
theorem dX12_digest_93 : decode cX12_digest 93 = .ok (.aload_n 0, 1) := by decide +kernel
theorem dX12_digest_94 : decode cX12_digest 94 = .ok (.getfield 36, 3) := by decide +kernel
theorem dX12_digest_97 : decode cX12_digest 97 = .ok (.bipush 24, 2) := by decide +kernel
theorem dX12_digest_99 : decode cX12_digest 99 = .ok (.iload_n 3, 1) := by decide +kernel
theorem dX12_digest_100 : decode cX12_digest 100 = .ok (.imul, 1) := by decide +kernel
theorem dX12_digest_101 : decode cX12_digest 101 = .ok (.iload 4, 2) := by decide +kernel
theorem dX12_digest_103 : decode cX12_digest 103 = .ok (.iadd, 1) := by decide +kernel
theorem dX12_digest_104 : decode cX12_digest 104 = .ok (.iaload, 1) := by decide +kernel
theorem dX12_digest_105 : decode cX12_digest 105 = .ok (.i2l, 1) := by decide +kernel
theorem dX12_digest_106 : decode cX12_digest 106 = .ok (.ladd, 1) := by decide +kernel
theorem dX12_digest_107 : decode cX12_digest 107 = .ok (.lstore_n 1, 1) := by decide +kernel
theorem dX12_digest_108 : decode cX12_digest 108 = .ok (.iinc 4 1, 3) := by decide +kernel
theorem dX12_digest_111 : decode cX12_digest 111 = .ok (.goto (-38), 3) := by decide +kernel
theorem dX12_digest_114 : decode cX12_digest 114 = .ok (.iinc 3 1, 3) := by decide +kernel
theorem dX12_digest_117 : decode cX12_digest 117 = .ok (.goto (-85), 3) := by decide +kernel
theorem dX12_digest_120 : decode cX12_digest 120 = .ok (.iconst 0, 1) := by decide +kernel
theorem dX12_digest_121 : decode cX12_digest 121 = .ok (.istore_n 3, 1) := by decide +kernel
theorem dX12_digest_122 : decode cX12_digest 122 = .ok (.iload_n 3, 1) := by decide +kernel
theorem dX12_digest_123 : decode cX12_digest 123 = .ok (.aload_n 0, 1) := by decide +kernel
theorem dX12_digest_124 : decode cX12_digest 124 = .ok (.getfield 13, 3) := by decide +kernel
theorem dX12_digest_127 : decode cX12_digest 127 = .ok (.if_icmp .ge 75, 3) := by decide +kernel
theorem dX12_digest_130 : decode cX12_digest 130 = .ok (.iconst 0, 1) := by decide +kernel
theorem dX12_digest_131 : decode cX12_digest 131 = .ok (.istore 4, 2) := by decide +kernel
theorem dX12_digest_133 : decode cX12_digest 133 = .ok (.iload 4, 2) := by decide +kernel
theorem dX12_digest_135 : decode cX12_digest 135 = .ok (.aload_n 0, 1) := by decide +kernel
theorem dX12_digest_136 : decode cX12_digest 136 = .ok (.getfield 13, 3) := by decide +kernel
theorem dX12_digest_139 : decode cX12_digest 139 = .ok (.if_icmp .ge 57, 3) := by decide +kernel
theorem dX12_digest_142 : decode cX12_digest 142 = .ok (.iload_n 3, 1) := by decide +kernel
theorem dX12_digest_143 : decode cX12_digest 143 = .ok (.iload 4, 2) := by decide +kernel
theorem dX12_digest_145 : decode cX12_digest 145 = .ok (.if_icmp .eq 45, 3) := by decide +kernel
theorem dX12_digest_148 : decode cX12_digest 148 = .ok (.ldc2_w 244, 3) := by decide +kernel
theorem dX12_digest_151 : decode cX12_digest 151 = .ok (.ldc2_w 244, 3) := by decide +kernel
theorem dX12_digest_154 : decode cX12_digest 154 = .ok (.lload_n 1, 1) := by decide +kernel
theorem dX12_digest_155 : decode cX12_digest 155 = .ok (.lmul, 1) := by decide +kernel
theorem dX12_digest_156 : decode cX12_digest 156 = .ok (.aload_n 0, 1) := by decide +kernel
theorem dX12_digest_157 : decode cX12_digest 157 = .ok (.getfield 39, 3) := by decide +kernel
theorem dX12_digest_160 : decode cX12_digest 160 = .ok (.aload_n 0, 1) := by decide +kernel
theorem dX12_digest_161 : decode cX12_digest 161 = .ok (.getfield 13, 3) := by decide +kernel
theorem dX12_digest_164 : decode cX12_digest 164 = .ok (.iload_n 3, 1) := by decide +kernel
theorem dX12_digest_165 : decode cX12_digest 165 = .ok (.imul, 1) := by decide +kernel
theorem dX12_digest_166 : decode cX12_digest 166 = .ok (.iload 4, 2) := by decide +kernel
theorem dX12_digest_168 : decode cX12_digest 168 = .ok (.iadd, 1) := by decide +kernel
theorem dX12_digest_169 : decode cX12_digest 169 = .ok (.iaload, 1) := by decide +kernel
theorem dX12_digest_170 : decode cX12_digest 170 = .ok (.i2l, 1) := by decide +kernel
theorem dX12_digest_171 : decode cX12_digest 171 = .ok (.ladd, 1) := by decide +kernel
theorem dX12_digest_172 : decode cX12_digest 172 = .ok (.lmul, 1) := by decide +kernel
theorem dX12_digest_173 : decode cX12_digest 173 = .ok (.aload_n 0, 1) := by decide +kernel
theorem dX12_digest_174 : decode cX12_digest 174 = .ok (.getfield 42, 3) := by decide +kernel
theorem dX12_digest_177 : decode cX12_digest 177 = .ok (.aload_n 0, 1) := by decide +kernel
theorem dX12_digest_178 : decode cX12_digest 178 = .ok (.getfield 13, 3) := by decide +kernel
theorem dX12_digest_181 : decode cX12_digest 181 = .ok (.iload_n 3, 1) := by decide +kernel
theorem dX12_digest_182 : decode cX12_digest 182 = .ok (.imul, 1) := by decide +kernel
theorem dX12_digest_183 : decode cX12_digest 183 = .ok (.iload 4, 2) := by decide +kernel
theorem dX12_digest_185 : decode cX12_digest 185 = .ok (.iadd, 1) := by decide +kernel
theorem dX12_digest_186 : decode cX12_digest 186 = .ok (.iaload, 1) := by decide +kernel
theorem dX12_digest_187 : decode cX12_digest 187 = .ok (.i2l, 1) := by decide +kernel
theorem dX12_digest_188 : decode cX12_digest 188 = .ok (.ladd, 1) := by decide +kernel
theorem dX12_digest_189 : decode cX12_digest 189 = .ok (.lstore_n 1, 1) := by decide +kernel
theorem dX12_digest_190 : decode cX12_digest 190 = .ok (.iinc 4 1, 3) := by decide +kernel
theorem dX12_digest_193 : decode cX12_digest 193 = .ok (.goto (-60), 3) := by decide +kernel
theorem dX12_digest_196 : decode cX12_digest 196 = .ok (.iinc 3 1, 3) := by decide +kernel
theorem dX12_digest_199 : decode cX12_digest 199 = .ok (.goto (-77), 3) := by decide +kernel
theorem dX12_digest_202 : decode cX12_digest 202 = .ok (.iconst 0, 1) := by decide +kernel
theorem dX12_digest_203 : decode cX12_digest 203 = .ok (.istore_n 3, 1) := by decide +kernel
theorem dX12_digest_204 : decode cX12_digest 204 = .ok (.iload_n 3, 1) := by decide +kernel
theorem dX12_digest_205 : decode cX12_digest 205 = .ok (.iconst 4, 1) := by decide +kernel
theorem dX12_digest_206 : decode cX12_digest 206 = .ok (.if_icmp .ge 76, 3) := by decide +kernel
theorem dX12_digest_209 : decode cX12_digest 209 = .ok (.ldc2_w 244, 3) := by decide +kernel
theorem dX12_digest_212 : decode cX12_digest 212 = .ok (.lload_n 1, 1) := by decide +kernel
theorem dX12_digest_213 : decode cX12_digest 213 = .ok (.lmul, 1) := by decide +kernel
theorem dX12_digest_214 : decode cX12_digest 214 = .ok (.aload_n 0, 1) := by decide +kernel
theorem dX12_digest_215 : decode cX12_digest 215 = .ok (.getfield 96, 3) := by decide +kernel
theorem dX12_digest_218 : decode cX12_digest 218 = .ok (.iload_n 3, 1) := by decide +kernel
theorem dX12_digest_219 : decode cX12_digest 219 = .ok (.iaload, 1) := by decide +kernel
theorem dX12_digest_220 : decode cX12_digest 220 = .ok (.ifCond .ge 7, 3) := by decide +kernel
theorem dX12_digest_223 : decode cX12_digest 223 = .ok (.iconst (-1), 1) := by decide +kernel
theorem dX12_digest_224 : decode cX12_digest 224 = .ok (.goto 9, 3) := by decide +kernel
theorem dX12_digest_227 : decode cX12_digest 227 = .ok (.aload_n 0, 1) := by decide +kernel
theorem dX12_digest_228 : decode cX12_digest 228 = .ok (.getfield 96, 3) := by decide +kernel
theorem dX12_digest_231 : decode cX12_digest 231 = .ok (.iload_n 3, 1) := by decide +kernel
theorem dX12_digest_232 : decode cX12_digest 232 = .ok (.iaload, 1) := by decide +kernel
theorem dX12_digest_233 : decode cX12_digest 233 = .ok (.i2l, 1) := by decide +kernel
theorem dX12_digest_234 : decode cX12_digest 234 = .ok (.ladd, 1) := by decide +kernel
theorem dX12_digest_235 : decode cX12_digest 235 = .ok (.lstore_n 1, 1) := by decide +kernel
theorem dX12_digest_236 : decode cX12_digest 236 = .ok (.iconst 0, 1) := by decide +kernel
theorem dX12_digest_237 : decode cX12_digest 237 = .ok (.istore 4, 2) := by decide +kernel
theorem dX12_digest_239 : decode cX12_digest 239 = .ok (.iload 4, 2) := by decide +kernel
theorem dX12_digest_241 : decode cX12_digest 241 = .ok (.aload_n 0, 1) := by decide +kernel
theorem dX12_digest_242 : decode cX12_digest 242 = .ok (.getfield 96, 3) := by decide +kernel
theorem dX12_digest_245 : decode cX12_digest 245 = .ok (.iload_n 3, 1) := by decide +kernel
theorem dX12_digest_246 : decode cX12_digest 246 = .ok (.iaload, 1) := by decide +kernel
theorem dX12_digest_247 : decode cX12_digest 247 = .ok (.if_icmp .ge 29, 3) := by decide +kernel
theorem dX12_digest_250 : decode cX12_digest 250 = .ok (.ldc2_w 244, 3) := by decide +kernel
theorem dX12_digest_253 : decode cX12_digest 253 = .ok (.lload_n 1, 1) := by decide +kernel
theorem dX12_digest_254 : decode cX12_digest 254 = .ok (.lmul, 1) := by decide +kernel
theorem dX12_digest_255 : decode cX12_digest 255 = .ok (.aload_n 0, 1) := by decide +kernel
theorem dX12_digest_256 : decode cX12_digest 256 = .ok (.getfield 99, 3) := by decide +kernel
theorem dX12_digest_259 : decode cX12_digest 259 = .ok (.bipush 24, 2) := by decide +kernel
theorem dX12_digest_261 : decode cX12_digest 261 = .ok (.iload_n 3, 1) := by decide +kernel
theorem dX12_digest_262 : decode cX12_digest 262 = .ok (.imul, 1) := by decide +kernel
theorem dX12_digest_263 : decode cX12_digest 263 = .ok (.iload 4, 2) := by decide +kernel
theorem dX12_digest_265 : decode cX12_digest 265 = .ok (.iadd, 1) := by decide +kernel
theorem dX12_digest_266 : decode cX12_digest 266 = .ok (.iaload, 1) := by decide +kernel
theorem dX12_digest_267 : decode cX12_digest 267 = .ok (.i2l, 1) := by decide +kernel
theorem dX12_digest_268 : decode cX12_digest 268 = .ok (.ladd, 1) := by decide +kernel
theorem dX12_digest_269 : decode cX12_digest 269 = .ok (.lstore_n 1, 1) := by decide +kernel
theorem dX12_digest_270 : decode cX12_digest 270 = .ok (.iinc 4 1, 3) := by decide +kernel
theorem dX12_digest_273 : decode cX12_digest 273 = .ok (.goto (-34), 3) := by decide +kernel
theorem dX12_digest_276 : decode cX12_digest 276 = .ok (.iinc 3 1, 3) := by decide +kernel
theorem dX12_digest_279 : decode cX12_digest 279 = .ok (.goto (-75), 3) := by decide +kernel
theorem dX12_digest_282 : decode cX12_digest 282 = .ok (.lload_n 1, 1) := by decide +kernel
theorem dX12_digest_283 : decode cX12_digest 283 = .ok (.lreturn, 1) := by decide +kernel
theorem dX0_init_0 : decode cX0_init 0 = .ok (.aload_n 0, 1) := by decide +kernel
theorem dX0_init_1 : decode cX0_init 1 = .ok (.invokespecial 3, 3) := by decide +kernel
theorem dX0_init_4 : decode cX0_init 4 = .ok (.aload_n 0, 1) := by decide +kernel
theorem dX0_init_5 : decode cX0_init 5 = .ok (.bipush 36, 2) := by decide +kernel
theorem dX0_init_7 : decode cX0_init 7 = .ok (.newarray .int, 2) := by decide +kernel
theorem dX0_init_9 : decode cX0_init 9 = .ok (.putfield 9, 3) := by decide +kernel
theorem dX0_init_12 : decode cX0_init 12 = .ok (.aload_n 0, 1) := by decide +kernel
theorem dX0_init_13 : decode cX0_init 13 = .ok (.iconst 0, 1) := by decide +kernel
theorem dX0_init_14 : decode cX0_init 14 = .ok (.putfield 15, 3) := by decide +kernel
theorem dX0_init_17 : decode cX0_init 17 = .ok (.aload_n 0, 1) := by decide +kernel
theorem dX0_init_18 : decode cX0_init 18 = .ok (.iconst 0, 1) := by decide +kernel
theorem dX0_init_19 : decode cX0_init 19 = .ok (.putfield 19, 3) := by decide +kernel
theorem dX0_init_22 : decode cX0_init 22 = .ok (.return_, 1) := by decide +kernel
theorem dX0_begin_0 : decode cX0_begin 0 = .ok (.aload_n 0, 1) := by decide +kernel
theorem dX0_begin_1 : decode cX0_begin 1 = .ok (.iconst 0, 1) := by decide +kernel
theorem dX0_begin_2 : decode cX0_begin 2 = .ok (.putfield 15, 3) := by decide +kernel
theorem dX0_begin_5 : decode cX0_begin 5 = .ok (.aload_n 0, 1) := by decide +kernel
theorem dX0_begin_6 : decode cX0_begin 6 = .ok (.iconst 0, 1) := by decide +kernel
theorem dX0_begin_7 : decode cX0_begin 7 = .ok (.putfield 19, 3) := by decide +kernel
theorem dX0_begin_10 : decode cX0_begin 10 = .ok (.return_, 1) := by decide +kernel
theorem dX0_hasEnough_0 : decode cX0_hasEnough 0 = .ok (.aload_n 0, 1) := by decide +kernel
theorem dX0_hasEnough_1 : decode cX0_hasEnough 1 = .ok (.aload_n 1, 1) := by decide +kernel
theorem dX0_hasEnough_2 : decode cX0_hasEnough 2 = .ok (.invokevirtual 23, 3) := by decide +kernel
theorem dX0_hasEnough_5 : decode cX0_hasEnough 5 = .ok (.istore_n 2, 1) := by decide +kernel
theorem dX0_hasEnough_6 : decode cX0_hasEnough 6 = .ok (.aload_n 0, 1) := by decide +kernel
theorem dX0_hasEnough_7 : decode cX0_hasEnough 7 = .ok (.getfield 15, 3) := by decide +kernel
theorem dX0_hasEnough_10 : decode cX0_hasEnough 10 = .ok (.ifCond .eq 13, 3) := by decide +kernel
theorem dX0_hasEnough_13 : decode cX0_hasEnough 13 = .ok (.iload_n 2, 1) := by decide +kernel
theorem dX0_hasEnough_14 : decode cX0_hasEnough 14 = .ok (.aload_n 0, 1) := by decide +kernel
theorem dX0_hasEnough_15 : decode cX0_hasEnough 15 = .ok (.getfield 19, 3) := by decide +kernel
theorem dX0_hasEnough_18 : decode cX0_hasEnough 18 = .ok (.if_icmp .lt 5, 3) := by decide +kernel
theorem dX0_hasEnough_21 : decode cX0_hasEnough 21 = .ok (.iconst 0, 1) := by decide +kernel
theorem dX0_hasEnough_22 : decode cX0_hasEnough 22 = .ok (.ireturn, 1) := by decide +kernel
theorem dX0_hasEnough_23 : decode cX0_hasEnough 23 = .ok (.aload_n 0, 1) := by decide +kernel
theorem dX0_hasEnough_24 : decode cX0_hasEnough 24 = .ok (.iconst 1, 1) := by decide +kernel
theorem dX0_hasEnough_25 : decode cX0_hasEnough 25 = .ok (.putfield 15, 3) := by decide +kernel
theorem dX0_hasEnough_28 : decode cX0_hasEnough 28 = .ok (.aload_n 0, 1) := by decide +kernel
theorem dX0_hasEnough_29 : decode cX0_hasEnough 29 = .ok (.iload_n 2, 1) := by decide +kernel
theorem dX0_hasEnough_30 : decode cX0_hasEnough 30 = .ok (.putfield 19, 3) := by decide +kernel
theorem dX0_hasEnough_33 : decode cX0_hasEnough 33 = .ok (.aload_n 1, 1) := by decide +kernel
theorem dX0_hasEnough_34 : decode cX0_hasEnough 34 = .ok (.iconst 0, 1) := by decide +kernel
theorem dX0_hasEnough_35 : decode cX0_hasEnough 35 = .ok (.aload_n 0, 1) := by decide +kernel
theorem dX0_hasEnough_36 : decode cX0_hasEnough 36 = .ok (.getfield 9, 3) := by decide +kernel
theorem dX0_hasEnough_39 : decode cX0_hasEnough 39 = .ok (.iconst 0, 1) := by decide +kernel
theorem dX0_hasEnough_40 : decode cX0_hasEnough 40 = .ok (.bipush 36, 2) := by decide +kernel
theorem dX0_hasEnough_42 : decode cX0_hasEnough 42 = .ok (.invokestatic 27, 3) := by decide +kernel
theorem dX0_hasEnough_45 : decode cX0_hasEnough 45 = .ok (.iconst 0, 1) := by decide +kernel
theorem dX0_hasEnough_46 : decode cX0_hasEnough 46 = .ok (.ireturn, 1) := by decide +kernel
theorem dX1_init_0 : decode cX1_init 0 = .ok (.aload_n 0, 1) := by decide +kernel
theorem dX1_init_1 : decode cX1_init 1 = .ok (.invokespecial 3, 3) := by decide +kernel
theorem dX1_init_4 : decode cX1_init 4 = .ok (.aload_n 0, 1) := by decide +kernel
theorem dX1_init_5 : decode cX1_init 5 = .ok (.aload_n 1, 1) := by decide +kernel
theorem dX1_init_6 : decode cX1_init 6 = .ok (.putfield 9, 3) := by decide +kernel
theorem dX1_init_9 : decode cX1_init 9 = .ok (.return_, 1) := by decide +kernel
theorem dX1_costOf_0 : decode cX1_costOf 0 = .ok (.iconst 0, 1) := by decide +kernel
theorem dX1_costOf_1 : decode cX1_costOf 1 = .ok (.istore_n 2, 1) := by decide +kernel
theorem dX1_costOf_2 : decode cX1_costOf 2 = .ok (.iconst 0, 1) := by decide +kernel
theorem dX1_costOf_3 : decode cX1_costOf 3 = .ok (.istore_n 3, 1) := by decide +kernel
theorem dX1_costOf_4 : decode cX1_costOf 4 = .ok (.iload_n 3, 1) := by decide +kernel
theorem dX1_costOf_5 : decode cX1_costOf 5 = .ok (.bipush 36, 2) := by decide +kernel
theorem dX1_costOf_7 : decode cX1_costOf 7 = .ok (.if_icmp .ge 24, 3) := by decide +kernel
theorem dX1_costOf_10 : decode cX1_costOf 10 = .ok (.aload_n 1, 1) := by decide +kernel
theorem dX1_costOf_11 : decode cX1_costOf 11 = .ok (.iload_n 3, 1) := by decide +kernel
theorem dX1_costOf_12 : decode cX1_costOf 12 = .ok (.iaload, 1) := by decide +kernel
theorem dX1_costOf_13 : decode cX1_costOf 13 = .ok (.aload_n 0, 1) := by decide +kernel
theorem dX1_costOf_14 : decode cX1_costOf 14 = .ok (.getfield 9, 3) := by decide +kernel
theorem dX1_costOf_17 : decode cX1_costOf 17 = .ok (.iload_n 3, 1) := by decide +kernel
theorem dX1_costOf_18 : decode cX1_costOf 18 = .ok (.iaload, 1) := by decide +kernel
theorem dX1_costOf_19 : decode cX1_costOf 19 = .ok (.if_icmp .eq 6, 3) := by decide +kernel
theorem dX1_costOf_22 : decode cX1_costOf 22 = .ok (.iinc 2 1, 3) := by decide +kernel
theorem dX1_costOf_25 : decode cX1_costOf 25 = .ok (.iinc 3 1, 3) := by decide +kernel
theorem dX1_costOf_28 : decode cX1_costOf 28 = .ok (.goto (-24), 3) := by decide +kernel
theorem dX1_costOf_31 : decode cX1_costOf 31 = .ok (.iload_n 2, 1) := by decide +kernel
theorem dX1_costOf_32 : decode cX1_costOf 32 = .ok (.ireturn, 1) := by decide +kernel
theorem dX2_init_0 : decode cX2_init 0 = .ok (.aload_n 0, 1) := by decide +kernel
theorem dX2_init_1 : decode cX2_init 1 = .ok (.invokespecial 1, 3) := by decide +kernel
theorem dX2_init_4 : decode cX2_init 4 = .ok (.return_, 1) := by decide +kernel
theorem dX3_init_0 : decode cX3_init 0 = .ok (.aload_n 0, 1) := by decide +kernel
theorem dX3_init_1 : decode cX3_init 1 = .ok (.invokespecial 3, 3) := by decide +kernel
theorem dX3_init_4 : decode cX3_init 4 = .ok (.aload_n 0, 1) := by decide +kernel
theorem dX3_init_5 : decode cX3_init 5 = .ok (.bipush 36, 2) := by decide +kernel
theorem dX3_init_7 : decode cX3_init 7 = .ok (.newarray .boolean, 2) := by decide +kernel
theorem dX3_init_9 : decode cX3_init 9 = .ok (.putfield 9, 3) := by decide +kernel
theorem dX3_init_12 : decode cX3_init 12 = .ok (.return_, 1) := by decide +kernel
theorem dX3_beginOn_0 : decode cX3_beginOn 0 = .ok (.aload_n 0, 1) := by decide +kernel
theorem dX3_beginOn_1 : decode cX3_beginOn 1 = .ok (.invokevirtual 15, 3) := by decide +kernel
theorem dX3_beginOn_4 : decode cX3_beginOn 4 = .ok (.iconst 0, 1) := by decide +kernel
theorem dX3_beginOn_5 : decode cX3_beginOn 5 = .ok (.istore_n 3, 1) := by decide +kernel
theorem dX3_beginOn_6 : decode cX3_beginOn 6 = .ok (.iload_n 3, 1) := by decide +kernel
theorem dX3_beginOn_7 : decode cX3_beginOn 7 = .ok (.bipush 36, 2) := by decide +kernel
theorem dX3_beginOn_9 : decode cX3_beginOn 9 = .ok (.if_icmp .ge 37, 3) := by decide +kernel
theorem dX3_beginOn_12 : decode cX3_beginOn 12 = .ok (.aload_n 0, 1) := by decide +kernel
theorem dX3_beginOn_13 : decode cX3_beginOn 13 = .ok (.getfield 9, 3) := by decide +kernel
theorem dX3_beginOn_16 : decode cX3_beginOn 16 = .ok (.iload_n 3, 1) := by decide +kernel
theorem dX3_beginOn_17 : decode cX3_beginOn 17 = .ok (.iload_n 3, 1) := by decide +kernel
theorem dX3_beginOn_18 : decode cX3_beginOn 18 = .ok (.aload_n 2, 1) := by decide +kernel
theorem dX3_beginOn_19 : decode cX3_beginOn 19 = .ok (.getfield 18, 3) := by decide +kernel
theorem dX3_beginOn_22 : decode cX3_beginOn 22 = .ok (.if_icmp .ge 16, 3) := by decide +kernel
theorem dX3_beginOn_25 : decode cX3_beginOn 25 = .ok (.aload_n 2, 1) := by decide +kernel
theorem dX3_beginOn_26 : decode cX3_beginOn 26 = .ok (.iload_n 3, 1) := by decide +kernel
theorem dX3_beginOn_27 : decode cX3_beginOn 27 = .ok (.iload_n 1, 1) := by decide +kernel
theorem dX3_beginOn_28 : decode cX3_beginOn 28 = .ok (.invokevirtual 24, 3) := by decide +kernel
theorem dX3_beginOn_31 : decode cX3_beginOn 31 = .ok (.ifCond .eq 7, 3) := by decide +kernel
theorem dX3_beginOn_34 : decode cX3_beginOn 34 = .ok (.iconst 1, 1) := by decide +kernel
theorem dX3_beginOn_35 : decode cX3_beginOn 35 = .ok (.goto 4, 3) := by decide +kernel
theorem dX3_beginOn_38 : decode cX3_beginOn 38 = .ok (.iconst 0, 1) := by decide +kernel
theorem dX3_beginOn_39 : decode cX3_beginOn 39 = .ok (.bastore, 1) := by decide +kernel
theorem dX3_beginOn_40 : decode cX3_beginOn 40 = .ok (.iinc 3 1, 3) := by decide +kernel
theorem dX3_beginOn_43 : decode cX3_beginOn 43 = .ok (.goto (-37), 3) := by decide +kernel
theorem dX3_beginOn_46 : decode cX3_beginOn 46 = .ok (.return_, 1) := by decide +kernel
theorem dX3_costOf_0 : decode cX3_costOf 0 = .ok (.iconst 0, 1) := by decide +kernel
theorem dX3_costOf_1 : decode cX3_costOf 1 = .ok (.istore_n 2, 1) := by decide +kernel
theorem dX3_costOf_2 : decode cX3_costOf 2 = .ok (.iconst 0, 1) := by decide +kernel
theorem dX3_costOf_3 : decode cX3_costOf 3 = .ok (.istore_n 3, 1) := by decide +kernel
theorem dX3_costOf_4 : decode cX3_costOf 4 = .ok (.iload_n 3, 1) := by decide +kernel
theorem dX3_costOf_5 : decode cX3_costOf 5 = .ok (.bipush 36, 2) := by decide +kernel
theorem dX3_costOf_7 : decode cX3_costOf 7 = .ok (.if_icmp .ge 24, 3) := by decide +kernel
theorem dX3_costOf_10 : decode cX3_costOf 10 = .ok (.aload_n 0, 1) := by decide +kernel
theorem dX3_costOf_11 : decode cX3_costOf 11 = .ok (.getfield 9, 3) := by decide +kernel
theorem dX3_costOf_14 : decode cX3_costOf 14 = .ok (.iload_n 3, 1) := by decide +kernel
theorem dX3_costOf_15 : decode cX3_costOf 15 = .ok (.baload, 1) := by decide +kernel
theorem dX3_costOf_16 : decode cX3_costOf 16 = .ok (.ifCond .eq 9, 3) := by decide +kernel
theorem dX3_costOf_19 : decode cX3_costOf 19 = .ok (.iload_n 2, 1) := by decide +kernel
theorem dX3_costOf_20 : decode cX3_costOf 20 = .ok (.aload_n 1, 1) := by decide +kernel
theorem dX3_costOf_21 : decode cX3_costOf 21 = .ok (.iload_n 3, 1) := by decide +kernel
theorem dX3_costOf_22 : decode cX3_costOf 22 = .ok (.iaload, 1) := by decide +kernel
theorem dX3_costOf_23 : decode cX3_costOf 23 = .ok (.iadd, 1) := by decide +kernel
theorem dX3_costOf_24 : decode cX3_costOf 24 = .ok (.istore_n 2, 1) := by decide +kernel
theorem dX3_costOf_25 : decode cX3_costOf 25 = .ok (.iinc 3 1, 3) := by decide +kernel
theorem dX3_costOf_28 : decode cX3_costOf 28 = .ok (.goto (-24), 3) := by decide +kernel
theorem dX3_costOf_31 : decode cX3_costOf 31 = .ok (.iload_n 2, 1) := by decide +kernel
theorem dX3_costOf_32 : decode cX3_costOf 32 = .ok (.ineg, 1) := by decide +kernel
theorem dX3_costOf_33 : decode cX3_costOf 33 = .ok (.ireturn, 1) := by decide +kernel
theorem dX4_init_0 : decode cX4_init 0 = .ok (.aload_n 0, 1) := by decide +kernel
theorem dX4_init_1 : decode cX4_init 1 = .ok (.invokespecial 3, 3) := by decide +kernel
theorem dX4_init_4 : decode cX4_init 4 = .ok (.aload_n 0, 1) := by decide +kernel
theorem dX4_init_5 : decode cX4_init 5 = .ok (.iconst 0, 1) := by decide +kernel
theorem dX4_init_6 : decode cX4_init 6 = .ok (.putfield 9, 3) := by decide +kernel
theorem dX4_init_9 : decode cX4_init 9 = .ok (.aload_n 0, 1) := by decide +kernel
theorem dX4_init_10 : decode cX4_init 10 = .ok (.iconst 0, 1) := by decide +kernel
theorem dX4_init_11 : decode cX4_init 11 = .ok (.putfield 15, 3) := by decide +kernel
theorem dX4_init_14 : decode cX4_init 14 = .ok (.aload_n 0, 1) := by decide +kernel
theorem dX4_init_15 : decode cX4_init 15 = .ok (.iconst 0, 1) := by decide +kernel
theorem dX4_init_16 : decode cX4_init 16 = .ok (.putfield 18, 3) := by decide +kernel
theorem dX4_init_19 : decode cX4_init 19 = .ok (.aload_n 0, 1) := by decide +kernel
theorem dX4_init_20 : decode cX4_init 20 = .ok (.iconst 0, 1) := by decide +kernel
theorem dX4_init_21 : decode cX4_init 21 = .ok (.putfield 21, 3) := by decide +kernel
theorem dX4_init_24 : decode cX4_init 24 = .ok (.aload_n 0, 1) := by decide +kernel
theorem dX4_init_25 : decode cX4_init 25 = .ok (.bipush 100, 2) := by decide +kernel
theorem dX4_init_27 : decode cX4_init 27 = .ok (.putfield 25, 3) := by decide +kernel
theorem dX4_init_30 : decode cX4_init 30 = .ok (.aload_n 0, 1) := by decide +kernel
theorem dX4_init_31 : decode cX4_init 31 = .ok (.bipush (-9), 2) := by decide +kernel
theorem dX4_init_33 : decode cX4_init 33 = .ok (.putfield 28, 3) := by decide +kernel
theorem dX4_init_36 : decode cX4_init 36 = .ok (.aload_n 0, 1) := by decide +kernel
theorem dX4_init_37 : decode cX4_init 37 = .ok (.bipush 24, 2) := by decide +kernel
theorem dX4_init_39 : decode cX4_init 39 = .ok (.newarray .int, 2) := by decide +kernel
theorem dX4_init_41 : decode cX4_init 41 = .ok (.putfield 31, 3) := by decide +kernel
theorem dX4_init_44 : decode cX4_init 44 = .ok (.return_, 1) := by decide +kernel
theorem dX4_begin_0 : decode cX4_begin 0 = .ok (.aload_n 0, 1) := by decide +kernel
theorem dX4_begin_1 : decode cX4_begin 1 = .ok (.iload_n 1, 1) := by decide +kernel
theorem dX4_begin_2 : decode cX4_begin 2 = .ok (.putfield 9, 3) := by decide +kernel
theorem dX4_begin_5 : decode cX4_begin 5 = .ok (.aload_n 0, 1) := by decide +kernel
theorem dX4_begin_6 : decode cX4_begin 6 = .ok (.iload_n 2, 1) := by decide +kernel
theorem dX4_begin_7 : decode cX4_begin 7 = .ok (.putfield 15, 3) := by decide +kernel
theorem dX4_begin_10 : decode cX4_begin 10 = .ok (.aload_n 0, 1) := by decide +kernel
theorem dX4_begin_11 : decode cX4_begin 11 = .ok (.iload_n 3, 1) := by decide +kernel
theorem dX4_begin_12 : decode cX4_begin 12 = .ok (.putfield 18, 3) := by decide +kernel
theorem dX4_begin_15 : decode cX4_begin 15 = .ok (.aload_n 0, 1) := by decide +kernel
theorem dX4_begin_16 : decode cX4_begin 16 = .ok (.iconst 0, 1) := by decide +kernel
theorem dX4_begin_17 : decode cX4_begin 17 = .ok (.putfield 21, 3) := by decide +kernel
theorem dX4_begin_20 : decode cX4_begin 20 = .ok (.aload_n 0, 1) := by decide +kernel
theorem dX4_begin_21 : decode cX4_begin 21 = .ok (.bipush 100, 2) := by decide +kernel
theorem dX4_begin_23 : decode cX4_begin 23 = .ok (.putfield 25, 3) := by decide +kernel
theorem dX4_begin_26 : decode cX4_begin 26 = .ok (.aload_n 0, 1) := by decide +kernel
theorem dX4_begin_27 : decode cX4_begin 27 = .ok (.bipush (-9), 2) := by decide +kernel
theorem dX4_begin_29 : decode cX4_begin 29 = .ok (.putfield 28, 3) := by decide +kernel
theorem dX4_begin_32 : decode cX4_begin 32 = .ok (.aload_n 0, 1) := by decide +kernel
theorem dX4_begin_33 : decode cX4_begin 33 = .ok (.getfield 31, 3) := by decide +kernel
theorem dX4_begin_36 : decode cX4_begin 36 = .ok (.bipush (-9), 2) := by decide +kernel
theorem dX4_begin_38 : decode cX4_begin 38 = .ok (.invokestatic 35, 3) := by decide +kernel
theorem dX4_begin_41 : decode cX4_begin 41 = .ok (.return_, 1) := by decide +kernel
theorem dX4_isOf_0 : decode cX4_isOf 0 = .ok (.aload_n 0, 1) := by decide +kernel
theorem dX4_isOf_1 : decode cX4_isOf 1 = .ok (.getfield 9, 3) := by decide +kernel
theorem dX4_isOf_4 : decode cX4_isOf 4 = .ok (.iload_n 1, 1) := by decide +kernel
theorem dX4_isOf_5 : decode cX4_isOf 5 = .ok (.if_icmp .eq 16, 3) := by decide +kernel
theorem dX4_isOf_8 : decode cX4_isOf 8 = .ok (.iload_n 1, 1) := by decide +kernel
theorem dX4_isOf_9 : decode cX4_isOf 9 = .ok (.iconst 1, 1) := by decide +kernel
theorem dX4_isOf_10 : decode cX4_isOf 10 = .ok (.if_icmp .ne 15, 3) := by decide +kernel
theorem dX4_isOf_13 : decode cX4_isOf 13 = .ok (.aload_n 0, 1) := by decide +kernel
theorem dX4_isOf_14 : decode cX4_isOf 14 = .ok (.getfield 9, 3) := by decide +kernel
theorem dX4_isOf_17 : decode cX4_isOf 17 = .ok (.iconst 2, 1) := by decide +kernel
theorem dX4_isOf_18 : decode cX4_isOf 18 = .ok (.if_icmp .ne 7, 3) := by decide +kernel
theorem dX4_isOf_21 : decode cX4_isOf 21 = .ok (.iconst 1, 1) := by decide +kernel
theorem dX4_isOf_22 : decode cX4_isOf 22 = .ok (.goto 4, 3) := by decide +kernel
theorem dX4_isOf_25 : decode cX4_isOf 25 = .ok (.iconst 0, 1) := by decide +kernel
theorem dX4_isOf_26 : decode cX4_isOf 26 = .ok (.ireturn, 1) := by decide +kernel
theorem dX4_counterSize_0 : decode cX4_counterSize 0 = .ok (.aload_n 0, 1) := by decide +kernel
theorem dX4_counterSize_1 : decode cX4_counterSize 1 = .ok (.getfield 9, 3) := by decide +kernel
theorem dX4_counterSize_4 : decode cX4_counterSize 4 = .ok (.iconst 2, 1) := by decide +kernel
theorem dX4_counterSize_5 : decode cX4_counterSize 5 = .ok (.if_icmp .ne 8, 3) := by decide +kernel
theorem dX4_counterSize_8 : decode cX4_counterSize 8 = .ok (.ldc 41, 2) := by decide +kernel
theorem dX4_counterSize_10 : decode cX4_counterSize 10 = .ok (.goto 6, 3) := by decide +kernel
theorem dX4_counterSize_13 : decode cX4_counterSize 13 = .ok (.sipush 256, 3) := by decide +kernel
theorem dX4_counterSize_16 : decode cX4_counterSize 16 = .ok (.ireturn, 1) := by decide +kernel
theorem dX4_keepReading_0 : decode cX4_keepReading 0 = .ok (.aload_n 0, 1) := by decide +kernel
theorem dX4_keepReading_1 : decode cX4_keepReading 1 = .ok (.getfield 31, 3) := by decide +kernel
theorem dX4_keepReading_4 : decode cX4_keepReading 4 = .ok (.iload_n 1, 1) := by decide +kernel
theorem dX4_keepReading_5 : decode cX4_keepReading 5 = .ok (.iload_n 2, 1) := by decide +kernel
theorem dX4_keepReading_6 : decode cX4_keepReading 6 = .ok (.bipush (-9), 2) := by decide +kernel
theorem dX4_keepReading_8 : decode cX4_keepReading 8 = .ok (.if_icmp .ne 8, 3) := by decide +kernel
theorem dX4_keepReading_11 : decode cX4_keepReading 11 = .ok (.bipush (-9), 2) := by decide +kernel
theorem dX4_keepReading_13 : decode cX4_keepReading 13 = .ok (.goto 8, 3) := by decide +kernel
theorem dX4_keepReading_16 : decode cX4_keepReading 16 = .ok (.aload_n 0, 1) := by decide +kernel
theorem dX4_keepReading_17 : decode cX4_keepReading 17 = .ok (.iload_n 2, 1) := by decide +kernel
theorem dX4_keepReading_18 : decode cX4_keepReading 18 = .ok (.invokevirtual 42, 3) := by decide +kernel
theorem dX4_keepReading_21 : decode cX4_keepReading 21 = .ok (.iastore, 1) := by decide +kernel
theorem dX4_keepReading_22 : decode cX4_keepReading 22 = .ok (.return_, 1) := by decide +kernel
theorem dX4_cutToCounter_0 : decode cX4_cutToCounter 0 = .ok (.iload_n 1, 1) := by decide +kernel
theorem dX4_cutToCounter_1 : decode cX4_cutToCounter 1 = .ok (.aload_n 0, 1) := by decide +kernel
theorem dX4_cutToCounter_2 : decode cX4_cutToCounter 2 = .ok (.invokevirtual 46, 3) := by decide +kernel
theorem dX4_cutToCounter_5 : decode cX4_cutToCounter 5 = .ok (.iconst 1, 1) := by decide +kernel
theorem dX4_cutToCounter_6 : decode cX4_cutToCounter 6 = .ok (.isub, 1) := by decide +kernel
theorem dX4_cutToCounter_7 : decode cX4_cutToCounter 7 = .ok (.iand, 1) := by decide +kernel
theorem dX4_cutToCounter_8 : decode cX4_cutToCounter 8 = .ok (.ireturn, 1) := by decide +kernel
theorem dX4_readingsKept_0 : decode cX4_readingsKept 0 = .ok (.iconst 0, 1) := by decide +kernel
theorem dX4_readingsKept_1 : decode cX4_readingsKept 1 = .ok (.istore_n 1, 1) := by decide +kernel
theorem dX4_readingsKept_2 : decode cX4_readingsKept 2 = .ok (.iconst 0, 1) := by decide +kernel
theorem dX4_readingsKept_3 : decode cX4_readingsKept 3 = .ok (.istore_n 2, 1) := by decide +kernel
theorem dX4_readingsKept_4 : decode cX4_readingsKept 4 = .ok (.iload_n 2, 1) := by decide +kernel
theorem dX4_readingsKept_5 : decode cX4_readingsKept 5 = .ok (.bipush 24, 2) := by decide +kernel
theorem dX4_readingsKept_7 : decode cX4_readingsKept 7 = .ok (.if_icmp .ge 23, 3) := by decide +kernel
theorem dX4_readingsKept_10 : decode cX4_readingsKept 10 = .ok (.aload_n 0, 1) := by decide +kernel
theorem dX4_readingsKept_11 : decode cX4_readingsKept 11 = .ok (.getfield 31, 3) := by decide +kernel
theorem dX4_readingsKept_14 : decode cX4_readingsKept 14 = .ok (.iload_n 2, 1) := by decide +kernel
theorem dX4_readingsKept_15 : decode cX4_readingsKept 15 = .ok (.iaload, 1) := by decide +kernel
theorem dX4_readingsKept_16 : decode cX4_readingsKept 16 = .ok (.bipush (-9), 2) := by decide +kernel
theorem dX4_readingsKept_18 : decode cX4_readingsKept 18 = .ok (.if_icmp .eq 6, 3) := by decide +kernel
theorem dX4_readingsKept_21 : decode cX4_readingsKept 21 = .ok (.iinc 1 1, 3) := by decide +kernel
theorem dX4_readingsKept_24 : decode cX4_readingsKept 24 = .ok (.iinc 2 1, 3) := by decide +kernel
theorem dX4_readingsKept_27 : decode cX4_readingsKept 27 = .ok (.goto (-23), 3) := by decide +kernel
theorem dX4_readingsKept_30 : decode cX4_readingsKept 30 = .ok (.iload_n 1, 1) := by decide +kernel
theorem dX4_readingsKept_31 : decode cX4_readingsKept 31 = .ok (.ireturn, 1) := by decide +kernel
theorem dX4_loadBetween_0 : decode cX4_loadBetween 0 = .ok (.aload_n 0, 1) := by decide +kernel
theorem dX4_loadBetween_1 : decode cX4_loadBetween 1 = .ok (.aload_n 0, 1) := by decide +kernel
theorem dX4_loadBetween_2 : decode cX4_loadBetween 2 = .ok (.getfield 31, 3) := by decide +kernel
theorem dX4_loadBetween_5 : decode cX4_loadBetween 5 = .ok (.iload_n 2, 1) := by decide +kernel
theorem dX4_loadBetween_6 : decode cX4_loadBetween 6 = .ok (.iaload, 1) := by decide +kernel
theorem dX4_loadBetween_7 : decode cX4_loadBetween 7 = .ok (.aload_n 0, 1) := by decide +kernel
theorem dX4_loadBetween_8 : decode cX4_loadBetween 8 = .ok (.getfield 31, 3) := by decide +kernel
theorem dX4_loadBetween_11 : decode cX4_loadBetween 11 = .ok (.iload_n 1, 1) := by decide +kernel
theorem dX4_loadBetween_12 : decode cX4_loadBetween 12 = .ok (.iaload, 1) := by decide +kernel
theorem dX4_loadBetween_13 : decode cX4_loadBetween 13 = .ok (.isub, 1) := by decide +kernel
theorem dX4_loadBetween_14 : decode cX4_loadBetween 14 = .ok (.invokevirtual 42, 3) := by decide +kernel
theorem dX4_loadBetween_17 : decode cX4_loadBetween 17 = .ok (.ireturn, 1) := by decide +kernel
theorem dX4_isSureBetween_0 : decode cX4_isSureBetween 0 = .ok (.aload_n 0, 1) := by decide +kernel
theorem dX4_isSureBetween_1 : decode cX4_isSureBetween 1 = .ok (.getfield 25, 3) := by decide +kernel
theorem dX4_isSureBetween_4 : decode cX4_isSureBetween 4 = .ok (.iload_n 2, 1) := by decide +kernel
theorem dX4_isSureBetween_5 : decode cX4_isSureBetween 5 = .ok (.iload_n 1, 1) := by decide +kernel
theorem dX4_isSureBetween_6 : decode cX4_isSureBetween 6 = .ok (.isub, 1) := by decide +kernel
theorem dX4_isSureBetween_7 : decode cX4_isSureBetween 7 = .ok (.imul, 1) := by decide +kernel
theorem dX4_isSureBetween_8 : decode cX4_isSureBetween 8 = .ok (.aload_n 0, 1) := by decide +kernel
theorem dX4_isSureBetween_9 : decode cX4_isSureBetween 9 = .ok (.invokevirtual 46, 3) := by decide +kernel
theorem dX4_isSureBetween_12 : decode cX4_isSureBetween 12 = .ok (.if_icmp .ge 7, 3) := by decide +kernel
theorem dX4_isSureBetween_15 : decode cX4_isSureBetween 15 = .ok (.iconst 1, 1) := by decide +kernel
theorem dX4_isSureBetween_16 : decode cX4_isSureBetween 16 = .ok (.goto 4, 3) := by decide +kernel
theorem dX4_isSureBetween_19 : decode cX4_isSureBetween 19 = .ok (.iconst 0, 1) := by decide +kernel
theorem dX4_isSureBetween_20 : decode cX4_isSureBetween 20 = .ok (.ireturn, 1) := by decide +kernel
theorem dX4_meanLoad_0 : decode cX4_meanLoad 0 = .ok (.bipush (-9), 2) := by decide +kernel
theorem dX4_meanLoad_2 : decode cX4_meanLoad 2 = .ok (.istore_n 1, 1) := by decide +kernel
theorem dX4_meanLoad_3 : decode cX4_meanLoad 3 = .ok (.bipush (-9), 2) := by decide +kernel
theorem dX4_meanLoad_5 : decode cX4_meanLoad 5 = .ok (.istore_n 2, 1) := by decide +kernel
theorem dX4_meanLoad_6 : decode cX4_meanLoad 6 = .ok (.iconst 0, 1) := by decide +kernel
theorem dX4_meanLoad_7 : decode cX4_meanLoad 7 = .ok (.istore_n 3, 1) := by decide +kernel
theorem dX4_meanLoad_8 : decode cX4_meanLoad 8 = .ok (.iconst 0, 1) := by decide +kernel
theorem dX4_meanLoad_9 : decode cX4_meanLoad 9 = .ok (.istore 4, 2) := by decide +kernel
theorem dX4_meanLoad_11 : decode cX4_meanLoad 11 = .ok (.iload 4, 2) := by decide +kernel
theorem dX4_meanLoad_13 : decode cX4_meanLoad 13 = .ok (.bipush 24, 2) := by decide +kernel
theorem dX4_meanLoad_15 : decode cX4_meanLoad 15 = .ok (.if_icmp .ge 49, 3) := by decide +kernel
theorem dX4_meanLoad_18 : decode cX4_meanLoad 18 = .ok (.aload_n 0, 1) := by decide +kernel
theorem dX4_meanLoad_19 : decode cX4_meanLoad 19 = .ok (.getfield 31, 3) := by decide +kernel
theorem dX4_meanLoad_22 : decode cX4_meanLoad 22 = .ok (.iload 4, 2) := by decide +kernel
theorem dX4_meanLoad_24 : decode cX4_meanLoad 24 = .ok (.iaload, 1) := by decide +kernel
theorem dX4_meanLoad_25 : decode cX4_meanLoad 25 = .ok (.bipush (-9), 2) := by decide +kernel
theorem dX4_meanLoad_27 : decode cX4_meanLoad 27 = .ok (.if_icmp .ne 6, 3) := by decide +kernel
theorem dX4_meanLoad_30 : decode cX4_meanLoad 30 = .ok (.goto 28, 3) := by decide +kernel
theorem dX4_meanLoad_33 : decode cX4_meanLoad 33 = .ok (.iload_n 2, 1) := by decide +kernel
theorem dX4_meanLoad_34 : decode cX4_meanLoad 34 = .ok (.bipush (-9), 2) := by decide +kernel
theorem dX4_meanLoad_36 : decode cX4_meanLoad 36 = .ok (.if_icmp .ne 9, 3) := by decide +kernel
theorem dX4_meanLoad_39 : decode cX4_meanLoad 39 = .ok (.iload 4, 2) := by decide +kernel
theorem dX4_meanLoad_41 : decode cX4_meanLoad 41 = .ok (.istore_n 1, 1) := by decide +kernel
theorem dX4_meanLoad_42 : decode cX4_meanLoad 42 = .ok (.goto 13, 3) := by decide +kernel
theorem dX4_meanLoad_45 : decode cX4_meanLoad 45 = .ok (.iload_n 3, 1) := by decide +kernel
theorem dX4_meanLoad_46 : decode cX4_meanLoad 46 = .ok (.aload_n 0, 1) := by decide +kernel
theorem dX4_meanLoad_47 : decode cX4_meanLoad 47 = .ok (.iload_n 2, 1) := by decide +kernel
theorem dX4_meanLoad_48 : decode cX4_meanLoad 48 = .ok (.iload 4, 2) := by decide +kernel
theorem dX4_meanLoad_50 : decode cX4_meanLoad 50 = .ok (.invokevirtual 50, 3) := by decide +kernel
theorem dX4_meanLoad_53 : decode cX4_meanLoad 53 = .ok (.iadd, 1) := by decide +kernel
theorem dX4_meanLoad_54 : decode cX4_meanLoad 54 = .ok (.istore_n 3, 1) := by decide +kernel
theorem dX4_meanLoad_55 : decode cX4_meanLoad 55 = .ok (.iload 4, 2) := by decide +kernel
theorem dX4_meanLoad_57 : decode cX4_meanLoad 57 = .ok (.istore_n 2, 1) := by decide +kernel
theorem dX4_meanLoad_58 : decode cX4_meanLoad 58 = .ok (.iinc 4 1, 3) := by decide +kernel
theorem dX4_meanLoad_61 : decode cX4_meanLoad 61 = .ok (.goto (-50), 3) := by decide +kernel
theorem dX4_meanLoad_64 : decode cX4_meanLoad 64 = .ok (.iload_n 2, 1) := by decide +kernel
theorem dX4_meanLoad_65 : decode cX4_meanLoad 65 = .ok (.iload_n 1, 1) := by decide +kernel
theorem dX4_meanLoad_66 : decode cX4_meanLoad 66 = .ok (.isub, 1) := by decide +kernel
theorem dX4_meanLoad_67 : decode cX4_meanLoad 67 = .ok (.istore 4, 2) := by decide +kernel
theorem dX4_meanLoad_69 : decode cX4_meanLoad 69 = .ok (.iload 4, 2) := by decide +kernel
theorem dX4_meanLoad_71 : decode cX4_meanLoad 71 = .ok (.ifCond .le 10, 3) := by decide +kernel
theorem dX4_meanLoad_74 : decode cX4_meanLoad 74 = .ok (.iload_n 3, 1) := by decide +kernel
theorem dX4_meanLoad_75 : decode cX4_meanLoad 75 = .ok (.iload 4, 2) := by decide +kernel
theorem dX4_meanLoad_77 : decode cX4_meanLoad 77 = .ok (.idiv, 1) := by decide +kernel
theorem dX4_meanLoad_78 : decode cX4_meanLoad 78 = .ok (.goto 4, 3) := by decide +kernel
theorem dX4_meanLoad_81 : decode cX4_meanLoad 81 = .ok (.iconst 0, 1) := by decide +kernel
theorem dX4_meanLoad_82 : decode cX4_meanLoad 82 = .ok (.ireturn, 1) := by decide +kernel
theorem dX5_init_0 : decode cX5_init 0 = .ok (.aload_n 0, 1) := by decide +kernel
theorem dX5_init_1 : decode cX5_init 1 = .ok (.invokespecial 3, 3) := by decide +kernel
theorem dX5_init_4 : decode cX5_init 4 = .ok (.aload_n 0, 1) := by decide +kernel
theorem dX5_init_5 : decode cX5_init 5 = .ok (.iconst 2, 1) := by decide +kernel
theorem dX5_init_6 : decode cX5_init 6 = .ok (.putfield 9, 3) := by decide +kernel
theorem dX5_init_9 : decode cX5_init 9 = .ok (.aload_n 0, 1) := by decide +kernel
theorem dX5_init_10 : decode cX5_init 10 = .ok (.iconst 0, 1) := by decide +kernel
theorem dX5_init_11 : decode cX5_init 11 = .ok (.putfield 15, 3) := by decide +kernel
theorem dX5_init_14 : decode cX5_init 14 = .ok (.aload_n 0, 1) := by decide +kernel
theorem dX5_init_15 : decode cX5_init 15 = .ok (.bipush 12, 2) := by decide +kernel
theorem dX5_init_17 : decode cX5_init 17 = .ok (.anewarray 18, 3) := by decide +kernel
theorem dX5_init_20 : decode cX5_init 20 = .ok (.putfield 20, 3) := by decide +kernel
theorem dX5_init_23 : decode cX5_init 23 = .ok (.aload_n 0, 1) := by decide +kernel
theorem dX5_init_24 : decode cX5_init 24 = .ok (.bipush 36, 2) := by decide +kernel
theorem dX5_init_26 : decode cX5_init 26 = .ok (.newarray .int, 2) := by decide +kernel
theorem dX5_init_28 : decode cX5_init 28 = .ok (.putfield 24, 3) := by decide +kernel
theorem dX5_init_31 : decode cX5_init 31 = .ok (.aload_n 0, 1) := by decide +kernel
theorem dX5_init_32 : decode cX5_init 32 = .ok (.bipush 36, 2) := by decide +kernel
theorem dX5_init_34 : decode cX5_init 34 = .ok (.newarray .int, 2) := by decide +kernel
theorem dX5_init_36 : decode cX5_init 36 = .ok (.putfield 28, 3) := by decide +kernel
theorem dX5_init_39 : decode cX5_init 39 = .ok (.iconst 0, 1) := by decide +kernel
theorem dX5_init_40 : decode cX5_init 40 = .ok (.istore_n 1, 1) := by decide +kernel
theorem dX5_init_41 : decode cX5_init 41 = .ok (.iload_n 1, 1) := by decide +kernel
theorem dX5_init_42 : decode cX5_init 42 = .ok (.bipush 12, 2) := by decide +kernel
theorem dX5_init_44 : decode cX5_init 44 = .ok (.if_icmp .ge 22, 3) := by decide +kernel
theorem dX5_init_47 : decode cX5_init 47 = .ok (.aload_n 0, 1) := by decide +kernel
theorem dX5_init_48 : decode cX5_init 48 = .ok (.getfield 20, 3) := by decide +kernel
theorem dX5_init_51 : decode cX5_init 51 = .ok (.iload_n 1, 1) := by decide +kernel
theorem dX5_init_52 : decode cX5_init 52 = .ok (.new 18, 3) := by decide +kernel
theorem dX5_init_55 : decode cX5_init 55 = .ok (.dup, 1) := by decide +kernel
theorem dX5_init_56 : decode cX5_init 56 = .ok (.invokespecial 31, 3) := by decide +kernel
theorem dX5_init_59 : decode cX5_init 59 = .ok (.aastore, 1) := by decide +kernel
theorem dX5_init_60 : decode cX5_init 60 = .ok (.iinc 1 1, 3) := by decide +kernel
theorem dX5_init_63 : decode cX5_init 63 = .ok (.goto (-22), 3) := by decide +kernel
theorem dX5_init_66 : decode cX5_init 66 = .ok (.aload_n 0, 1) := by decide +kernel
theorem dX5_init_67 : decode cX5_init 67 = .ok (.getfield 24, 3) := by decide +kernel
theorem dX5_init_70 : decode cX5_init 70 = .ok (.bipush (-9), 2) := by decide +kernel
theorem dX5_init_72 : decode cX5_init 72 = .ok (.invokestatic 32, 3) := by decide +kernel
theorem dX5_init_75 : decode cX5_init 75 = .ok (.return_, 1) := by decide +kernel
theorem dX5_begin_0 : decode cX5_begin 0 = .ok (.aload_n 0, 1) := by decide +kernel
theorem dX5_begin_1 : decode cX5_begin 1 = .ok (.iload_n 1, 1) := by decide +kernel
theorem dX5_begin_2 : decode cX5_begin 2 = .ok (.putfield 9, 3) := by decide +kernel
theorem dX5_begin_5 : decode cX5_begin 5 = .ok (.aload_n 0, 1) := by decide +kernel
theorem dX5_begin_6 : decode cX5_begin 6 = .ok (.iconst 0, 1) := by decide +kernel
theorem dX5_begin_7 : decode cX5_begin 7 = .ok (.putfield 15, 3) := by decide +kernel
theorem dX5_begin_10 : decode cX5_begin 10 = .ok (.aload_n 0, 1) := by decide +kernel
theorem dX5_begin_11 : decode cX5_begin 11 = .ok (.getfield 24, 3) := by decide +kernel
theorem dX5_begin_14 : decode cX5_begin 14 = .ok (.bipush (-9), 2) := by decide +kernel
theorem dX5_begin_16 : decode cX5_begin 16 = .ok (.invokestatic 32, 3) := by decide +kernel
theorem dX5_begin_19 : decode cX5_begin 19 = .ok (.aload_n 0, 1) := by decide +kernel
theorem dX5_begin_20 : decode cX5_begin 20 = .ok (.getfield 28, 3) := by decide +kernel
theorem dX5_begin_23 : decode cX5_begin 23 = .ok (.iconst 0, 1) := by decide +kernel
theorem dX5_begin_24 : decode cX5_begin 24 = .ok (.invokestatic 32, 3) := by decide +kernel
theorem dX5_begin_27 : decode cX5_begin 27 = .ok (.return_, 1) := by decide +kernel
theorem dX5_addLine_0 : decode cX5_addLine 0 = .ok (.aload_n 0, 1) := by decide +kernel
theorem dX5_addLine_1 : decode cX5_addLine 1 = .ok (.getfield 20, 3) := by decide +kernel
theorem dX5_addLine_4 : decode cX5_addLine 4 = .ok (.aload_n 0, 1) := by decide +kernel
theorem dX5_addLine_5 : decode cX5_addLine 5 = .ok (.getfield 15, 3) := by decide +kernel
theorem dX5_addLine_8 : decode cX5_addLine 8 = .ok (.aaload, 1) := by decide +kernel
theorem dX5_addLine_9 : decode cX5_addLine 9 = .ok (.iload_n 1, 1) := by decide +kernel
theorem dX5_addLine_10 : decode cX5_addLine 10 = .ok (.iload_n 2, 1) := by decide +kernel
theorem dX5_addLine_11 : decode cX5_addLine 11 = .ok (.iload_n 3, 1) := by decide +kernel
theorem dX5_addLine_12 : decode cX5_addLine 12 = .ok (.invokevirtual 38, 3) := by decide +kernel
theorem dX5_addLine_15 : decode cX5_addLine 15 = .ok (.aload_n 0, 1) := by decide +kernel
theorem dX5_addLine_16 : decode cX5_addLine 16 = .ok (.dup, 1) := by decide +kernel
theorem dX5_addLine_17 : decode cX5_addLine 17 = .ok (.getfield 15, 3) := by decide +kernel
theorem dX5_addLine_20 : decode cX5_addLine 20 = .ok (.iconst 1, 1) := by decide +kernel
theorem dX5_addLine_21 : decode cX5_addLine 21 = .ok (.iadd, 1) := by decide +kernel
theorem dX5_addLine_22 : decode cX5_addLine 22 = .ok (.putfield 15, 3) := by decide +kernel
theorem dX5_addLine_25 : decode cX5_addLine 25 = .ok (.aload_n 0, 1) := by decide +kernel
theorem dX5_addLine_26 : decode cX5_addLine 26 = .ok (.getfield 15, 3) := by decide +kernel
theorem dX5_addLine_29 : decode cX5_addLine 29 = .ok (.iconst 1, 1) := by decide +kernel
theorem dX5_addLine_30 : decode cX5_addLine 30 = .ok (.isub, 1) := by decide +kernel
theorem dX5_addLine_31 : decode cX5_addLine 31 = .ok (.ireturn, 1) := by decide +kernel
theorem dX5_isLine_0 : decode cX5_isLine 0 = .ok (.iload_n 1, 1) := by decide +kernel
theorem dX5_isLine_1 : decode cX5_isLine 1 = .ok (.ifCond .lt 15, 3) := by decide +kernel
theorem dX5_isLine_4 : decode cX5_isLine 4 = .ok (.iload_n 1, 1) := by decide +kernel
theorem dX5_isLine_5 : decode cX5_isLine 5 = .ok (.aload_n 0, 1) := by decide +kernel
theorem dX5_isLine_6 : decode cX5_isLine 6 = .ok (.getfield 15, 3) := by decide +kernel
theorem dX5_isLine_9 : decode cX5_isLine 9 = .ok (.if_icmp .ge 7, 3) := by decide +kernel
theorem dX5_isLine_12 : decode cX5_isLine 12 = .ok (.iconst 1, 1) := by decide +kernel
theorem dX5_isLine_13 : decode cX5_isLine 13 = .ok (.goto 4, 3) := by decide +kernel
theorem dX5_isLine_16 : decode cX5_isLine 16 = .ok (.iconst 0, 1) := by decide +kernel
theorem dX5_isLine_17 : decode cX5_isLine 17 = .ok (.ireturn, 1) := by decide +kernel
theorem dX5_isPair_0 : decode cX5_isPair 0 = .ok (.iload_n 1, 1) := by decide +kernel
theorem dX5_isPair_1 : decode cX5_isPair 1 = .ok (.ifCond .lt 32, 3) := by decide +kernel
theorem dX5_isPair_4 : decode cX5_isPair 4 = .ok (.iload_n 1, 1) := by decide +kernel
theorem dX5_isPair_5 : decode cX5_isPair 5 = .ok (.aload_n 0, 1) := by decide +kernel
theorem dX5_isPair_6 : decode cX5_isPair 6 = .ok (.getfield 9, 3) := by decide +kernel
theorem dX5_isPair_9 : decode cX5_isPair 9 = .ok (.if_icmp .ge 24, 3) := by decide +kernel
theorem dX5_isPair_12 : decode cX5_isPair 12 = .ok (.iload_n 2, 1) := by decide +kernel
theorem dX5_isPair_13 : decode cX5_isPair 13 = .ok (.ifCond .lt 20, 3) := by decide +kernel
theorem dX5_isPair_16 : decode cX5_isPair 16 = .ok (.iload_n 2, 1) := by decide +kernel
theorem dX5_isPair_17 : decode cX5_isPair 17 = .ok (.aload_n 0, 1) := by decide +kernel
theorem dX5_isPair_18 : decode cX5_isPair 18 = .ok (.getfield 9, 3) := by decide +kernel
theorem dX5_isPair_21 : decode cX5_isPair 21 = .ok (.if_icmp .ge 12, 3) := by decide +kernel
theorem dX5_isPair_24 : decode cX5_isPair 24 = .ok (.iload_n 1, 1) := by decide +kernel
theorem dX5_isPair_25 : decode cX5_isPair 25 = .ok (.iload_n 2, 1) := by decide +kernel
theorem dX5_isPair_26 : decode cX5_isPair 26 = .ok (.if_icmp .eq 7, 3) := by decide +kernel
theorem dX5_isPair_29 : decode cX5_isPair 29 = .ok (.iconst 1, 1) := by decide +kernel
theorem dX5_isPair_30 : decode cX5_isPair 30 = .ok (.goto 4, 3) := by decide +kernel
theorem dX5_isPair_33 : decode cX5_isPair 33 = .ok (.iconst 0, 1) := by decide +kernel
theorem dX5_isPair_34 : decode cX5_isPair 34 = .ok (.ireturn, 1) := by decide +kernel
theorem dX5_pairNumber_0 : decode cX5_pairNumber 0 = .ok (.iload_n 1, 1) := by decide +kernel
theorem dX5_pairNumber_1 : decode cX5_pairNumber 1 = .ok (.aload_n 0, 1) := by decide +kernel
theorem dX5_pairNumber_2 : decode cX5_pairNumber 2 = .ok (.getfield 9, 3) := by decide +kernel
theorem dX5_pairNumber_5 : decode cX5_pairNumber 5 = .ok (.imul, 1) := by decide +kernel
theorem dX5_pairNumber_6 : decode cX5_pairNumber 6 = .ok (.iload_n 2, 1) := by decide +kernel
theorem dX5_pairNumber_7 : decode cX5_pairNumber 7 = .ok (.iadd, 1) := by decide +kernel
theorem dX5_pairNumber_8 : decode cX5_pairNumber 8 = .ok (.ireturn, 1) := by decide +kernel
theorem dX5_linesTold_0 : decode cX5_linesTold 0 = .ok (.iconst 0, 1) := by decide +kernel
theorem dX5_linesTold_1 : decode cX5_linesTold 1 = .ok (.istore_n 1, 1) := by decide +kernel
theorem dX5_linesTold_2 : decode cX5_linesTold 2 = .ok (.iconst 0, 1) := by decide +kernel
theorem dX5_linesTold_3 : decode cX5_linesTold 3 = .ok (.istore_n 2, 1) := by decide +kernel
theorem dX5_linesTold_4 : decode cX5_linesTold 4 = .ok (.iload_n 2, 1) := by decide +kernel
theorem dX5_linesTold_5 : decode cX5_linesTold 5 = .ok (.aload_n 0, 1) := by decide +kernel
theorem dX5_linesTold_6 : decode cX5_linesTold 6 = .ok (.getfield 15, 3) := by decide +kernel
theorem dX5_linesTold_9 : decode cX5_linesTold 9 = .ok (.if_icmp .ge 26, 3) := by decide +kernel
theorem dX5_linesTold_12 : decode cX5_linesTold 12 = .ok (.aload_n 0, 1) := by decide +kernel
theorem dX5_linesTold_13 : decode cX5_linesTold 13 = .ok (.getfield 20, 3) := by decide +kernel
theorem dX5_linesTold_16 : decode cX5_linesTold 16 = .ok (.iload_n 2, 1) := by decide +kernel
theorem dX5_linesTold_17 : decode cX5_linesTold 17 = .ok (.aaload, 1) := by decide +kernel
theorem dX5_linesTold_18 : decode cX5_linesTold 18 = .ok (.getfield 42, 3) := by decide +kernel
theorem dX5_linesTold_21 : decode cX5_linesTold 21 = .ok (.bipush (-9), 2) := by decide +kernel
theorem dX5_linesTold_23 : decode cX5_linesTold 23 = .ok (.if_icmp .eq 6, 3) := by decide +kernel
theorem dX5_linesTold_26 : decode cX5_linesTold 26 = .ok (.iinc 1 1, 3) := by decide +kernel
theorem dX5_linesTold_29 : decode cX5_linesTold 29 = .ok (.iinc 2 1, 3) := by decide +kernel
theorem dX5_linesTold_32 : decode cX5_linesTold 32 = .ok (.goto (-28), 3) := by decide +kernel
theorem dX5_linesTold_35 : decode cX5_linesTold 35 = .ok (.iload_n 1, 1) := by decide +kernel
theorem dX5_linesTold_36 : decode cX5_linesTold 36 = .ok (.ireturn, 1) := by decide +kernel
theorem dX5_pairsMetered_0 : decode cX5_pairsMetered 0 = .ok (.iconst 0, 1) := by decide +kernel
theorem dX5_pairsMetered_1 : decode cX5_pairsMetered 1 = .ok (.istore_n 1, 1) := by decide +kernel
theorem dX5_pairsMetered_2 : decode cX5_pairsMetered 2 = .ok (.iconst 0, 1) := by decide +kernel
theorem dX5_pairsMetered_3 : decode cX5_pairsMetered 3 = .ok (.istore_n 2, 1) := by decide +kernel
theorem dX5_pairsMetered_4 : decode cX5_pairsMetered 4 = .ok (.iload_n 2, 1) := by decide +kernel
theorem dX5_pairsMetered_5 : decode cX5_pairsMetered 5 = .ok (.bipush 36, 2) := by decide +kernel
theorem dX5_pairsMetered_7 : decode cX5_pairsMetered 7 = .ok (.if_icmp .ge 23, 3) := by decide +kernel
theorem dX5_pairsMetered_10 : decode cX5_pairsMetered 10 = .ok (.aload_n 0, 1) := by decide +kernel
theorem dX5_pairsMetered_11 : decode cX5_pairsMetered 11 = .ok (.getfield 24, 3) := by decide +kernel
theorem dX5_pairsMetered_14 : decode cX5_pairsMetered 14 = .ok (.iload_n 2, 1) := by decide +kernel
theorem dX5_pairsMetered_15 : decode cX5_pairsMetered 15 = .ok (.iaload, 1) := by decide +kernel
theorem dX5_pairsMetered_16 : decode cX5_pairsMetered 16 = .ok (.bipush (-9), 2) := by decide +kernel
theorem dX5_pairsMetered_18 : decode cX5_pairsMetered 18 = .ok (.if_icmp .eq 6, 3) := by decide +kernel
theorem dX5_pairsMetered_21 : decode cX5_pairsMetered 21 = .ok (.iinc 1 1, 3) := by decide +kernel
theorem dX5_pairsMetered_24 : decode cX5_pairsMetered 24 = .ok (.iinc 2 1, 3) := by decide +kernel
theorem dX5_pairsMetered_27 : decode cX5_pairsMetered 27 = .ok (.goto (-23), 3) := by decide +kernel
theorem dX5_pairsMetered_30 : decode cX5_pairsMetered 30 = .ok (.iload_n 1, 1) := by decide +kernel
theorem dX5_pairsMetered_31 : decode cX5_pairsMetered 31 = .ok (.ireturn, 1) := by decide +kernel
theorem dX5_carriedFrom_0 : decode cX5_carriedFrom 0 = .ok (.iconst 0, 1) := by decide +kernel
theorem dX5_carriedFrom_1 : decode cX5_carriedFrom 1 = .ok (.istore_n 2, 1) := by decide +kernel
theorem dX5_carriedFrom_2 : decode cX5_carriedFrom 2 = .ok (.iconst 0, 1) := by decide +kernel
theorem dX5_carriedFrom_3 : decode cX5_carriedFrom 3 = .ok (.istore_n 3, 1) := by decide +kernel
theorem dX5_carriedFrom_4 : decode cX5_carriedFrom 4 = .ok (.iload_n 3, 1) := by decide +kernel
theorem dX5_carriedFrom_5 : decode cX5_carriedFrom 5 = .ok (.aload_n 0, 1) := by decide +kernel
theorem dX5_carriedFrom_6 : decode cX5_carriedFrom 6 = .ok (.getfield 15, 3) := by decide +kernel
theorem dX5_carriedFrom_9 : decode cX5_carriedFrom 9 = .ok (.if_icmp .ge 48, 3) := by decide +kernel
theorem dX5_carriedFrom_12 : decode cX5_carriedFrom 12 = .ok (.aload_n 0, 1) := by decide +kernel
theorem dX5_carriedFrom_13 : decode cX5_carriedFrom 13 = .ok (.getfield 20, 3) := by decide +kernel
theorem dX5_carriedFrom_16 : decode cX5_carriedFrom 16 = .ok (.iload_n 3, 1) := by decide +kernel
theorem dX5_carriedFrom_17 : decode cX5_carriedFrom 17 = .ok (.aaload, 1) := by decide +kernel
theorem dX5_carriedFrom_18 : decode cX5_carriedFrom 18 = .ok (.getfield 45, 3) := by decide +kernel
theorem dX5_carriedFrom_21 : decode cX5_carriedFrom 21 = .ok (.iload_n 1, 1) := by decide +kernel
theorem dX5_carriedFrom_22 : decode cX5_carriedFrom 22 = .ok (.if_icmp .ne 29, 3) := by decide +kernel
theorem dX5_carriedFrom_25 : decode cX5_carriedFrom 25 = .ok (.aload_n 0, 1) := by decide +kernel
theorem dX5_carriedFrom_26 : decode cX5_carriedFrom 26 = .ok (.getfield 20, 3) := by decide +kernel
theorem dX5_carriedFrom_29 : decode cX5_carriedFrom 29 = .ok (.iload_n 3, 1) := by decide +kernel
theorem dX5_carriedFrom_30 : decode cX5_carriedFrom 30 = .ok (.aaload, 1) := by decide +kernel
theorem dX5_carriedFrom_31 : decode cX5_carriedFrom 31 = .ok (.getfield 42, 3) := by decide +kernel
theorem dX5_carriedFrom_34 : decode cX5_carriedFrom 34 = .ok (.bipush (-9), 2) := by decide +kernel
theorem dX5_carriedFrom_36 : decode cX5_carriedFrom 36 = .ok (.if_icmp .eq 15, 3) := by decide +kernel
theorem dX5_carriedFrom_39 : decode cX5_carriedFrom 39 = .ok (.iload_n 2, 1) := by decide +kernel
theorem dX5_carriedFrom_40 : decode cX5_carriedFrom 40 = .ok (.aload_n 0, 1) := by decide +kernel
theorem dX5_carriedFrom_41 : decode cX5_carriedFrom 41 = .ok (.getfield 20, 3) := by decide +kernel
theorem dX5_carriedFrom_44 : decode cX5_carriedFrom 44 = .ok (.iload_n 3, 1) := by decide +kernel
theorem dX5_carriedFrom_45 : decode cX5_carriedFrom 45 = .ok (.aaload, 1) := by decide +kernel
theorem dX5_carriedFrom_46 : decode cX5_carriedFrom 46 = .ok (.getfield 42, 3) := by decide +kernel
theorem dX5_carriedFrom_49 : decode cX5_carriedFrom 49 = .ok (.iadd, 1) := by decide +kernel
theorem dX5_carriedFrom_50 : decode cX5_carriedFrom 50 = .ok (.istore_n 2, 1) := by decide +kernel
theorem dX5_carriedFrom_51 : decode cX5_carriedFrom 51 = .ok (.iinc 3 1, 3) := by decide +kernel
theorem dX5_carriedFrom_54 : decode cX5_carriedFrom 54 = .ok (.goto (-50), 3) := by decide +kernel
theorem dX5_carriedFrom_57 : decode cX5_carriedFrom 57 = .ok (.iload_n 2, 1) := by decide +kernel
theorem dX5_carriedFrom_58 : decode cX5_carriedFrom 58 = .ok (.ireturn, 1) := by decide +kernel
theorem dX5_carriedTo_0 : decode cX5_carriedTo 0 = .ok (.iconst 0, 1) := by decide +kernel
theorem dX5_carriedTo_1 : decode cX5_carriedTo 1 = .ok (.istore_n 2, 1) := by decide +kernel
theorem dX5_carriedTo_2 : decode cX5_carriedTo 2 = .ok (.iconst 0, 1) := by decide +kernel
theorem dX5_carriedTo_3 : decode cX5_carriedTo 3 = .ok (.istore_n 3, 1) := by decide +kernel
theorem dX5_carriedTo_4 : decode cX5_carriedTo 4 = .ok (.iload_n 3, 1) := by decide +kernel
theorem dX5_carriedTo_5 : decode cX5_carriedTo 5 = .ok (.aload_n 0, 1) := by decide +kernel
theorem dX5_carriedTo_6 : decode cX5_carriedTo 6 = .ok (.getfield 15, 3) := by decide +kernel
theorem dX5_carriedTo_9 : decode cX5_carriedTo 9 = .ok (.if_icmp .ge 48, 3) := by decide +kernel
theorem dX5_carriedTo_12 : decode cX5_carriedTo 12 = .ok (.aload_n 0, 1) := by decide +kernel
theorem dX5_carriedTo_13 : decode cX5_carriedTo 13 = .ok (.getfield 20, 3) := by decide +kernel
theorem dX5_carriedTo_16 : decode cX5_carriedTo 16 = .ok (.iload_n 3, 1) := by decide +kernel
theorem dX5_carriedTo_17 : decode cX5_carriedTo 17 = .ok (.aaload, 1) := by decide +kernel
theorem dX5_carriedTo_18 : decode cX5_carriedTo 18 = .ok (.getfield 48, 3) := by decide +kernel
theorem dX5_carriedTo_21 : decode cX5_carriedTo 21 = .ok (.iload_n 1, 1) := by decide +kernel
theorem dX5_carriedTo_22 : decode cX5_carriedTo 22 = .ok (.if_icmp .ne 29, 3) := by decide +kernel
theorem dX5_carriedTo_25 : decode cX5_carriedTo 25 = .ok (.aload_n 0, 1) := by decide +kernel
theorem dX5_carriedTo_26 : decode cX5_carriedTo 26 = .ok (.getfield 20, 3) := by decide +kernel
theorem dX5_carriedTo_29 : decode cX5_carriedTo 29 = .ok (.iload_n 3, 1) := by decide +kernel
theorem dX5_carriedTo_30 : decode cX5_carriedTo 30 = .ok (.aaload, 1) := by decide +kernel
theorem dX5_carriedTo_31 : decode cX5_carriedTo 31 = .ok (.getfield 42, 3) := by decide +kernel
theorem dX5_carriedTo_34 : decode cX5_carriedTo 34 = .ok (.bipush (-9), 2) := by decide +kernel
theorem dX5_carriedTo_36 : decode cX5_carriedTo 36 = .ok (.if_icmp .eq 15, 3) := by decide +kernel
theorem dX5_carriedTo_39 : decode cX5_carriedTo 39 = .ok (.iload_n 2, 1) := by decide +kernel
theorem dX5_carriedTo_40 : decode cX5_carriedTo 40 = .ok (.aload_n 0, 1) := by decide +kernel
theorem dX5_carriedTo_41 : decode cX5_carriedTo 41 = .ok (.getfield 20, 3) := by decide +kernel
theorem dX5_carriedTo_44 : decode cX5_carriedTo 44 = .ok (.iload_n 3, 1) := by decide +kernel
theorem dX5_carriedTo_45 : decode cX5_carriedTo 45 = .ok (.aaload, 1) := by decide +kernel
theorem dX5_carriedTo_46 : decode cX5_carriedTo 46 = .ok (.getfield 42, 3) := by decide +kernel
theorem dX5_carriedTo_49 : decode cX5_carriedTo 49 = .ok (.iadd, 1) := by decide +kernel
theorem dX5_carriedTo_50 : decode cX5_carriedTo 50 = .ok (.istore_n 2, 1) := by decide +kernel
theorem dX5_carriedTo_51 : decode cX5_carriedTo 51 = .ok (.iinc 3 1, 3) := by decide +kernel
theorem dX5_carriedTo_54 : decode cX5_carriedTo 54 = .ok (.goto (-50), 3) := by decide +kernel
theorem dX5_carriedTo_57 : decode cX5_carriedTo 57 = .ok (.iload_n 2, 1) := by decide +kernel
theorem dX5_carriedTo_58 : decode cX5_carriedTo 58 = .ok (.ireturn, 1) := by decide +kernel
theorem dX5_allCarried_0 : decode cX5_allCarried 0 = .ok (.iconst 0, 1) := by decide +kernel
theorem dX5_allCarried_1 : decode cX5_allCarried 1 = .ok (.istore_n 1, 1) := by decide +kernel
theorem dX5_allCarried_2 : decode cX5_allCarried 2 = .ok (.iconst 0, 1) := by decide +kernel
theorem dX5_allCarried_3 : decode cX5_allCarried 3 = .ok (.istore_n 2, 1) := by decide +kernel
theorem dX5_allCarried_4 : decode cX5_allCarried 4 = .ok (.iload_n 2, 1) := by decide +kernel
theorem dX5_allCarried_5 : decode cX5_allCarried 5 = .ok (.aload_n 0, 1) := by decide +kernel
theorem dX5_allCarried_6 : decode cX5_allCarried 6 = .ok (.getfield 9, 3) := by decide +kernel
theorem dX5_allCarried_9 : decode cX5_allCarried 9 = .ok (.if_icmp .ge 17, 3) := by decide +kernel
theorem dX5_allCarried_12 : decode cX5_allCarried 12 = .ok (.iload_n 1, 1) := by decide +kernel
theorem dX5_allCarried_13 : decode cX5_allCarried 13 = .ok (.aload_n 0, 1) := by decide +kernel
theorem dX5_allCarried_14 : decode cX5_allCarried 14 = .ok (.iload_n 2, 1) := by decide +kernel
theorem dX5_allCarried_15 : decode cX5_allCarried 15 = .ok (.invokevirtual 51, 3) := by decide +kernel
theorem dX5_allCarried_18 : decode cX5_allCarried 18 = .ok (.iadd, 1) := by decide +kernel
theorem dX5_allCarried_19 : decode cX5_allCarried 19 = .ok (.istore_n 1, 1) := by decide +kernel
theorem dX5_allCarried_20 : decode cX5_allCarried 20 = .ok (.iinc 2 1, 3) := by decide +kernel
theorem dX5_allCarried_23 : decode cX5_allCarried 23 = .ok (.goto (-19), 3) := by decide +kernel
theorem dX5_allCarried_26 : decode cX5_allCarried 26 = .ok (.iload_n 1, 1) := by decide +kernel
theorem dX5_allCarried_27 : decode cX5_allCarried 27 = .ok (.ireturn, 1) := by decide +kernel
theorem dX6_init_0 : decode cX6_init 0 = .ok (.aload_n 0, 1) := by decide +kernel
theorem dX6_init_1 : decode cX6_init 1 = .ok (.invokespecial 3, 3) := by decide +kernel
theorem dX6_init_4 : decode cX6_init 4 = .ok (.aload_n 0, 1) := by decide +kernel
theorem dX6_init_5 : decode cX6_init 5 = .ok (.bipush 36, 2) := by decide +kernel
theorem dX6_init_7 : decode cX6_init 7 = .ok (.newarray .int, 2) := by decide +kernel
theorem dX6_init_9 : decode cX6_init 9 = .ok (.putfield 9, 3) := by decide +kernel
theorem dX6_init_12 : decode cX6_init 12 = .ok (.aload_n 0, 1) := by decide +kernel
theorem dX6_init_13 : decode cX6_init 13 = .ok (.bipush 36, 2) := by decide +kernel
theorem dX6_init_15 : decode cX6_init 15 = .ok (.newarray .int, 2) := by decide +kernel
theorem dX6_init_17 : decode cX6_init 17 = .ok (.putfield 15, 3) := by decide +kernel
theorem dX6_init_20 : decode cX6_init 20 = .ok (.aload_n 0, 1) := by decide +kernel
theorem dX6_init_21 : decode cX6_init 21 = .ok (.iconst 0, 1) := by decide +kernel
theorem dX6_init_22 : decode cX6_init 22 = .ok (.putfield 18, 3) := by decide +kernel
theorem dX6_init_25 : decode cX6_init 25 = .ok (.return_, 1) := by decide +kernel
theorem dX6_begin_0 : decode cX6_begin 0 = .ok (.aload_n 0, 1) := by decide +kernel
theorem dX6_begin_1 : decode cX6_begin 1 = .ok (.iconst 0, 1) := by decide +kernel
theorem dX6_begin_2 : decode cX6_begin 2 = .ok (.putfield 18, 3) := by decide +kernel
theorem dX6_begin_5 : decode cX6_begin 5 = .ok (.aload_n 0, 1) := by decide +kernel
theorem dX6_begin_6 : decode cX6_begin 6 = .ok (.getfield 9, 3) := by decide +kernel
theorem dX6_begin_9 : decode cX6_begin 9 = .ok (.sipush 200, 3) := by decide +kernel
theorem dX6_begin_12 : decode cX6_begin 12 = .ok (.invokestatic 22, 3) := by decide +kernel
theorem dX6_begin_15 : decode cX6_begin 15 = .ok (.aload_n 0, 1) := by decide +kernel
theorem dX6_begin_16 : decode cX6_begin 16 = .ok (.getfield 15, 3) := by decide +kernel
theorem dX6_begin_19 : decode cX6_begin 19 = .ok (.iconst 0, 1) := by decide +kernel
theorem dX6_begin_20 : decode cX6_begin 20 = .ok (.invokestatic 22, 3) := by decide +kernel
theorem dX6_begin_23 : decode cX6_begin 23 = .ok (.return_, 1) := by decide +kernel
theorem dX6_hasEnough_0 : decode cX6_hasEnough 0 = .ok (.aload_n 0, 1) := by decide +kernel
theorem dX6_hasEnough_1 : decode cX6_hasEnough 1 = .ok (.iconst 1, 1) := by decide +kernel
theorem dX6_hasEnough_2 : decode cX6_hasEnough 2 = .ok (.putfield 18, 3) := by decide +kernel
theorem dX6_hasEnough_5 : decode cX6_hasEnough 5 = .ok (.iconst 0, 1) := by decide +kernel
theorem dX6_hasEnough_6 : decode cX6_hasEnough 6 = .ok (.istore_n 2, 1) := by decide +kernel
theorem dX6_hasEnough_7 : decode cX6_hasEnough 7 = .ok (.iload_n 2, 1) := by decide +kernel
theorem dX6_hasEnough_8 : decode cX6_hasEnough 8 = .ok (.bipush 36, 2) := by decide +kernel
theorem dX6_hasEnough_10 : decode cX6_hasEnough 10 = .ok (.if_icmp .ge 45, 3) := by decide +kernel
theorem dX6_hasEnough_13 : decode cX6_hasEnough 13 = .ok (.aload_n 0, 1) := by decide +kernel
theorem dX6_hasEnough_14 : decode cX6_hasEnough 14 = .ok (.getfield 9, 3) := by decide +kernel
theorem dX6_hasEnough_17 : decode cX6_hasEnough 17 = .ok (.iload_n 2, 1) := by decide +kernel
theorem dX6_hasEnough_18 : decode cX6_hasEnough 18 = .ok (.aload_n 0, 1) := by decide +kernel
theorem dX6_hasEnough_19 : decode cX6_hasEnough 19 = .ok (.getfield 9, 3) := by decide +kernel
theorem dX6_hasEnough_22 : decode cX6_hasEnough 22 = .ok (.iload_n 2, 1) := by decide +kernel
theorem dX6_hasEnough_23 : decode cX6_hasEnough 23 = .ok (.iaload, 1) := by decide +kernel
theorem dX6_hasEnough_24 : decode cX6_hasEnough 24 = .ok (.aload_n 1, 1) := by decide +kernel
theorem dX6_hasEnough_25 : decode cX6_hasEnough 25 = .ok (.iload_n 2, 1) := by decide +kernel
theorem dX6_hasEnough_26 : decode cX6_hasEnough 26 = .ok (.iaload, 1) := by decide +kernel
theorem dX6_hasEnough_27 : decode cX6_hasEnough 27 = .ok (.invokestatic 28, 3) := by decide +kernel
theorem dX6_hasEnough_30 : decode cX6_hasEnough 30 = .ok (.iastore, 1) := by decide +kernel
theorem dX6_hasEnough_31 : decode cX6_hasEnough 31 = .ok (.aload_n 0, 1) := by decide +kernel
theorem dX6_hasEnough_32 : decode cX6_hasEnough 32 = .ok (.getfield 15, 3) := by decide +kernel
theorem dX6_hasEnough_35 : decode cX6_hasEnough 35 = .ok (.iload_n 2, 1) := by decide +kernel
theorem dX6_hasEnough_36 : decode cX6_hasEnough 36 = .ok (.aload_n 0, 1) := by decide +kernel
theorem dX6_hasEnough_37 : decode cX6_hasEnough 37 = .ok (.getfield 15, 3) := by decide +kernel
theorem dX6_hasEnough_40 : decode cX6_hasEnough 40 = .ok (.iload_n 2, 1) := by decide +kernel
theorem dX6_hasEnough_41 : decode cX6_hasEnough 41 = .ok (.iaload, 1) := by decide +kernel
theorem dX6_hasEnough_42 : decode cX6_hasEnough 42 = .ok (.aload_n 1, 1) := by decide +kernel
theorem dX6_hasEnough_43 : decode cX6_hasEnough 43 = .ok (.iload_n 2, 1) := by decide +kernel
theorem dX6_hasEnough_44 : decode cX6_hasEnough 44 = .ok (.iaload, 1) := by decide +kernel
theorem dX6_hasEnough_45 : decode cX6_hasEnough 45 = .ok (.invokestatic 34, 3) := by decide +kernel
theorem dX6_hasEnough_48 : decode cX6_hasEnough 48 = .ok (.iastore, 1) := by decide +kernel
theorem dX6_hasEnough_49 : decode cX6_hasEnough 49 = .ok (.iinc 2 1, 3) := by decide +kernel
theorem dX6_hasEnough_52 : decode cX6_hasEnough 52 = .ok (.goto (-45), 3) := by decide +kernel
theorem dX6_hasEnough_55 : decode cX6_hasEnough 55 = .ok (.iconst 0, 1) := by decide +kernel
theorem dX6_hasEnough_56 : decode cX6_hasEnough 56 = .ok (.ireturn, 1) := by decide +kernel
theorem dX7_init_0 : decode cX7_init 0 = .ok (.aload_n 0, 1) := by decide +kernel
theorem dX7_init_1 : decode cX7_init 1 = .ok (.invokespecial 3, 3) := by decide +kernel
theorem dX7_init_4 : decode cX7_init 4 = .ok (.aload_n 0, 1) := by decide +kernel
theorem dX7_init_5 : decode cX7_init 5 = .ok (.iconst 0, 1) := by decide +kernel
theorem dX7_init_6 : decode cX7_init 6 = .ok (.putfield 9, 3) := by decide +kernel
theorem dX7_init_9 : decode cX7_init 9 = .ok (.aload_n 0, 1) := by decide +kernel
theorem dX7_init_10 : decode cX7_init 10 = .ok (.bipush 36, 2) := by decide +kernel
theorem dX7_init_12 : decode cX7_init 12 = .ok (.newarray .int, 2) := by decide +kernel
theorem dX7_init_14 : decode cX7_init 14 = .ok (.putfield 15, 3) := by decide +kernel
theorem dX7_init_17 : decode cX7_init 17 = .ok (.aload_n 0, 1) := by decide +kernel
theorem dX7_init_18 : decode cX7_init 18 = .ok (.sipush 180, 3) := by decide +kernel
theorem dX7_init_21 : decode cX7_init 21 = .ok (.newarray .int, 2) := by decide +kernel
theorem dX7_init_23 : decode cX7_init 23 = .ok (.putfield 19, 3) := by decide +kernel
theorem dX7_init_26 : decode cX7_init 26 = .ok (.aload_n 0, 1) := by decide +kernel
theorem dX7_init_27 : decode cX7_init 27 = .ok (.bipush 6, 2) := by decide +kernel
theorem dX7_init_29 : decode cX7_init 29 = .ok (.newarray .int, 2) := by decide +kernel
theorem dX7_init_31 : decode cX7_init 31 = .ok (.putfield 22, 3) := by decide +kernel
theorem dX7_init_34 : decode cX7_init 34 = .ok (.return_, 1) := by decide +kernel
