/-! decode rows -/
theorem dX12_base_0 : decode cX12_base 0 = .ok (.aload_n 0, 1) := by decide +kernel
theorem dX12_base_1 : decode cX12_base 1 = .ok (.iload_n 1, 1) := by decide +kernel
theorem dX12_base_2 : decode cX12_base 2 = .ok (.iload_n 2, 1) := by decide +kernel
theorem dX12_base_3 : decode cX12_base 3 = .ok (.invokevirtual 174, 3) := by decide +kernel
theorem dX12_base_6 : decode cX12_base 6 = .ok (.ifCond .eq 14, 3) := by decide +kernel
theorem dX12_base_9 : decode cX12_base 9 = .ok (.iload_n 3, 1) := by decide +kernel
theorem dX12_base_10 : decode cX12_base 10 = .ok (.iconst 0, 1) := by decide +kernel
theorem dX12_base_11 : decode cX12_base 11 = .ok (.sipush 200, 3) := by decide +kernel
theorem dX12_base_14 : decode cX12_base 14 = .ok (.invokestatic 122, 3) := by decide +kernel
theorem dX12_base_17 : decode cX12_base 17 = .ok (.ifCond .ne 5, 3) := by decide +kernel
theorem dX12_base_20 : decode cX12_base 20 = .ok (.iconst (-1), 1) := by decide +kernel
theorem dX12_base_21 : decode cX12_base 21 = .ok (.ireturn, 1) := by decide +kernel
theorem dX12_base_22 : decode cX12_base 22 = .ok (.aload_n 0, 1) := by decide +kernel
theorem dX12_base_23 : decode cX12_base 23 = .ok (.getfield 42, 3) := by decide +kernel
theorem dX12_base_26 : decode cX12_base 26 = .ok (.aload_n 0, 1) := by decide +kernel
theorem dX12_base_27 : decode cX12_base 27 = .ok (.getfield 13, 3) := by decide +kernel
theorem dX12_base_30 : decode cX12_base 30 = .ok (.iload_n 1, 1) := by decide +kernel
theorem dX12_base_31 : decode cX12_base 31 = .ok (.imul, 1) := by decide +kernel
theorem dX12_base_32 : decode cX12_base 32 = .ok (.iload_n 2, 1) := by decide +kernel
theorem dX12_base_33 : decode cX12_base 33 = .ok (.iadd, 1) := by decide +kernel
theorem dX12_base_34 : decode cX12_base 34 = .ok (.iaload, 1) := by decide +kernel
theorem dX12_base_35 : decode cX12_base 35 = .ok (.istore 4, 2) := by decide +kernel
theorem dX12_base_37 : decode cX12_base 37 = .ok (.aload_n 0, 1) := by decide +kernel
theorem dX12_base_38 : decode cX12_base 38 = .ok (.getfield 42, 3) := by decide +kernel
theorem dX12_base_41 : decode cX12_base 41 = .ok (.aload_n 0, 1) := by decide +kernel
theorem dX12_base_42 : decode cX12_base 42 = .ok (.getfield 13, 3) := by decide +kernel
theorem dX12_base_45 : decode cX12_base 45 = .ok (.iload_n 1, 1) := by decide +kernel
theorem dX12_base_46 : decode cX12_base 46 = .ok (.imul, 1) := by decide +kernel
theorem dX12_base_47 : decode cX12_base 47 = .ok (.iload_n 2, 1) := by decide +kernel
theorem dX12_base_48 : decode cX12_base 48 = .ok (.iadd, 1) := by decide +kernel
theorem dX12_base_49 : decode cX12_base 49 = .ok (.iload_n 3, 1) := by decide +kernel
theorem dX12_base_50 : decode cX12_base 50 = .ok (.iastore, 1) := by decide +kernel
theorem dX12_base_51 : decode cX12_base 51 = .ok (.iload 4, 2) := by decide +kernel
theorem dX12_base_53 : decode cX12_base 53 = .ok (.ireturn, 1) := by decide +kernel
theorem dX12_guess_0 : decode cX12_guess 0 = .ok (.aload_n 0, 1) := by decide +kernel
theorem dX12_guess_1 : decode cX12_guess 1 = .ok (.iload_n 1, 1) := by decide +kernel
theorem dX12_guess_2 : decode cX12_guess 2 = .ok (.iload_n 2, 1) := by decide +kernel
theorem dX12_guess_3 : decode cX12_guess 3 = .ok (.invokevirtual 174, 3) := by decide +kernel
theorem dX12_guess_6 : decode cX12_guess 6 = .ok (.ifCond .ne 5, 3) := by decide +kernel
theorem dX12_guess_9 : decode cX12_guess 9 = .ok (.iconst (-1), 1) := by decide +kernel
theorem dX12_guess_10 : decode cX12_guess 10 = .ok (.ireturn, 1) := by decide +kernel
theorem dX12_guess_11 : decode cX12_guess 11 = .ok (.iconst 0, 1) := by decide +kernel
theorem dX12_guess_12 : decode cX12_guess 12 = .ok (.istore_n 3, 1) := by decide +kernel
theorem dX12_guess_13 : decode cX12_guess 13 = .ok (.iconst 0, 1) := by decide +kernel
theorem dX12_guess_14 : decode cX12_guess 14 = .ok (.istore 4, 2) := by decide +kernel
theorem dX12_guess_16 : decode cX12_guess 16 = .ok (.iconst 0, 1) := by decide +kernel
theorem dX12_guess_17 : decode cX12_guess 17 = .ok (.istore 5, 2) := by decide +kernel
theorem dX12_guess_19 : decode cX12_guess 19 = .ok (.iconst 0, 1) := by decide +kernel
theorem dX12_guess_20 : decode cX12_guess 20 = .ok (.istore 6, 2) := by decide +kernel
theorem dX12_guess_22 : decode cX12_guess 22 = .ok (.iload 6, 2) := by decide +kernel
theorem dX12_guess_24 : decode cX12_guess 24 = .ok (.aload_n 0, 1) := by decide +kernel
theorem dX12_guess_25 : decode cX12_guess 25 = .ok (.getfield 115, 3) := by decide +kernel
theorem dX12_guess_28 : decode cX12_guess 28 = .ok (.if_icmp .ge 83, 3) := by decide +kernel
theorem dX12_guess_31 : decode cX12_guess 31 = .ok (.aload_n 0, 1) := by decide +kernel
theorem dX12_guess_32 : decode cX12_guess 32 = .ok (.getfield 33, 3) := by decide +kernel
theorem dX12_guess_35 : decode cX12_guess 35 = .ok (.iload 6, 2) := by decide +kernel
theorem dX12_guess_37 : decode cX12_guess 37 = .ok (.iaload, 1) := by decide +kernel
theorem dX12_guess_38 : decode cX12_guess 38 = .ok (.bipush (-9), 2) := by decide +kernel
theorem dX12_guess_40 : decode cX12_guess 40 = .ok (.if_icmp .ne 7, 3) := by decide +kernel
theorem dX12_guess_43 : decode cX12_guess 43 = .ok (.iconst 0, 1) := by decide +kernel
theorem dX12_guess_44 : decode cX12_guess 44 = .ok (.goto 10, 3) := by decide +kernel
theorem dX12_guess_47 : decode cX12_guess 47 = .ok (.aload_n 0, 1) := by decide +kernel
theorem dX12_guess_48 : decode cX12_guess 48 = .ok (.getfield 33, 3) := by decide +kernel
theorem dX12_guess_51 : decode cX12_guess 51 = .ok (.iload 6, 2) := by decide +kernel
theorem dX12_guess_53 : decode cX12_guess 53 = .ok (.iaload, 1) := by decide +kernel
theorem dX12_guess_54 : decode cX12_guess 54 = .ok (.istore 7, 2) := by decide +kernel
theorem dX12_guess_56 : decode cX12_guess 56 = .ok (.iload_n 3, 1) := by decide +kernel
theorem dX12_guess_57 : decode cX12_guess 57 = .ok (.aload_n 0, 1) := by decide +kernel
theorem dX12_guess_58 : decode cX12_guess 58 = .ok (.getfield 20, 3) := by decide +kernel
theorem dX12_guess_61 : decode cX12_guess 61 = .ok (.iload 6, 2) := by decide +kernel
theorem dX12_guess_63 : decode cX12_guess 63 = .ok (.iaload, 1) := by decide +kernel
theorem dX12_guess_64 : decode cX12_guess 64 = .ok (.iload_n 1, 1) := by decide +kernel
theorem dX12_guess_65 : decode cX12_guess 65 = .ok (.if_icmp .ne 8, 3) := by decide +kernel
theorem dX12_guess_68 : decode cX12_guess 68 = .ok (.iload 7, 2) := by decide +kernel
theorem dX12_guess_70 : decode cX12_guess 70 = .ok (.goto 4, 3) := by decide +kernel
theorem dX12_guess_73 : decode cX12_guess 73 = .ok (.iconst 0, 1) := by decide +kernel
theorem dX12_guess_74 : decode cX12_guess 74 = .ok (.iadd, 1) := by decide +kernel
theorem dX12_guess_75 : decode cX12_guess 75 = .ok (.istore_n 3, 1) := by decide +kernel
theorem dX12_guess_76 : decode cX12_guess 76 = .ok (.iload 4, 2) := by decide +kernel
theorem dX12_guess_78 : decode cX12_guess 78 = .ok (.aload_n 0, 1) := by decide +kernel
theorem dX12_guess_79 : decode cX12_guess 79 = .ok (.getfield 23, 3) := by decide +kernel
theorem dX12_guess_82 : decode cX12_guess 82 = .ok (.iload 6, 2) := by decide +kernel
theorem dX12_guess_84 : decode cX12_guess 84 = .ok (.iaload, 1) := by decide +kernel
theorem dX12_guess_85 : decode cX12_guess 85 = .ok (.iload_n 2, 1) := by decide +kernel
theorem dX12_guess_86 : decode cX12_guess 86 = .ok (.if_icmp .ne 8, 3) := by decide +kernel
theorem dX12_guess_89 : decode cX12_guess 89 = .ok (.iload 7, 2) := by decide +kernel
theorem dX12_guess_91 : decode cX12_guess 91 = .ok (.goto 4, 3) := by decide +kernel
theorem dX12_guess_94 : decode cX12_guess 94 = .ok (.iconst 0, 1) := by decide +kernel
theorem dX12_guess_95 : decode cX12_guess 95 = .ok (.iadd, 1) := by decide +kernel
theorem dX12_guess_96 : decode cX12_guess 96 = .ok (.istore 4, 2) := by decide +kernel
theorem dX12_guess_98 : decode cX12_guess 98 = .ok (.iload 5, 2) := by decide +kernel
theorem dX12_guess_100 : decode cX12_guess 100 = .ok (.iload 7, 2) := by decide +kernel
theorem dX12_guess_102 : decode cX12_guess 102 = .ok (.iadd, 1) := by decide +kernel
theorem dX12_guess_103 : decode cX12_guess 103 = .ok (.istore 5, 2) := by decide +kernel
theorem dX12_guess_105 : decode cX12_guess 105 = .ok (.iinc 6 1, 3) := by decide +kernel
theorem dX12_guess_108 : decode cX12_guess 108 = .ok (.goto (-86), 3) := by decide +kernel
theorem dX12_guess_111 : decode cX12_guess 111 = .ok (.iload 5, 2) := by decide +kernel
theorem dX12_guess_113 : decode cX12_guess 113 = .ok (.ifCond .ne 11, 3) := by decide +kernel
theorem dX12_guess_116 : decode cX12_guess 116 = .ok (.aload_n 0, 1) := by decide +kernel
theorem dX12_guess_117 : decode cX12_guess 117 = .ok (.iconst 4, 1) := by decide +kernel
theorem dX12_guess_118 : decode cX12_guess 118 = .ok (.invokevirtual 138, 3) := by decide +kernel
theorem dX12_guess_121 : decode cX12_guess 121 = .ok (.goto 10, 3) := by decide +kernel
theorem dX12_guess_124 : decode cX12_guess 124 = .ok (.iload_n 3, 1) := by decide +kernel
theorem dX12_guess_125 : decode cX12_guess 125 = .ok (.iload 4, 2) := by decide +kernel
theorem dX12_guess_127 : decode cX12_guess 127 = .ok (.imul, 1) := by decide +kernel
theorem dX12_guess_128 : decode cX12_guess 128 = .ok (.iload 5, 2) := by decide +kernel
theorem dX12_guess_130 : decode cX12_guess 130 = .ok (.idiv, 1) := by decide +kernel
theorem dX12_guess_131 : decode cX12_guess 131 = .ok (.ireturn, 1) := by decide +kernel
theorem dX12_setSeeking_0 : decode cX12_setSeeking 0 = .ok (.aload_n 0, 1) := by decide +kernel
theorem dX12_setSeeking_1 : decode cX12_setSeeking 1 = .ok (.bipush (-9), 2) := by decide +kernel
theorem dX12_setSeeking_3 : decode cX12_setSeeking 3 = .ok (.invokevirtual 148, 3) := by decide +kernel
theorem dX12_setSeeking_6 : decode cX12_setSeeking 6 = .ok (.iconst 0, 1) := by decide +kernel
theorem dX12_setSeeking_7 : decode cX12_setSeeking 7 = .ok (.istore_n 1, 1) := by decide +kernel
theorem dX12_setSeeking_8 : decode cX12_setSeeking 8 = .ok (.iconst 0, 1) := by decide +kernel
theorem dX12_setSeeking_9 : decode cX12_setSeeking 9 = .ok (.istore_n 2, 1) := by decide +kernel
theorem dX12_setSeeking_10 : decode cX12_setSeeking 10 = .ok (.iload_n 2, 1) := by decide +kernel
theorem dX12_setSeeking_11 : decode cX12_setSeeking 11 = .ok (.aload_n 0, 1) := by decide +kernel
theorem dX12_setSeeking_12 : decode cX12_setSeeking 12 = .ok (.getfield 115, 3) := by decide +kernel
theorem dX12_setSeeking_15 : decode cX12_setSeeking 15 = .ok (.if_icmp .ge 30, 3) := by decide +kernel
theorem dX12_setSeeking_18 : decode cX12_setSeeking 18 = .ok (.iload_n 1, 1) := by decide +kernel
theorem dX12_setSeeking_19 : decode cX12_setSeeking 19 = .ok (.aload_n 0, 1) := by decide +kernel
theorem dX12_setSeeking_20 : decode cX12_setSeeking 20 = .ok (.getfield 33, 3) := by decide +kernel
theorem dX12_setSeeking_23 : decode cX12_setSeeking 23 = .ok (.iload_n 2, 1) := by decide +kernel
theorem dX12_setSeeking_24 : decode cX12_setSeeking 24 = .ok (.iaload, 1) := by decide +kernel
theorem dX12_setSeeking_25 : decode cX12_setSeeking 25 = .ok (.bipush (-9), 2) := by decide +kernel
theorem dX12_setSeeking_27 : decode cX12_setSeeking 27 = .ok (.if_icmp .eq 9, 3) := by decide +kernel
theorem dX12_setSeeking_30 : decode cX12_setSeeking 30 = .ok (.iconst 1, 1) := by decide +kernel
theorem dX12_setSeeking_31 : decode cX12_setSeeking 31 = .ok (.iload_n 2, 1) := by decide +kernel
theorem dX12_setSeeking_32 : decode cX12_setSeeking 32 = .ok (.ishl, 1) := by decide +kernel
theorem dX12_setSeeking_33 : decode cX12_setSeeking 33 = .ok (.goto 4, 3) := by decide +kernel
theorem dX12_setSeeking_36 : decode cX12_setSeeking 36 = .ok (.iconst 0, 1) := by decide +kernel
theorem dX12_setSeeking_37 : decode cX12_setSeeking 37 = .ok (.ior, 1) := by decide +kernel
theorem dX12_setSeeking_38 : decode cX12_setSeeking 38 = .ok (.istore_n 1, 1) := by decide +kernel
theorem dX12_setSeeking_39 : decode cX12_setSeeking 39 = .ok (.iinc 2 1, 3) := by decide +kernel
theorem dX12_setSeeking_42 : decode cX12_setSeeking 42 = .ok (.goto (-32), 3) := by decide +kernel
theorem dX12_setSeeking_45 : decode cX12_setSeeking 45 = .ok (.aload_n 0, 1) := by decide +kernel
theorem dX12_setSeeking_46 : decode cX12_setSeeking 46 = .ok (.iconst 0, 1) := by decide +kernel
theorem dX12_setSeeking_47 : decode cX12_setSeeking 47 = .ok (.putfield 178, 3) := by decide +kernel
theorem dX12_setSeeking_50 : decode cX12_setSeeking 50 = .ok (.iconst 0, 1) := by decide +kernel
theorem dX12_setSeeking_51 : decode cX12_setSeeking 51 = .ok (.istore_n 2, 1) := by decide +kernel
theorem dX12_setSeeking_52 : decode cX12_setSeeking 52 = .ok (.iload_n 2, 1) := by decide +kernel
theorem dX12_setSeeking_53 : decode cX12_setSeeking 53 = .ok (.aload_n 0, 1) := by decide +kernel
theorem dX12_setSeeking_54 : decode cX12_setSeeking 54 = .ok (.getfield 13, 3) := by decide +kernel
theorem dX12_setSeeking_57 : decode cX12_setSeeking 57 = .ok (.aload_n 0, 1) := by decide +kernel
theorem dX12_setSeeking_58 : decode cX12_setSeeking 58 = .ok (.getfield 13, 3) := by decide +kernel
theorem dX12_setSeeking_61 : decode cX12_setSeeking 61 = .ok (.imul, 1) := by decide +kernel
theorem dX12_setSeeking_62 : decode cX12_setSeeking 62 = .ok (.if_icmp .ge 101, 3) := by decide +kernel
theorem dX12_setSeeking_65 : decode cX12_setSeeking 65 = .ok (.aload_n 0, 1) := by decide +kernel
theorem dX12_setSeeking_66 : decode cX12_setSeeking 66 = .ok (.getfield 48, 3) := by decide +kernel
theorem dX12_setSeeking_69 : decode cX12_setSeeking 69 = .ok (.iload_n 2, 1) := by decide +kernel
theorem dX12_setSeeking_70 : decode cX12_setSeeking 70 = .ok (.iaload, 1) := by decide +kernel
theorem dX12_setSeeking_71 : decode cX12_setSeeking 71 = .ok (.ifCond .lt 62, 3) := by decide +kernel
theorem dX12_setSeeking_74 : decode cX12_setSeeking 74 = .ok (.aload_n 0, 1) := by decide +kernel
theorem dX12_setSeeking_75 : decode cX12_setSeeking 75 = .ok (.getfield 39, 3) := by decide +kernel
theorem dX12_setSeeking_78 : decode cX12_setSeeking 78 = .ok (.iload_n 2, 1) := by decide +kernel
theorem dX12_setSeeking_79 : decode cX12_setSeeking 79 = .ok (.iaload, 1) := by decide +kernel
theorem dX12_setSeeking_80 : decode cX12_setSeeking 80 = .ok (.bipush (-9), 2) := by decide +kernel
theorem dX12_setSeeking_82 : decode cX12_setSeeking 82 = .ok (.if_icmp .ne 14, 3) := by decide +kernel
theorem dX12_setSeeking_85 : decode cX12_setSeeking 85 = .ok (.aload_n 0, 1) := by decide +kernel
theorem dX12_setSeeking_86 : decode cX12_setSeeking 86 = .ok (.getfield 48, 3) := by decide +kernel
theorem dX12_setSeeking_89 : decode cX12_setSeeking 89 = .ok (.iload_n 2, 1) := by decide +kernel
theorem dX12_setSeeking_90 : decode cX12_setSeeking 90 = .ok (.iaload, 1) := by decide +kernel
theorem dX12_setSeeking_91 : decode cX12_setSeeking 91 = .ok (.iload_n 1, 1) := by decide +kernel
theorem dX12_setSeeking_92 : decode cX12_setSeeking 92 = .ok (.iand, 1) := by decide +kernel
theorem dX12_setSeeking_93 : decode cX12_setSeeking 93 = .ok (.ifCond .eq 40, 3) := by decide +kernel
theorem dX12_setSeeking_96 : decode cX12_setSeeking 96 = .ok (.aload_n 0, 1) := by decide +kernel
theorem dX12_setSeeking_97 : decode cX12_setSeeking 97 = .ok (.getfield 54, 3) := by decide +kernel
theorem dX12_setSeeking_100 : decode cX12_setSeeking 100 = .ok (.aload_n 0, 1) := by decide +kernel
theorem dX12_setSeeking_101 : decode cX12_setSeeking 101 = .ok (.getfield 178, 3) := by decide +kernel
theorem dX12_setSeeking_104 : decode cX12_setSeeking 104 = .ok (.iload_n 2, 1) := by decide +kernel
theorem dX12_setSeeking_105 : decode cX12_setSeeking 105 = .ok (.iastore, 1) := by decide +kernel
theorem dX12_setSeeking_106 : decode cX12_setSeeking 106 = .ok (.aload_n 0, 1) := by decide +kernel
theorem dX12_setSeeking_107 : decode cX12_setSeeking 107 = .ok (.getfield 60, 3) := by decide +kernel
theorem dX12_setSeeking_110 : decode cX12_setSeeking 110 = .ok (.aload_n 0, 1) := by decide +kernel
theorem dX12_setSeeking_111 : decode cX12_setSeeking 111 = .ok (.getfield 178, 3) := by decide +kernel
theorem dX12_setSeeking_114 : decode cX12_setSeeking 114 = .ok (.aload_n 0, 1) := by decide +kernel
theorem dX12_setSeeking_115 : decode cX12_setSeeking 115 = .ok (.getfield 48, 3) := by decide +kernel
theorem dX12_setSeeking_118 : decode cX12_setSeeking 118 = .ok (.iload_n 2, 1) := by decide +kernel
theorem dX12_setSeeking_119 : decode cX12_setSeeking 119 = .ok (.iaload, 1) := by decide +kernel
theorem dX12_setSeeking_120 : decode cX12_setSeeking 120 = .ok (.iload_n 1, 1) := by decide +kernel
theorem dX12_setSeeking_121 : decode cX12_setSeeking 121 = .ok (.iand, 1) := by decide +kernel
theorem dX12_setSeeking_122 : decode cX12_setSeeking 122 = .ok (.iastore, 1) := by decide +kernel
theorem dX12_setSeeking_123 : decode cX12_setSeeking 123 = .ok (.aload_n 0, 1) := by decide +kernel
theorem dX12_setSeeking_124 : decode cX12_setSeeking 124 = .ok (.dup, 1) := by decide +kernel
theorem dX12_setSeeking_125 : decode cX12_setSeeking 125 = .ok (.getfield 178, 3) := by decide +kernel
theorem dX12_setSeeking_128 : decode cX12_setSeeking 128 = .ok (.iconst 1, 1) := by decide +kernel
theorem dX12_setSeeking_129 : decode cX12_setSeeking 129 = .ok (.iadd, 1) := by decide +kernel
theorem dX12_setSeeking_130 : decode cX12_setSeeking 130 = .ok (.putfield 178, 3) := by decide +kernel
theorem dX12_setSeeking_133 : decode cX12_setSeeking 133 = .ok (.aload_n 0, 1) := by decide +kernel
theorem dX12_setSeeking_134 : decode cX12_setSeeking 134 = .ok (.getfield 57, 3) := by decide +kernel
theorem dX12_setSeeking_137 : decode cX12_setSeeking 137 = .ok (.iload_n 2, 1) := by decide +kernel
theorem dX12_setSeeking_138 : decode cX12_setSeeking 138 = .ok (.aload_n 0, 1) := by decide +kernel
theorem dX12_setSeeking_139 : decode cX12_setSeeking 139 = .ok (.getfield 48, 3) := by decide +kernel
theorem dX12_setSeeking_142 : decode cX12_setSeeking 142 = .ok (.iload_n 2, 1) := by decide +kernel
theorem dX12_setSeeking_143 : decode cX12_setSeeking 143 = .ok (.iaload, 1) := by decide +kernel
theorem dX12_setSeeking_144 : decode cX12_setSeeking 144 = .ok (.iastore, 1) := by decide +kernel
theorem dX12_setSeeking_145 : decode cX12_setSeeking 145 = .ok (.aload_n 0, 1) := by decide +kernel
theorem dX12_setSeeking_146 : decode cX12_setSeeking 146 = .ok (.getfield 66, 3) := by decide +kernel
theorem dX12_setSeeking_149 : decode cX12_setSeeking 149 = .ok (.iload_n 2, 1) := by decide +kernel
theorem dX12_setSeeking_150 : decode cX12_setSeeking 150 = .ok (.aload_n 0, 1) := by decide +kernel
theorem dX12_setSeeking_151 : decode cX12_setSeeking 151 = .ok (.getfield 39, 3) := by decide +kernel
theorem dX12_setSeeking_154 : decode cX12_setSeeking 154 = .ok (.iload_n 2, 1) := by decide +kernel
theorem dX12_setSeeking_155 : decode cX12_setSeeking 155 = .ok (.iaload, 1) := by decide +kernel
theorem dX12_setSeeking_156 : decode cX12_setSeeking 156 = .ok (.iastore, 1) := by decide +kernel
theorem dX12_setSeeking_157 : decode cX12_setSeeking 157 = .ok (.iinc 2 1, 3) := by decide +kernel
theorem dX12_setSeeking_160 : decode cX12_setSeeking 160 = .ok (.goto (-108), 3) := by decide +kernel
theorem dX12_setSeeking_163 : decode cX12_setSeeking 163 = .ok (.iconst 0, 1) := by decide +kernel
theorem dX12_setSeeking_164 : decode cX12_setSeeking 164 = .ok (.istore_n 2, 1) := by decide +kernel
theorem dX12_setSeeking_165 : decode cX12_setSeeking 165 = .ok (.aload_n 0, 1) := by decide +kernel
theorem dX12_setSeeking_166 : decode cX12_setSeeking 166 = .ok (.getfield 178, 3) := by decide +kernel
theorem dX12_setSeeking_169 : decode cX12_setSeeking 169 = .ok (.iconst 1, 1) := by decide +kernel
theorem dX12_setSeeking_170 : decode cX12_setSeeking 170 = .ok (.isub, 1) := by decide +kernel
theorem dX12_setSeeking_171 : decode cX12_setSeeking 171 = .ok (.istore_n 3, 1) := by decide +kernel
theorem dX12_setSeeking_172 : decode cX12_setSeeking 172 = .ok (.iload_n 3, 1) := by decide +kernel
theorem dX12_setSeeking_173 : decode cX12_setSeeking 173 = .ok (.ifCond .lt 34, 3) := by decide +kernel
theorem dX12_setSeeking_176 : decode cX12_setSeeking 176 = .ok (.aload_n 0, 1) := by decide +kernel
theorem dX12_setSeeking_177 : decode cX12_setSeeking 177 = .ok (.getfield 63, 3) := by decide +kernel
theorem dX12_setSeeking_180 : decode cX12_setSeeking 180 = .ok (.iload_n 3, 1) := by decide +kernel
theorem dX12_setSeeking_181 : decode cX12_setSeeking 181 = .ok (.aload_n 0, 1) := by decide +kernel
theorem dX12_setSeeking_182 : decode cX12_setSeeking 182 = .ok (.getfield 60, 3) := by decide +kernel
theorem dX12_setSeeking_185 : decode cX12_setSeeking 185 = .ok (.iload_n 3, 1) := by decide +kernel
theorem dX12_setSeeking_186 : decode cX12_setSeeking 186 = .ok (.iaload, 1) := by decide +kernel
theorem dX12_setSeeking_187 : decode cX12_setSeeking 187 = .ok (.iload_n 2, 1) := by decide +kernel
theorem dX12_setSeeking_188 : decode cX12_setSeeking 188 = .ok (.iconst (-1), 1) := by decide +kernel
theorem dX12_setSeeking_189 : decode cX12_setSeeking 189 = .ok (.ixor, 1) := by decide +kernel
theorem dX12_setSeeking_190 : decode cX12_setSeeking 190 = .ok (.iand, 1) := by decide +kernel
theorem dX12_setSeeking_191 : decode cX12_setSeeking 191 = .ok (.iastore, 1) := by decide +kernel
theorem dX12_setSeeking_192 : decode cX12_setSeeking 192 = .ok (.iload_n 2, 1) := by decide +kernel
theorem dX12_setSeeking_193 : decode cX12_setSeeking 193 = .ok (.aload_n 0, 1) := by decide +kernel
theorem dX12_setSeeking_194 : decode cX12_setSeeking 194 = .ok (.getfield 60, 3) := by decide +kernel
theorem dX12_setSeeking_197 : decode cX12_setSeeking 197 = .ok (.iload_n 3, 1) := by decide +kernel
theorem dX12_setSeeking_198 : decode cX12_setSeeking 198 = .ok (.iaload, 1) := by decide +kernel
theorem dX12_setSeeking_199 : decode cX12_setSeeking 199 = .ok (.ior, 1) := by decide +kernel
theorem dX12_setSeeking_200 : decode cX12_setSeeking 200 = .ok (.istore_n 2, 1) := by decide +kernel
theorem dX12_setSeeking_201 : decode cX12_setSeeking 201 = .ok (.iinc 3 (-1), 3) := by decide +kernel
theorem dX12_setSeeking_204 : decode cX12_setSeeking 204 = .ok (.goto (-32), 3) := by decide +kernel
theorem dX12_setSeeking_207 : decode cX12_setSeeking 207 = .ok (.return_, 1) := by decide +kernel
theorem dX12_beginSeeking_0 : decode cX12_beginSeeking 0 = .ok (.iconst 0, 1) := by decide +kernel
theorem dX12_beginSeeking_1 : decode cX12_beginSeeking 1 = .ok (.istore_n 1, 1) := by decide +kernel
theorem dX12_beginSeeking_2 : decode cX12_beginSeeking 2 = .ok (.iload_n 1, 1) := by decide +kernel
theorem dX12_beginSeeking_3 : decode cX12_beginSeeking 3 = .ok (.aload_n 0, 1) := by decide +kernel
theorem dX12_beginSeeking_4 : decode cX12_beginSeeking 4 = .ok (.getfield 115, 3) := by decide +kernel
theorem dX12_beginSeeking_7 : decode cX12_beginSeeking 7 = .ok (.if_icmp .ge 21, 3) := by decide +kernel
theorem dX12_beginSeeking_10 : decode cX12_beginSeeking 10 = .ok (.aload_n 0, 1) := by decide +kernel
theorem dX12_beginSeeking_11 : decode cX12_beginSeeking 11 = .ok (.getfield 69, 3) := by decide +kernel
theorem dX12_beginSeeking_14 : decode cX12_beginSeeking 14 = .ok (.iload_n 1, 1) := by decide +kernel
theorem dX12_beginSeeking_15 : decode cX12_beginSeeking 15 = .ok (.aload_n 0, 1) := by decide +kernel
theorem dX12_beginSeeking_16 : decode cX12_beginSeeking 16 = .ok (.getfield 33, 3) := by decide +kernel
theorem dX12_beginSeeking_19 : decode cX12_beginSeeking 19 = .ok (.iload_n 1, 1) := by decide +kernel
theorem dX12_beginSeeking_20 : decode cX12_beginSeeking 20 = .ok (.iaload, 1) := by decide +kernel
theorem dX12_beginSeeking_21 : decode cX12_beginSeeking 21 = .ok (.iastore, 1) := by decide +kernel
theorem dX12_beginSeeking_22 : decode cX12_beginSeeking 22 = .ok (.iinc 1 1, 3) := by decide +kernel
theorem dX12_beginSeeking_25 : decode cX12_beginSeeking 25 = .ok (.goto (-23), 3) := by decide +kernel
theorem dX12_beginSeeking_28 : decode cX12_beginSeeking 28 = .ok (.aload_n 0, 1) := by decide +kernel
theorem dX12_beginSeeking_29 : decode cX12_beginSeeking 29 = .ok (.iconst 0, 1) := by decide +kernel
theorem dX12_beginSeeking_30 : decode cX12_beginSeeking 30 = .ok (.putfield 181, 3) := by decide +kernel
theorem dX12_beginSeeking_33 : decode cX12_beginSeeking 33 = .ok (.aload_n 0, 1) := by decide +kernel
theorem dX12_beginSeeking_34 : decode cX12_beginSeeking 34 = .ok (.invokevirtual 184, 3) := by decide +kernel
theorem dX12_beginSeeking_37 : decode cX12_beginSeeking 37 = .ok (.return_, 1) := by decide +kernel
theorem dX12_begin_0 : decode cX12_begin 0 = .ok (.aload_n 0, 1) := by decide +kernel
theorem dX12_begin_1 : decode cX12_begin 1 = .ok (.getfield 181, 3) := by decide +kernel
theorem dX12_begin_4 : decode cX12_begin 4 = .ok (.aload_n 0, 1) := by decide +kernel
theorem dX12_begin_5 : decode cX12_begin 5 = .ok (.getfield 178, 3) := by decide +kernel
theorem dX12_begin_8 : decode cX12_begin 8 = .ok (.if_icmp .lt 4, 3) := by decide +kernel
theorem dX12_begin_11 : decode cX12_begin 11 = .ok (.return_, 1) := by decide +kernel
theorem dX12_begin_12 : decode cX12_begin 12 = .ok (.iconst 0, 1) := by decide +kernel
theorem dX12_begin_13 : decode cX12_begin 13 = .ok (.istore_n 1, 1) := by decide +kernel
theorem dX12_begin_14 : decode cX12_begin 14 = .ok (.sipush 200, 3) := by decide +kernel
theorem dX12_begin_17 : decode cX12_begin 17 = .ok (.istore_n 2, 1) := by decide +kernel
theorem dX12_begin_18 : decode cX12_begin 18 = .ok (.iconst 0, 1) := by decide +kernel
theorem dX12_begin_19 : decode cX12_begin 19 = .ok (.istore_n 3, 1) := by decide +kernel
theorem dX12_begin_20 : decode cX12_begin 20 = .ok (.iload_n 3, 1) := by decide +kernel
theorem dX12_begin_21 : decode cX12_begin 21 = .ok (.aload_n 0, 1) := by decide +kernel
theorem dX12_begin_22 : decode cX12_begin 22 = .ok (.getfield 115, 3) := by decide +kernel
theorem dX12_begin_25 : decode cX12_begin 25 = .ok (.if_icmp .ge 85, 3) := by decide +kernel
theorem dX12_begin_28 : decode cX12_begin 28 = .ok (.aload_n 0, 1) := by decide +kernel
theorem dX12_begin_29 : decode cX12_begin 29 = .ok (.getfield 60, 3) := by decide +kernel
theorem dX12_begin_32 : decode cX12_begin 32 = .ok (.aload_n 0, 1) := by decide +kernel
theorem dX12_begin_33 : decode cX12_begin 33 = .ok (.getfield 181, 3) := by decide +kernel
theorem dX12_begin_36 : decode cX12_begin 36 = .ok (.iaload, 1) := by decide +kernel
theorem dX12_begin_37 : decode cX12_begin 37 = .ok (.iload_n 3, 1) := by decide +kernel
theorem dX12_begin_38 : decode cX12_begin 38 = .ok (.ishr, 1) := by decide +kernel
theorem dX12_begin_39 : decode cX12_begin 39 = .ok (.iconst 1, 1) := by decide +kernel
theorem dX12_begin_40 : decode cX12_begin 40 = .ok (.iand, 1) := by decide +kernel
theorem dX12_begin_41 : decode cX12_begin 41 = .ok (.iconst 1, 1) := by decide +kernel
theorem dX12_begin_42 : decode cX12_begin 42 = .ok (.if_icmp .ne 62, 3) := by decide +kernel
theorem dX12_begin_45 : decode cX12_begin 45 = .ok (.aload_n 0, 1) := by decide +kernel
theorem dX12_begin_46 : decode cX12_begin 46 = .ok (.getfield 69, 3) := by decide +kernel
theorem dX12_begin_49 : decode cX12_begin 49 = .ok (.iload_n 3, 1) := by decide +kernel
theorem dX12_begin_50 : decode cX12_begin 50 = .ok (.iaload, 1) := by decide +kernel
theorem dX12_begin_51 : decode cX12_begin 51 = .ok (.iload_n 2, 1) := by decide +kernel
theorem dX12_begin_52 : decode cX12_begin 52 = .ok (.if_icmp .ge 12, 3) := by decide +kernel
theorem dX12_begin_55 : decode cX12_begin 55 = .ok (.aload_n 0, 1) := by decide +kernel
theorem dX12_begin_56 : decode cX12_begin 56 = .ok (.getfield 69, 3) := by decide +kernel
theorem dX12_begin_59 : decode cX12_begin 59 = .ok (.iload_n 3, 1) := by decide +kernel
theorem dX12_begin_60 : decode cX12_begin 60 = .ok (.iaload, 1) := by decide +kernel
theorem dX12_begin_61 : decode cX12_begin 61 = .ok (.goto 4, 3) := by decide +kernel
theorem dX12_begin_64 : decode cX12_begin 64 = .ok (.iload_n 2, 1) := by decide +kernel
theorem dX12_begin_65 : decode cX12_begin 65 = .ok (.istore_n 2, 1) := by decide +kernel
theorem dX12_begin_66 : decode cX12_begin 66 = .ok (.aload_n 0, 1) := by decide +kernel
theorem dX12_begin_67 : decode cX12_begin 67 = .ok (.getfield 63, 3) := by decide +kernel
theorem dX12_begin_70 : decode cX12_begin 70 = .ok (.aload_n 0, 1) := by decide +kernel
theorem dX12_begin_71 : decode cX12_begin 71 = .ok (.getfield 181, 3) := by decide +kernel
theorem dX12_begin_74 : decode cX12_begin 74 = .ok (.iaload, 1) := by decide +kernel
theorem dX12_begin_75 : decode cX12_begin 75 = .ok (.iload_n 3, 1) := by decide +kernel
theorem dX12_begin_76 : decode cX12_begin 76 = .ok (.ishr, 1) := by decide +kernel
theorem dX12_begin_77 : decode cX12_begin 77 = .ok (.iconst 1, 1) := by decide +kernel
theorem dX12_begin_78 : decode cX12_begin 78 = .ok (.iand, 1) := by decide +kernel
theorem dX12_begin_79 : decode cX12_begin 79 = .ok (.iconst 1, 1) := by decide +kernel
theorem dX12_begin_80 : decode cX12_begin 80 = .ok (.if_icmp .ne 22, 3) := by decide +kernel
theorem dX12_begin_83 : decode cX12_begin 83 = .ok (.aload_n 0, 1) := by decide +kernel
theorem dX12_begin_84 : decode cX12_begin 84 = .ok (.getfield 69, 3) := by decide +kernel
theorem dX12_begin_87 : decode cX12_begin 87 = .ok (.iload_n 3, 1) := by decide +kernel
theorem dX12_begin_88 : decode cX12_begin 88 = .ok (.iaload, 1) := by decide +kernel
theorem dX12_begin_89 : decode cX12_begin 89 = .ok (.iload_n 1, 1) := by decide +kernel
theorem dX12_begin_90 : decode cX12_begin 90 = .ok (.if_icmp .le 12, 3) := by decide +kernel
theorem dX12_begin_93 : decode cX12_begin 93 = .ok (.aload_n 0, 1) := by decide +kernel
theorem dX12_begin_94 : decode cX12_begin 94 = .ok (.getfield 69, 3) := by decide +kernel
theorem dX12_begin_97 : decode cX12_begin 97 = .ok (.iload_n 3, 1) := by decide +kernel
theorem dX12_begin_98 : decode cX12_begin 98 = .ok (.iaload, 1) := by decide +kernel
theorem dX12_begin_99 : decode cX12_begin 99 = .ok (.goto 4, 3) := by decide +kernel
theorem dX12_begin_102 : decode cX12_begin 102 = .ok (.iload_n 1, 1) := by decide +kernel
theorem dX12_begin_103 : decode cX12_begin 103 = .ok (.istore_n 1, 1) := by decide +kernel
theorem dX12_begin_104 : decode cX12_begin 104 = .ok (.iinc 3 1, 3) := by decide +kernel
theorem dX12_begin_107 : decode cX12_begin 107 = .ok (.goto (-87), 3) := by decide +kernel
theorem dX12_begin_110 : decode cX12_begin 110 = .ok (.aload_n 0, 1) := by decide +kernel
theorem dX12_begin_111 : decode cX12_begin 111 = .ok (.getfield 66, 3) := by decide +kernel
theorem dX12_begin_114 : decode cX12_begin 114 = .ok (.aload_n 0, 1) := by decide +kernel
theorem dX12_begin_115 : decode cX12_begin 115 = .ok (.getfield 54, 3) := by decide +kernel
theorem dX12_begin_118 : decode cX12_begin 118 = .ok (.aload_n 0, 1) := by decide +kernel
theorem dX12_begin_119 : decode cX12_begin 119 = .ok (.getfield 181, 3) := by decide +kernel
theorem dX12_begin_122 : decode cX12_begin 122 = .ok (.iaload, 1) := by decide +kernel
theorem dX12_begin_123 : decode cX12_begin 123 = .ok (.iaload, 1) := by decide +kernel
theorem dX12_begin_124 : decode cX12_begin 124 = .ok (.istore_n 3, 1) := by decide +kernel
theorem dX12_begin_125 : decode cX12_begin 125 = .ok (.iload_n 3, 1) := by decide +kernel
theorem dX12_begin_126 : decode cX12_begin 126 = .ok (.bipush (-9), 2) := by decide +kernel
theorem dX12_begin_128 : decode cX12_begin 128 = .ok (.if_icmp .eq 35, 3) := by decide +kernel
theorem dX12_begin_131 : decode cX12_begin 131 = .ok (.iload_n 3, 1) := by decide +kernel
theorem dX12_begin_132 : decode cX12_begin 132 = .ok (.iload_n 1, 1) := by decide +kernel
theorem dX12_begin_133 : decode cX12_begin 133 = .ok (.if_icmp .lt 12, 3) := by decide +kernel
theorem dX12_begin_136 : decode cX12_begin 136 = .ok (.iload_n 3, 1) := by decide +kernel
theorem dX12_begin_137 : decode cX12_begin 137 = .ok (.iload_n 2, 1) := by decide +kernel
theorem dX12_begin_138 : decode cX12_begin 138 = .ok (.if_icmp .gt 7, 3) := by decide +kernel
theorem dX12_begin_141 : decode cX12_begin 141 = .ok (.iconst 1, 1) := by decide +kernel
theorem dX12_begin_142 : decode cX12_begin 142 = .ok (.goto 4, 3) := by decide +kernel
theorem dX12_begin_145 : decode cX12_begin 145 = .ok (.iconst 0, 1) := by decide +kernel
theorem dX12_begin_146 : decode cX12_begin 146 = .ok (.istore 4, 2) := by decide +kernel
theorem dX12_begin_148 : decode cX12_begin 148 = .ok (.iload_n 3, 1) := by decide +kernel
theorem dX12_begin_149 : decode cX12_begin 149 = .ok (.istore_n 1, 1) := by decide +kernel
theorem dX12_begin_150 : decode cX12_begin 150 = .ok (.iload 4, 2) := by decide +kernel
theorem dX12_begin_152 : decode cX12_begin 152 = .ok (.ifCond .eq 7, 3) := by decide +kernel
theorem dX12_begin_155 : decode cX12_begin 155 = .ok (.iload_n 3, 1) := by decide +kernel
theorem dX12_begin_156 : decode cX12_begin 156 = .ok (.goto 6, 3) := by decide +kernel
theorem dX12_begin_159 : decode cX12_begin 159 = .ok (.iload_n 3, 1) := by decide +kernel
theorem dX12_begin_160 : decode cX12_begin 160 = .ok (.iconst 1, 1) := by decide +kernel
theorem dX12_begin_161 : decode cX12_begin 161 = .ok (.isub, 1) := by decide +kernel
theorem dX12_begin_162 : decode cX12_begin 162 = .ok (.istore_n 2, 1) := by decide +kernel
theorem dX12_begin_163 : decode cX12_begin 163 = .ok (.aload_n 0, 1) := by decide +kernel
theorem dX12_begin_164 : decode cX12_begin 164 = .ok (.getfield 72, 3) := by decide +kernel
theorem dX12_begin_167 : decode cX12_begin 167 = .ok (.aload_n 0, 1) := by decide +kernel
theorem dX12_begin_168 : decode cX12_begin 168 = .ok (.getfield 181, 3) := by decide +kernel
theorem dX12_begin_171 : decode cX12_begin 171 = .ok (.iload_n 1, 1) := by decide +kernel
theorem dX12_begin_172 : decode cX12_begin 172 = .ok (.iconst 1, 1) := by decide +kernel
theorem dX12_begin_173 : decode cX12_begin 173 = .ok (.isub, 1) := by decide +kernel
theorem dX12_begin_174 : decode cX12_begin 174 = .ok (.iastore, 1) := by decide +kernel
theorem dX12_begin_175 : decode cX12_begin 175 = .ok (.aload_n 0, 1) := by decide +kernel
theorem dX12_begin_176 : decode cX12_begin 176 = .ok (.getfield 75, 3) := by decide +kernel
theorem dX12_begin_179 : decode cX12_begin 179 = .ok (.aload_n 0, 1) := by decide +kernel
theorem dX12_begin_180 : decode cX12_begin 180 = .ok (.getfield 181, 3) := by decide +kernel
theorem dX12_begin_183 : decode cX12_begin 183 = .ok (.iload_n 2, 1) := by decide +kernel
theorem dX12_begin_184 : decode cX12_begin 184 = .ok (.iastore, 1) := by decide +kernel
theorem dX12_begin_185 : decode cX12_begin 185 = .ok (.return_, 1) := by decide +kernel
theorem dX12_take_0 : decode cX12_take 0 = .ok (.iconst 0, 1) := by decide +kernel
theorem dX12_take_1 : decode cX12_take 1 = .ok (.istore_n 2, 1) := by decide +kernel
theorem dX12_take_2 : decode cX12_take 2 = .ok (.iload_n 2, 1) := by decide +kernel
theorem dX12_take_3 : decode cX12_take 3 = .ok (.aload_n 0, 1) := by decide +kernel
theorem dX12_take_4 : decode cX12_take 4 = .ok (.getfield 115, 3) := by decide +kernel
theorem dX12_take_7 : decode cX12_take 7 = .ok (.if_icmp .ge 40, 3) := by decide +kernel
theorem dX12_take_10 : decode cX12_take 10 = .ok (.aload_n 0, 1) := by decide +kernel
theorem dX12_take_11 : decode cX12_take 11 = .ok (.getfield 69, 3) := by decide +kernel
theorem dX12_take_14 : decode cX12_take 14 = .ok (.iload_n 2, 1) := by decide +kernel
theorem dX12_take_15 : decode cX12_take 15 = .ok (.dup2, 1) := by decide +kernel
theorem dX12_take_16 : decode cX12_take 16 = .ok (.iaload, 1) := by decide +kernel
theorem dX12_take_17 : decode cX12_take 17 = .ok (.aload_n 0, 1) := by decide +kernel
theorem dX12_take_18 : decode cX12_take 18 = .ok (.getfield 60, 3) := by decide +kernel
theorem dX12_take_21 : decode cX12_take 21 = .ok (.aload_n 0, 1) := by decide +kernel
theorem dX12_take_22 : decode cX12_take 22 = .ok (.getfield 181, 3) := by decide +kernel
theorem dX12_take_25 : decode cX12_take 25 = .ok (.iaload, 1) := by decide +kernel
theorem dX12_take_26 : decode cX12_take 26 = .ok (.iload_n 2, 1) := by decide +kernel
theorem dX12_take_27 : decode cX12_take 27 = .ok (.ishr, 1) := by decide +kernel
theorem dX12_take_28 : decode cX12_take 28 = .ok (.iconst 1, 1) := by decide +kernel
theorem dX12_take_29 : decode cX12_take 29 = .ok (.iand, 1) := by decide +kernel
theorem dX12_take_30 : decode cX12_take 30 = .ok (.iconst 1, 1) := by decide +kernel
theorem dX12_take_31 : decode cX12_take 31 = .ok (.if_icmp .ne 7, 3) := by decide +kernel
theorem dX12_take_34 : decode cX12_take 34 = .ok (.iload_n 1, 1) := by decide +kernel
theorem dX12_take_35 : decode cX12_take 35 = .ok (.goto 4, 3) := by decide +kernel
theorem dX12_take_38 : decode cX12_take 38 = .ok (.iconst 0, 1) := by decide +kernel
theorem dX12_take_39 : decode cX12_take 39 = .ok (.isub, 1) := by decide +kernel
theorem dX12_take_40 : decode cX12_take 40 = .ok (.iastore, 1) := by decide +kernel
theorem dX12_take_41 : decode cX12_take 41 = .ok (.iinc 2 1, 3) := by decide +kernel
theorem dX12_take_44 : decode cX12_take 44 = .ok (.goto (-42), 3) := by decide +kernel
theorem dX12_take_47 : decode cX12_take 47 = .ok (.return_, 1) := by decide +kernel
theorem dX12_next_0 : decode cX12_next 0 = .ok (.iload_n 1, 1) := by decide +kernel
theorem dX12_next_1 : decode cX12_next 1 = .ok (.ifCond .eq 10, 3) := by decide +kernel
theorem dX12_next_4 : decode cX12_next 4 = .ok (.aload_n 0, 1) := by decide +kernel
theorem dX12_next_5 : decode cX12_next 5 = .ok (.invokevirtual 187, 3) := by decide +kernel
theorem dX12_next_8 : decode cX12_next 8 = .ok (.goto 13, 3) := by decide +kernel
theorem dX12_next_11 : decode cX12_next 11 = .ok (.aload_n 0, 1) := by decide +kernel
theorem dX12_next_12 : decode cX12_next 12 = .ok (.dup, 1) := by decide +kernel
theorem dX12_next_13 : decode cX12_next 13 = .ok (.getfield 181, 3) := by decide +kernel
theorem dX12_next_16 : decode cX12_next 16 = .ok (.iconst 1, 1) := by decide +kernel
theorem dX12_next_17 : decode cX12_next 17 = .ok (.isub, 1) := by decide +kernel
theorem dX12_next_18 : decode cX12_next 18 = .ok (.putfield 181, 3) := by decide +kernel
theorem dX12_next_21 : decode cX12_next 21 = .ok (.aload_n 0, 1) := by decide +kernel
theorem dX12_next_22 : decode cX12_next 22 = .ok (.getfield 181, 3) := by decide +kernel
theorem dX12_next_25 : decode cX12_next 25 = .ok (.ifCond .lt 237, 3) := by decide +kernel
theorem dX12_next_28 : decode cX12_next 28 = .ok (.aload_n 0, 1) := by decide +kernel
theorem dX12_next_29 : decode cX12_next 29 = .ok (.getfield 181, 3) := by decide +kernel
theorem dX12_next_32 : decode cX12_next 32 = .ok (.aload_n 0, 1) := by decide +kernel
theorem dX12_next_33 : decode cX12_next 33 = .ok (.getfield 178, 3) := by decide +kernel
theorem dX12_next_36 : decode cX12_next 36 = .ok (.if_icmp .ne 25, 3) := by decide +kernel
theorem dX12_next_39 : decode cX12_next 39 = .ok (.aload_n 0, 1) := by decide +kernel
theorem dX12_next_40 : decode cX12_next 40 = .ok (.invokevirtual 190, 3) := by decide +kernel
theorem dX12_next_43 : decode cX12_next 43 = .ok (.ifCond .eq 5, 3) := by decide +kernel
theorem dX12_next_46 : decode cX12_next 46 = .ok (.iconst 1, 1) := by decide +kernel
theorem dX12_next_47 : decode cX12_next 47 = .ok (.ireturn, 1) := by decide +kernel
theorem dX12_next_48 : decode cX12_next 48 = .ok (.aload_n 0, 1) := by decide +kernel
theorem dX12_next_49 : decode cX12_next 49 = .ok (.dup, 1) := by decide +kernel
theorem dX12_next_50 : decode cX12_next 50 = .ok (.getfield 181, 3) := by decide +kernel
theorem dX12_next_53 : decode cX12_next 53 = .ok (.iconst 1, 1) := by decide +kernel
theorem dX12_next_54 : decode cX12_next 54 = .ok (.isub, 1) := by decide +kernel
theorem dX12_next_55 : decode cX12_next 55 = .ok (.putfield 181, 3) := by decide +kernel
theorem dX12_next_58 : decode cX12_next 58 = .ok (.goto (-37), 3) := by decide +kernel
theorem dX12_next_61 : decode cX12_next 61 = .ok (.aload_n 0, 1) := by decide +kernel
theorem dX12_next_62 : decode cX12_next 62 = .ok (.getfield 72, 3) := by decide +kernel
theorem dX12_next_65 : decode cX12_next 65 = .ok (.aload_n 0, 1) := by decide +kernel
theorem dX12_next_66 : decode cX12_next 66 = .ok (.getfield 181, 3) := by decide +kernel
theorem dX12_next_69 : decode cX12_next 69 = .ok (.iaload, 1) := by decide +kernel
theorem dX12_next_70 : decode cX12_next 70 = .ok (.ifCond .lt 39, 3) := by decide +kernel
theorem dX12_next_73 : decode cX12_next 73 = .ok (.aload_n 0, 1) := by decide +kernel
theorem dX12_next_74 : decode cX12_next 74 = .ok (.getfield 78, 3) := by decide +kernel
theorem dX12_next_77 : decode cX12_next 77 = .ok (.aload_n 0, 1) := by decide +kernel
theorem dX12_next_78 : decode cX12_next 78 = .ok (.getfield 181, 3) := by decide +kernel
theorem dX12_next_81 : decode cX12_next 81 = .ok (.baload, 1) := by decide +kernel
theorem dX12_next_82 : decode cX12_next 82 = .ok (.ifCond .eq 27, 3) := by decide +kernel
theorem dX12_next_85 : decode cX12_next 85 = .ok (.aload_n 0, 1) := by decide +kernel
theorem dX12_next_86 : decode cX12_next 86 = .ok (.aload_n 0, 1) := by decide +kernel
theorem dX12_next_87 : decode cX12_next 87 = .ok (.getfield 72, 3) := by decide +kernel
theorem dX12_next_90 : decode cX12_next 90 = .ok (.aload_n 0, 1) := by decide +kernel
theorem dX12_next_91 : decode cX12_next 91 = .ok (.getfield 181, 3) := by decide +kernel
theorem dX12_next_94 : decode cX12_next 94 = .ok (.iaload, 1) := by decide +kernel
theorem dX12_next_95 : decode cX12_next 95 = .ok (.ineg, 1) := by decide +kernel
theorem dX12_next_96 : decode cX12_next 96 = .ok (.invokevirtual 194, 3) := by decide +kernel
theorem dX12_next_99 : decode cX12_next 99 = .ok (.aload_n 0, 1) := by decide +kernel
theorem dX12_next_100 : decode cX12_next 100 = .ok (.getfield 78, 3) := by decide +kernel
theorem dX12_next_103 : decode cX12_next 103 = .ok (.aload_n 0, 1) := by decide +kernel
theorem dX12_next_104 : decode cX12_next 104 = .ok (.getfield 181, 3) := by decide +kernel
theorem dX12_next_107 : decode cX12_next 107 = .ok (.iconst 0, 1) := by decide +kernel
theorem dX12_next_108 : decode cX12_next 108 = .ok (.bastore, 1) := by decide +kernel
theorem dX12_next_109 : decode cX12_next 109 = .ok (.aload_n 0, 1) := by decide +kernel
theorem dX12_next_110 : decode cX12_next 110 = .ok (.getfield 72, 3) := by decide +kernel
theorem dX12_next_113 : decode cX12_next 113 = .ok (.aload_n 0, 1) := by decide +kernel
theorem dX12_next_114 : decode cX12_next 114 = .ok (.getfield 181, 3) := by decide +kernel
theorem dX12_next_117 : decode cX12_next 117 = .ok (.iaload, 1) := by decide +kernel
theorem dX12_next_118 : decode cX12_next 118 = .ok (.aload_n 0, 1) := by decide +kernel
theorem dX12_next_119 : decode cX12_next 119 = .ok (.getfield 75, 3) := by decide +kernel
theorem dX12_next_122 : decode cX12_next 122 = .ok (.aload_n 0, 1) := by decide +kernel
theorem dX12_next_123 : decode cX12_next 123 = .ok (.getfield 181, 3) := by decide +kernel
theorem dX12_next_126 : decode cX12_next 126 = .ok (.iaload, 1) := by decide +kernel
theorem dX12_next_127 : decode cX12_next 127 = .ok (.if_icmp .eq 24, 3) := by decide +kernel
theorem dX12_next_130 : decode cX12_next 130 = .ok (.aload_n 0, 1) := by decide +kernel
theorem dX12_next_131 : decode cX12_next 131 = .ok (.getfield 72, 3) := by decide +kernel
theorem dX12_next_134 : decode cX12_next 134 = .ok (.aload_n 0, 1) := by decide +kernel
theorem dX12_next_135 : decode cX12_next 135 = .ok (.getfield 181, 3) := by decide +kernel
theorem dX12_next_138 : decode cX12_next 138 = .ok (.iaload, 1) := by decide +kernel
theorem dX12_next_139 : decode cX12_next 139 = .ok (.aload_n 0, 1) := by decide +kernel
theorem dX12_next_140 : decode cX12_next 140 = .ok (.getfield 75, 3) := by decide +kernel
theorem dX12_next_143 : decode cX12_next 143 = .ok (.aload_n 0, 1) := by decide +kernel
theorem dX12_next_144 : decode cX12_next 144 = .ok (.getfield 181, 3) := by decide +kernel
theorem dX12_next_147 : decode cX12_next 147 = .ok (.iaload, 1) := by decide +kernel
theorem dX12_next_148 : decode cX12_next 148 = .ok (.if_icmp .le 16, 3) := by decide +kernel
theorem dX12_next_151 : decode cX12_next 151 = .ok (.aload_n 0, 1) := by decide +kernel
theorem dX12_next_152 : decode cX12_next 152 = .ok (.dup, 1) := by decide +kernel
theorem dX12_next_153 : decode cX12_next 153 = .ok (.getfield 181, 3) := by decide +kernel
theorem dX12_next_156 : decode cX12_next 156 = .ok (.iconst 1, 1) := by decide +kernel
theorem dX12_next_157 : decode cX12_next 157 = .ok (.isub, 1) := by decide +kernel
theorem dX12_next_158 : decode cX12_next 158 = .ok (.putfield 181, 3) := by decide +kernel
theorem dX12_next_161 : decode cX12_next 161 = .ok (.goto (-140), 3) := by decide +kernel
theorem dX12_next_164 : decode cX12_next 164 = .ok (.aload_n 0, 1) := by decide +kernel
theorem dX12_next_165 : decode cX12_next 165 = .ok (.getfield 197, 3) := by decide +kernel
theorem dX12_next_168 : decode cX12_next 168 = .ok (.aload_n 0, 1) := by decide +kernel
theorem dX12_next_169 : decode cX12_next 169 = .ok (.getfield 200, 3) := by decide +kernel
theorem dX12_next_172 : decode cX12_next 172 = .ok (.if_icmp .ne 6, 3) := by decide +kernel
theorem dX12_next_175 : decode cX12_next 175 = .ok (.bipush (-6), 2) := by decide +kernel
theorem dX12_next_177 : decode cX12_next 177 = .ok (.ireturn, 1) := by decide +kernel
theorem dX12_next_178 : decode cX12_next 178 = .ok (.aload_n 0, 1) := by decide +kernel
theorem dX12_next_179 : decode cX12_next 179 = .ok (.dup, 1) := by decide +kernel
theorem dX12_next_180 : decode cX12_next 180 = .ok (.getfield 197, 3) := by decide +kernel
theorem dX12_next_183 : decode cX12_next 183 = .ok (.iconst 1, 1) := by decide +kernel
theorem dX12_next_184 : decode cX12_next 184 = .ok (.iadd, 1) := by decide +kernel
theorem dX12_next_185 : decode cX12_next 185 = .ok (.putfield 197, 3) := by decide +kernel
theorem dX12_next_188 : decode cX12_next 188 = .ok (.aload_n 0, 1) := by decide +kernel
theorem dX12_next_189 : decode cX12_next 189 = .ok (.getfield 72, 3) := by decide +kernel
theorem dX12_next_192 : decode cX12_next 192 = .ok (.aload_n 0, 1) := by decide +kernel
theorem dX12_next_193 : decode cX12_next 193 = .ok (.getfield 181, 3) := by decide +kernel
theorem dX12_next_196 : decode cX12_next 196 = .ok (.dup2, 1) := by decide +kernel
theorem dX12_next_197 : decode cX12_next 197 = .ok (.iaload, 1) := by decide +kernel
theorem dX12_next_198 : decode cX12_next 198 = .ok (.iconst 1, 1) := by decide +kernel
theorem dX12_next_199 : decode cX12_next 199 = .ok (.iadd, 1) := by decide +kernel
theorem dX12_next_200 : decode cX12_next 200 = .ok (.iastore, 1) := by decide +kernel
theorem dX12_next_201 : decode cX12_next 201 = .ok (.aload_n 0, 1) := by decide +kernel
theorem dX12_next_202 : decode cX12_next 202 = .ok (.aload_n 0, 1) := by decide +kernel
theorem dX12_next_203 : decode cX12_next 203 = .ok (.getfield 72, 3) := by decide +kernel
theorem dX12_next_206 : decode cX12_next 206 = .ok (.aload_n 0, 1) := by decide +kernel
theorem dX12_next_207 : decode cX12_next 207 = .ok (.getfield 181, 3) := by decide +kernel
theorem dX12_next_210 : decode cX12_next 210 = .ok (.iaload, 1) := by decide +kernel
theorem dX12_next_211 : decode cX12_next 211 = .ok (.invokevirtual 194, 3) := by decide +kernel
theorem dX12_next_214 : decode cX12_next 214 = .ok (.aload_n 0, 1) := by decide +kernel
theorem dX12_next_215 : decode cX12_next 215 = .ok (.getfield 78, 3) := by decide +kernel
theorem dX12_next_218 : decode cX12_next 218 = .ok (.aload_n 0, 1) := by decide +kernel
theorem dX12_next_219 : decode cX12_next 219 = .ok (.getfield 181, 3) := by decide +kernel
theorem dX12_next_222 : decode cX12_next 222 = .ok (.iconst 1, 1) := by decide +kernel
theorem dX12_next_223 : decode cX12_next 223 = .ok (.bastore, 1) := by decide +kernel
theorem dX12_next_224 : decode cX12_next 224 = .ok (.aload_n 0, 1) := by decide +kernel
theorem dX12_next_225 : decode cX12_next 225 = .ok (.dup, 1) := by decide +kernel
theorem dX12_next_226 : decode cX12_next 226 = .ok (.getfield 181, 3) := by decide +kernel
theorem dX12_next_229 : decode cX12_next 229 = .ok (.iconst 1, 1) := by decide +kernel
theorem dX12_next_230 : decode cX12_next 230 = .ok (.iadd, 1) := by decide +kernel
theorem dX12_next_231 : decode cX12_next 231 = .ok (.putfield 181, 3) := by decide +kernel
theorem dX12_next_234 : decode cX12_next 234 = .ok (.aload_n 0, 1) := by decide +kernel
theorem dX12_next_235 : decode cX12_next 235 = .ok (.getfield 181, 3) := by decide +kernel
theorem dX12_next_238 : decode cX12_next 238 = .ok (.aload_n 0, 1) := by decide +kernel
theorem dX12_next_239 : decode cX12_next 239 = .ok (.getfield 178, 3) := by decide +kernel
theorem dX12_next_242 : decode cX12_next 242 = .ok (.if_icmp .ge (-221), 3) := by decide +kernel
theorem dX12_next_245 : decode cX12_next 245 = .ok (.aload_n 0, 1) := by decide +kernel
theorem dX12_next_246 : decode cX12_next 246 = .ok (.getfield 78, 3) := by decide +kernel
theorem dX12_next_249 : decode cX12_next 249 = .ok (.aload_n 0, 1) := by decide +kernel
theorem dX12_next_250 : decode cX12_next 250 = .ok (.getfield 181, 3) := by decide +kernel
theorem dX12_next_253 : decode cX12_next 253 = .ok (.iconst 0, 1) := by decide +kernel
theorem dX12_next_254 : decode cX12_next 254 = .ok (.bastore, 1) := by decide +kernel
theorem dX12_next_255 : decode cX12_next 255 = .ok (.aload_n 0, 1) := by decide +kernel
theorem dX12_next_256 : decode cX12_next 256 = .ok (.invokevirtual 184, 3) := by decide +kernel
theorem dX12_next_259 : decode cX12_next 259 = .ok (.goto (-238), 3) := by decide +kernel
theorem dX12_next_262 : decode cX12_next 262 = .ok (.iconst 0, 1) := by decide +kernel
theorem dX12_next_263 : decode cX12_next 263 = .ok (.ireturn, 1) := by decide +kernel
theorem dX12_isNothingLeft_0 : decode cX12_isNothingLeft 0 = .ok (.iconst 1, 1) := by decide +kernel
theorem dX12_isNothingLeft_1 : decode cX12_isNothingLeft 1 = .ok (.istore_n 1, 1) := by decide +kernel
theorem dX12_isNothingLeft_2 : decode cX12_isNothingLeft 2 = .ok (.iconst 0, 1) := by decide +kernel
theorem dX12_isNothingLeft_3 : decode cX12_isNothingLeft 3 = .ok (.istore_n 2, 1) := by decide +kernel
theorem dX12_isNothingLeft_4 : decode cX12_isNothingLeft 4 = .ok (.iload_n 2, 1) := by decide +kernel
theorem dX12_isNothingLeft_5 : decode cX12_isNothingLeft 5 = .ok (.aload_n 0, 1) := by decide +kernel
theorem dX12_isNothingLeft_6 : decode cX12_isNothingLeft 6 = .ok (.getfield 115, 3) := by decide +kernel
theorem dX12_isNothingLeft_9 : decode cX12_isNothingLeft 9 = .ok (.if_icmp .ge 39, 3) := by decide +kernel
theorem dX12_isNothingLeft_12 : decode cX12_isNothingLeft 12 = .ok (.iload_n 1, 1) := by decide +kernel
theorem dX12_isNothingLeft_13 : decode cX12_isNothingLeft 13 = .ok (.ifCond .eq 27, 3) := by decide +kernel
theorem dX12_isNothingLeft_16 : decode cX12_isNothingLeft 16 = .ok (.aload_n 0, 1) := by decide +kernel
theorem dX12_isNothingLeft_17 : decode cX12_isNothingLeft 17 = .ok (.getfield 33, 3) := by decide +kernel
theorem dX12_isNothingLeft_20 : decode cX12_isNothingLeft 20 = .ok (.iload_n 2, 1) := by decide +kernel
theorem dX12_isNothingLeft_21 : decode cX12_isNothingLeft 21 = .ok (.iaload, 1) := by decide +kernel
theorem dX12_isNothingLeft_22 : decode cX12_isNothingLeft 22 = .ok (.bipush (-9), 2) := by decide +kernel
theorem dX12_isNothingLeft_24 : decode cX12_isNothingLeft 24 = .ok (.if_icmp .eq 12, 3) := by decide +kernel
theorem dX12_isNothingLeft_27 : decode cX12_isNothingLeft 27 = .ok (.aload_n 0, 1) := by decide +kernel
theorem dX12_isNothingLeft_28 : decode cX12_isNothingLeft 28 = .ok (.getfield 69, 3) := by decide +kernel
theorem dX12_isNothingLeft_31 : decode cX12_isNothingLeft 31 = .ok (.iload_n 2, 1) := by decide +kernel
theorem dX12_isNothingLeft_32 : decode cX12_isNothingLeft 32 = .ok (.iaload, 1) := by decide +kernel
theorem dX12_isNothingLeft_33 : decode cX12_isNothingLeft 33 = .ok (.ifCond .ne 7, 3) := by decide +kernel
theorem dX12_isNothingLeft_36 : decode cX12_isNothingLeft 36 = .ok (.iconst 1, 1) := by decide +kernel
theorem dX12_isNothingLeft_37 : decode cX12_isNothingLeft 37 = .ok (.goto 4, 3) := by decide +kernel
theorem dX12_isNothingLeft_40 : decode cX12_isNothingLeft 40 = .ok (.iconst 0, 1) := by decide +kernel
theorem dX12_isNothingLeft_41 : decode cX12_isNothingLeft 41 = .ok (.istore_n 1, 1) := by decide +kernel
theorem dX12_isNothingLeft_42 : decode cX12_isNothingLeft 42 = .ok (.iinc 2 1, 3) := by decide +kernel
theorem dX12_isNothingLeft_45 : decode cX12_isNothingLeft 45 = .ok (.goto (-41), 3) := by decide +kernel
theorem dX12_isNothingLeft_48 : decode cX12_isNothingLeft 48 = .ok (.iload_n 1, 1) := by decide +kernel
theorem dX12_isNothingLeft_49 : decode cX12_isNothingLeft 49 = .ok (.ireturn, 1) := by decide +kernel
theorem dX12_open_0 : decode cX12_open 0 = .ok (.aload_n 0, 1) := by decide +kernel
theorem dX12_open_1 : decode cX12_open 1 = .ok (.invokevirtual 203, 3) := by decide +kernel
theorem dX12_open_4 : decode cX12_open 4 = .ok (.iconst 0, 1) := by decide +kernel
theorem dX12_open_5 : decode cX12_open 5 = .ok (.istore_n 2, 1) := by decide +kernel
theorem dX12_open_6 : decode cX12_open 6 = .ok (.iload_n 2, 1) := by decide +kernel
theorem dX12_open_7 : decode cX12_open 7 = .ok (.bipush 36, 2) := by decide +kernel
theorem dX12_open_9 : decode cX12_open 9 = .ok (.if_icmp .ge 16, 3) := by decide +kernel
theorem dX12_open_12 : decode cX12_open 12 = .ok (.aload_n 0, 1) := by decide +kernel
theorem dX12_open_13 : decode cX12_open 13 = .ok (.getfield 78, 3) := by decide +kernel
theorem dX12_open_16 : decode cX12_open 16 = .ok (.iload_n 2, 1) := by decide +kernel
theorem dX12_open_17 : decode cX12_open 17 = .ok (.iconst 0, 1) := by decide +kernel
theorem dX12_open_18 : decode cX12_open 18 = .ok (.bastore, 1) := by decide +kernel
theorem dX12_open_19 : decode cX12_open 19 = .ok (.iinc 2 1, 3) := by decide +kernel
theorem dX12_open_22 : decode cX12_open 22 = .ok (.goto (-16), 3) := by decide +kernel
theorem dX12_open_25 : decode cX12_open 25 = .ok (.aload_n 0, 1) := by decide +kernel
theorem dX12_open_26 : decode cX12_open 26 = .ok (.iconst 0, 1) := by decide +kernel
theorem dX12_open_27 : decode cX12_open 27 = .ok (.putfield 197, 3) := by decide +kernel
theorem dX12_open_30 : decode cX12_open 30 = .ok (.aload_n 0, 1) := by decide +kernel
theorem dX12_open_31 : decode cX12_open 31 = .ok (.iload_n 1, 1) := by decide +kernel
theorem dX12_open_32 : decode cX12_open 32 = .ok (.putfield 200, 3) := by decide +kernel
theorem dX12_open_35 : decode cX12_open 35 = .ok (.return_, 1) := by decide +kernel
theorem dX12_areTries_0 : decode cX12_areTries 0 = .ok (.iload_n 0, 1) := by decide +kernel
theorem dX12_areTries_1 : decode cX12_areTries 1 = .ok (.iconst 1, 1) := by decide +kernel
theorem dX12_areTries_2 : decode cX12_areTries 2 = .ok (.sipush 20000, 3) := by decide +kernel
theorem dX12_areTries_5 : decode cX12_areTries 5 = .ok (.invokestatic 122, 3) := by decide +kernel
theorem dX12_areTries_8 : decode cX12_areTries 8 = .ok (.ireturn, 1) := by decide +kernel
theorem dX12_keep_0 : decode cX12_keep 0 = .ok (.iconst 0, 1) := by decide +kernel
theorem dX12_keep_1 : decode cX12_keep 1 = .ok (.istore_n 1, 1) := by decide +kernel
theorem dX12_keep_2 : decode cX12_keep 2 = .ok (.iload_n 1, 1) := by decide +kernel
theorem dX12_keep_3 : decode cX12_keep 3 = .ok (.bipush 36, 2) := by decide +kernel
theorem dX12_keep_5 : decode cX12_keep 5 = .ok (.if_icmp .ge 16, 3) := by decide +kernel
theorem dX12_keep_8 : decode cX12_keep 8 = .ok (.aload_n 0, 1) := by decide +kernel
theorem dX12_keep_9 : decode cX12_keep 9 = .ok (.getfield 45, 3) := by decide +kernel
theorem dX12_keep_12 : decode cX12_keep 12 = .ok (.iload_n 1, 1) := by decide +kernel
theorem dX12_keep_13 : decode cX12_keep 13 = .ok (.iconst 0, 1) := by decide +kernel
theorem dX12_keep_14 : decode cX12_keep 14 = .ok (.iastore, 1) := by decide +kernel
theorem dX12_keep_15 : decode cX12_keep 15 = .ok (.iinc 1 1, 3) := by decide +kernel
theorem dX12_keep_18 : decode cX12_keep 18 = .ok (.goto (-16), 3) := by decide +kernel
theorem dX12_keep_21 : decode cX12_keep 21 = .ok (.iconst 0, 1) := by decide +kernel
theorem dX12_keep_22 : decode cX12_keep 22 = .ok (.istore_n 1, 1) := by decide +kernel
theorem dX12_keep_23 : decode cX12_keep 23 = .ok (.iload_n 1, 1) := by decide +kernel
theorem dX12_keep_24 : decode cX12_keep 24 = .ok (.aload_n 0, 1) := by decide +kernel
theorem dX12_keep_25 : decode cX12_keep 25 = .ok (.getfield 178, 3) := by decide +kernel
theorem dX12_keep_28 : decode cX12_keep 28 = .ok (.if_icmp .ge 26, 3) := by decide +kernel
theorem dX12_keep_31 : decode cX12_keep 31 = .ok (.aload_n 0, 1) := by decide +kernel
theorem dX12_keep_32 : decode cX12_keep 32 = .ok (.getfield 45, 3) := by decide +kernel
theorem dX12_keep_35 : decode cX12_keep 35 = .ok (.aload_n 0, 1) := by decide +kernel
theorem dX12_keep_36 : decode cX12_keep 36 = .ok (.getfield 54, 3) := by decide +kernel
theorem dX12_keep_39 : decode cX12_keep 39 = .ok (.iload_n 1, 1) := by decide +kernel
theorem dX12_keep_40 : decode cX12_keep 40 = .ok (.iaload, 1) := by decide +kernel
theorem dX12_keep_41 : decode cX12_keep 41 = .ok (.aload_n 0, 1) := by decide +kernel
theorem dX12_keep_42 : decode cX12_keep 42 = .ok (.getfield 72, 3) := by decide +kernel
theorem dX12_keep_45 : decode cX12_keep 45 = .ok (.iload_n 1, 1) := by decide +kernel
theorem dX12_keep_46 : decode cX12_keep 46 = .ok (.iaload, 1) := by decide +kernel
theorem dX12_keep_47 : decode cX12_keep 47 = .ok (.iastore, 1) := by decide +kernel
theorem dX12_keep_48 : decode cX12_keep 48 = .ok (.iinc 1 1, 3) := by decide +kernel
theorem dX12_keep_51 : decode cX12_keep 51 = .ok (.goto (-28), 3) := by decide +kernel
theorem dX12_keep_54 : decode cX12_keep 54 = .ok (.aload_n 0, 1) := by decide +kernel
theorem dX12_keep_55 : decode cX12_keep 55 = .ok (.iconst 1, 1) := by decide +kernel
theorem dX12_keep_56 : decode cX12_keep 56 = .ok (.putfield 118, 3) := by decide +kernel
theorem dX12_keep_59 : decode cX12_keep 59 = .ok (.return_, 1) := by decide +kernel
theorem dX12_fits_0 : decode cX12_fits 0 = .ok (.iload_n 1, 1) := by decide +kernel
theorem dX12_fits_1 : decode cX12_fits 1 = .ok (.invokestatic 206, 3) := by decide +kernel
theorem dX12_fits_4 : decode cX12_fits 4 = .ok (.ifCond .ne 5, 3) := by decide +kernel
theorem dX12_fits_7 : decode cX12_fits 7 = .ok (.iconst (-1), 1) := by decide +kernel
theorem dX12_fits_8 : decode cX12_fits 8 = .ok (.ireturn, 1) := by decide +kernel
theorem dX12_fits_9 : decode cX12_fits 9 = .ok (.aload_n 0, 1) := by decide +kernel
theorem dX12_fits_10 : decode cX12_fits 10 = .ok (.iconst 0, 1) := by decide +kernel
theorem dX12_fits_11 : decode cX12_fits 11 = .ok (.putfield 118, 3) := by decide +kernel
theorem dX12_fits_14 : decode cX12_fits 14 = .ok (.aload_n 0, 1) := by decide +kernel
theorem dX12_fits_15 : decode cX12_fits 15 = .ok (.iload_n 1, 1) := by decide +kernel
theorem dX12_fits_16 : decode cX12_fits 16 = .ok (.invokevirtual 209, 3) := by decide +kernel
theorem dX12_fits_19 : decode cX12_fits 19 = .ok (.aload_n 0, 1) := by decide +kernel
theorem dX12_fits_20 : decode cX12_fits 20 = .ok (.iconst 1, 1) := by decide +kernel
theorem dX12_fits_21 : decode cX12_fits 21 = .ok (.invokevirtual 212, 3) := by decide +kernel
theorem dX12_fits_24 : decode cX12_fits 24 = .ok (.istore_n 2, 1) := by decide +kernel
theorem dX12_fits_25 : decode cX12_fits 25 = .ok (.iload_n 2, 1) := by decide +kernel
theorem dX12_fits_26 : decode cX12_fits 26 = .ok (.iconst 1, 1) := by decide +kernel
theorem dX12_fits_27 : decode cX12_fits 27 = .ok (.if_icmp .ne 7, 3) := by decide +kernel
theorem dX12_fits_30 : decode cX12_fits 30 = .ok (.aload_n 0, 1) := by decide +kernel
theorem dX12_fits_31 : decode cX12_fits 31 = .ok (.invokevirtual 216, 3) := by decide +kernel
theorem dX12_fits_34 : decode cX12_fits 34 = .ok (.iload_n 2, 1) := by decide +kernel
theorem dX12_fits_35 : decode cX12_fits 35 = .ok (.ireturn, 1) := by decide +kernel
theorem dX12_fit_0 : decode cX12_fit 0 = .ok (.aload_n 0, 1) := by decide +kernel
theorem dX12_fit_1 : decode cX12_fit 1 = .ok (.iload_n 1, 1) := by decide +kernel
theorem dX12_fit_2 : decode cX12_fit 2 = .ok (.iload_n 2, 1) := by decide +kernel
theorem dX12_fit_3 : decode cX12_fit 3 = .ok (.invokevirtual 174, 3) := by decide +kernel
theorem dX12_fit_6 : decode cX12_fit 6 = .ok (.ifCond .ne 7, 3) := by decide +kernel
theorem dX12_fit_9 : decode cX12_fit 9 = .ok (.iconst (-1), 1) := by decide +kernel
theorem dX12_fit_10 : decode cX12_fit 10 = .ok (.goto 28, 3) := by decide +kernel
theorem dX12_fit_13 : decode cX12_fit 13 = .ok (.aload_n 0, 1) := by decide +kernel
theorem dX12_fit_14 : decode cX12_fit 14 = .ok (.getfield 118, 3) := by decide +kernel
theorem dX12_fit_17 : decode cX12_fit 17 = .ok (.ifCond .eq 19, 3) := by decide +kernel
theorem dX12_fit_20 : decode cX12_fit 20 = .ok (.aload_n 0, 1) := by decide +kernel
theorem dX12_fit_21 : decode cX12_fit 21 = .ok (.getfield 45, 3) := by decide +kernel
theorem dX12_fit_24 : decode cX12_fit 24 = .ok (.aload_n 0, 1) := by decide +kernel
theorem dX12_fit_25 : decode cX12_fit 25 = .ok (.getfield 13, 3) := by decide +kernel
theorem dX12_fit_28 : decode cX12_fit 28 = .ok (.iload_n 1, 1) := by decide +kernel
theorem dX12_fit_29 : decode cX12_fit 29 = .ok (.imul, 1) := by decide +kernel
theorem dX12_fit_30 : decode cX12_fit 30 = .ok (.iload_n 2, 1) := by decide +kernel
theorem dX12_fit_31 : decode cX12_fit 31 = .ok (.iadd, 1) := by decide +kernel
theorem dX12_fit_32 : decode cX12_fit 32 = .ok (.iaload, 1) := by decide +kernel
theorem dX12_fit_33 : decode cX12_fit 33 = .ok (.goto 5, 3) := by decide +kernel
theorem dX12_fit_36 : decode cX12_fit 36 = .ok (.bipush (-9), 2) := by decide +kernel
theorem dX12_fit_38 : decode cX12_fit 38 = .ok (.ireturn, 1) := by decide +kernel
theorem dX12_many_0 : decode cX12_many 0 = .ok (.iload_n 1, 1) := by decide +kernel
theorem dX12_many_1 : decode cX12_many 1 = .ok (.invokestatic 206, 3) := by decide +kernel
theorem dX12_many_4 : decode cX12_many 4 = .ok (.ifCond .ne 5, 3) := by decide +kernel
theorem dX12_many_7 : decode cX12_many 7 = .ok (.iconst (-1), 1) := by decide +kernel
theorem dX12_many_8 : decode cX12_many 8 = .ok (.ireturn, 1) := by decide +kernel
theorem dX12_many_9 : decode cX12_many 9 = .ok (.aload_n 0, 1) := by decide +kernel
theorem dX12_many_10 : decode cX12_many 10 = .ok (.iload_n 1, 1) := by decide +kernel
theorem dX12_many_11 : decode cX12_many 11 = .ok (.invokevirtual 209, 3) := by decide +kernel
theorem dX12_many_14 : decode cX12_many 14 = .ok (.lconst 0, 1) := by decide +kernel
theorem dX12_many_15 : decode cX12_many 15 = .ok (.lstore_n 2, 1) := by decide +kernel
theorem dX12_many_16 : decode cX12_many 16 = .ok (.aload_n 0, 1) := by decide +kernel
theorem dX12_many_17 : decode cX12_many 17 = .ok (.iconst 1, 1) := by decide +kernel
theorem dX12_many_18 : decode cX12_many 18 = .ok (.invokevirtual 212, 3) := by decide +kernel
theorem dX12_many_21 : decode cX12_many 21 = .ok (.istore 4, 2) := by decide +kernel
theorem dX12_many_23 : decode cX12_many 23 = .ok (.iload 4, 2) := by decide +kernel
theorem dX12_many_25 : decode cX12_many 25 = .ok (.iconst 1, 1) := by decide +kernel
theorem dX12_many_26 : decode cX12_many 26 = .ok (.if_icmp .ne 17, 3) := by decide +kernel
theorem dX12_many_29 : decode cX12_many 29 = .ok (.lload_n 2, 1) := by decide +kernel
theorem dX12_many_30 : decode cX12_many 30 = .ok (.lconst 1, 1) := by decide +kernel
theorem dX12_many_31 : decode cX12_many 31 = .ok (.ladd, 1) := by decide +kernel
theorem dX12_many_32 : decode cX12_many 32 = .ok (.lstore_n 2, 1) := by decide +kernel
theorem dX12_many_33 : decode cX12_many 33 = .ok (.aload_n 0, 1) := by decide +kernel
theorem dX12_many_34 : decode cX12_many 34 = .ok (.iconst 0, 1) := by decide +kernel
theorem dX12_many_35 : decode cX12_many 35 = .ok (.invokevirtual 212, 3) := by decide +kernel
theorem dX12_many_38 : decode cX12_many 38 = .ok (.istore 4, 2) := by decide +kernel
theorem dX12_many_40 : decode cX12_many 40 = .ok (.goto (-17), 3) := by decide +kernel
theorem dX12_many_43 : decode cX12_many 43 = .ok (.iload 4, 2) := by decide +kernel
theorem dX12_many_45 : decode cX12_many 45 = .ok (.ifCond .ge 8, 3) := by decide +kernel
theorem dX12_many_48 : decode cX12_many 48 = .ok (.iload 4, 2) := by decide +kernel
theorem dX12_many_50 : decode cX12_many 50 = .ok (.goto 9, 3) := by decide +kernel
theorem dX12_many_53 : decode cX12_many 53 = .ok (.aload_n 0, 1) := by decide +kernel
theorem dX12_many_54 : decode cX12_many 54 = .ok (.lload_n 2, 1) := by decide +kernel
theorem dX12_many_55 : decode cX12_many 55 = .ok (.iconst 1, 1) := by decide +kernel
theorem dX12_many_56 : decode cX12_many 56 = .ok (.invokevirtual 160, 3) := by decide +kernel
theorem dX12_many_59 : decode cX12_many 59 = .ok (.ireturn, 1) := by decide +kernel
theorem dX12_setBounds_0 : decode cX12_setBounds 0 = .ok (.aload_n 0, 1) := by decide +kernel
theorem dX12_setBounds_1 : decode cX12_setBounds 1 = .ok (.iload_n 1, 1) := by decide +kernel
theorem dX12_setBounds_2 : decode cX12_setBounds 2 = .ok (.invokevirtual 209, 3) := by decide +kernel
theorem dX12_setBounds_5 : decode cX12_setBounds 5 = .ok (.iconst 0, 1) := by decide +kernel
theorem dX12_setBounds_6 : decode cX12_setBounds 6 = .ok (.istore_n 2, 1) := by decide +kernel
theorem dX12_setBounds_7 : decode cX12_setBounds 7 = .ok (.iconst 0, 1) := by decide +kernel
theorem dX12_setBounds_8 : decode cX12_setBounds 8 = .ok (.istore_n 3, 1) := by decide +kernel
theorem dX12_setBounds_9 : decode cX12_setBounds 9 = .ok (.iload_n 3, 1) := by decide +kernel
theorem dX12_setBounds_10 : decode cX12_setBounds 10 = .ok (.bipush 36, 2) := by decide +kernel
theorem dX12_setBounds_12 : decode cX12_setBounds 12 = .ok (.if_icmp .ge 23, 3) := by decide +kernel
theorem dX12_setBounds_15 : decode cX12_setBounds 15 = .ok (.aload_n 0, 1) := by decide +kernel
theorem dX12_setBounds_16 : decode cX12_setBounds 16 = .ok (.getfield 81, 3) := by decide +kernel
theorem dX12_setBounds_19 : decode cX12_setBounds 19 = .ok (.iload_n 3, 1) := by decide +kernel
theorem dX12_setBounds_20 : decode cX12_setBounds 20 = .ok (.iconst 0, 1) := by decide +kernel
theorem dX12_setBounds_21 : decode cX12_setBounds 21 = .ok (.iastore, 1) := by decide +kernel
theorem dX12_setBounds_22 : decode cX12_setBounds 22 = .ok (.aload_n 0, 1) := by decide +kernel
theorem dX12_setBounds_23 : decode cX12_setBounds 23 = .ok (.getfield 84, 3) := by decide +kernel
theorem dX12_setBounds_26 : decode cX12_setBounds 26 = .ok (.iload_n 3, 1) := by decide +kernel
theorem dX12_setBounds_27 : decode cX12_setBounds 27 = .ok (.iconst 0, 1) := by decide +kernel
theorem dX12_setBounds_28 : decode cX12_setBounds 28 = .ok (.iastore, 1) := by decide +kernel
theorem dX12_setBounds_29 : decode cX12_setBounds 29 = .ok (.iinc 3 1, 3) := by decide +kernel
theorem dX12_setBounds_32 : decode cX12_setBounds 32 = .ok (.goto (-23), 3) := by decide +kernel
theorem dX12_setBounds_35 : decode cX12_setBounds 35 = .ok (.aload_n 0, 1) := by decide +kernel
theorem dX12_setBounds_36 : decode cX12_setBounds 36 = .ok (.iconst 1, 1) := by decide +kernel
theorem dX12_setBounds_37 : decode cX12_setBounds 37 = .ok (.invokevirtual 212, 3) := by decide +kernel
theorem dX12_setBounds_40 : decode cX12_setBounds 40 = .ok (.istore_n 3, 1) := by decide +kernel
theorem dX12_setBounds_41 : decode cX12_setBounds 41 = .ok (.iload_n 3, 1) := by decide +kernel
theorem dX12_setBounds_42 : decode cX12_setBounds 42 = .ok (.iconst 1, 1) := by decide +kernel
theorem dX12_setBounds_43 : decode cX12_setBounds 43 = .ok (.if_icmp .ne 127, 3) := by decide +kernel
theorem dX12_setBounds_46 : decode cX12_setBounds 46 = .ok (.iconst 0, 1) := by decide +kernel
theorem dX12_setBounds_47 : decode cX12_setBounds 47 = .ok (.istore 4, 2) := by decide +kernel
theorem dX12_setBounds_49 : decode cX12_setBounds 49 = .ok (.iload 4, 2) := by decide +kernel
theorem dX12_setBounds_51 : decode cX12_setBounds 51 = .ok (.aload_n 0, 1) := by decide +kernel
theorem dX12_setBounds_52 : decode cX12_setBounds 52 = .ok (.getfield 178, 3) := by decide +kernel
theorem dX12_setBounds_55 : decode cX12_setBounds 55 = .ok (.if_icmp .ge 104, 3) := by decide +kernel
theorem dX12_setBounds_58 : decode cX12_setBounds 58 = .ok (.aload_n 0, 1) := by decide +kernel
theorem dX12_setBounds_59 : decode cX12_setBounds 59 = .ok (.getfield 54, 3) := by decide +kernel
theorem dX12_setBounds_62 : decode cX12_setBounds 62 = .ok (.iload 4, 2) := by decide +kernel
theorem dX12_setBounds_64 : decode cX12_setBounds 64 = .ok (.iaload, 1) := by decide +kernel
theorem dX12_setBounds_65 : decode cX12_setBounds 65 = .ok (.istore 5, 2) := by decide +kernel
theorem dX12_setBounds_67 : decode cX12_setBounds 67 = .ok (.aload_n 0, 1) := by decide +kernel
theorem dX12_setBounds_68 : decode cX12_setBounds 68 = .ok (.getfield 81, 3) := by decide +kernel
theorem dX12_setBounds_71 : decode cX12_setBounds 71 = .ok (.iload 5, 2) := by decide +kernel
theorem dX12_setBounds_73 : decode cX12_setBounds 73 = .ok (.iload_n 2, 1) := by decide +kernel
theorem dX12_setBounds_74 : decode cX12_setBounds 74 = .ok (.ifCond .eq 20, 3) := by decide +kernel
theorem dX12_setBounds_77 : decode cX12_setBounds 77 = .ok (.aload_n 0, 1) := by decide +kernel
theorem dX12_setBounds_78 : decode cX12_setBounds 78 = .ok (.getfield 72, 3) := by decide +kernel
theorem dX12_setBounds_81 : decode cX12_setBounds 81 = .ok (.iload 4, 2) := by decide +kernel
theorem dX12_setBounds_83 : decode cX12_setBounds 83 = .ok (.iaload, 1) := by decide +kernel
theorem dX12_setBounds_84 : decode cX12_setBounds 84 = .ok (.aload_n 0, 1) := by decide +kernel
theorem dX12_setBounds_85 : decode cX12_setBounds 85 = .ok (.getfield 81, 3) := by decide +kernel
theorem dX12_setBounds_88 : decode cX12_setBounds 88 = .ok (.iload 5, 2) := by decide +kernel
theorem dX12_setBounds_90 : decode cX12_setBounds 90 = .ok (.iaload, 1) := by decide +kernel
theorem dX12_setBounds_91 : decode cX12_setBounds 91 = .ok (.if_icmp .ge 13, 3) := by decide +kernel
theorem dX12_setBounds_94 : decode cX12_setBounds 94 = .ok (.aload_n 0, 1) := by decide +kernel
theorem dX12_setBounds_95 : decode cX12_setBounds 95 = .ok (.getfield 72, 3) := by decide +kernel
theorem dX12_setBounds_98 : decode cX12_setBounds 98 = .ok (.iload 4, 2) := by decide +kernel
theorem dX12_setBounds_100 : decode cX12_setBounds 100 = .ok (.iaload, 1) := by decide +kernel
theorem dX12_setBounds_101 : decode cX12_setBounds 101 = .ok (.goto 10, 3) := by decide +kernel
theorem dX12_setBounds_104 : decode cX12_setBounds 104 = .ok (.aload_n 0, 1) := by decide +kernel
theorem dX12_setBounds_105 : decode cX12_setBounds 105 = .ok (.getfield 81, 3) := by decide +kernel
theorem dX12_setBounds_108 : decode cX12_setBounds 108 = .ok (.iload 5, 2) := by decide +kernel
theorem dX12_setBounds_110 : decode cX12_setBounds 110 = .ok (.iaload, 1) := by decide +kernel
theorem dX12_setBounds_111 : decode cX12_setBounds 111 = .ok (.iastore, 1) := by decide +kernel
theorem dX12_setBounds_112 : decode cX12_setBounds 112 = .ok (.aload_n 0, 1) := by decide +kernel
theorem dX12_setBounds_113 : decode cX12_setBounds 113 = .ok (.getfield 84, 3) := by decide +kernel
theorem dX12_setBounds_116 : decode cX12_setBounds 116 = .ok (.iload 5, 2) := by decide +kernel
theorem dX12_setBounds_118 : decode cX12_setBounds 118 = .ok (.aload_n 0, 1) := by decide +kernel
theorem dX12_setBounds_119 : decode cX12_setBounds 119 = .ok (.getfield 72, 3) := by decide +kernel
theorem dX12_setBounds_122 : decode cX12_setBounds 122 = .ok (.iload 4, 2) := by decide +kernel
theorem dX12_setBounds_124 : decode cX12_setBounds 124 = .ok (.iaload, 1) := by decide +kernel
theorem dX12_setBounds_125 : decode cX12_setBounds 125 = .ok (.aload_n 0, 1) := by decide +kernel
theorem dX12_setBounds_126 : decode cX12_setBounds 126 = .ok (.getfield 84, 3) := by decide +kernel
theorem dX12_setBounds_129 : decode cX12_setBounds 129 = .ok (.iload 5, 2) := by decide +kernel
theorem dX12_setBounds_131 : decode cX12_setBounds 131 = .ok (.iaload, 1) := by decide +kernel
theorem dX12_setBounds_132 : decode cX12_setBounds 132 = .ok (.if_icmp .le 13, 3) := by decide +kernel
theorem dX12_setBounds_135 : decode cX12_setBounds 135 = .ok (.aload_n 0, 1) := by decide +kernel
theorem dX12_setBounds_136 : decode cX12_setBounds 136 = .ok (.getfield 72, 3) := by decide +kernel
theorem dX12_setBounds_139 : decode cX12_setBounds 139 = .ok (.iload 4, 2) := by decide +kernel
theorem dX12_setBounds_141 : decode cX12_setBounds 141 = .ok (.iaload, 1) := by decide +kernel
theorem dX12_setBounds_142 : decode cX12_setBounds 142 = .ok (.goto 10, 3) := by decide +kernel
theorem dX12_setBounds_145 : decode cX12_setBounds 145 = .ok (.aload_n 0, 1) := by decide +kernel
theorem dX12_setBounds_146 : decode cX12_setBounds 146 = .ok (.getfield 84, 3) := by decide +kernel
theorem dX12_setBounds_149 : decode cX12_setBounds 149 = .ok (.iload 5, 2) := by decide +kernel
theorem dX12_setBounds_151 : decode cX12_setBounds 151 = .ok (.iaload, 1) := by decide +kernel
theorem dX12_setBounds_152 : decode cX12_setBounds 152 = .ok (.iastore, 1) := by decide +kernel
theorem dX12_setBounds_153 : decode cX12_setBounds 153 = .ok (.iinc 4 1, 3) := by decide +kernel
theorem dX12_setBounds_156 : decode cX12_setBounds 156 = .ok (.goto (-107), 3) := by decide +kernel
theorem dX12_setBounds_159 : decode cX12_setBounds 159 = .ok (.iconst 1, 1) := by decide +kernel
theorem dX12_setBounds_160 : decode cX12_setBounds 160 = .ok (.istore_n 2, 1) := by decide +kernel
theorem dX12_setBounds_161 : decode cX12_setBounds 161 = .ok (.aload_n 0, 1) := by decide +kernel
theorem dX12_setBounds_162 : decode cX12_setBounds 162 = .ok (.iconst 0, 1) := by decide +kernel
theorem dX12_setBounds_163 : decode cX12_setBounds 163 = .ok (.invokevirtual 212, 3) := by decide +kernel
theorem dX12_setBounds_166 : decode cX12_setBounds 166 = .ok (.istore_n 3, 1) := by decide +kernel
theorem dX12_setBounds_167 : decode cX12_setBounds 167 = .ok (.goto (-126), 3) := by decide +kernel
theorem dX12_setBounds_170 : decode cX12_setBounds 170 = .ok (.iload_n 3, 1) := by decide +kernel
theorem dX12_setBounds_171 : decode cX12_setBounds 171 = .ok (.ifCond .ge 7, 3) := by decide +kernel
theorem dX12_setBounds_174 : decode cX12_setBounds 174 = .ok (.iload_n 3, 1) := by decide +kernel
theorem dX12_setBounds_175 : decode cX12_setBounds 175 = .ok (.goto 4, 3) := by decide +kernel
theorem dX12_setBounds_178 : decode cX12_setBounds 178 = .ok (.iload_n 2, 1) := by decide +kernel
theorem dX12_setBounds_179 : decode cX12_setBounds 179 = .ok (.ireturn, 1) := by decide +kernel
theorem dX12_bound_0 : decode cX12_bound 0 = .ok (.aload_n 0, 1) := by decide +kernel
theorem dX12_bound_1 : decode cX12_bound 1 = .ok (.iload_n 1, 1) := by decide +kernel
theorem dX12_bound_2 : decode cX12_bound 2 = .ok (.iload_n 2, 1) := by decide +kernel
theorem dX12_bound_3 : decode cX12_bound 3 = .ok (.invokevirtual 174, 3) := by decide +kernel
theorem dX12_bound_6 : decode cX12_bound 6 = .ok (.ifCond .eq 11, 3) := by decide +kernel
theorem dX12_bound_9 : decode cX12_bound 9 = .ok (.iload 4, 2) := by decide +kernel
theorem dX12_bound_11 : decode cX12_bound 11 = .ok (.invokestatic 206, 3) := by decide +kernel
theorem dX12_bound_14 : decode cX12_bound 14 = .ok (.ifCond .ne 5, 3) := by decide +kernel
theorem dX12_bound_17 : decode cX12_bound 17 = .ok (.iconst (-1), 1) := by decide +kernel
theorem dX12_bound_18 : decode cX12_bound 18 = .ok (.ireturn, 1) := by decide +kernel
theorem dX12_bound_19 : decode cX12_bound 19 = .ok (.aload_n 0, 1) := by decide +kernel
theorem dX12_bound_20 : decode cX12_bound 20 = .ok (.iload 4, 2) := by decide +kernel
theorem dX12_bound_22 : decode cX12_bound 22 = .ok (.invokevirtual 219, 3) := by decide +kernel
theorem dX12_bound_25 : decode cX12_bound 25 = .ok (.istore 5, 2) := by decide +kernel
theorem dX12_bound_27 : decode cX12_bound 27 = .ok (.iload 5, 2) := by decide +kernel
theorem dX12_bound_29 : decode cX12_bound 29 = .ok (.ifCond .ge 8, 3) := by decide +kernel
theorem dX12_bound_32 : decode cX12_bound 32 = .ok (.iload 5, 2) := by decide +kernel
theorem dX12_bound_34 : decode cX12_bound 34 = .ok (.goto 46, 3) := by decide +kernel
theorem dX12_bound_37 : decode cX12_bound 37 = .ok (.iload 5, 2) := by decide +kernel
theorem dX12_bound_39 : decode cX12_bound 39 = .ok (.ifCond .ne 8, 3) := by decide +kernel
theorem dX12_bound_42 : decode cX12_bound 42 = .ok (.bipush (-9), 2) := by decide +kernel
theorem dX12_bound_44 : decode cX12_bound 44 = .ok (.goto 36, 3) := by decide +kernel
theorem dX12_bound_47 : decode cX12_bound 47 = .ok (.iload_n 3, 1) := by decide +kernel
theorem dX12_bound_48 : decode cX12_bound 48 = .ok (.ifCond .eq 19, 3) := by decide +kernel
theorem dX12_bound_51 : decode cX12_bound 51 = .ok (.aload_n 0, 1) := by decide +kernel
theorem dX12_bound_52 : decode cX12_bound 52 = .ok (.getfield 84, 3) := by decide +kernel
theorem dX12_bound_55 : decode cX12_bound 55 = .ok (.aload_n 0, 1) := by decide +kernel
theorem dX12_bound_56 : decode cX12_bound 56 = .ok (.getfield 13, 3) := by decide +kernel
theorem dX12_bound_59 : decode cX12_bound 59 = .ok (.iload_n 1, 1) := by decide +kernel
theorem dX12_bound_60 : decode cX12_bound 60 = .ok (.imul, 1) := by decide +kernel
theorem dX12_bound_61 : decode cX12_bound 61 = .ok (.iload_n 2, 1) := by decide +kernel
theorem dX12_bound_62 : decode cX12_bound 62 = .ok (.iadd, 1) := by decide +kernel
theorem dX12_bound_63 : decode cX12_bound 63 = .ok (.iaload, 1) := by decide +kernel
theorem dX12_bound_64 : decode cX12_bound 64 = .ok (.goto 16, 3) := by decide +kernel
theorem dX12_bound_67 : decode cX12_bound 67 = .ok (.aload_n 0, 1) := by decide +kernel
theorem dX12_bound_68 : decode cX12_bound 68 = .ok (.getfield 81, 3) := by decide +kernel
theorem dX12_bound_71 : decode cX12_bound 71 = .ok (.aload_n 0, 1) := by decide +kernel
theorem dX12_bound_72 : decode cX12_bound 72 = .ok (.getfield 13, 3) := by decide +kernel
theorem dX12_bound_75 : decode cX12_bound 75 = .ok (.iload_n 1, 1) := by decide +kernel
theorem dX12_bound_76 : decode cX12_bound 76 = .ok (.imul, 1) := by decide +kernel
theorem dX12_bound_77 : decode cX12_bound 77 = .ok (.iload_n 2, 1) := by decide +kernel
theorem dX12_bound_78 : decode cX12_bound 78 = .ok (.iadd, 1) := by decide +kernel
theorem dX12_bound_79 : decode cX12_bound 79 = .ok (.iaload, 1) := by decide +kernel
theorem dX12_bound_80 : decode cX12_bound 80 = .ok (.ireturn, 1) := by decide +kernel
theorem dX12_sure_0 : decode cX12_sure 0 = .ok (.iload_n 1, 1) := by decide +kernel
theorem dX12_sure_1 : decode cX12_sure 1 = .ok (.invokestatic 206, 3) := by decide +kernel
theorem dX12_sure_4 : decode cX12_sure 4 = .ok (.ifCond .ne 5, 3) := by decide +kernel
theorem dX12_sure_7 : decode cX12_sure 7 = .ok (.iconst (-1), 1) := by decide +kernel
theorem dX12_sure_8 : decode cX12_sure 8 = .ok (.ireturn, 1) := by decide +kernel
theorem dX12_sure_9 : decode cX12_sure 9 = .ok (.aload_n 0, 1) := by decide +kernel
theorem dX12_sure_10 : decode cX12_sure 10 = .ok (.iload_n 1, 1) := by decide +kernel
theorem dX12_sure_11 : decode cX12_sure 11 = .ok (.invokevirtual 219, 3) := by decide +kernel
theorem dX12_sure_14 : decode cX12_sure 14 = .ok (.istore_n 2, 1) := by decide +kernel
theorem dX12_sure_15 : decode cX12_sure 15 = .ok (.iload_n 2, 1) := by decide +kernel
theorem dX12_sure_16 : decode cX12_sure 16 = .ok (.iconst 1, 1) := by decide +kernel
theorem dX12_sure_17 : decode cX12_sure 17 = .ok (.if_icmp .ge 14, 3) := by decide +kernel
theorem dX12_sure_20 : decode cX12_sure 20 = .ok (.iload_n 2, 1) := by decide +kernel
theorem dX12_sure_21 : decode cX12_sure 21 = .ok (.ifCond .ge 7, 3) := by decide +kernel
theorem dX12_sure_24 : decode cX12_sure 24 = .ok (.iload_n 2, 1) := by decide +kernel
theorem dX12_sure_25 : decode cX12_sure 25 = .ok (.goto 5, 3) := by decide +kernel
theorem dX12_sure_28 : decode cX12_sure 28 = .ok (.bipush (-9), 2) := by decide +kernel
theorem dX12_sure_30 : decode cX12_sure 30 = .ok (.ireturn, 1) := by decide +kernel
theorem dX12_sure_31 : decode cX12_sure 31 = .ok (.iconst 0, 1) := by decide +kernel
theorem dX12_sure_32 : decode cX12_sure 32 = .ok (.istore_n 3, 1) := by decide +kernel
theorem dX12_sure_33 : decode cX12_sure 33 = .ok (.iconst 0, 1) := by decide +kernel
theorem dX12_sure_34 : decode cX12_sure 34 = .ok (.istore 4, 2) := by decide +kernel
theorem dX12_sure_36 : decode cX12_sure 36 = .ok (.iload 4, 2) := by decide +kernel
theorem dX12_sure_38 : decode cX12_sure 38 = .ok (.aload_n 0, 1) := by decide +kernel
theorem dX12_sure_39 : decode cX12_sure 39 = .ok (.getfield 13, 3) := by decide +kernel
theorem dX12_sure_42 : decode cX12_sure 42 = .ok (.aload_n 0, 1) := by decide +kernel
theorem dX12_sure_43 : decode cX12_sure 43 = .ok (.getfield 13, 3) := by decide +kernel
theorem dX12_sure_46 : decode cX12_sure 46 = .ok (.imul, 1) := by decide +kernel
theorem dX12_sure_47 : decode cX12_sure 47 = .ok (.if_icmp .ge 44, 3) := by decide +kernel
theorem dX12_sure_50 : decode cX12_sure 50 = .ok (.iload_n 3, 1) := by decide +kernel
theorem dX12_sure_51 : decode cX12_sure 51 = .ok (.aload_n 0, 1) := by decide +kernel
theorem dX12_sure_52 : decode cX12_sure 52 = .ok (.getfield 57, 3) := by decide +kernel
theorem dX12_sure_55 : decode cX12_sure 55 = .ok (.iload 4, 2) := by decide +kernel
theorem dX12_sure_57 : decode cX12_sure 57 = .ok (.iaload, 1) := by decide +kernel
theorem dX12_sure_58 : decode cX12_sure 58 = .ok (.ifCond .lt 24, 3) := by decide +kernel
theorem dX12_sure_61 : decode cX12_sure 61 = .ok (.aload_n 0, 1) := by decide +kernel
theorem dX12_sure_62 : decode cX12_sure 62 = .ok (.getfield 81, 3) := by decide +kernel
theorem dX12_sure_65 : decode cX12_sure 65 = .ok (.iload 4, 2) := by decide +kernel
theorem dX12_sure_67 : decode cX12_sure 67 = .ok (.iaload, 1) := by decide +kernel
theorem dX12_sure_68 : decode cX12_sure 68 = .ok (.aload_n 0, 1) := by decide +kernel
theorem dX12_sure_69 : decode cX12_sure 69 = .ok (.getfield 84, 3) := by decide +kernel
theorem dX12_sure_72 : decode cX12_sure 72 = .ok (.iload 4, 2) := by decide +kernel
theorem dX12_sure_74 : decode cX12_sure 74 = .ok (.iaload, 1) := by decide +kernel
theorem dX12_sure_75 : decode cX12_sure 75 = .ok (.if_icmp .ne 7, 3) := by decide +kernel
theorem dX12_sure_78 : decode cX12_sure 78 = .ok (.iconst 1, 1) := by decide +kernel
theorem dX12_sure_79 : decode cX12_sure 79 = .ok (.goto 4, 3) := by decide +kernel
theorem dX12_sure_82 : decode cX12_sure 82 = .ok (.iconst 0, 1) := by decide +kernel
theorem dX12_sure_83 : decode cX12_sure 83 = .ok (.iadd, 1) := by decide +kernel
theorem dX12_sure_84 : decode cX12_sure 84 = .ok (.istore_n 3, 1) := by decide +kernel
theorem dX12_sure_85 : decode cX12_sure 85 = .ok (.iinc 4 1, 3) := by decide +kernel
theorem dX12_sure_88 : decode cX12_sure 88 = .ok (.goto (-52), 3) := by decide +kernel
theorem dX12_sure_91 : decode cX12_sure 91 = .ok (.iload_n 3, 1) := by decide +kernel
theorem dX12_sure_92 : decode cX12_sure 92 = .ok (.ireturn, 1) := by decide +kernel
theorem dX12_tries_0 : decode cX12_tries 0 = .ok (.aload_n 0, 1) := by decide +kernel
theorem dX12_tries_1 : decode cX12_tries 1 = .ok (.getfield 197, 3) := by decide +kernel
theorem dX12_tries_4 : decode cX12_tries 4 = .ok (.ireturn, 1) := by decide +kernel
theorem dX12_changes_0 : decode cX12_changes 0 = .ok (.iconst 0, 1) := by decide +kernel
theorem dX12_changes_1 : decode cX12_changes 1 = .ok (.istore_n 1, 1) := by decide +kernel
theorem dX12_changes_2 : decode cX12_changes 2 = .ok (.iconst 0, 1) := by decide +kernel
theorem dX12_changes_3 : decode cX12_changes 3 = .ok (.istore_n 2, 1) := by decide +kernel
theorem dX12_changes_4 : decode cX12_changes 4 = .ok (.iload_n 2, 1) := by decide +kernel
theorem dX12_changes_5 : decode cX12_changes 5 = .ok (.aload_n 0, 1) := by decide +kernel
theorem dX12_changes_6 : decode cX12_changes 6 = .ok (.getfield 13, 3) := by decide +kernel
theorem dX12_changes_9 : decode cX12_changes 9 = .ok (.aload_n 0, 1) := by decide +kernel
theorem dX12_changes_10 : decode cX12_changes 10 = .ok (.getfield 13, 3) := by decide +kernel
theorem dX12_changes_13 : decode cX12_changes 13 = .ok (.imul, 1) := by decide +kernel
theorem dX12_changes_14 : decode cX12_changes 14 = .ok (.if_icmp .ge 26, 3) := by decide +kernel
theorem dX12_changes_17 : decode cX12_changes 17 = .ok (.iload_n 1, 1) := by decide +kernel
theorem dX12_changes_18 : decode cX12_changes 18 = .ok (.aload_n 0, 1) := by decide +kernel
theorem dX12_changes_19 : decode cX12_changes 19 = .ok (.getfield 42, 3) := by decide +kernel
theorem dX12_changes_22 : decode cX12_changes 22 = .ok (.iload_n 2, 1) := by decide +kernel
theorem dX12_changes_23 : decode cX12_changes 23 = .ok (.iaload, 1) := by decide +kernel
theorem dX12_changes_24 : decode cX12_changes 24 = .ok (.ifCond .eq 7, 3) := by decide +kernel
theorem dX12_changes_27 : decode cX12_changes 27 = .ok (.iconst 1, 1) := by decide +kernel
theorem dX12_changes_28 : decode cX12_changes 28 = .ok (.goto 4, 3) := by decide +kernel
theorem dX12_changes_31 : decode cX12_changes 31 = .ok (.iconst 0, 1) := by decide +kernel
theorem dX12_changes_32 : decode cX12_changes 32 = .ok (.iadd, 1) := by decide +kernel
theorem dX12_changes_33 : decode cX12_changes 33 = .ok (.istore_n 1, 1) := by decide +kernel
theorem dX12_changes_34 : decode cX12_changes 34 = .ok (.iinc 2 1, 3) := by decide +kernel
theorem dX12_changes_37 : decode cX12_changes 37 = .ok (.goto (-33), 3) := by decide +kernel
theorem dX12_changes_40 : decode cX12_changes 40 = .ok (.iconst 0, 1) := by decide +kernel
theorem dX12_changes_41 : decode cX12_changes 41 = .ok (.istore_n 2, 1) := by decide +kernel
theorem dX12_changes_42 : decode cX12_changes 42 = .ok (.iload_n 2, 1) := by decide +kernel
theorem dX12_changes_43 : decode cX12_changes 43 = .ok (.aload_n 0, 1) := by decide +kernel
theorem dX12_changes_44 : decode cX12_changes 44 = .ok (.getfield 178, 3) := by decide +kernel
theorem dX12_changes_47 : decode cX12_changes 47 = .ok (.if_icmp .ge 49, 3) := by decide +kernel
theorem dX12_changes_50 : decode cX12_changes 50 = .ok (.aload_n 0, 1) := by decide +kernel
theorem dX12_changes_51 : decode cX12_changes 51 = .ok (.getfield 42, 3) := by decide +kernel
theorem dX12_changes_54 : decode cX12_changes 54 = .ok (.aload_n 0, 1) := by decide +kernel
theorem dX12_changes_55 : decode cX12_changes 55 = .ok (.getfield 54, 3) := by decide +kernel
theorem dX12_changes_58 : decode cX12_changes 58 = .ok (.iload_n 2, 1) := by decide +kernel
theorem dX12_changes_59 : decode cX12_changes 59 = .ok (.iaload, 1) := by decide +kernel
theorem dX12_changes_60 : decode cX12_changes 60 = .ok (.iaload, 1) := by decide +kernel
theorem dX12_changes_61 : decode cX12_changes 61 = .ok (.istore_n 3, 1) := by decide +kernel
theorem dX12_changes_62 : decode cX12_changes 62 = .ok (.iload_n 1, 1) := by decide +kernel
theorem dX12_changes_63 : decode cX12_changes 63 = .ok (.aload_n 0, 1) := by decide +kernel
theorem dX12_changes_64 : decode cX12_changes 64 = .ok (.getfield 72, 3) := by decide +kernel
theorem dX12_changes_67 : decode cX12_changes 67 = .ok (.iload_n 2, 1) := by decide +kernel
theorem dX12_changes_68 : decode cX12_changes 68 = .ok (.iaload, 1) := by decide +kernel
theorem dX12_changes_69 : decode cX12_changes 69 = .ok (.iload_n 3, 1) := by decide +kernel
theorem dX12_changes_70 : decode cX12_changes 70 = .ok (.if_icmp .eq 7, 3) := by decide +kernel
theorem dX12_changes_73 : decode cX12_changes 73 = .ok (.iconst 1, 1) := by decide +kernel
theorem dX12_changes_74 : decode cX12_changes 74 = .ok (.goto 4, 3) := by decide +kernel
theorem dX12_changes_77 : decode cX12_changes 77 = .ok (.iconst 0, 1) := by decide +kernel
theorem dX12_changes_78 : decode cX12_changes 78 = .ok (.iload_n 3, 1) := by decide +kernel
theorem dX12_changes_79 : decode cX12_changes 79 = .ok (.ifCond .eq 7, 3) := by decide +kernel
theorem dX12_changes_82 : decode cX12_changes 82 = .ok (.iconst 1, 1) := by decide +kernel
theorem dX12_changes_83 : decode cX12_changes 83 = .ok (.goto 4, 3) := by decide +kernel
theorem dX12_changes_86 : decode cX12_changes 86 = .ok (.iconst 0, 1) := by decide +kernel
theorem dX12_changes_87 : decode cX12_changes 87 = .ok (.isub, 1) := by decide +kernel
theorem dX12_changes_88 : decode cX12_changes 88 = .ok (.iadd, 1) := by decide +kernel
theorem dX12_changes_89 : decode cX12_changes 89 = .ok (.istore_n 1, 1) := by decide +kernel
theorem dX12_changes_90 : decode cX12_changes 90 = .ok (.iinc 2 1, 3) := by decide +kernel
theorem dX12_changes_93 : decode cX12_changes 93 = .ok (.goto (-51), 3) := by decide +kernel
theorem dX12_changes_96 : decode cX12_changes 96 = .ok (.iload_n 1, 1) := by decide +kernel
theorem dX12_changes_97 : decode cX12_changes 97 = .ok (.ireturn, 1) := by decide +kernel
theorem dX12_changed_0 : decode cX12_changed 0 = .ok (.iload_n 1, 1) := by decide +kernel
theorem dX12_changed_1 : decode cX12_changed 1 = .ok (.invokestatic 206, 3) := by decide +kernel
theorem dX12_changed_4 : decode cX12_changed 4 = .ok (.ifCond .ne 5, 3) := by decide +kernel
theorem dX12_changed_7 : decode cX12_changed 7 = .ok (.iconst (-1), 1) := by decide +kernel
theorem dX12_changed_8 : decode cX12_changed 8 = .ok (.ireturn, 1) := by decide +kernel
theorem dX12_changed_9 : decode cX12_changed 9 = .ok (.aload_n 0, 1) := by decide +kernel
theorem dX12_changed_10 : decode cX12_changed 10 = .ok (.iconst 0, 1) := by decide +kernel
theorem dX12_changed_11 : decode cX12_changed 11 = .ok (.putfield 118, 3) := by decide +kernel
theorem dX12_changed_14 : decode cX12_changed 14 = .ok (.aload_n 0, 1) := by decide +kernel
theorem dX12_changed_15 : decode cX12_changed 15 = .ok (.iload_n 1, 1) := by decide +kernel
theorem dX12_changed_16 : decode cX12_changed 16 = .ok (.invokevirtual 209, 3) := by decide +kernel
theorem dX12_changed_19 : decode cX12_changed 19 = .ok (.bipush (-9), 2) := by decide +kernel
theorem dX12_changed_21 : decode cX12_changed 21 = .ok (.istore_n 2, 1) := by decide +kernel
theorem dX12_changed_22 : decode cX12_changed 22 = .ok (.aload_n 0, 1) := by decide +kernel
theorem dX12_changed_23 : decode cX12_changed 23 = .ok (.iconst 1, 1) := by decide +kernel
theorem dX12_changed_24 : decode cX12_changed 24 = .ok (.invokevirtual 212, 3) := by decide +kernel
theorem dX12_changed_27 : decode cX12_changed 27 = .ok (.istore_n 3, 1) := by decide +kernel
theorem dX12_changed_28 : decode cX12_changed 28 = .ok (.iload_n 3, 1) := by decide +kernel
theorem dX12_changed_29 : decode cX12_changed 29 = .ok (.iconst 1, 1) := by decide +kernel
theorem dX12_changed_30 : decode cX12_changed 30 = .ok (.if_icmp .ne 35, 3) := by decide +kernel
theorem dX12_changed_33 : decode cX12_changed 33 = .ok (.aload_n 0, 1) := by decide +kernel
theorem dX12_changed_34 : decode cX12_changed 34 = .ok (.invokevirtual 222, 3) := by decide +kernel
theorem dX12_changed_37 : decode cX12_changed 37 = .ok (.istore 4, 2) := by decide +kernel
theorem dX12_changed_39 : decode cX12_changed 39 = .ok (.iload_n 2, 1) := by decide +kernel
theorem dX12_changed_40 : decode cX12_changed 40 = .ok (.ifCond .lt 9, 3) := by decide +kernel
theorem dX12_changed_43 : decode cX12_changed 43 = .ok (.iload 4, 2) := by decide +kernel
theorem dX12_changed_45 : decode cX12_changed 45 = .ok (.iload_n 2, 1) := by decide +kernel
theorem dX12_changed_46 : decode cX12_changed 46 = .ok (.if_icmp .ge 10, 3) := by decide +kernel
theorem dX12_changed_49 : decode cX12_changed 49 = .ok (.iload 4, 2) := by decide +kernel
theorem dX12_changed_51 : decode cX12_changed 51 = .ok (.istore_n 2, 1) := by decide +kernel
theorem dX12_changed_52 : decode cX12_changed 52 = .ok (.aload_n 0, 1) := by decide +kernel
theorem dX12_changed_53 : decode cX12_changed 53 = .ok (.invokevirtual 216, 3) := by decide +kernel
theorem dX12_changed_56 : decode cX12_changed 56 = .ok (.aload_n 0, 1) := by decide +kernel
theorem dX12_changed_57 : decode cX12_changed 57 = .ok (.iconst 0, 1) := by decide +kernel
theorem dX12_changed_58 : decode cX12_changed 58 = .ok (.invokevirtual 212, 3) := by decide +kernel
theorem dX12_changed_61 : decode cX12_changed 61 = .ok (.istore_n 3, 1) := by decide +kernel
theorem dX12_changed_62 : decode cX12_changed 62 = .ok (.goto (-34), 3) := by decide +kernel
theorem dX12_changed_65 : decode cX12_changed 65 = .ok (.aload_n 0, 1) := by decide +kernel
theorem dX12_changed_66 : decode cX12_changed 66 = .ok (.aload_n 0, 1) := by decide +kernel
theorem dX12_changed_67 : decode cX12_changed 67 = .ok (.getfield 118, 3) := by decide +kernel
theorem dX12_changed_70 : decode cX12_changed 70 = .ok (.ifCond .eq 11, 3) := by decide +kernel
theorem dX12_changed_73 : decode cX12_changed 73 = .ok (.iload_n 3, 1) := by decide +kernel
theorem dX12_changed_74 : decode cX12_changed 74 = .ok (.ifCond .ne 7, 3) := by decide +kernel
theorem dX12_changed_77 : decode cX12_changed 77 = .ok (.iconst 1, 1) := by decide +kernel
theorem dX12_changed_78 : decode cX12_changed 78 = .ok (.goto 4, 3) := by decide +kernel
theorem dX12_changed_81 : decode cX12_changed 81 = .ok (.iconst 0, 1) := by decide +kernel
theorem dX12_changed_82 : decode cX12_changed 82 = .ok (.putfield 118, 3) := by decide +kernel
theorem dX12_changed_85 : decode cX12_changed 85 = .ok (.iload_n 3, 1) := by decide +kernel
theorem dX12_changed_86 : decode cX12_changed 86 = .ok (.ifCond .ge 7, 3) := by decide +kernel
theorem dX12_changed_89 : decode cX12_changed 89 = .ok (.iload_n 3, 1) := by decide +kernel
theorem dX12_changed_90 : decode cX12_changed 90 = .ok (.goto 4, 3) := by decide +kernel
theorem dX12_changed_93 : decode cX12_changed 93 = .ok (.iload_n 2, 1) := by decide +kernel
theorem dX12_changed_94 : decode cX12_changed 94 = .ok (.ireturn, 1) := by decide +kernel
theorem dX12_worst_0 : decode cX12_worst 0 = .ok (.aload_n 0, 1) := by decide +kernel
theorem dX12_worst_1 : decode cX12_worst 1 = .ok (.iload_n 1, 1) := by decide +kernel
theorem dX12_worst_2 : decode cX12_worst 2 = .ok (.invokevirtual 130, 3) := by decide +kernel
theorem dX12_worst_5 : decode cX12_worst 5 = .ok (.ifCond .eq 23, 3) := by decide +kernel
theorem dX12_worst_8 : decode cX12_worst 8 = .ok (.aload_n 0, 1) := by decide +kernel
theorem dX12_worst_9 : decode cX12_worst 9 = .ok (.iload_n 2, 1) := by decide +kernel
theorem dX12_worst_10 : decode cX12_worst 10 = .ok (.invokevirtual 130, 3) := by decide +kernel
theorem dX12_worst_13 : decode cX12_worst 13 = .ok (.ifCond .eq 15, 3) := by decide +kernel
theorem dX12_worst_16 : decode cX12_worst 16 = .ok (.iload_n 1, 1) := by decide +kernel
theorem dX12_worst_17 : decode cX12_worst 17 = .ok (.iload_n 2, 1) := by decide +kernel
theorem dX12_worst_18 : decode cX12_worst 18 = .ok (.if_icmp .eq 10, 3) := by decide +kernel
theorem dX12_worst_21 : decode cX12_worst 21 = .ok (.iload_n 3, 1) := by decide +kernel
theorem dX12_worst_22 : decode cX12_worst 22 = .ok (.invokestatic 206, 3) := by decide +kernel
theorem dX12_worst_25 : decode cX12_worst 25 = .ok (.ifCond .ne 5, 3) := by decide +kernel
theorem dX12_worst_28 : decode cX12_worst 28 = .ok (.iconst (-1), 1) := by decide +kernel
theorem dX12_worst_29 : decode cX12_worst 29 = .ok (.ireturn, 1) := by decide +kernel
theorem dX12_worst_30 : decode cX12_worst 30 = .ok (.aload_n 0, 1) := by decide +kernel
theorem dX12_worst_31 : decode cX12_worst 31 = .ok (.getfield 26, 3) := by decide +kernel
theorem dX12_worst_34 : decode cX12_worst 34 = .ok (.iload_n 1, 1) := by decide +kernel
theorem dX12_worst_35 : decode cX12_worst 35 = .ok (.baload, 1) := by decide +kernel
theorem dX12_worst_36 : decode cX12_worst 36 = .ok (.ifCond .ne 12, 3) := by decide +kernel
theorem dX12_worst_39 : decode cX12_worst 39 = .ok (.aload_n 0, 1) := by decide +kernel
theorem dX12_worst_40 : decode cX12_worst 40 = .ok (.getfield 26, 3) := by decide +kernel
theorem dX12_worst_43 : decode cX12_worst 43 = .ok (.iload_n 2, 1) := by decide +kernel
theorem dX12_worst_44 : decode cX12_worst 44 = .ok (.baload, 1) := by decide +kernel
theorem dX12_worst_45 : decode cX12_worst 45 = .ok (.ifCond .eq 6, 3) := by decide +kernel
theorem dX12_worst_48 : decode cX12_worst 48 = .ok (.bipush (-4), 2) := by decide +kernel
theorem dX12_worst_50 : decode cX12_worst 50 = .ok (.ireturn, 1) := by decide +kernel
theorem dX12_worst_51 : decode cX12_worst 51 = .ok (.aload_n 0, 1) := by decide +kernel
theorem dX12_worst_52 : decode cX12_worst 52 = .ok (.iconst 0, 1) := by decide +kernel
theorem dX12_worst_53 : decode cX12_worst 53 = .ok (.putfield 118, 3) := by decide +kernel
theorem dX12_worst_56 : decode cX12_worst 56 = .ok (.aload_n 0, 1) := by decide +kernel
theorem dX12_worst_57 : decode cX12_worst 57 = .ok (.iload_n 2, 1) := by decide +kernel
theorem dX12_worst_58 : decode cX12_worst 58 = .ok (.invokevirtual 148, 3) := by decide +kernel
theorem dX12_worst_61 : decode cX12_worst 61 = .ok (.iconst 0, 1) := by decide +kernel
theorem dX12_worst_62 : decode cX12_worst 62 = .ok (.istore 4, 2) := by decide +kernel
theorem dX12_worst_64 : decode cX12_worst 64 = .ok (.iload 4, 2) := by decide +kernel
theorem dX12_worst_66 : decode cX12_worst 66 = .ok (.bipush 36, 2) := by decide +kernel
theorem dX12_worst_68 : decode cX12_worst 68 = .ok (.if_icmp .ge 55, 3) := by decide +kernel
theorem dX12_worst_71 : decode cX12_worst 71 = .ok (.aload_n 0, 1) := by decide +kernel
theorem dX12_worst_72 : decode cX12_worst 72 = .ok (.getfield 87, 3) := by decide +kernel
theorem dX12_worst_75 : decode cX12_worst 75 = .ok (.iload 4, 2) := by decide +kernel
theorem dX12_worst_77 : decode cX12_worst 77 = .ok (.iload 4, 2) := by decide +kernel
theorem dX12_worst_79 : decode cX12_worst 79 = .ok (.aload_n 0, 1) := by decide +kernel
theorem dX12_worst_80 : decode cX12_worst 80 = .ok (.getfield 13, 3) := by decide +kernel
theorem dX12_worst_83 : decode cX12_worst 83 = .ok (.aload_n 0, 1) := by decide +kernel
theorem dX12_worst_84 : decode cX12_worst 84 = .ok (.getfield 13, 3) := by decide +kernel
theorem dX12_worst_87 : decode cX12_worst 87 = .ok (.imul, 1) := by decide +kernel
theorem dX12_worst_88 : decode cX12_worst 88 = .ok (.if_icmp .ge 27, 3) := by decide +kernel
theorem dX12_worst_91 : decode cX12_worst 91 = .ok (.aload_n 0, 1) := by decide +kernel
theorem dX12_worst_92 : decode cX12_worst 92 = .ok (.getfield 48, 3) := by decide +kernel
theorem dX12_worst_95 : decode cX12_worst 95 = .ok (.iload 4, 2) := by decide +kernel
theorem dX12_worst_97 : decode cX12_worst 97 = .ok (.iaload, 1) := by decide +kernel
theorem dX12_worst_98 : decode cX12_worst 98 = .ok (.ifCond .lt 17, 3) := by decide +kernel
theorem dX12_worst_101 : decode cX12_worst 101 = .ok (.aload_n 0, 1) := by decide +kernel
theorem dX12_worst_102 : decode cX12_worst 102 = .ok (.getfield 48, 3) := by decide +kernel
theorem dX12_worst_105 : decode cX12_worst 105 = .ok (.iload 4, 2) := by decide +kernel
theorem dX12_worst_107 : decode cX12_worst 107 = .ok (.iaload, 1) := by decide +kernel
theorem dX12_worst_108 : decode cX12_worst 108 = .ok (.iload_n 1, 1) := by decide +kernel
theorem dX12_worst_109 : decode cX12_worst 109 = .ok (.ishr, 1) := by decide +kernel
theorem dX12_worst_110 : decode cX12_worst 110 = .ok (.iconst 1, 1) := by decide +kernel
theorem dX12_worst_111 : decode cX12_worst 111 = .ok (.iand, 1) := by decide +kernel
theorem dX12_worst_112 : decode cX12_worst 112 = .ok (.goto 4, 3) := by decide +kernel
theorem dX12_worst_115 : decode cX12_worst 115 = .ok (.iconst 0, 1) := by decide +kernel
theorem dX12_worst_116 : decode cX12_worst 116 = .ok (.iastore, 1) := by decide +kernel
theorem dX12_worst_117 : decode cX12_worst 117 = .ok (.iinc 4 1, 3) := by decide +kernel
theorem dX12_worst_120 : decode cX12_worst 120 = .ok (.goto (-56), 3) := by decide +kernel
theorem dX12_worst_123 : decode cX12_worst 123 = .ok (.aload_n 0, 1) := by decide +kernel
theorem dX12_worst_124 : decode cX12_worst 124 = .ok (.iload_n 3, 1) := by decide +kernel
theorem dX12_worst_125 : decode cX12_worst 125 = .ok (.invokevirtual 209, 3) := by decide +kernel
theorem dX12_worst_128 : decode cX12_worst 128 = .ok (.bipush (-9), 2) := by decide +kernel
theorem dX12_worst_130 : decode cX12_worst 130 = .ok (.istore 4, 2) := by decide +kernel
theorem dX12_worst_132 : decode cX12_worst 132 = .ok (.aload_n 0, 1) := by decide +kernel
theorem dX12_worst_133 : decode cX12_worst 133 = .ok (.iconst 1, 1) := by decide +kernel
theorem dX12_worst_134 : decode cX12_worst 134 = .ok (.invokevirtual 212, 3) := by decide +kernel
theorem dX12_worst_137 : decode cX12_worst 137 = .ok (.istore 5, 2) := by decide +kernel
theorem dX12_worst_139 : decode cX12_worst 139 = .ok (.iload 5, 2) := by decide +kernel
theorem dX12_worst_141 : decode cX12_worst 141 = .ok (.iconst 1, 1) := by decide +kernel
theorem dX12_worst_142 : decode cX12_worst 142 = .ok (.if_icmp .ne 74, 3) := by decide +kernel
theorem dX12_worst_145 : decode cX12_worst 145 = .ok (.iconst 0, 1) := by decide +kernel
theorem dX12_worst_146 : decode cX12_worst 146 = .ok (.istore 6, 2) := by decide +kernel
theorem dX12_worst_148 : decode cX12_worst 148 = .ok (.iconst 0, 1) := by decide +kernel
theorem dX12_worst_149 : decode cX12_worst 149 = .ok (.istore 7, 2) := by decide +kernel
theorem dX12_worst_151 : decode cX12_worst 151 = .ok (.iload 7, 2) := by decide +kernel
theorem dX12_worst_153 : decode cX12_worst 153 = .ok (.aload_n 0, 1) := by decide +kernel
theorem dX12_worst_154 : decode cX12_worst 154 = .ok (.getfield 178, 3) := by decide +kernel
theorem dX12_worst_157 : decode cX12_worst 157 = .ok (.if_icmp .ge 34, 3) := by decide +kernel
theorem dX12_worst_160 : decode cX12_worst 160 = .ok (.iload 6, 2) := by decide +kernel
theorem dX12_worst_162 : decode cX12_worst 162 = .ok (.aload_n 0, 1) := by decide +kernel
theorem dX12_worst_163 : decode cX12_worst 163 = .ok (.getfield 87, 3) := by decide +kernel
theorem dX12_worst_166 : decode cX12_worst 166 = .ok (.aload_n 0, 1) := by decide +kernel
theorem dX12_worst_167 : decode cX12_worst 167 = .ok (.getfield 54, 3) := by decide +kernel
theorem dX12_worst_170 : decode cX12_worst 170 = .ok (.iload 7, 2) := by decide +kernel
theorem dX12_worst_172 : decode cX12_worst 172 = .ok (.iaload, 1) := by decide +kernel
theorem dX12_worst_173 : decode cX12_worst 173 = .ok (.iaload, 1) := by decide +kernel
theorem dX12_worst_174 : decode cX12_worst 174 = .ok (.aload_n 0, 1) := by decide +kernel
theorem dX12_worst_175 : decode cX12_worst 175 = .ok (.getfield 72, 3) := by decide +kernel
theorem dX12_worst_178 : decode cX12_worst 178 = .ok (.iload 7, 2) := by decide +kernel
theorem dX12_worst_180 : decode cX12_worst 180 = .ok (.iaload, 1) := by decide +kernel
theorem dX12_worst_181 : decode cX12_worst 181 = .ok (.imul, 1) := by decide +kernel
theorem dX12_worst_182 : decode cX12_worst 182 = .ok (.iadd, 1) := by decide +kernel
theorem dX12_worst_183 : decode cX12_worst 183 = .ok (.istore 6, 2) := by decide +kernel
theorem dX12_worst_185 : decode cX12_worst 185 = .ok (.iinc 7 1, 3) := by decide +kernel
theorem dX12_worst_188 : decode cX12_worst 188 = .ok (.goto (-37), 3) := by decide +kernel
theorem dX12_worst_191 : decode cX12_worst 191 = .ok (.iload 6, 2) := by decide +kernel
theorem dX12_worst_193 : decode cX12_worst 193 = .ok (.iload 4, 2) := by decide +kernel
theorem dX12_worst_195 : decode cX12_worst 195 = .ok (.if_icmp .le 11, 3) := by decide +kernel
theorem dX12_worst_198 : decode cX12_worst 198 = .ok (.iload 6, 2) := by decide +kernel
theorem dX12_worst_200 : decode cX12_worst 200 = .ok (.istore 4, 2) := by decide +kernel
theorem dX12_worst_202 : decode cX12_worst 202 = .ok (.aload_n 0, 1) := by decide +kernel
theorem dX12_worst_203 : decode cX12_worst 203 = .ok (.invokevirtual 216, 3) := by decide +kernel
theorem dX12_worst_206 : decode cX12_worst 206 = .ok (.aload_n 0, 1) := by decide +kernel
theorem dX12_worst_207 : decode cX12_worst 207 = .ok (.iconst 0, 1) := by decide +kernel
theorem dX12_worst_208 : decode cX12_worst 208 = .ok (.invokevirtual 212, 3) := by decide +kernel
theorem dX12_worst_211 : decode cX12_worst 211 = .ok (.istore 5, 2) := by decide +kernel
theorem dX12_worst_213 : decode cX12_worst 213 = .ok (.goto (-74), 3) := by decide +kernel
theorem dX12_worst_216 : decode cX12_worst 216 = .ok (.aload_n 0, 1) := by decide +kernel
theorem dX12_worst_217 : decode cX12_worst 217 = .ok (.aload_n 0, 1) := by decide +kernel
theorem dX12_worst_218 : decode cX12_worst 218 = .ok (.getfield 118, 3) := by decide +kernel
theorem dX12_worst_221 : decode cX12_worst 221 = .ok (.ifCond .eq 12, 3) := by decide +kernel
theorem dX12_worst_224 : decode cX12_worst 224 = .ok (.iload 5, 2) := by decide +kernel
theorem dX12_worst_226 : decode cX12_worst 226 = .ok (.ifCond .ne 7, 3) := by decide +kernel
theorem dX12_worst_229 : decode cX12_worst 229 = .ok (.iconst 1, 1) := by decide +kernel
theorem dX12_worst_230 : decode cX12_worst 230 = .ok (.goto 4, 3) := by decide +kernel
theorem dX12_worst_233 : decode cX12_worst 233 = .ok (.iconst 0, 1) := by decide +kernel
theorem dX12_worst_234 : decode cX12_worst 234 = .ok (.putfield 118, 3) := by decide +kernel
theorem dX12_worst_237 : decode cX12_worst 237 = .ok (.iload 5, 2) := by decide +kernel
theorem dX12_worst_239 : decode cX12_worst 239 = .ok (.ifCond .ge 8, 3) := by decide +kernel
theorem dX12_worst_242 : decode cX12_worst 242 = .ok (.iload 5, 2) := by decide +kernel
theorem dX12_worst_244 : decode cX12_worst 244 = .ok (.goto 5, 3) := by decide +kernel
theorem dX12_worst_247 : decode cX12_worst 247 = .ok (.iload 4, 2) := by decide +kernel
theorem dX12_worst_249 : decode cX12_worst 249 = .ok (.ireturn, 1) := by decide +kernel
theorem dX12_meters_0 : decode cX12_meters 0 = .ok (.iload_n 1, 1) := by decide +kernel
theorem dX12_meters_1 : decode cX12_meters 1 = .ok (.invokestatic 206, 3) := by decide +kernel
theorem dX12_meters_4 : decode cX12_meters 4 = .ok (.ifCond .ne 5, 3) := by decide +kernel
theorem dX12_meters_7 : decode cX12_meters 7 = .ok (.iconst (-1), 1) := by decide +kernel
theorem dX12_meters_8 : decode cX12_meters 8 = .ok (.ireturn, 1) := by decide +kernel
theorem dX12_meters_9 : decode cX12_meters 9 = .ok (.aload_n 0, 1) := by decide +kernel
theorem dX12_meters_10 : decode cX12_meters 10 = .ok (.iload_n 1, 1) := by decide +kernel
theorem dX12_meters_11 : decode cX12_meters 11 = .ok (.invokevirtual 209, 3) := by decide +kernel
theorem dX12_meters_14 : decode cX12_meters 14 = .ok (.aload_n 0, 1) := by decide +kernel
theorem dX12_meters_15 : decode cX12_meters 15 = .ok (.iconst 1, 1) := by decide +kernel
theorem dX12_meters_16 : decode cX12_meters 16 = .ok (.invokevirtual 212, 3) := by decide +kernel
theorem dX12_meters_19 : decode cX12_meters 19 = .ok (.istore_n 2, 1) := by decide +kernel
theorem dX12_meters_20 : decode cX12_meters 20 = .ok (.iload_n 2, 1) := by decide +kernel
theorem dX12_meters_21 : decode cX12_meters 21 = .ok (.iconst 1, 1) := by decide +kernel
theorem dX12_meters_22 : decode cX12_meters 22 = .ok (.if_icmp .ge 14, 3) := by decide +kernel
theorem dX12_meters_25 : decode cX12_meters 25 = .ok (.iload_n 2, 1) := by decide +kernel
theorem dX12_meters_26 : decode cX12_meters 26 = .ok (.ifCond .ge 7, 3) := by decide +kernel
theorem dX12_meters_29 : decode cX12_meters 29 = .ok (.iload_n 2, 1) := by decide +kernel
theorem dX12_meters_30 : decode cX12_meters 30 = .ok (.goto 5, 3) := by decide +kernel
theorem dX12_meters_33 : decode cX12_meters 33 = .ok (.bipush (-9), 2) := by decide +kernel
theorem dX12_meters_35 : decode cX12_meters 35 = .ok (.ireturn, 1) := by decide +kernel
theorem dX12_meters_36 : decode cX12_meters 36 = .ok (.iconst 0, 1) := by decide +kernel
theorem dX12_meters_37 : decode cX12_meters 37 = .ok (.istore_n 3, 1) := by decide +kernel
theorem dX12_meters_38 : decode cX12_meters 38 = .ok (.iconst 0, 1) := by decide +kernel
theorem dX12_meters_39 : decode cX12_meters 39 = .ok (.istore 4, 2) := by decide +kernel
theorem dX12_meters_41 : decode cX12_meters 41 = .ok (.iload 4, 2) := by decide +kernel
theorem dX12_meters_43 : decode cX12_meters 43 = .ok (.aload_n 0, 1) := by decide +kernel
theorem dX12_meters_44 : decode cX12_meters 44 = .ok (.getfield 178, 3) := by decide +kernel
theorem dX12_meters_47 : decode cX12_meters 47 = .ok (.if_icmp .ge 61, 3) := by decide +kernel
theorem dX12_meters_50 : decode cX12_meters 50 = .ok (.aload_n 0, 1) := by decide +kernel
theorem dX12_meters_51 : decode cX12_meters 51 = .ok (.getfield 90, 3) := by decide +kernel
theorem dX12_meters_54 : decode cX12_meters 54 = .ok (.aload_n 0, 1) := by decide +kernel
theorem dX12_meters_55 : decode cX12_meters 55 = .ok (.getfield 54, 3) := by decide +kernel
theorem dX12_meters_58 : decode cX12_meters 58 = .ok (.iload 4, 2) := by decide +kernel
theorem dX12_meters_60 : decode cX12_meters 60 = .ok (.iaload, 1) := by decide +kernel
theorem dX12_meters_61 : decode cX12_meters 61 = .ok (.aload_n 0, 1) := by decide +kernel
theorem dX12_meters_62 : decode cX12_meters 62 = .ok (.getfield 72, 3) := by decide +kernel
theorem dX12_meters_65 : decode cX12_meters 65 = .ok (.iload 4, 2) := by decide +kernel
theorem dX12_meters_67 : decode cX12_meters 67 = .ok (.iaload, 1) := by decide +kernel
theorem dX12_meters_68 : decode cX12_meters 68 = .ok (.iastore, 1) := by decide +kernel
theorem dX12_meters_69 : decode cX12_meters 69 = .ok (.aload_n 0, 1) := by decide +kernel
theorem dX12_meters_70 : decode cX12_meters 70 = .ok (.getfield 39, 3) := by decide +kernel
theorem dX12_meters_73 : decode cX12_meters 73 = .ok (.aload_n 0, 1) := by decide +kernel
theorem dX12_meters_74 : decode cX12_meters 74 = .ok (.getfield 54, 3) := by decide +kernel
theorem dX12_meters_77 : decode cX12_meters 77 = .ok (.iload 4, 2) := by decide +kernel
theorem dX12_meters_79 : decode cX12_meters 79 = .ok (.iaload, 1) := by decide +kernel
theorem dX12_meters_80 : decode cX12_meters 80 = .ok (.iaload, 1) := by decide +kernel
theorem dX12_meters_81 : decode cX12_meters 81 = .ok (.bipush (-9), 2) := by decide +kernel
theorem dX12_meters_83 : decode cX12_meters 83 = .ok (.if_icmp .ne 19, 3) := by decide +kernel
theorem dX12_meters_86 : decode cX12_meters 86 = .ok (.aload_n 0, 1) := by decide +kernel
theorem dX12_meters_87 : decode cX12_meters 87 = .ok (.getfield 93, 3) := by decide +kernel
theorem dX12_meters_90 : decode cX12_meters 90 = .ok (.iload_n 3, 1) := by decide +kernel
theorem dX12_meters_91 : decode cX12_meters 91 = .ok (.aload_n 0, 1) := by decide +kernel
theorem dX12_meters_92 : decode cX12_meters 92 = .ok (.getfield 54, 3) := by decide +kernel
theorem dX12_meters_95 : decode cX12_meters 95 = .ok (.iload 4, 2) := by decide +kernel
theorem dX12_meters_97 : decode cX12_meters 97 = .ok (.iaload, 1) := by decide +kernel
theorem dX12_meters_98 : decode cX12_meters 98 = .ok (.iastore, 1) := by decide +kernel
theorem dX12_meters_99 : decode cX12_meters 99 = .ok (.iinc 3 1, 3) := by decide +kernel
theorem dX12_meters_102 : decode cX12_meters 102 = .ok (.iinc 4 1, 3) := by decide +kernel
theorem dX12_meters_105 : decode cX12_meters 105 = .ok (.goto (-64), 3) := by decide +kernel
theorem dX12_meters_108 : decode cX12_meters 108 = .ok (.iconst 0, 1) := by decide +kernel
theorem dX12_meters_109 : decode cX12_meters 109 = .ok (.istore 4, 2) := by decide +kernel
theorem dX12_meters_111 : decode cX12_meters 111 = .ok (.iload 4, 2) := by decide +kernel
theorem dX12_meters_113 : decode cX12_meters 113 = .ok (.iload_n 3, 1) := by decide +kernel
theorem dX12_meters_114 : decode cX12_meters 114 = .ok (.if_icmp .gt 117, 3) := by decide +kernel
theorem dX12_meters_117 : decode cX12_meters 117 = .ok (.lconst 1, 1) := by decide +kernel
theorem dX12_meters_118 : decode cX12_meters 118 = .ok (.iload 4, 2) := by decide +kernel
theorem dX12_meters_120 : decode cX12_meters 120 = .ok (.lshl, 1) := by decide +kernel
theorem dX12_meters_121 : decode cX12_meters 121 = .ok (.lconst 1, 1) := by decide +kernel
theorem dX12_meters_122 : decode cX12_meters 122 = .ok (.lsub, 1) := by decide +kernel
theorem dX12_meters_123 : decode cX12_meters 123 = .ok (.lstore 5, 2) := by decide +kernel
theorem dX12_meters_125 : decode cX12_meters 125 = .ok (.lload 5, 2) := by decide +kernel
theorem dX12_meters_127 : decode cX12_meters 127 = .ok (.iload_n 3, 1) := by decide +kernel
theorem dX12_meters_128 : decode cX12_meters 128 = .ok (.lshr, 1) := by decide +kernel
theorem dX12_meters_129 : decode cX12_meters 129 = .ok (.lconst 0, 1) := by decide +kernel
theorem dX12_meters_130 : decode cX12_meters 130 = .ok (.lcmp, 1) := by decide +kernel
theorem dX12_meters_131 : decode cX12_meters 131 = .ok (.ifCond .ne 94, 3) := by decide +kernel
theorem dX12_meters_134 : decode cX12_meters 134 = .ok (.aload_n 0, 1) := by decide +kernel
theorem dX12_meters_135 : decode cX12_meters 135 = .ok (.lload 5, 2) := by decide +kernel
theorem dX12_meters_137 : decode cX12_meters 137 = .ok (.iload_n 3, 1) := by decide +kernel
theorem dX12_meters_138 : decode cX12_meters 138 = .ok (.invokevirtual 226, 3) := by decide +kernel
theorem dX12_meters_141 : decode cX12_meters 141 = .ok (.istore 7, 2) := by decide +kernel
theorem dX12_meters_143 : decode cX12_meters 143 = .ok (.iload 7, 2) := by decide +kernel
theorem dX12_meters_145 : decode cX12_meters 145 = .ok (.ifCond .ge 6, 3) := by decide +kernel
theorem dX12_meters_148 : decode cX12_meters 148 = .ok (.iload 7, 2) := by decide +kernel
theorem dX12_meters_150 : decode cX12_meters 150 = .ok (.ireturn, 1) := by decide +kernel
theorem dX12_meters_151 : decode cX12_meters 151 = .ok (.iload 7, 2) := by decide +kernel
theorem dX12_meters_153 : decode cX12_meters 153 = .ok (.iconst 1, 1) := by decide +kernel
theorem dX12_meters_154 : decode cX12_meters 154 = .ok (.if_icmp .ne 50, 3) := by decide +kernel
theorem dX12_meters_157 : decode cX12_meters 157 = .ok (.lconst 0, 1) := by decide +kernel
theorem dX12_meters_158 : decode cX12_meters 158 = .ok (.lstore 8, 2) := by decide +kernel
theorem dX12_meters_160 : decode cX12_meters 160 = .ok (.iconst 0, 1) := by decide +kernel
theorem dX12_meters_161 : decode cX12_meters 161 = .ok (.istore 10, 2) := by decide +kernel
theorem dX12_meters_163 : decode cX12_meters 163 = .ok (.iload 10, 2) := by decide +kernel
theorem dX12_meters_165 : decode cX12_meters 165 = .ok (.iload_n 3, 1) := by decide +kernel
theorem dX12_meters_166 : decode cX12_meters 166 = .ok (.if_icmp .ge 29, 3) := by decide +kernel
theorem dX12_meters_169 : decode cX12_meters 169 = .ok (.lload 8, 2) := by decide +kernel
theorem dX12_meters_171 : decode cX12_meters 171 = .ok (.lload 5, 2) := by decide +kernel
theorem dX12_meters_173 : decode cX12_meters 173 = .ok (.iload 10, 2) := by decide +kernel
theorem dX12_meters_175 : decode cX12_meters 175 = .ok (.lshr, 1) := by decide +kernel
theorem dX12_meters_176 : decode cX12_meters 176 = .ok (.lconst 1, 1) := by decide +kernel
theorem dX12_meters_177 : decode cX12_meters 177 = .ok (.land, 1) := by decide +kernel
theorem dX12_meters_178 : decode cX12_meters 178 = .ok (.aload_n 0, 1) := by decide +kernel
theorem dX12_meters_179 : decode cX12_meters 179 = .ok (.getfield 93, 3) := by decide +kernel
theorem dX12_meters_182 : decode cX12_meters 182 = .ok (.iload 10, 2) := by decide +kernel
theorem dX12_meters_184 : decode cX12_meters 184 = .ok (.iaload, 1) := by decide +kernel
theorem dX12_meters_185 : decode cX12_meters 185 = .ok (.lshl, 1) := by decide +kernel
theorem dX12_meters_186 : decode cX12_meters 186 = .ok (.lor, 1) := by decide +kernel
theorem dX12_meters_187 : decode cX12_meters 187 = .ok (.lstore 8, 2) := by decide +kernel
theorem dX12_meters_189 : decode cX12_meters 189 = .ok (.iinc 10 1, 3) := by decide +kernel
theorem dX12_meters_192 : decode cX12_meters 192 = .ok (.goto (-29), 3) := by decide +kernel
theorem dX12_meters_195 : decode cX12_meters 195 = .ok (.aload_n 0, 1) := by decide +kernel
theorem dX12_meters_196 : decode cX12_meters 196 = .ok (.lload 8, 2) := by decide +kernel
theorem dX12_meters_198 : decode cX12_meters 198 = .ok (.iload 4, 2) := by decide +kernel
theorem dX12_meters_200 : decode cX12_meters 200 = .ok (.invokevirtual 160, 3) := by decide +kernel
theorem dX12_meters_203 : decode cX12_meters 203 = .ok (.ireturn, 1) := by decide +kernel
theorem dX12_meters_204 : decode cX12_meters 204 = .ok (.iload 4, 2) := by decide +kernel
theorem dX12_meters_206 : decode cX12_meters 206 = .ok (.ifCond .ne 9, 3) := by decide +kernel
theorem dX12_meters_209 : decode cX12_meters 209 = .ok (.lconst 1, 1) := by decide +kernel
theorem dX12_meters_210 : decode cX12_meters 210 = .ok (.iload_n 3, 1) := by decide +kernel
theorem dX12_meters_211 : decode cX12_meters 211 = .ok (.lshl, 1) := by decide +kernel
theorem dX12_meters_212 : decode cX12_meters 212 = .ok (.goto 8, 3) := by decide +kernel
theorem dX12_meters_215 : decode cX12_meters 215 = .ok (.lload 5, 2) := by decide +kernel
theorem dX12_meters_217 : decode cX12_meters 217 = .ok (.invokestatic 229, 3) := by decide +kernel
theorem dX12_meters_220 : decode cX12_meters 220 = .ok (.lstore 5, 2) := by decide +kernel
theorem dX12_meters_222 : decode cX12_meters 222 = .ok (.goto (-97), 3) := by decide +kernel
theorem dX12_meters_225 : decode cX12_meters 225 = .ok (.iinc 4 1, 3) := by decide +kernel
theorem dX12_meters_228 : decode cX12_meters 228 = .ok (.goto (-117), 3) := by decide +kernel
theorem dX12_meters_231 : decode cX12_meters 231 = .ok (.bipush (-9), 2) := by decide +kernel
theorem dX12_meters_233 : decode cX12_meters 233 = .ok (.ireturn, 1) := by decide +kernel
