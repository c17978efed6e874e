/-! decode rows -/
theorem dX11_load_0 : decode cX11_load 0 = .ok (.aload_n 0, 1) := by decide +kernel
theorem dX11_load_1 : decode cX11_load 1 = .ok (.getfield 10, 3) := by decide +kernel
theorem dX11_load_4 : decode cX11_load 4 = .ok (.iload_n 1, 1) := by decide +kernel
theorem dX11_load_5 : decode cX11_load 5 = .ok (.invokevirtual 116, 3) := by decide +kernel
theorem dX11_load_8 : decode cX11_load 8 = .ok (.ifCond .ne 5, 3) := by decide +kernel
theorem dX11_load_11 : decode cX11_load 11 = .ok (.iconst (-1), 1) := by decide +kernel
theorem dX11_load_12 : decode cX11_load 12 = .ok (.ireturn, 1) := by decide +kernel
theorem dX11_load_13 : decode cX11_load 13 = .ok (.aload_n 0, 1) := by decide +kernel
theorem dX11_load_14 : decode cX11_load 14 = .ok (.getfield 10, 3) := by decide +kernel
theorem dX11_load_17 : decode cX11_load 17 = .ok (.getfield 120, 3) := by decide +kernel
theorem dX11_load_20 : decode cX11_load 20 = .ok (.iload_n 1, 1) := by decide +kernel
theorem dX11_load_21 : decode cX11_load 21 = .ok (.aaload, 1) := by decide +kernel
theorem dX11_load_22 : decode cX11_load 22 = .ok (.astore 4, 2) := by decide +kernel
theorem dX11_load_24 : decode cX11_load 24 = .ok (.aload 4, 2) := by decide +kernel
theorem dX11_load_26 : decode cX11_load 26 = .ok (.iconst 1, 1) := by decide +kernel
theorem dX11_load_27 : decode cX11_load 27 = .ok (.invokevirtual 144, 3) := by decide +kernel
theorem dX11_load_30 : decode cX11_load 30 = .ok (.ifCond .ne 9, 3) := by decide +kernel
theorem dX11_load_33 : decode cX11_load 33 = .ok (.aload_n 0, 1) := by decide +kernel
theorem dX11_load_34 : decode cX11_load 34 = .ok (.iconst 3, 1) := by decide +kernel
theorem dX11_load_35 : decode cX11_load 35 = .ok (.invokevirtual 147, 3) := by decide +kernel
theorem dX11_load_38 : decode cX11_load 38 = .ok (.ireturn, 1) := by decide +kernel
theorem dX11_load_39 : decode cX11_load 39 = .ok (.iload_n 2, 1) := by decide +kernel
theorem dX11_load_40 : decode cX11_load 40 = .ok (.invokestatic 162, 3) := by decide +kernel
theorem dX11_load_43 : decode cX11_load 43 = .ok (.ifCond .eq 15, 3) := by decide +kernel
theorem dX11_load_46 : decode cX11_load 46 = .ok (.iload_n 3, 1) := by decide +kernel
theorem dX11_load_47 : decode cX11_load 47 = .ok (.invokestatic 162, 3) := by decide +kernel
theorem dX11_load_50 : decode cX11_load 50 = .ok (.ifCond .eq 8, 3) := by decide +kernel
theorem dX11_load_53 : decode cX11_load 53 = .ok (.iload_n 2, 1) := by decide +kernel
theorem dX11_load_54 : decode cX11_load 54 = .ok (.iload_n 3, 1) := by decide +kernel
theorem dX11_load_55 : decode cX11_load 55 = .ok (.if_icmp .lt 9, 3) := by decide +kernel
theorem dX11_load_58 : decode cX11_load 58 = .ok (.aload_n 0, 1) := by decide +kernel
theorem dX11_load_59 : decode cX11_load 59 = .ok (.iconst 2, 1) := by decide +kernel
theorem dX11_load_60 : decode cX11_load 60 = .ok (.invokevirtual 147, 3) := by decide +kernel
theorem dX11_load_63 : decode cX11_load 63 = .ok (.ireturn, 1) := by decide +kernel
theorem dX11_load_64 : decode cX11_load 64 = .ok (.aload 4, 2) := by decide +kernel
theorem dX11_load_66 : decode cX11_load 66 = .ok (.getfield 165, 3) := by decide +kernel
theorem dX11_load_69 : decode cX11_load 69 = .ok (.iload_n 2, 1) := by decide +kernel
theorem dX11_load_70 : decode cX11_load 70 = .ok (.iaload, 1) := by decide +kernel
theorem dX11_load_71 : decode cX11_load 71 = .ok (.bipush (-9), 2) := by decide +kernel
theorem dX11_load_73 : decode cX11_load 73 = .ok (.if_icmp .eq 15, 3) := by decide +kernel
theorem dX11_load_76 : decode cX11_load 76 = .ok (.aload 4, 2) := by decide +kernel
theorem dX11_load_78 : decode cX11_load 78 = .ok (.getfield 165, 3) := by decide +kernel
theorem dX11_load_81 : decode cX11_load 81 = .ok (.iload_n 3, 1) := by decide +kernel
theorem dX11_load_82 : decode cX11_load 82 = .ok (.iaload, 1) := by decide +kernel
theorem dX11_load_83 : decode cX11_load 83 = .ok (.bipush (-9), 2) := by decide +kernel
theorem dX11_load_85 : decode cX11_load 85 = .ok (.if_icmp .ne 9, 3) := by decide +kernel
theorem dX11_load_88 : decode cX11_load 88 = .ok (.aload_n 0, 1) := by decide +kernel
theorem dX11_load_89 : decode cX11_load 89 = .ok (.iconst 1, 1) := by decide +kernel
theorem dX11_load_90 : decode cX11_load 90 = .ok (.invokevirtual 147, 3) := by decide +kernel
theorem dX11_load_93 : decode cX11_load 93 = .ok (.ireturn, 1) := by decide +kernel
theorem dX11_load_94 : decode cX11_load 94 = .ok (.aload_n 0, 1) := by decide +kernel
theorem dX11_load_95 : decode cX11_load 95 = .ok (.aload 4, 2) := by decide +kernel
theorem dX11_load_97 : decode cX11_load 97 = .ok (.iload_n 2, 1) := by decide +kernel
theorem dX11_load_98 : decode cX11_load 98 = .ok (.iload_n 3, 1) := by decide +kernel
theorem dX11_load_99 : decode cX11_load 99 = .ok (.invokevirtual 172, 3) := by decide +kernel
theorem dX11_load_102 : decode cX11_load 102 = .ok (.i2l, 1) := by decide +kernel
theorem dX11_load_103 : decode cX11_load 103 = .ok (.putfield 87, 3) := by decide +kernel
theorem dX11_load_106 : decode cX11_load 106 = .ok (.aload 4, 2) := by decide +kernel
theorem dX11_load_108 : decode cX11_load 108 = .ok (.iload_n 2, 1) := by decide +kernel
theorem dX11_load_109 : decode cX11_load 109 = .ok (.iload_n 3, 1) := by decide +kernel
theorem dX11_load_110 : decode cX11_load 110 = .ok (.invokevirtual 176, 3) := by decide +kernel
theorem dX11_load_113 : decode cX11_load 113 = .ok (.ifCond .eq 7, 3) := by decide +kernel
theorem dX11_load_116 : decode cX11_load 116 = .ok (.iconst 1, 1) := by decide +kernel
theorem dX11_load_117 : decode cX11_load 117 = .ok (.goto 4, 3) := by decide +kernel
theorem dX11_load_120 : decode cX11_load 120 = .ok (.iconst 0, 1) := by decide +kernel
theorem dX11_load_121 : decode cX11_load 121 = .ok (.ireturn, 1) := by decide +kernel
theorem dX11_mean_0 : decode cX11_mean 0 = .ok (.aload_n 0, 1) := by decide +kernel
theorem dX11_mean_1 : decode cX11_mean 1 = .ok (.getfield 10, 3) := by decide +kernel
theorem dX11_mean_4 : decode cX11_mean 4 = .ok (.iload_n 1, 1) := by decide +kernel
theorem dX11_mean_5 : decode cX11_mean 5 = .ok (.invokevirtual 116, 3) := by decide +kernel
theorem dX11_mean_8 : decode cX11_mean 8 = .ok (.ifCond .ne 5, 3) := by decide +kernel
theorem dX11_mean_11 : decode cX11_mean 11 = .ok (.iconst (-1), 1) := by decide +kernel
theorem dX11_mean_12 : decode cX11_mean 12 = .ok (.ireturn, 1) := by decide +kernel
theorem dX11_mean_13 : decode cX11_mean 13 = .ok (.aload_n 0, 1) := by decide +kernel
theorem dX11_mean_14 : decode cX11_mean 14 = .ok (.getfield 10, 3) := by decide +kernel
theorem dX11_mean_17 : decode cX11_mean 17 = .ok (.getfield 120, 3) := by decide +kernel
theorem dX11_mean_20 : decode cX11_mean 20 = .ok (.iload_n 1, 1) := by decide +kernel
theorem dX11_mean_21 : decode cX11_mean 21 = .ok (.aaload, 1) := by decide +kernel
theorem dX11_mean_22 : decode cX11_mean 22 = .ok (.astore_n 2, 1) := by decide +kernel
theorem dX11_mean_23 : decode cX11_mean 23 = .ok (.aload_n 2, 1) := by decide +kernel
theorem dX11_mean_24 : decode cX11_mean 24 = .ok (.iconst 1, 1) := by decide +kernel
theorem dX11_mean_25 : decode cX11_mean 25 = .ok (.invokevirtual 144, 3) := by decide +kernel
theorem dX11_mean_28 : decode cX11_mean 28 = .ok (.ifCond .ne 9, 3) := by decide +kernel
theorem dX11_mean_31 : decode cX11_mean 31 = .ok (.aload_n 0, 1) := by decide +kernel
theorem dX11_mean_32 : decode cX11_mean 32 = .ok (.iconst 3, 1) := by decide +kernel
theorem dX11_mean_33 : decode cX11_mean 33 = .ok (.invokevirtual 147, 3) := by decide +kernel
theorem dX11_mean_36 : decode cX11_mean 36 = .ok (.ireturn, 1) := by decide +kernel
theorem dX11_mean_37 : decode cX11_mean 37 = .ok (.aload_n 2, 1) := by decide +kernel
theorem dX11_mean_38 : decode cX11_mean 38 = .ok (.invokevirtual 155, 3) := by decide +kernel
theorem dX11_mean_41 : decode cX11_mean 41 = .ok (.iconst 2, 1) := by decide +kernel
theorem dX11_mean_42 : decode cX11_mean 42 = .ok (.if_icmp .ge 9, 3) := by decide +kernel
theorem dX11_mean_45 : decode cX11_mean 45 = .ok (.aload_n 0, 1) := by decide +kernel
theorem dX11_mean_46 : decode cX11_mean 46 = .ok (.iconst 4, 1) := by decide +kernel
theorem dX11_mean_47 : decode cX11_mean 47 = .ok (.invokevirtual 147, 3) := by decide +kernel
theorem dX11_mean_50 : decode cX11_mean 50 = .ok (.ireturn, 1) := by decide +kernel
theorem dX11_mean_51 : decode cX11_mean 51 = .ok (.aload_n 2, 1) := by decide +kernel
theorem dX11_mean_52 : decode cX11_mean 52 = .ok (.invokevirtual 179, 3) := by decide +kernel
theorem dX11_mean_55 : decode cX11_mean 55 = .ok (.ireturn, 1) := by decide +kernel
theorem dX11_route_0 : decode cX11_route 0 = .ok (.aload_n 0, 1) := by decide +kernel
theorem dX11_route_1 : decode cX11_route 1 = .ok (.getfield 10, 3) := by decide +kernel
theorem dX11_route_4 : decode cX11_route 4 = .ok (.iload_n 1, 1) := by decide +kernel
theorem dX11_route_5 : decode cX11_route 5 = .ok (.iload_n 2, 1) := by decide +kernel
theorem dX11_route_6 : decode cX11_route 6 = .ok (.invokevirtual 105, 3) := by decide +kernel
theorem dX11_route_9 : decode cX11_route 9 = .ok (.ifCond .ne 5, 3) := by decide +kernel
theorem dX11_route_12 : decode cX11_route 12 = .ok (.iconst (-1), 1) := by decide +kernel
theorem dX11_route_13 : decode cX11_route 13 = .ok (.ireturn, 1) := by decide +kernel
theorem dX11_route_14 : decode cX11_route 14 = .ok (.aload_n 0, 1) := by decide +kernel
theorem dX11_route_15 : decode cX11_route 15 = .ok (.getfield 10, 3) := by decide +kernel
theorem dX11_route_18 : decode cX11_route 18 = .ok (.iload_n 1, 1) := by decide +kernel
theorem dX11_route_19 : decode cX11_route 19 = .ok (.iload_n 2, 1) := by decide +kernel
theorem dX11_route_20 : decode cX11_route 20 = .ok (.invokevirtual 182, 3) := by decide +kernel
theorem dX11_route_23 : decode cX11_route 23 = .ok (.istore 4, 2) := by decide +kernel
theorem dX11_route_25 : decode cX11_route 25 = .ok (.aload_n 0, 1) := by decide +kernel
theorem dX11_route_26 : decode cX11_route 26 = .ok (.getfield 19, 3) := by decide +kernel
theorem dX11_route_29 : decode cX11_route 29 = .ok (.getfield 185, 3) := by decide +kernel
theorem dX11_route_32 : decode cX11_route 32 = .ok (.iload 4, 2) := by decide +kernel
theorem dX11_route_34 : decode cX11_route 34 = .ok (.iaload, 1) := by decide +kernel
theorem dX11_route_35 : decode cX11_route 35 = .ok (.istore 5, 2) := by decide +kernel
theorem dX11_route_37 : decode cX11_route 37 = .ok (.iload 5, 2) := by decide +kernel
theorem dX11_route_39 : decode cX11_route 39 = .ok (.iconst (-1), 1) := by decide +kernel
theorem dX11_route_40 : decode cX11_route 40 = .ok (.if_icmp .ne 6, 3) := by decide +kernel
theorem dX11_route_43 : decode cX11_route 43 = .ok (.bipush (-9), 2) := by decide +kernel
theorem dX11_route_45 : decode cX11_route 45 = .ok (.ireturn, 1) := by decide +kernel
theorem dX11_route_46 : decode cX11_route 46 = .ok (.iload_n 3, 1) := by decide +kernel
theorem dX11_route_47 : decode cX11_route 47 = .ok (.iconst (-1), 1) := by decide +kernel
theorem dX11_route_48 : decode cX11_route 48 = .ok (.if_icmp .ne 6, 3) := by decide +kernel
theorem dX11_route_51 : decode cX11_route 51 = .ok (.iload 5, 2) := by decide +kernel
theorem dX11_route_53 : decode cX11_route 53 = .ok (.ireturn, 1) := by decide +kernel
theorem dX11_route_54 : decode cX11_route 54 = .ok (.iload_n 3, 1) := by decide +kernel
theorem dX11_route_55 : decode cX11_route 55 = .ok (.ifCond .lt 22, 3) := by decide +kernel
theorem dX11_route_58 : decode cX11_route 58 = .ok (.iload_n 3, 1) := by decide +kernel
theorem dX11_route_59 : decode cX11_route 59 = .ok (.iload 5, 2) := by decide +kernel
theorem dX11_route_61 : decode cX11_route 61 = .ok (.if_icmp .ge 16, 3) := by decide +kernel
theorem dX11_route_64 : decode cX11_route 64 = .ok (.aload_n 0, 1) := by decide +kernel
theorem dX11_route_65 : decode cX11_route 65 = .ok (.getfield 19, 3) := by decide +kernel
theorem dX11_route_68 : decode cX11_route 68 = .ok (.iload 4, 2) := by decide +kernel
theorem dX11_route_70 : decode cX11_route 70 = .ok (.iload_n 3, 1) := by decide +kernel
theorem dX11_route_71 : decode cX11_route 71 = .ok (.invokevirtual 188, 3) := by decide +kernel
theorem dX11_route_74 : decode cX11_route 74 = .ok (.goto 5, 3) := by decide +kernel
theorem dX11_route_77 : decode cX11_route 77 = .ok (.bipush (-9), 2) := by decide +kernel
theorem dX11_route_79 : decode cX11_route 79 = .ok (.ireturn, 1) := by decide +kernel
theorem dX11_carried_0 : decode cX11_carried 0 = .ok (.aload_n 0, 1) := by decide +kernel
theorem dX11_carried_1 : decode cX11_carried 1 = .ok (.getfield 10, 3) := by decide +kernel
theorem dX11_carried_4 : decode cX11_carried 4 = .ok (.iload_n 1, 1) := by decide +kernel
theorem dX11_carried_5 : decode cX11_carried 5 = .ok (.invokevirtual 116, 3) := by decide +kernel
theorem dX11_carried_8 : decode cX11_carried 8 = .ok (.ifCond .eq 10, 3) := by decide +kernel
theorem dX11_carried_11 : decode cX11_carried 11 = .ok (.iload_n 2, 1) := by decide +kernel
theorem dX11_carried_12 : decode cX11_carried 12 = .ok (.invokestatic 191, 3) := by decide +kernel
theorem dX11_carried_15 : decode cX11_carried 15 = .ok (.ifCond .ne 5, 3) := by decide +kernel
theorem dX11_carried_18 : decode cX11_carried 18 = .ok (.iconst (-1), 1) := by decide +kernel
theorem dX11_carried_19 : decode cX11_carried 19 = .ok (.ireturn, 1) := by decide +kernel
theorem dX11_carried_20 : decode cX11_carried 20 = .ok (.aload_n 0, 1) := by decide +kernel
theorem dX11_carried_21 : decode cX11_carried 21 = .ok (.getfield 10, 3) := by decide +kernel
theorem dX11_carried_24 : decode cX11_carried 24 = .ok (.getfield 120, 3) := by decide +kernel
theorem dX11_carried_27 : decode cX11_carried 27 = .ok (.iload_n 1, 1) := by decide +kernel
theorem dX11_carried_28 : decode cX11_carried 28 = .ok (.aaload, 1) := by decide +kernel
theorem dX11_carried_29 : decode cX11_carried 29 = .ok (.astore_n 3, 1) := by decide +kernel
theorem dX11_carried_30 : decode cX11_carried 30 = .ok (.aload_n 3, 1) := by decide +kernel
theorem dX11_carried_31 : decode cX11_carried 31 = .ok (.iconst 3, 1) := by decide +kernel
theorem dX11_carried_32 : decode cX11_carried 32 = .ok (.invokevirtual 144, 3) := by decide +kernel
theorem dX11_carried_35 : decode cX11_carried 35 = .ok (.ifCond .eq 9, 3) := by decide +kernel
theorem dX11_carried_38 : decode cX11_carried 38 = .ok (.aload_n 0, 1) := by decide +kernel
theorem dX11_carried_39 : decode cX11_carried 39 = .ok (.iconst 3, 1) := by decide +kernel
theorem dX11_carried_40 : decode cX11_carried 40 = .ok (.invokevirtual 147, 3) := by decide +kernel
theorem dX11_carried_43 : decode cX11_carried 43 = .ok (.ireturn, 1) := by decide +kernel
theorem dX11_carried_44 : decode cX11_carried 44 = .ok (.aload_n 3, 1) := by decide +kernel
theorem dX11_carried_45 : decode cX11_carried 45 = .ok (.getfield 138, 3) := by decide +kernel
theorem dX11_carried_48 : decode cX11_carried 48 = .ok (.istore 4, 2) := by decide +kernel
theorem dX11_carried_50 : decode cX11_carried 50 = .ok (.aload_n 3, 1) := by decide +kernel
theorem dX11_carried_51 : decode cX11_carried 51 = .ok (.iload_n 2, 1) := by decide +kernel
theorem dX11_carried_52 : decode cX11_carried 52 = .ok (.putfield 138, 3) := by decide +kernel
theorem dX11_carried_55 : decode cX11_carried 55 = .ok (.iload 4, 2) := by decide +kernel
theorem dX11_carried_57 : decode cX11_carried 57 = .ok (.ireturn, 1) := by decide +kernel
theorem dX11_meter_0 : decode cX11_meter 0 = .ok (.aload_n 0, 1) := by decide +kernel
theorem dX11_meter_1 : decode cX11_meter 1 = .ok (.getfield 10, 3) := by decide +kernel
theorem dX11_meter_4 : decode cX11_meter 4 = .ok (.iload_n 1, 1) := by decide +kernel
theorem dX11_meter_5 : decode cX11_meter 5 = .ok (.iload_n 2, 1) := by decide +kernel
theorem dX11_meter_6 : decode cX11_meter 6 = .ok (.invokevirtual 105, 3) := by decide +kernel
theorem dX11_meter_9 : decode cX11_meter 9 = .ok (.ifCond .eq 10, 3) := by decide +kernel
theorem dX11_meter_12 : decode cX11_meter 12 = .ok (.iload_n 3, 1) := by decide +kernel
theorem dX11_meter_13 : decode cX11_meter 13 = .ok (.invokestatic 191, 3) := by decide +kernel
theorem dX11_meter_16 : decode cX11_meter 16 = .ok (.ifCond .ne 5, 3) := by decide +kernel
theorem dX11_meter_19 : decode cX11_meter 19 = .ok (.iconst (-1), 1) := by decide +kernel
theorem dX11_meter_20 : decode cX11_meter 20 = .ok (.ireturn, 1) := by decide +kernel
theorem dX11_meter_21 : decode cX11_meter 21 = .ok (.aload_n 0, 1) := by decide +kernel
theorem dX11_meter_22 : decode cX11_meter 22 = .ok (.getfield 10, 3) := by decide +kernel
theorem dX11_meter_25 : decode cX11_meter 25 = .ok (.iload_n 1, 1) := by decide +kernel
theorem dX11_meter_26 : decode cX11_meter 26 = .ok (.iload_n 2, 1) := by decide +kernel
theorem dX11_meter_27 : decode cX11_meter 27 = .ok (.invokevirtual 182, 3) := by decide +kernel
theorem dX11_meter_30 : decode cX11_meter 30 = .ok (.istore 4, 2) := by decide +kernel
theorem dX11_meter_32 : decode cX11_meter 32 = .ok (.aload_n 0, 1) := by decide +kernel
theorem dX11_meter_33 : decode cX11_meter 33 = .ok (.getfield 10, 3) := by decide +kernel
theorem dX11_meter_36 : decode cX11_meter 36 = .ok (.getfield 194, 3) := by decide +kernel
theorem dX11_meter_39 : decode cX11_meter 39 = .ok (.iload 4, 2) := by decide +kernel
theorem dX11_meter_41 : decode cX11_meter 41 = .ok (.iaload, 1) := by decide +kernel
theorem dX11_meter_42 : decode cX11_meter 42 = .ok (.istore 5, 2) := by decide +kernel
theorem dX11_meter_44 : decode cX11_meter 44 = .ok (.aload_n 0, 1) := by decide +kernel
theorem dX11_meter_45 : decode cX11_meter 45 = .ok (.getfield 10, 3) := by decide +kernel
theorem dX11_meter_48 : decode cX11_meter 48 = .ok (.getfield 194, 3) := by decide +kernel
theorem dX11_meter_51 : decode cX11_meter 51 = .ok (.iload 4, 2) := by decide +kernel
theorem dX11_meter_53 : decode cX11_meter 53 = .ok (.iload_n 3, 1) := by decide +kernel
theorem dX11_meter_54 : decode cX11_meter 54 = .ok (.iastore, 1) := by decide +kernel
theorem dX11_meter_55 : decode cX11_meter 55 = .ok (.iload 5, 2) := by decide +kernel
theorem dX11_meter_57 : decode cX11_meter 57 = .ok (.ireturn, 1) := by decide +kernel
theorem dX11_fits_0 : decode cX11_fits 0 = .ok (.iload_n 1, 1) := by decide +kernel
theorem dX11_fits_1 : decode cX11_fits 1 = .ok (.invokestatic 197, 3) := by decide +kernel
theorem dX11_fits_4 : decode cX11_fits 4 = .ok (.ifCond .ne 5, 3) := by decide +kernel
theorem dX11_fits_7 : decode cX11_fits 7 = .ok (.iconst (-1), 1) := by decide +kernel
theorem dX11_fits_8 : decode cX11_fits 8 = .ok (.ireturn, 1) := by decide +kernel
theorem dX11_fits_9 : decode cX11_fits 9 = .ok (.aload_n 0, 1) := by decide +kernel
theorem dX11_fits_10 : decode cX11_fits 10 = .ok (.iconst 0, 1) := by decide +kernel
theorem dX11_fits_11 : decode cX11_fits 11 = .ok (.putfield 79, 3) := by decide +kernel
theorem dX11_fits_14 : decode cX11_fits 14 = .ok (.aload_n 0, 1) := by decide +kernel
theorem dX11_fits_15 : decode cX11_fits 15 = .ok (.getfield 38, 3) := by decide +kernel
theorem dX11_fits_18 : decode cX11_fits 18 = .ok (.iconst 1, 1) := by decide +kernel
theorem dX11_fits_19 : decode cX11_fits 19 = .ok (.invokevirtual 200, 3) := by decide +kernel
theorem dX11_fits_22 : decode cX11_fits 22 = .ok (.aload_n 0, 1) := by decide +kernel
theorem dX11_fits_23 : decode cX11_fits 23 = .ok (.aload_n 0, 1) := by decide +kernel
theorem dX11_fits_24 : decode cX11_fits 24 = .ok (.getfield 38, 3) := by decide +kernel
theorem dX11_fits_27 : decode cX11_fits 27 = .ok (.iload_n 1, 1) := by decide +kernel
theorem dX11_fits_28 : decode cX11_fits 28 = .ok (.invokevirtual 201, 3) := by decide +kernel
theorem dX11_fits_31 : decode cX11_fits 31 = .ok (.ifCond .ne 6, 3) := by decide +kernel
theorem dX11_fits_34 : decode cX11_fits 34 = .ok (.bipush (-6), 2) := by decide +kernel
theorem dX11_fits_36 : decode cX11_fits 36 = .ok (.ireturn, 1) := by decide +kernel
theorem dX11_fits_37 : decode cX11_fits 37 = .ok (.aload_n 0, 1) := by decide +kernel
theorem dX11_fits_38 : decode cX11_fits 38 = .ok (.getfield 38, 3) := by decide +kernel
theorem dX11_fits_41 : decode cX11_fits 41 = .ok (.getfield 205, 3) := by decide +kernel
theorem dX11_fits_44 : decode cX11_fits 44 = .ok (.ifCond .ne 5, 3) := by decide +kernel
theorem dX11_fits_47 : decode cX11_fits 47 = .ok (.iconst 0, 1) := by decide +kernel
theorem dX11_fits_48 : decode cX11_fits 48 = .ok (.ireturn, 1) := by decide +kernel
theorem dX11_fits_49 : decode cX11_fits 49 = .ok (.aload_n 0, 1) := by decide +kernel
theorem dX11_fits_50 : decode cX11_fits 50 = .ok (.aload_n 0, 1) := by decide +kernel
theorem dX11_fits_51 : decode cX11_fits 51 = .ok (.getfield 38, 3) := by decide +kernel
theorem dX11_fits_54 : decode cX11_fits 54 = .ok (.getfield 208, 3) := by decide +kernel
theorem dX11_fits_57 : decode cX11_fits 57 = .ok (.invokevirtual 211, 3) := by decide +kernel
theorem dX11_fits_60 : decode cX11_fits 60 = .ok (.iconst 1, 1) := by decide +kernel
theorem dX11_fits_61 : decode cX11_fits 61 = .ok (.ireturn, 1) := by decide +kernel
theorem dX11_fit_0 : decode cX11_fit 0 = .ok (.aload_n 0, 1) := by decide +kernel
theorem dX11_fit_1 : decode cX11_fit 1 = .ok (.getfield 10, 3) := by decide +kernel
theorem dX11_fit_4 : decode cX11_fit 4 = .ok (.iload_n 1, 1) := by decide +kernel
theorem dX11_fit_5 : decode cX11_fit 5 = .ok (.iload_n 2, 1) := by decide +kernel
theorem dX11_fit_6 : decode cX11_fit 6 = .ok (.invokevirtual 105, 3) := by decide +kernel
theorem dX11_fit_9 : decode cX11_fit 9 = .ok (.ifCond .ne 5, 3) := by decide +kernel
theorem dX11_fit_12 : decode cX11_fit 12 = .ok (.iconst (-1), 1) := by decide +kernel
theorem dX11_fit_13 : decode cX11_fit 13 = .ok (.ireturn, 1) := by decide +kernel
theorem dX11_fit_14 : decode cX11_fit 14 = .ok (.aload_n 0, 1) := by decide +kernel
theorem dX11_fit_15 : decode cX11_fit 15 = .ok (.getfield 79, 3) := by decide +kernel
theorem dX11_fit_18 : decode cX11_fit 18 = .ok (.ifCond .eq 20, 3) := by decide +kernel
theorem dX11_fit_21 : decode cX11_fit 21 = .ok (.aload_n 0, 1) := by decide +kernel
theorem dX11_fit_22 : decode cX11_fit 22 = .ok (.getfield 76, 3) := by decide +kernel
theorem dX11_fit_25 : decode cX11_fit 25 = .ok (.aload_n 0, 1) := by decide +kernel
theorem dX11_fit_26 : decode cX11_fit 26 = .ok (.getfield 10, 3) := by decide +kernel
theorem dX11_fit_29 : decode cX11_fit 29 = .ok (.iload_n 1, 1) := by decide +kernel
theorem dX11_fit_30 : decode cX11_fit 30 = .ok (.iload_n 2, 1) := by decide +kernel
theorem dX11_fit_31 : decode cX11_fit 31 = .ok (.invokevirtual 182, 3) := by decide +kernel
theorem dX11_fit_34 : decode cX11_fit 34 = .ok (.iaload, 1) := by decide +kernel
theorem dX11_fit_35 : decode cX11_fit 35 = .ok (.goto 5, 3) := by decide +kernel
theorem dX11_fit_38 : decode cX11_fit 38 = .ok (.bipush (-9), 2) := by decide +kernel
theorem dX11_fit_40 : decode cX11_fit 40 = .ok (.ireturn, 1) := by decide +kernel
theorem dX11_many_0 : decode cX11_many 0 = .ok (.iload_n 1, 1) := by decide +kernel
theorem dX11_many_1 : decode cX11_many 1 = .ok (.invokestatic 197, 3) := by decide +kernel
theorem dX11_many_4 : decode cX11_many 4 = .ok (.ifCond .ne 5, 3) := by decide +kernel
theorem dX11_many_7 : decode cX11_many 7 = .ok (.iconst (-1), 1) := by decide +kernel
theorem dX11_many_8 : decode cX11_many 8 = .ok (.ireturn, 1) := by decide +kernel
theorem dX11_many_9 : decode cX11_many 9 = .ok (.aload_n 0, 1) := by decide +kernel
theorem dX11_many_10 : decode cX11_many 10 = .ok (.getfield 38, 3) := by decide +kernel
theorem dX11_many_13 : decode cX11_many 13 = .ok (.ldc 216, 2) := by decide +kernel
theorem dX11_many_15 : decode cX11_many 15 = .ok (.invokevirtual 200, 3) := by decide +kernel
theorem dX11_many_18 : decode cX11_many 18 = .ok (.aload_n 0, 1) := by decide +kernel
theorem dX11_many_19 : decode cX11_many 19 = .ok (.aload_n 0, 1) := by decide +kernel
theorem dX11_many_20 : decode cX11_many 20 = .ok (.getfield 38, 3) := by decide +kernel
theorem dX11_many_23 : decode cX11_many 23 = .ok (.iload_n 1, 1) := by decide +kernel
theorem dX11_many_24 : decode cX11_many 24 = .ok (.invokevirtual 201, 3) := by decide +kernel
theorem dX11_many_27 : decode cX11_many 27 = .ok (.ifCond .ne 6, 3) := by decide +kernel
theorem dX11_many_30 : decode cX11_many 30 = .ok (.bipush (-6), 2) := by decide +kernel
theorem dX11_many_32 : decode cX11_many 32 = .ok (.ireturn, 1) := by decide +kernel
theorem dX11_many_33 : decode cX11_many 33 = .ok (.aload_n 0, 1) := by decide +kernel
theorem dX11_many_34 : decode cX11_many 34 = .ok (.aload_n 0, 1) := by decide +kernel
theorem dX11_many_35 : decode cX11_many 35 = .ok (.getfield 38, 3) := by decide +kernel
theorem dX11_many_38 : decode cX11_many 38 = .ok (.getfield 205, 3) := by decide +kernel
theorem dX11_many_41 : decode cX11_many 41 = .ok (.i2l, 1) := by decide +kernel
theorem dX11_many_42 : decode cX11_many 42 = .ok (.putfield 87, 3) := by decide +kernel
theorem dX11_many_45 : decode cX11_many 45 = .ok (.iconst 1, 1) := by decide +kernel
theorem dX11_many_46 : decode cX11_many 46 = .ok (.ireturn, 1) := by decide +kernel
theorem dX11_bound_0 : decode cX11_bound 0 = .ok (.aload_n 0, 1) := by decide +kernel
theorem dX11_bound_1 : decode cX11_bound 1 = .ok (.getfield 10, 3) := by decide +kernel
theorem dX11_bound_4 : decode cX11_bound 4 = .ok (.iload_n 1, 1) := by decide +kernel
theorem dX11_bound_5 : decode cX11_bound 5 = .ok (.iload_n 2, 1) := by decide +kernel
theorem dX11_bound_6 : decode cX11_bound 6 = .ok (.invokevirtual 105, 3) := by decide +kernel
theorem dX11_bound_9 : decode cX11_bound 9 = .ok (.ifCond .eq 11, 3) := by decide +kernel
theorem dX11_bound_12 : decode cX11_bound 12 = .ok (.iload 4, 2) := by decide +kernel
theorem dX11_bound_14 : decode cX11_bound 14 = .ok (.invokestatic 197, 3) := by decide +kernel
theorem dX11_bound_17 : decode cX11_bound 17 = .ok (.ifCond .ne 5, 3) := by decide +kernel
theorem dX11_bound_20 : decode cX11_bound 20 = .ok (.iconst (-1), 1) := by decide +kernel
theorem dX11_bound_21 : decode cX11_bound 21 = .ok (.ireturn, 1) := by decide +kernel
theorem dX11_bound_22 : decode cX11_bound 22 = .ok (.aload_n 0, 1) := by decide +kernel
theorem dX11_bound_23 : decode cX11_bound 23 = .ok (.getfield 45, 3) := by decide +kernel
theorem dX11_bound_26 : decode cX11_bound 26 = .ok (.invokevirtual 217, 3) := by decide +kernel
theorem dX11_bound_29 : decode cX11_bound 29 = .ok (.aload_n 0, 1) := by decide +kernel
theorem dX11_bound_30 : decode cX11_bound 30 = .ok (.aload_n 0, 1) := by decide +kernel
theorem dX11_bound_31 : decode cX11_bound 31 = .ok (.getfield 45, 3) := by decide +kernel
theorem dX11_bound_34 : decode cX11_bound 34 = .ok (.iload 4, 2) := by decide +kernel
theorem dX11_bound_36 : decode cX11_bound 36 = .ok (.invokevirtual 201, 3) := by decide +kernel
theorem dX11_bound_39 : decode cX11_bound 39 = .ok (.ifCond .ne 6, 3) := by decide +kernel
theorem dX11_bound_42 : decode cX11_bound 42 = .ok (.bipush (-6), 2) := by decide +kernel
theorem dX11_bound_44 : decode cX11_bound 44 = .ok (.ireturn, 1) := by decide +kernel
theorem dX11_bound_45 : decode cX11_bound 45 = .ok (.aload_n 0, 1) := by decide +kernel
theorem dX11_bound_46 : decode cX11_bound 46 = .ok (.getfield 45, 3) := by decide +kernel
theorem dX11_bound_49 : decode cX11_bound 49 = .ok (.getfield 219, 3) := by decide +kernel
theorem dX11_bound_52 : decode cX11_bound 52 = .ok (.ifCond .ne 6, 3) := by decide +kernel
theorem dX11_bound_55 : decode cX11_bound 55 = .ok (.bipush (-9), 2) := by decide +kernel
theorem dX11_bound_57 : decode cX11_bound 57 = .ok (.ireturn, 1) := by decide +kernel
theorem dX11_bound_58 : decode cX11_bound 58 = .ok (.aload_n 0, 1) := by decide +kernel
theorem dX11_bound_59 : decode cX11_bound 59 = .ok (.getfield 10, 3) := by decide +kernel
theorem dX11_bound_62 : decode cX11_bound 62 = .ok (.iload_n 1, 1) := by decide +kernel
theorem dX11_bound_63 : decode cX11_bound 63 = .ok (.iload_n 2, 1) := by decide +kernel
theorem dX11_bound_64 : decode cX11_bound 64 = .ok (.invokevirtual 182, 3) := by decide +kernel
theorem dX11_bound_67 : decode cX11_bound 67 = .ok (.istore 5, 2) := by decide +kernel
theorem dX11_bound_69 : decode cX11_bound 69 = .ok (.iload_n 3, 1) := by decide +kernel
theorem dX11_bound_70 : decode cX11_bound 70 = .ok (.ifCond .eq 16, 3) := by decide +kernel
theorem dX11_bound_73 : decode cX11_bound 73 = .ok (.aload_n 0, 1) := by decide +kernel
theorem dX11_bound_74 : decode cX11_bound 74 = .ok (.getfield 45, 3) := by decide +kernel
theorem dX11_bound_77 : decode cX11_bound 77 = .ok (.getfield 222, 3) := by decide +kernel
theorem dX11_bound_80 : decode cX11_bound 80 = .ok (.iload 5, 2) := by decide +kernel
theorem dX11_bound_82 : decode cX11_bound 82 = .ok (.iaload, 1) := by decide +kernel
theorem dX11_bound_83 : decode cX11_bound 83 = .ok (.goto 13, 3) := by decide +kernel
theorem dX11_bound_86 : decode cX11_bound 86 = .ok (.aload_n 0, 1) := by decide +kernel
theorem dX11_bound_87 : decode cX11_bound 87 = .ok (.getfield 45, 3) := by decide +kernel
theorem dX11_bound_90 : decode cX11_bound 90 = .ok (.getfield 224, 3) := by decide +kernel
theorem dX11_bound_93 : decode cX11_bound 93 = .ok (.iload 5, 2) := by decide +kernel
theorem dX11_bound_95 : decode cX11_bound 95 = .ok (.iaload, 1) := by decide +kernel
theorem dX11_bound_96 : decode cX11_bound 96 = .ok (.ireturn, 1) := by decide +kernel
theorem dX11_sure_0 : decode cX11_sure 0 = .ok (.iload_n 1, 1) := by decide +kernel
theorem dX11_sure_1 : decode cX11_sure 1 = .ok (.invokestatic 197, 3) := by decide +kernel
theorem dX11_sure_4 : decode cX11_sure 4 = .ok (.ifCond .ne 5, 3) := by decide +kernel
theorem dX11_sure_7 : decode cX11_sure 7 = .ok (.iconst (-1), 1) := by decide +kernel
theorem dX11_sure_8 : decode cX11_sure 8 = .ok (.ireturn, 1) := by decide +kernel
theorem dX11_sure_9 : decode cX11_sure 9 = .ok (.aload_n 0, 1) := by decide +kernel
theorem dX11_sure_10 : decode cX11_sure 10 = .ok (.getfield 45, 3) := by decide +kernel
theorem dX11_sure_13 : decode cX11_sure 13 = .ok (.invokevirtual 217, 3) := by decide +kernel
theorem dX11_sure_16 : decode cX11_sure 16 = .ok (.aload_n 0, 1) := by decide +kernel
theorem dX11_sure_17 : decode cX11_sure 17 = .ok (.aload_n 0, 1) := by decide +kernel
theorem dX11_sure_18 : decode cX11_sure 18 = .ok (.getfield 45, 3) := by decide +kernel
theorem dX11_sure_21 : decode cX11_sure 21 = .ok (.iload_n 1, 1) := by decide +kernel
theorem dX11_sure_22 : decode cX11_sure 22 = .ok (.invokevirtual 201, 3) := by decide +kernel
theorem dX11_sure_25 : decode cX11_sure 25 = .ok (.ifCond .ne 6, 3) := by decide +kernel
theorem dX11_sure_28 : decode cX11_sure 28 = .ok (.bipush (-6), 2) := by decide +kernel
theorem dX11_sure_30 : decode cX11_sure 30 = .ok (.ireturn, 1) := by decide +kernel
theorem dX11_sure_31 : decode cX11_sure 31 = .ok (.aload_n 0, 1) := by decide +kernel
theorem dX11_sure_32 : decode cX11_sure 32 = .ok (.getfield 45, 3) := by decide +kernel
theorem dX11_sure_35 : decode cX11_sure 35 = .ok (.getfield 219, 3) := by decide +kernel
theorem dX11_sure_38 : decode cX11_sure 38 = .ok (.ifCond .eq 10, 3) := by decide +kernel
theorem dX11_sure_41 : decode cX11_sure 41 = .ok (.aload_n 0, 1) := by decide +kernel
theorem dX11_sure_42 : decode cX11_sure 42 = .ok (.invokevirtual 227, 3) := by decide +kernel
theorem dX11_sure_45 : decode cX11_sure 45 = .ok (.goto 5, 3) := by decide +kernel
theorem dX11_sure_48 : decode cX11_sure 48 = .ok (.bipush (-9), 2) := by decide +kernel
theorem dX11_sure_50 : decode cX11_sure 50 = .ok (.ireturn, 1) := by decide +kernel
theorem dX11_tries_0 : decode cX11_tries 0 = .ok (.aload_n 0, 1) := by decide +kernel
theorem dX11_tries_1 : decode cX11_tries 1 = .ok (.getfield 83, 3) := by decide +kernel
theorem dX11_tries_4 : decode cX11_tries 4 = .ok (.ireturn, 1) := by decide +kernel
theorem dX11_guess_0 : decode cX11_guess 0 = .ok (.aload_n 0, 1) := by decide +kernel
theorem dX11_guess_1 : decode cX11_guess 1 = .ok (.getfield 10, 3) := by decide +kernel
theorem dX11_guess_4 : decode cX11_guess 4 = .ok (.iload_n 1, 1) := by decide +kernel
theorem dX11_guess_5 : decode cX11_guess 5 = .ok (.iload_n 2, 1) := by decide +kernel
theorem dX11_guess_6 : decode cX11_guess 6 = .ok (.invokevirtual 105, 3) := by decide +kernel
theorem dX11_guess_9 : decode cX11_guess 9 = .ok (.ifCond .ne 5, 3) := by decide +kernel
theorem dX11_guess_12 : decode cX11_guess 12 = .ok (.iconst (-1), 1) := by decide +kernel
theorem dX11_guess_13 : decode cX11_guess 13 = .ok (.ireturn, 1) := by decide +kernel
theorem dX11_guess_14 : decode cX11_guess 14 = .ok (.aload_n 0, 1) := by decide +kernel
theorem dX11_guess_15 : decode cX11_guess 15 = .ok (.getfield 10, 3) := by decide +kernel
theorem dX11_guess_18 : decode cX11_guess 18 = .ok (.invokevirtual 230, 3) := by decide +kernel
theorem dX11_guess_21 : decode cX11_guess 21 = .ok (.istore_n 3, 1) := by decide +kernel
theorem dX11_guess_22 : decode cX11_guess 22 = .ok (.iload_n 3, 1) := by decide +kernel
theorem dX11_guess_23 : decode cX11_guess 23 = .ok (.ifCond .ne 9, 3) := by decide +kernel
theorem dX11_guess_26 : decode cX11_guess 26 = .ok (.aload_n 0, 1) := by decide +kernel
theorem dX11_guess_27 : decode cX11_guess 27 = .ok (.iconst 4, 1) := by decide +kernel
theorem dX11_guess_28 : decode cX11_guess 28 = .ok (.invokevirtual 147, 3) := by decide +kernel
theorem dX11_guess_31 : decode cX11_guess 31 = .ok (.ireturn, 1) := by decide +kernel
theorem dX11_guess_32 : decode cX11_guess 32 = .ok (.aload_n 0, 1) := by decide +kernel
theorem dX11_guess_33 : decode cX11_guess 33 = .ok (.getfield 10, 3) := by decide +kernel
theorem dX11_guess_36 : decode cX11_guess 36 = .ok (.iload_n 1, 1) := by decide +kernel
theorem dX11_guess_37 : decode cX11_guess 37 = .ok (.invokevirtual 233, 3) := by decide +kernel
theorem dX11_guess_40 : decode cX11_guess 40 = .ok (.aload_n 0, 1) := by decide +kernel
theorem dX11_guess_41 : decode cX11_guess 41 = .ok (.getfield 10, 3) := by decide +kernel
theorem dX11_guess_44 : decode cX11_guess 44 = .ok (.iload_n 2, 1) := by decide +kernel
theorem dX11_guess_45 : decode cX11_guess 45 = .ok (.invokevirtual 236, 3) := by decide +kernel
theorem dX11_guess_48 : decode cX11_guess 48 = .ok (.imul, 1) := by decide +kernel
theorem dX11_guess_49 : decode cX11_guess 49 = .ok (.iload_n 3, 1) := by decide +kernel
theorem dX11_guess_50 : decode cX11_guess 50 = .ok (.idiv, 1) := by decide +kernel
theorem dX11_guess_51 : decode cX11_guess 51 = .ok (.ireturn, 1) := by decide +kernel
theorem dX11_base_0 : decode cX11_base 0 = .ok (.aload_n 0, 1) := by decide +kernel
theorem dX11_base_1 : decode cX11_base 1 = .ok (.getfield 10, 3) := by decide +kernel
theorem dX11_base_4 : decode cX11_base 4 = .ok (.iload_n 1, 1) := by decide +kernel
theorem dX11_base_5 : decode cX11_base 5 = .ok (.iload_n 2, 1) := by decide +kernel
theorem dX11_base_6 : decode cX11_base 6 = .ok (.invokevirtual 105, 3) := by decide +kernel
theorem dX11_base_9 : decode cX11_base 9 = .ok (.ifCond .eq 14, 3) := by decide +kernel
theorem dX11_base_12 : decode cX11_base 12 = .ok (.iload_n 3, 1) := by decide +kernel
theorem dX11_base_13 : decode cX11_base 13 = .ok (.ifCond .lt 10, 3) := by decide +kernel
theorem dX11_base_16 : decode cX11_base 16 = .ok (.iload_n 3, 1) := by decide +kernel
theorem dX11_base_17 : decode cX11_base 17 = .ok (.sipush 200, 3) := by decide +kernel
theorem dX11_base_20 : decode cX11_base 20 = .ok (.if_icmp .le 5, 3) := by decide +kernel
theorem dX11_base_23 : decode cX11_base 23 = .ok (.iconst (-1), 1) := by decide +kernel
theorem dX11_base_24 : decode cX11_base 24 = .ok (.ireturn, 1) := by decide +kernel
theorem dX11_base_25 : decode cX11_base 25 = .ok (.aload_n 0, 1) := by decide +kernel
theorem dX11_base_26 : decode cX11_base 26 = .ok (.getfield 10, 3) := by decide +kernel
theorem dX11_base_29 : decode cX11_base 29 = .ok (.iload_n 1, 1) := by decide +kernel
theorem dX11_base_30 : decode cX11_base 30 = .ok (.iload_n 2, 1) := by decide +kernel
theorem dX11_base_31 : decode cX11_base 31 = .ok (.invokevirtual 182, 3) := by decide +kernel
theorem dX11_base_34 : decode cX11_base 34 = .ok (.istore 4, 2) := by decide +kernel
theorem dX11_base_36 : decode cX11_base 36 = .ok (.aload_n 0, 1) := by decide +kernel
theorem dX11_base_37 : decode cX11_base 37 = .ok (.getfield 10, 3) := by decide +kernel
theorem dX11_base_40 : decode cX11_base 40 = .ok (.getfield 51, 3) := by decide +kernel
theorem dX11_base_43 : decode cX11_base 43 = .ok (.iload 4, 2) := by decide +kernel
theorem dX11_base_45 : decode cX11_base 45 = .ok (.iaload, 1) := by decide +kernel
theorem dX11_base_46 : decode cX11_base 46 = .ok (.istore 5, 2) := by decide +kernel
theorem dX11_base_48 : decode cX11_base 48 = .ok (.aload_n 0, 1) := by decide +kernel
theorem dX11_base_49 : decode cX11_base 49 = .ok (.getfield 10, 3) := by decide +kernel
theorem dX11_base_52 : decode cX11_base 52 = .ok (.getfield 51, 3) := by decide +kernel
theorem dX11_base_55 : decode cX11_base 55 = .ok (.iload 4, 2) := by decide +kernel
theorem dX11_base_57 : decode cX11_base 57 = .ok (.iload_n 3, 1) := by decide +kernel
theorem dX11_base_58 : decode cX11_base 58 = .ok (.iastore, 1) := by decide +kernel
theorem dX11_base_59 : decode cX11_base 59 = .ok (.iload 5, 2) := by decide +kernel
theorem dX11_base_61 : decode cX11_base 61 = .ok (.ireturn, 1) := by decide +kernel
theorem dX11_changed_0 : decode cX11_changed 0 = .ok (.iload_n 1, 1) := by decide +kernel
theorem dX11_changed_1 : decode cX11_changed 1 = .ok (.invokestatic 197, 3) := by decide +kernel
theorem dX11_changed_4 : decode cX11_changed 4 = .ok (.ifCond .ne 5, 3) := by decide +kernel
theorem dX11_changed_7 : decode cX11_changed 7 = .ok (.iconst (-1), 1) := by decide +kernel
theorem dX11_changed_8 : decode cX11_changed 8 = .ok (.ireturn, 1) := by decide +kernel
theorem dX11_changed_9 : decode cX11_changed 9 = .ok (.aload_n 0, 1) := by decide +kernel
theorem dX11_changed_10 : decode cX11_changed 10 = .ok (.getfield 58, 3) := by decide +kernel
theorem dX11_changed_13 : decode cX11_changed 13 = .ok (.invokevirtual 239, 3) := by decide +kernel
theorem dX11_changed_16 : decode cX11_changed 16 = .ok (.aload_n 0, 1) := by decide +kernel
theorem dX11_changed_17 : decode cX11_changed 17 = .ok (.aload_n 0, 1) := by decide +kernel
theorem dX11_changed_18 : decode cX11_changed 18 = .ok (.getfield 58, 3) := by decide +kernel
theorem dX11_changed_21 : decode cX11_changed 21 = .ok (.iload_n 1, 1) := by decide +kernel
theorem dX11_changed_22 : decode cX11_changed 22 = .ok (.invokevirtual 240, 3) := by decide +kernel
theorem dX11_changed_25 : decode cX11_changed 25 = .ok (.ifCond .ne 6, 3) := by decide +kernel
theorem dX11_changed_28 : decode cX11_changed 28 = .ok (.bipush (-6), 2) := by decide +kernel
theorem dX11_changed_30 : decode cX11_changed 30 = .ok (.ireturn, 1) := by decide +kernel
theorem dX11_changed_31 : decode cX11_changed 31 = .ok (.aload_n 0, 1) := by decide +kernel
theorem dX11_changed_32 : decode cX11_changed 32 = .ok (.getfield 58, 3) := by decide +kernel
theorem dX11_changed_35 : decode cX11_changed 35 = .ok (.getfield 244, 3) := by decide +kernel
theorem dX11_changed_38 : decode cX11_changed 38 = .ok (.ifCond .eq 13, 3) := by decide +kernel
theorem dX11_changed_41 : decode cX11_changed 41 = .ok (.aload_n 0, 1) := by decide +kernel
theorem dX11_changed_42 : decode cX11_changed 42 = .ok (.getfield 58, 3) := by decide +kernel
theorem dX11_changed_45 : decode cX11_changed 45 = .ok (.getfield 245, 3) := by decide +kernel
theorem dX11_changed_48 : decode cX11_changed 48 = .ok (.goto 5, 3) := by decide +kernel
theorem dX11_changed_51 : decode cX11_changed 51 = .ok (.bipush (-9), 2) := by decide +kernel
theorem dX11_changed_53 : decode cX11_changed 53 = .ok (.ireturn, 1) := by decide +kernel
theorem dX11_worst_0 : decode cX11_worst 0 = .ok (.aload_n 0, 1) := by decide +kernel
theorem dX11_worst_1 : decode cX11_worst 1 = .ok (.getfield 10, 3) := by decide +kernel
theorem dX11_worst_4 : decode cX11_worst 4 = .ok (.iload_n 1, 1) := by decide +kernel
theorem dX11_worst_5 : decode cX11_worst 5 = .ok (.invokevirtual 116, 3) := by decide +kernel
theorem dX11_worst_8 : decode cX11_worst 8 = .ok (.ifCond .eq 26, 3) := by decide +kernel
theorem dX11_worst_11 : decode cX11_worst 11 = .ok (.aload_n 0, 1) := by decide +kernel
theorem dX11_worst_12 : decode cX11_worst 12 = .ok (.getfield 10, 3) := by decide +kernel
theorem dX11_worst_15 : decode cX11_worst 15 = .ok (.iload_n 2, 1) := by decide +kernel
theorem dX11_worst_16 : decode cX11_worst 16 = .ok (.invokevirtual 116, 3) := by decide +kernel
theorem dX11_worst_19 : decode cX11_worst 19 = .ok (.ifCond .eq 15, 3) := by decide +kernel
theorem dX11_worst_22 : decode cX11_worst 22 = .ok (.iload_n 1, 1) := by decide +kernel
theorem dX11_worst_23 : decode cX11_worst 23 = .ok (.iload_n 2, 1) := by decide +kernel
theorem dX11_worst_24 : decode cX11_worst 24 = .ok (.if_icmp .eq 10, 3) := by decide +kernel
theorem dX11_worst_27 : decode cX11_worst 27 = .ok (.iload_n 3, 1) := by decide +kernel
theorem dX11_worst_28 : decode cX11_worst 28 = .ok (.invokestatic 197, 3) := by decide +kernel
theorem dX11_worst_31 : decode cX11_worst 31 = .ok (.ifCond .ne 5, 3) := by decide +kernel
theorem dX11_worst_34 : decode cX11_worst 34 = .ok (.iconst (-1), 1) := by decide +kernel
theorem dX11_worst_35 : decode cX11_worst 35 = .ok (.ireturn, 1) := by decide +kernel
theorem dX11_worst_36 : decode cX11_worst 36 = .ok (.aload_n 0, 1) := by decide +kernel
theorem dX11_worst_37 : decode cX11_worst 37 = .ok (.getfield 10, 3) := by decide +kernel
theorem dX11_worst_40 : decode cX11_worst 40 = .ok (.getfield 120, 3) := by decide +kernel
theorem dX11_worst_43 : decode cX11_worst 43 = .ok (.iload_n 1, 1) := by decide +kernel
theorem dX11_worst_44 : decode cX11_worst 44 = .ok (.aaload, 1) := by decide +kernel
theorem dX11_worst_45 : decode cX11_worst 45 = .ok (.getfield 135, 3) := by decide +kernel
theorem dX11_worst_48 : decode cX11_worst 48 = .ok (.ifCond .ne 18, 3) := by decide +kernel
theorem dX11_worst_51 : decode cX11_worst 51 = .ok (.aload_n 0, 1) := by decide +kernel
theorem dX11_worst_52 : decode cX11_worst 52 = .ok (.getfield 10, 3) := by decide +kernel
theorem dX11_worst_55 : decode cX11_worst 55 = .ok (.getfield 120, 3) := by decide +kernel
theorem dX11_worst_58 : decode cX11_worst 58 = .ok (.iload_n 2, 1) := by decide +kernel
theorem dX11_worst_59 : decode cX11_worst 59 = .ok (.aaload, 1) := by decide +kernel
theorem dX11_worst_60 : decode cX11_worst 60 = .ok (.getfield 135, 3) := by decide +kernel
theorem dX11_worst_63 : decode cX11_worst 63 = .ok (.ifCond .eq 6, 3) := by decide +kernel
theorem dX11_worst_66 : decode cX11_worst 66 = .ok (.bipush (-4), 2) := by decide +kernel
theorem dX11_worst_68 : decode cX11_worst 68 = .ok (.ireturn, 1) := by decide +kernel
theorem dX11_worst_69 : decode cX11_worst 69 = .ok (.aload_n 0, 1) := by decide +kernel
theorem dX11_worst_70 : decode cX11_worst 70 = .ok (.getfield 23, 3) := by decide +kernel
theorem dX11_worst_73 : decode cX11_worst 73 = .ok (.aload_n 0, 1) := by decide +kernel
theorem dX11_worst_74 : decode cX11_worst 74 = .ok (.getfield 10, 3) := by decide +kernel
theorem dX11_worst_77 : decode cX11_worst 77 = .ok (.iload_n 2, 1) := by decide +kernel
theorem dX11_worst_78 : decode cX11_worst 78 = .ok (.invokevirtual 97, 3) := by decide +kernel
theorem dX11_worst_81 : decode cX11_worst 81 = .ok (.aload_n 0, 1) := by decide +kernel
theorem dX11_worst_82 : decode cX11_worst 82 = .ok (.getfield 65, 3) := by decide +kernel
theorem dX11_worst_85 : decode cX11_worst 85 = .ok (.iload_n 1, 1) := by decide +kernel
theorem dX11_worst_86 : decode cX11_worst 86 = .ok (.aload_n 0, 1) := by decide +kernel
theorem dX11_worst_87 : decode cX11_worst 87 = .ok (.getfield 23, 3) := by decide +kernel
theorem dX11_worst_90 : decode cX11_worst 90 = .ok (.invokevirtual 248, 3) := by decide +kernel
theorem dX11_worst_93 : decode cX11_worst 93 = .ok (.aload_n 0, 1) := by decide +kernel
theorem dX11_worst_94 : decode cX11_worst 94 = .ok (.aload_n 0, 1) := by decide +kernel
theorem dX11_worst_95 : decode cX11_worst 95 = .ok (.getfield 65, 3) := by decide +kernel
theorem dX11_worst_98 : decode cX11_worst 98 = .ok (.iload_n 3, 1) := by decide +kernel
theorem dX11_worst_99 : decode cX11_worst 99 = .ok (.invokevirtual 240, 3) := by decide +kernel
theorem dX11_worst_102 : decode cX11_worst 102 = .ok (.ifCond .ne 6, 3) := by decide +kernel
theorem dX11_worst_105 : decode cX11_worst 105 = .ok (.bipush (-6), 2) := by decide +kernel
theorem dX11_worst_107 : decode cX11_worst 107 = .ok (.ireturn, 1) := by decide +kernel
theorem dX11_worst_108 : decode cX11_worst 108 = .ok (.aload_n 0, 1) := by decide +kernel
theorem dX11_worst_109 : decode cX11_worst 109 = .ok (.getfield 65, 3) := by decide +kernel
theorem dX11_worst_112 : decode cX11_worst 112 = .ok (.getfield 252, 3) := by decide +kernel
theorem dX11_worst_115 : decode cX11_worst 115 = .ok (.ifCond .eq 14, 3) := by decide +kernel
theorem dX11_worst_118 : decode cX11_worst 118 = .ok (.aload_n 0, 1) := by decide +kernel
theorem dX11_worst_119 : decode cX11_worst 119 = .ok (.getfield 65, 3) := by decide +kernel
theorem dX11_worst_122 : decode cX11_worst 122 = .ok (.getfield 253, 3) := by decide +kernel
theorem dX11_worst_125 : decode cX11_worst 125 = .ok (.ineg, 1) := by decide +kernel
theorem dX11_worst_126 : decode cX11_worst 126 = .ok (.goto 5, 3) := by decide +kernel
theorem dX11_worst_129 : decode cX11_worst 129 = .ok (.bipush (-9), 2) := by decide +kernel
theorem dX11_worst_131 : decode cX11_worst 131 = .ok (.ireturn, 1) := by decide +kernel
theorem dX11_meters_0 : decode cX11_meters 0 = .ok (.iload_n 1, 1) := by decide +kernel
theorem dX11_meters_1 : decode cX11_meters 1 = .ok (.invokestatic 197, 3) := by decide +kernel
theorem dX11_meters_4 : decode cX11_meters 4 = .ok (.ifCond .ne 5, 3) := by decide +kernel
theorem dX11_meters_7 : decode cX11_meters 7 = .ok (.iconst (-1), 1) := by decide +kernel
theorem dX11_meters_8 : decode cX11_meters 8 = .ok (.ireturn, 1) := by decide +kernel
theorem dX11_meters_9 : decode cX11_meters 9 = .ok (.aload_n 0, 1) := by decide +kernel
theorem dX11_meters_10 : decode cX11_meters 10 = .ok (.getfield 38, 3) := by decide +kernel
theorem dX11_meters_13 : decode cX11_meters 13 = .ok (.iconst 1, 1) := by decide +kernel
theorem dX11_meters_14 : decode cX11_meters 14 = .ok (.invokevirtual 200, 3) := by decide +kernel
theorem dX11_meters_17 : decode cX11_meters 17 = .ok (.aload_n 0, 1) := by decide +kernel
theorem dX11_meters_18 : decode cX11_meters 18 = .ok (.aload_n 0, 1) := by decide +kernel
theorem dX11_meters_19 : decode cX11_meters 19 = .ok (.getfield 38, 3) := by decide +kernel
theorem dX11_meters_22 : decode cX11_meters 22 = .ok (.iload_n 1, 1) := by decide +kernel
theorem dX11_meters_23 : decode cX11_meters 23 = .ok (.invokevirtual 201, 3) := by decide +kernel
theorem dX11_meters_26 : decode cX11_meters 26 = .ok (.ifCond .ne 6, 3) := by decide +kernel
theorem dX11_meters_29 : decode cX11_meters 29 = .ok (.bipush (-6), 2) := by decide +kernel
theorem dX11_meters_31 : decode cX11_meters 31 = .ok (.ireturn, 1) := by decide +kernel
theorem dX11_meters_32 : decode cX11_meters 32 = .ok (.aload_n 0, 1) := by decide +kernel
theorem dX11_meters_33 : decode cX11_meters 33 = .ok (.getfield 38, 3) := by decide +kernel
theorem dX11_meters_36 : decode cX11_meters 36 = .ok (.getfield 205, 3) := by decide +kernel
theorem dX11_meters_39 : decode cX11_meters 39 = .ok (.ifCond .ne 6, 3) := by decide +kernel
theorem dX11_meters_42 : decode cX11_meters 42 = .ok (.bipush (-9), 2) := by decide +kernel
theorem dX11_meters_44 : decode cX11_meters 44 = .ok (.ireturn, 1) := by decide +kernel
theorem dX11_meters_45 : decode cX11_meters 45 = .ok (.aload_n 0, 1) := by decide +kernel
theorem dX11_meters_46 : decode cX11_meters 46 = .ok (.getfield 31, 3) := by decide +kernel
theorem dX11_meters_49 : decode cX11_meters 49 = .ok (.aload_n 0, 1) := by decide +kernel
theorem dX11_meters_50 : decode cX11_meters 50 = .ok (.getfield 38, 3) := by decide +kernel
theorem dX11_meters_53 : decode cX11_meters 53 = .ok (.invokevirtual 254, 3) := by decide +kernel
theorem dX11_meters_56 : decode cX11_meters 56 = .ok (.lstore_n 2, 1) := by decide +kernel
theorem dX11_meters_57 : decode cX11_meters 57 = .ok (.aload_n 0, 1) := by decide +kernel
theorem dX11_meters_58 : decode cX11_meters 58 = .ok (.aload_n 0, 1) := by decide +kernel
theorem dX11_meters_59 : decode cX11_meters 59 = .ok (.getfield 31, 3) := by decide +kernel
theorem dX11_meters_62 : decode cX11_meters 62 = .ok (.getfield 258, 3) := by decide +kernel
theorem dX11_meters_65 : decode cX11_meters 65 = .ok (.putfield 83, 3) := by decide +kernel
theorem dX11_meters_68 : decode cX11_meters 68 = .ok (.aload_n 0, 1) := by decide +kernel
theorem dX11_meters_69 : decode cX11_meters 69 = .ok (.getfield 31, 3) := by decide +kernel
theorem dX11_meters_72 : decode cX11_meters 72 = .ok (.getfield 261, 3) := by decide +kernel
theorem dX11_meters_75 : decode cX11_meters 75 = .ok (.ifCond .eq 6, 3) := by decide +kernel
theorem dX11_meters_78 : decode cX11_meters 78 = .ok (.bipush (-6), 2) := by decide +kernel
theorem dX11_meters_80 : decode cX11_meters 80 = .ok (.ireturn, 1) := by decide +kernel
theorem dX11_meters_81 : decode cX11_meters 81 = .ok (.aload_n 0, 1) := by decide +kernel
theorem dX11_meters_82 : decode cX11_meters 82 = .ok (.lload_n 2, 1) := by decide +kernel
theorem dX11_meters_83 : decode cX11_meters 83 = .ok (.putfield 87, 3) := by decide +kernel
theorem dX11_meters_86 : decode cX11_meters 86 = .ok (.lload_n 2, 1) := by decide +kernel
theorem dX11_meters_87 : decode cX11_meters 87 = .ok (.invokestatic 264, 3) := by decide +kernel
theorem dX11_meters_90 : decode cX11_meters 90 = .ok (.ireturn, 1) := by decide +kernel
theorem dX11_sheet_0 : decode cX11_sheet 0 = .ok (.iload_n 1, 1) := by decide +kernel
theorem dX11_sheet_1 : decode cX11_sheet 1 = .ok (.invokestatic 270, 3) := by decide +kernel
theorem dX11_sheet_4 : decode cX11_sheet 4 = .ok (.ifCond .eq 9, 3) := by decide +kernel
theorem dX11_sheet_7 : decode cX11_sheet 7 = .ok (.iload_n 2, 1) := by decide +kernel
theorem dX11_sheet_8 : decode cX11_sheet 8 = .ok (.bipush 24, 2) := by decide +kernel
theorem dX11_sheet_10 : decode cX11_sheet 10 = .ok (.if_icmp .le 5, 3) := by decide +kernel
theorem dX11_sheet_13 : decode cX11_sheet 13 = .ok (.iconst (-1), 1) := by decide +kernel
theorem dX11_sheet_14 : decode cX11_sheet 14 = .ok (.ireturn, 1) := by decide +kernel
theorem dX11_sheet_15 : decode cX11_sheet 15 = .ok (.iload_n 2, 1) := by decide +kernel
theorem dX11_sheet_16 : decode cX11_sheet 16 = .ok (.ifCond .ge 9, 3) := by decide +kernel
theorem dX11_sheet_19 : decode cX11_sheet 19 = .ok (.aload_n 0, 1) := by decide +kernel
theorem dX11_sheet_20 : decode cX11_sheet 20 = .ok (.iconst 5, 1) := by decide +kernel
theorem dX11_sheet_21 : decode cX11_sheet 21 = .ok (.invokevirtual 147, 3) := by decide +kernel
theorem dX11_sheet_24 : decode cX11_sheet 24 = .ok (.ireturn, 1) := by decide +kernel
theorem dX11_sheet_25 : decode cX11_sheet 25 = .ok (.aload_n 0, 1) := by decide +kernel
theorem dX11_sheet_26 : decode cX11_sheet 26 = .ok (.getfield 72, 3) := by decide +kernel
theorem dX11_sheet_29 : decode cX11_sheet 29 = .ok (.iload_n 1, 1) := by decide +kernel
theorem dX11_sheet_30 : decode cX11_sheet 30 = .ok (.iload_n 2, 1) := by decide +kernel
theorem dX11_sheet_31 : decode cX11_sheet 31 = .ok (.invokevirtual 273, 3) := by decide +kernel
theorem dX11_sheet_34 : decode cX11_sheet 34 = .ok (.iload_n 2, 1) := by decide +kernel
theorem dX11_sheet_35 : decode cX11_sheet 35 = .ok (.ireturn, 1) := by decide +kernel
theorem dX11_lay_0 : decode cX11_lay 0 = .ok (.iload_n 1, 1) := by decide +kernel
theorem dX11_lay_1 : decode cX11_lay 1 = .ok (.invokestatic 270, 3) := by decide +kernel
theorem dX11_lay_4 : decode cX11_lay 4 = .ok (.ifCond .ne 5, 3) := by decide +kernel
theorem dX11_lay_7 : decode cX11_lay 7 = .ok (.iconst (-1), 1) := by decide +kernel
theorem dX11_lay_8 : decode cX11_lay 8 = .ok (.ireturn, 1) := by decide +kernel
theorem dX11_lay_9 : decode cX11_lay 9 = .ok (.aload_n 0, 1) := by decide +kernel
theorem dX11_lay_10 : decode cX11_lay 10 = .ok (.getfield 72, 3) := by decide +kernel
theorem dX11_lay_13 : decode cX11_lay 13 = .ok (.getfield 276, 3) := by decide +kernel
theorem dX11_lay_16 : decode cX11_lay 16 = .ok (.iload_n 1, 1) := by decide +kernel
theorem dX11_lay_17 : decode cX11_lay 17 = .ok (.iaload, 1) := by decide +kernel
theorem dX11_lay_18 : decode cX11_lay 18 = .ok (.iconst (-1), 1) := by decide +kernel
theorem dX11_lay_19 : decode cX11_lay 19 = .ok (.if_icmp .ne 9, 3) := by decide +kernel
theorem dX11_lay_22 : decode cX11_lay 22 = .ok (.aload_n 0, 1) := by decide +kernel
theorem dX11_lay_23 : decode cX11_lay 23 = .ok (.iconst 1, 1) := by decide +kernel
theorem dX11_lay_24 : decode cX11_lay 24 = .ok (.invokevirtual 147, 3) := by decide +kernel
theorem dX11_lay_27 : decode cX11_lay 27 = .ok (.ireturn, 1) := by decide +kernel
theorem dX11_lay_28 : decode cX11_lay 28 = .ok (.iload_n 2, 1) := by decide +kernel
theorem dX11_lay_29 : decode cX11_lay 29 = .ok (.ifCond .lt 16, 3) := by decide +kernel
theorem dX11_lay_32 : decode cX11_lay 32 = .ok (.iload_n 2, 1) := by decide +kernel
theorem dX11_lay_33 : decode cX11_lay 33 = .ok (.aload_n 0, 1) := by decide +kernel
theorem dX11_lay_34 : decode cX11_lay 34 = .ok (.getfield 72, 3) := by decide +kernel
theorem dX11_lay_37 : decode cX11_lay 37 = .ok (.getfield 276, 3) := by decide +kernel
theorem dX11_lay_40 : decode cX11_lay 40 = .ok (.iload_n 1, 1) := by decide +kernel
theorem dX11_lay_41 : decode cX11_lay 41 = .ok (.iaload, 1) := by decide +kernel
theorem dX11_lay_42 : decode cX11_lay 42 = .ok (.if_icmp .lt 9, 3) := by decide +kernel
theorem dX11_lay_45 : decode cX11_lay 45 = .ok (.aload_n 0, 1) := by decide +kernel
theorem dX11_lay_46 : decode cX11_lay 46 = .ok (.iconst 2, 1) := by decide +kernel
theorem dX11_lay_47 : decode cX11_lay 47 = .ok (.invokevirtual 147, 3) := by decide +kernel
theorem dX11_lay_50 : decode cX11_lay 50 = .ok (.ireturn, 1) := by decide +kernel
theorem dX11_lay_51 : decode cX11_lay 51 = .ok (.aload_n 0, 1) := by decide +kernel
theorem dX11_lay_52 : decode cX11_lay 52 = .ok (.getfield 72, 3) := by decide +kernel
theorem dX11_lay_55 : decode cX11_lay 55 = .ok (.getfield 279, 3) := by decide +kernel
theorem dX11_lay_58 : decode cX11_lay 58 = .ok (.iload_n 1, 1) := by decide +kernel
theorem dX11_lay_59 : decode cX11_lay 59 = .ok (.aaload, 1) := by decide +kernel
theorem dX11_lay_60 : decode cX11_lay 60 = .ok (.iload_n 2, 1) := by decide +kernel
theorem dX11_lay_61 : decode cX11_lay 61 = .ok (.baload, 1) := by decide +kernel
theorem dX11_lay_62 : decode cX11_lay 62 = .ok (.istore 4, 2) := by decide +kernel
theorem dX11_lay_64 : decode cX11_lay 64 = .ok (.aload_n 0, 1) := by decide +kernel
theorem dX11_lay_65 : decode cX11_lay 65 = .ok (.getfield 72, 3) := by decide +kernel
theorem dX11_lay_68 : decode cX11_lay 68 = .ok (.getfield 279, 3) := by decide +kernel
theorem dX11_lay_71 : decode cX11_lay 71 = .ok (.iload_n 1, 1) := by decide +kernel
theorem dX11_lay_72 : decode cX11_lay 72 = .ok (.aaload, 1) := by decide +kernel
theorem dX11_lay_73 : decode cX11_lay 73 = .ok (.iload_n 2, 1) := by decide +kernel
theorem dX11_lay_74 : decode cX11_lay 74 = .ok (.iload_n 3, 1) := by decide +kernel
theorem dX11_lay_75 : decode cX11_lay 75 = .ok (.i2b, 1) := by decide +kernel
theorem dX11_lay_76 : decode cX11_lay 76 = .ok (.bastore, 1) := by decide +kernel
theorem dX11_lay_77 : decode cX11_lay 77 = .ok (.iload 4, 2) := by decide +kernel
theorem dX11_lay_79 : decode cX11_lay 79 = .ok (.sipush 1000, 3) := by decide +kernel
theorem dX11_lay_82 : decode cX11_lay 82 = .ok (.iadd, 1) := by decide +kernel
theorem dX11_lay_83 : decode cX11_lay 83 = .ok (.ireturn, 1) := by decide +kernel
theorem dX11_play_0 : decode cX11_play 0 = .ok (.iload_n 1, 1) := by decide +kernel
theorem dX11_play_1 : decode cX11_play 1 = .ok (.invokestatic 270, 3) := by decide +kernel
theorem dX11_play_4 : decode cX11_play 4 = .ok (.ifCond .eq 14, 3) := by decide +kernel
theorem dX11_play_7 : decode cX11_play 7 = .ok (.aload_n 0, 1) := by decide +kernel
theorem dX11_play_8 : decode cX11_play 8 = .ok (.getfield 10, 3) := by decide +kernel
theorem dX11_play_11 : decode cX11_play 11 = .ok (.iload_n 2, 1) := by decide +kernel
theorem dX11_play_12 : decode cX11_play 12 = .ok (.invokevirtual 116, 3) := by decide +kernel
theorem dX11_play_15 : decode cX11_play 15 = .ok (.ifCond .ne 5, 3) := by decide +kernel
theorem dX11_play_18 : decode cX11_play 18 = .ok (.iconst (-1), 1) := by decide +kernel
theorem dX11_play_19 : decode cX11_play 19 = .ok (.ireturn, 1) := by decide +kernel
theorem dX11_play_20 : decode cX11_play 20 = .ok (.aload_n 0, 1) := by decide +kernel
theorem dX11_play_21 : decode cX11_play 21 = .ok (.getfield 10, 3) := by decide +kernel
theorem dX11_play_24 : decode cX11_play 24 = .ok (.getfield 120, 3) := by decide +kernel
theorem dX11_play_27 : decode cX11_play 27 = .ok (.iload_n 2, 1) := by decide +kernel
theorem dX11_play_28 : decode cX11_play 28 = .ok (.aaload, 1) := by decide +kernel
theorem dX11_play_29 : decode cX11_play 29 = .ok (.astore_n 3, 1) := by decide +kernel
theorem dX11_play_30 : decode cX11_play 30 = .ok (.aload_n 3, 1) := by decide +kernel
theorem dX11_play_31 : decode cX11_play 31 = .ok (.iconst 1, 1) := by decide +kernel
theorem dX11_play_32 : decode cX11_play 32 = .ok (.invokevirtual 144, 3) := by decide +kernel
theorem dX11_play_35 : decode cX11_play 35 = .ok (.ifCond .ne 9, 3) := by decide +kernel
theorem dX11_play_38 : decode cX11_play 38 = .ok (.aload_n 0, 1) := by decide +kernel
theorem dX11_play_39 : decode cX11_play 39 = .ok (.iconst 3, 1) := by decide +kernel
theorem dX11_play_40 : decode cX11_play 40 = .ok (.invokevirtual 147, 3) := by decide +kernel
theorem dX11_play_43 : decode cX11_play 43 = .ok (.ireturn, 1) := by decide +kernel
theorem dX11_play_44 : decode cX11_play 44 = .ok (.aload_n 0, 1) := by decide +kernel
theorem dX11_play_45 : decode cX11_play 45 = .ok (.getfield 72, 3) := by decide +kernel
theorem dX11_play_48 : decode cX11_play 48 = .ok (.getfield 276, 3) := by decide +kernel
theorem dX11_play_51 : decode cX11_play 51 = .ok (.iload_n 1, 1) := by decide +kernel
theorem dX11_play_52 : decode cX11_play 52 = .ok (.iaload, 1) := by decide +kernel
theorem dX11_play_53 : decode cX11_play 53 = .ok (.iconst (-1), 1) := by decide +kernel
theorem dX11_play_54 : decode cX11_play 54 = .ok (.if_icmp .ne 9, 3) := by decide +kernel
theorem dX11_play_57 : decode cX11_play 57 = .ok (.aload_n 0, 1) := by decide +kernel
theorem dX11_play_58 : decode cX11_play 58 = .ok (.iconst 1, 1) := by decide +kernel
theorem dX11_play_59 : decode cX11_play 59 = .ok (.invokevirtual 147, 3) := by decide +kernel
theorem dX11_play_62 : decode cX11_play 62 = .ok (.ireturn, 1) := by decide +kernel
theorem dX11_play_63 : decode cX11_play 63 = .ok (.iconst 0, 1) := by decide +kernel
theorem dX11_play_64 : decode cX11_play 64 = .ok (.istore 4, 2) := by decide +kernel
theorem dX11_play_66 : decode cX11_play 66 = .ok (.iload 4, 2) := by decide +kernel
theorem dX11_play_68 : decode cX11_play 68 = .ok (.aload_n 0, 1) := by decide +kernel
theorem dX11_play_69 : decode cX11_play 69 = .ok (.getfield 72, 3) := by decide +kernel
theorem dX11_play_72 : decode cX11_play 72 = .ok (.getfield 276, 3) := by decide +kernel
theorem dX11_play_75 : decode cX11_play 75 = .ok (.iload_n 1, 1) := by decide +kernel
theorem dX11_play_76 : decode cX11_play 76 = .ok (.iaload, 1) := by decide +kernel
theorem dX11_play_77 : decode cX11_play 77 = .ok (.if_icmp .ge 31, 3) := by decide +kernel
theorem dX11_play_80 : decode cX11_play 80 = .ok (.aload_n 3, 1) := by decide +kernel
theorem dX11_play_81 : decode cX11_play 81 = .ok (.iload 4, 2) := by decide +kernel
theorem dX11_play_83 : decode cX11_play 83 = .ok (.aload_n 0, 1) := by decide +kernel
theorem dX11_play_84 : decode cX11_play 84 = .ok (.getfield 72, 3) := by decide +kernel
theorem dX11_play_87 : decode cX11_play 87 = .ok (.getfield 279, 3) := by decide +kernel
theorem dX11_play_90 : decode cX11_play 90 = .ok (.iload_n 1, 1) := by decide +kernel
theorem dX11_play_91 : decode cX11_play 91 = .ok (.aaload, 1) := by decide +kernel
theorem dX11_play_92 : decode cX11_play 92 = .ok (.iload 4, 2) := by decide +kernel
theorem dX11_play_94 : decode cX11_play 94 = .ok (.baload, 1) := by decide +kernel
theorem dX11_play_95 : decode cX11_play 95 = .ok (.sipush 255, 3) := by decide +kernel
theorem dX11_play_98 : decode cX11_play 98 = .ok (.iand, 1) := by decide +kernel
theorem dX11_play_99 : decode cX11_play 99 = .ok (.invokevirtual 168, 3) := by decide +kernel
theorem dX11_play_102 : decode cX11_play 102 = .ok (.iinc 4 1, 3) := by decide +kernel
theorem dX11_play_105 : decode cX11_play 105 = .ok (.goto (-39), 3) := by decide +kernel
theorem dX11_play_108 : decode cX11_play 108 = .ok (.aload_n 0, 1) := by decide +kernel
theorem dX11_play_109 : decode cX11_play 109 = .ok (.getfield 72, 3) := by decide +kernel
theorem dX11_play_112 : decode cX11_play 112 = .ok (.getfield 276, 3) := by decide +kernel
theorem dX11_play_115 : decode cX11_play 115 = .ok (.iload_n 1, 1) := by decide +kernel
theorem dX11_play_116 : decode cX11_play 116 = .ok (.iaload, 1) := by decide +kernel
theorem dX11_play_117 : decode cX11_play 117 = .ok (.ireturn, 1) := by decide +kernel
theorem dX11_tear_0 : decode cX11_tear 0 = .ok (.iload_n 1, 1) := by decide +kernel
theorem dX11_tear_1 : decode cX11_tear 1 = .ok (.invokestatic 270, 3) := by decide +kernel
theorem dX11_tear_4 : decode cX11_tear 4 = .ok (.ifCond .ne 5, 3) := by decide +kernel
theorem dX11_tear_7 : decode cX11_tear 7 = .ok (.iconst (-1), 1) := by decide +kernel
theorem dX11_tear_8 : decode cX11_tear 8 = .ok (.ireturn, 1) := by decide +kernel
theorem dX11_tear_9 : decode cX11_tear 9 = .ok (.aload_n 0, 1) := by decide +kernel
theorem dX11_tear_10 : decode cX11_tear 10 = .ok (.getfield 72, 3) := by decide +kernel
theorem dX11_tear_13 : decode cX11_tear 13 = .ok (.getfield 276, 3) := by decide +kernel
theorem dX11_tear_16 : decode cX11_tear 16 = .ok (.iload_n 1, 1) := by decide +kernel
theorem dX11_tear_17 : decode cX11_tear 17 = .ok (.iaload, 1) := by decide +kernel
theorem dX11_tear_18 : decode cX11_tear 18 = .ok (.iconst (-1), 1) := by decide +kernel
theorem dX11_tear_19 : decode cX11_tear 19 = .ok (.if_icmp .ne 9, 3) := by decide +kernel
theorem dX11_tear_22 : decode cX11_tear 22 = .ok (.aload_n 0, 1) := by decide +kernel
theorem dX11_tear_23 : decode cX11_tear 23 = .ok (.iconst 1, 1) := by decide +kernel
theorem dX11_tear_24 : decode cX11_tear 24 = .ok (.invokevirtual 147, 3) := by decide +kernel
theorem dX11_tear_27 : decode cX11_tear 27 = .ok (.ireturn, 1) := by decide +kernel
theorem dX11_tear_28 : decode cX11_tear 28 = .ok (.aload_n 0, 1) := by decide +kernel
theorem dX11_tear_29 : decode cX11_tear 29 = .ok (.getfield 72, 3) := by decide +kernel
theorem dX11_tear_32 : decode cX11_tear 32 = .ok (.getfield 276, 3) := by decide +kernel
theorem dX11_tear_35 : decode cX11_tear 35 = .ok (.iload_n 1, 1) := by decide +kernel
theorem dX11_tear_36 : decode cX11_tear 36 = .ok (.iconst (-1), 1) := by decide +kernel
theorem dX11_tear_37 : decode cX11_tear 37 = .ok (.iastore, 1) := by decide +kernel
theorem dX11_tear_38 : decode cX11_tear 38 = .ok (.iconst 1, 1) := by decide +kernel
theorem dX11_tear_39 : decode cX11_tear 39 = .ok (.ireturn, 1) := by decide +kernel
theorem dX11_copy_0 : decode cX11_copy 0 = .ok (.iload_n 1, 1) := by decide +kernel
theorem dX11_copy_1 : decode cX11_copy 1 = .ok (.invokestatic 270, 3) := by decide +kernel
theorem dX11_copy_4 : decode cX11_copy 4 = .ok (.ifCond .eq 10, 3) := by decide +kernel
theorem dX11_copy_7 : decode cX11_copy 7 = .ok (.iload_n 3, 1) := by decide +kernel
theorem dX11_copy_8 : decode cX11_copy 8 = .ok (.invokestatic 270, 3) := by decide +kernel
theorem dX11_copy_11 : decode cX11_copy 11 = .ok (.ifCond .ne 5, 3) := by decide +kernel
theorem dX11_copy_14 : decode cX11_copy 14 = .ok (.iconst (-1), 1) := by decide +kernel
theorem dX11_copy_15 : decode cX11_copy 15 = .ok (.ireturn, 1) := by decide +kernel
theorem dX11_copy_16 : decode cX11_copy 16 = .ok (.iload 5, 2) := by decide +kernel
theorem dX11_copy_18 : decode cX11_copy 18 = .ok (.ifCond .ge 9, 3) := by decide +kernel
theorem dX11_copy_21 : decode cX11_copy 21 = .ok (.aload_n 0, 1) := by decide +kernel
theorem dX11_copy_22 : decode cX11_copy 22 = .ok (.iconst 5, 1) := by decide +kernel
theorem dX11_copy_23 : decode cX11_copy 23 = .ok (.invokevirtual 147, 3) := by decide +kernel
theorem dX11_copy_26 : decode cX11_copy 26 = .ok (.ireturn, 1) := by decide +kernel
theorem dX11_copy_27 : decode cX11_copy 27 = .ok (.aload_n 0, 1) := by decide +kernel
theorem dX11_copy_28 : decode cX11_copy 28 = .ok (.getfield 72, 3) := by decide +kernel
theorem dX11_copy_31 : decode cX11_copy 31 = .ok (.getfield 276, 3) := by decide +kernel
theorem dX11_copy_34 : decode cX11_copy 34 = .ok (.iload_n 1, 1) := by decide +kernel
theorem dX11_copy_35 : decode cX11_copy 35 = .ok (.iaload, 1) := by decide +kernel
theorem dX11_copy_36 : decode cX11_copy 36 = .ok (.iconst (-1), 1) := by decide +kernel
theorem dX11_copy_37 : decode cX11_copy 37 = .ok (.if_icmp .eq 16, 3) := by decide +kernel
theorem dX11_copy_40 : decode cX11_copy 40 = .ok (.aload_n 0, 1) := by decide +kernel
theorem dX11_copy_41 : decode cX11_copy 41 = .ok (.getfield 72, 3) := by decide +kernel
theorem dX11_copy_44 : decode cX11_copy 44 = .ok (.getfield 276, 3) := by decide +kernel
theorem dX11_copy_47 : decode cX11_copy 47 = .ok (.iload_n 3, 1) := by decide +kernel
theorem dX11_copy_48 : decode cX11_copy 48 = .ok (.iaload, 1) := by decide +kernel
theorem dX11_copy_49 : decode cX11_copy 49 = .ok (.iconst (-1), 1) := by decide +kernel
theorem dX11_copy_50 : decode cX11_copy 50 = .ok (.if_icmp .ne 9, 3) := by decide +kernel
theorem dX11_copy_53 : decode cX11_copy 53 = .ok (.aload_n 0, 1) := by decide +kernel
theorem dX11_copy_54 : decode cX11_copy 54 = .ok (.iconst 1, 1) := by decide +kernel
theorem dX11_copy_55 : decode cX11_copy 55 = .ok (.invokevirtual 147, 3) := by decide +kernel
theorem dX11_copy_58 : decode cX11_copy 58 = .ok (.ireturn, 1) := by decide +kernel
theorem dX11_copy_59 : decode cX11_copy 59 = .ok (.aload_n 0, 1) := by decide +kernel
theorem dX11_copy_60 : decode cX11_copy 60 = .ok (.getfield 72, 3) := by decide +kernel
theorem dX11_copy_63 : decode cX11_copy 63 = .ok (.iload_n 1, 1) := by decide +kernel
theorem dX11_copy_64 : decode cX11_copy 64 = .ok (.iload_n 2, 1) := by decide +kernel
theorem dX11_copy_65 : decode cX11_copy 65 = .ok (.iload 5, 2) := by decide +kernel
theorem dX11_copy_67 : decode cX11_copy 67 = .ok (.invokevirtual 283, 3) := by decide +kernel
theorem dX11_copy_70 : decode cX11_copy 70 = .ok (.ifCond .eq 18, 3) := by decide +kernel
theorem dX11_copy_73 : decode cX11_copy 73 = .ok (.aload_n 0, 1) := by decide +kernel
theorem dX11_copy_74 : decode cX11_copy 74 = .ok (.getfield 72, 3) := by decide +kernel
theorem dX11_copy_77 : decode cX11_copy 77 = .ok (.iload_n 3, 1) := by decide +kernel
theorem dX11_copy_78 : decode cX11_copy 78 = .ok (.iload 4, 2) := by decide +kernel
theorem dX11_copy_80 : decode cX11_copy 80 = .ok (.iload 5, 2) := by decide +kernel
theorem dX11_copy_82 : decode cX11_copy 82 = .ok (.invokevirtual 283, 3) := by decide +kernel
theorem dX11_copy_85 : decode cX11_copy 85 = .ok (.ifCond .ne 9, 3) := by decide +kernel
theorem dX11_copy_88 : decode cX11_copy 88 = .ok (.aload_n 0, 1) := by decide +kernel
theorem dX11_copy_89 : decode cX11_copy 89 = .ok (.iconst 2, 1) := by decide +kernel
theorem dX11_copy_90 : decode cX11_copy 90 = .ok (.invokevirtual 147, 3) := by decide +kernel
theorem dX11_copy_93 : decode cX11_copy 93 = .ok (.ireturn, 1) := by decide +kernel
theorem dX11_copy_94 : decode cX11_copy 94 = .ok (.aload_n 0, 1) := by decide +kernel
theorem dX11_copy_95 : decode cX11_copy 95 = .ok (.getfield 72, 3) := by decide +kernel
theorem dX11_copy_98 : decode cX11_copy 98 = .ok (.getfield 279, 3) := by decide +kernel
theorem dX11_copy_101 : decode cX11_copy 101 = .ok (.iload_n 1, 1) := by decide +kernel
theorem dX11_copy_102 : decode cX11_copy 102 = .ok (.aaload, 1) := by decide +kernel
theorem dX11_copy_103 : decode cX11_copy 103 = .ok (.iload_n 2, 1) := by decide +kernel
theorem dX11_copy_104 : decode cX11_copy 104 = .ok (.aload_n 0, 1) := by decide +kernel
theorem dX11_copy_105 : decode cX11_copy 105 = .ok (.getfield 72, 3) := by decide +kernel
theorem dX11_copy_108 : decode cX11_copy 108 = .ok (.getfield 279, 3) := by decide +kernel
theorem dX11_copy_111 : decode cX11_copy 111 = .ok (.iload_n 3, 1) := by decide +kernel
theorem dX11_copy_112 : decode cX11_copy 112 = .ok (.aaload, 1) := by decide +kernel
theorem dX11_copy_113 : decode cX11_copy 113 = .ok (.iload 4, 2) := by decide +kernel
theorem dX11_copy_115 : decode cX11_copy 115 = .ok (.iload 5, 2) := by decide +kernel
theorem dX11_copy_117 : decode cX11_copy 117 = .ok (.invokestatic 287, 3) := by decide +kernel
theorem dX11_copy_120 : decode cX11_copy 120 = .ok (.iconst 1, 1) := by decide +kernel
theorem dX11_copy_121 : decode cX11_copy 121 = .ok (.ireturn, 1) := by decide +kernel
theorem dX11_asked_0 : decode cX11_asked 0 = .ok (.aload_n 0, 1) := by decide +kernel
theorem dX11_asked_1 : decode cX11_asked 1 = .ok (.getfield 87, 3) := by decide +kernel
theorem dX11_asked_4 : decode cX11_asked 4 = .ok (.lreturn, 1) := by decide +kernel
theorem dX11_count_0 : decode cX11_count 0 = .ok (.iload_n 1, 1) := by decide +kernel
theorem dX11_count_1 : decode cX11_count 1 = .ok (.tableswitch 75 0 4 #[35, 43, 51, 59, 67], 35) := by decide +kernel
theorem dX11_count_36 : decode cX11_count 36 = .ok (.aload_n 0, 1) := by decide +kernel
theorem dX11_count_37 : decode cX11_count 37 = .ok (.getfield 10, 3) := by decide +kernel
theorem dX11_count_40 : decode cX11_count 40 = .ok (.getfield 293, 3) := by decide +kernel
theorem dX11_count_43 : decode cX11_count 43 = .ok (.ireturn, 1) := by decide +kernel
theorem dX11_count_44 : decode cX11_count 44 = .ok (.aload_n 0, 1) := by decide +kernel
theorem dX11_count_45 : decode cX11_count 45 = .ok (.getfield 10, 3) := by decide +kernel
theorem dX11_count_48 : decode cX11_count 48 = .ok (.getfield 109, 3) := by decide +kernel
theorem dX11_count_51 : decode cX11_count 51 = .ok (.ireturn, 1) := by decide +kernel
theorem dX11_count_52 : decode cX11_count 52 = .ok (.aload_n 0, 1) := by decide +kernel
theorem dX11_count_53 : decode cX11_count 53 = .ok (.getfield 10, 3) := by decide +kernel
theorem dX11_count_56 : decode cX11_count 56 = .ok (.invokevirtual 296, 3) := by decide +kernel
theorem dX11_count_59 : decode cX11_count 59 = .ok (.ireturn, 1) := by decide +kernel
theorem dX11_count_60 : decode cX11_count 60 = .ok (.aload_n 0, 1) := by decide +kernel
theorem dX11_count_61 : decode cX11_count 61 = .ok (.getfield 10, 3) := by decide +kernel
theorem dX11_count_64 : decode cX11_count 64 = .ok (.invokevirtual 299, 3) := by decide +kernel
theorem dX11_count_67 : decode cX11_count 67 = .ok (.ireturn, 1) := by decide +kernel
theorem dX11_count_68 : decode cX11_count 68 = .ok (.aload_n 0, 1) := by decide +kernel
theorem dX11_count_69 : decode cX11_count 69 = .ok (.getfield 19, 3) := by decide +kernel
theorem dX11_count_72 : decode cX11_count 72 = .ok (.invokevirtual 302, 3) := by decide +kernel
theorem dX11_count_75 : decode cX11_count 75 = .ok (.ireturn, 1) := by decide +kernel
theorem dX11_count_76 : decode cX11_count 76 = .ok (.iconst (-1), 1) := by decide +kernel
theorem dX11_count_77 : decode cX11_count 77 = .ok (.ireturn, 1) := by decide +kernel
theorem dX11_finding_0 : decode cX11_finding 0 = .ok (.aload_n 0, 1) := by decide +kernel
theorem dX11_finding_1 : decode cX11_finding 1 = .ok (.getfield 91, 3) := by decide +kernel
theorem dX11_finding_4 : decode cX11_finding 4 = .ok (.ireturn, 1) := by decide +kernel
theorem dX11_findings_0 : decode cX11_findings 0 = .ok (.iload_n 1, 1) := by decide +kernel
theorem dX11_findings_1 : decode cX11_findings 1 = .ok (.iconst 1, 1) := by decide +kernel
theorem dX11_findings_2 : decode cX11_findings 2 = .ok (.if_icmp .lt 17, 3) := by decide +kernel
theorem dX11_findings_5 : decode cX11_findings 5 = .ok (.iload_n 1, 1) := by decide +kernel
theorem dX11_findings_6 : decode cX11_findings 6 = .ok (.iconst 5, 1) := by decide +kernel
theorem dX11_findings_7 : decode cX11_findings 7 = .ok (.if_icmp .gt 12, 3) := by decide +kernel
theorem dX11_findings_10 : decode cX11_findings 10 = .ok (.aload_n 0, 1) := by decide +kernel
theorem dX11_findings_11 : decode cX11_findings 11 = .ok (.getfield 94, 3) := by decide +kernel
theorem dX11_findings_14 : decode cX11_findings 14 = .ok (.iload_n 1, 1) := by decide +kernel
theorem dX11_findings_15 : decode cX11_findings 15 = .ok (.iaload, 1) := by decide +kernel
theorem dX11_findings_16 : decode cX11_findings 16 = .ok (.goto 4, 3) := by decide +kernel
theorem dX11_findings_19 : decode cX11_findings 19 = .ok (.iconst (-1), 1) := by decide +kernel
theorem dX11_findings_20 : decode cX11_findings 20 = .ok (.ireturn, 1) := by decide +kernel
theorem dX11_digest_0 : decode cX11_digest 0 = .ok (.ldc2_w 305, 3) := by decide +kernel
theorem dX11_digest_3 : decode cX11_digest 3 = .ok (.lstore_n 1, 1) := by decide +kernel
theorem dX11_digest_4 : decode cX11_digest 4 = .ok (.iconst 0, 1) := by decide +kernel
theorem dX11_digest_5 : decode cX11_digest 5 = .ok (.istore_n 3, 1) := by decide +kernel
theorem dX11_digest_6 : decode cX11_digest 6 = .ok (.iload_n 3, 1) := by decide +kernel
theorem dX11_digest_7 : decode cX11_digest 7 = .ok (.iconst 4, 1) := by decide +kernel
theorem dX11_digest_8 : decode cX11_digest 8 = .ok (.if_icmp .gt 22, 3) := by decide +kernel
theorem dX11_digest_11 : decode cX11_digest 11 = .ok (.ldc2_w 307, 3) := by decide +kernel
theorem dX11_digest_14 : decode cX11_digest 14 = .ok (.lload_n 1, 1) := by decide +kernel
theorem dX11_digest_15 : decode cX11_digest 15 = .ok (.lmul, 1) := by decide +kernel
theorem dX11_digest_16 : decode cX11_digest 16 = .ok (.aload_n 0, 1) := by decide +kernel
theorem dX11_digest_17 : decode cX11_digest 17 = .ok (.iload_n 3, 1) := by decide +kernel
theorem dX11_digest_18 : decode cX11_digest 18 = .ok (.invokevirtual 309, 3) := by decide +kernel
theorem dX11_digest_21 : decode cX11_digest 21 = .ok (.i2l, 1) := by decide +kernel
theorem dX11_digest_22 : decode cX11_digest 22 = .ok (.ladd, 1) := by decide +kernel
theorem dX11_digest_23 : decode cX11_digest 23 = .ok (.lstore_n 1, 1) := by decide +kernel
theorem dX11_digest_24 : decode cX11_digest 24 = .ok (.iinc 3 1, 3) := by decide +kernel
theorem dX11_digest_27 : decode cX11_digest 27 = .ok (.goto (-21), 3) := by decide +kernel
theorem dX11_digest_30 : decode cX11_digest 30 = .ok (.iconst 0, 1) := by decide +kernel
theorem dX11_digest_31 : decode cX11_digest 31 = .ok (.istore_n 3, 1) := by decide +kernel
theorem dX11_digest_32 : decode cX11_digest 32 = .ok (.iload_n 3, 1) := by decide +kernel
theorem dX11_digest_33 : decode cX11_digest 33 = .ok (.aload_n 0, 1) := by decide +kernel
theorem dX11_digest_34 : decode cX11_digest 34 = .ok (.getfield 10, 3) := by decide +kernel
theorem dX11_digest_37 : decode cX11_digest 37 = .ok (.getfield 109, 3) := by decide +kernel
theorem dX11_digest_40 : decode cX11_digest 40 = .ok (.if_icmp .ge 16, 3) := by decide +kernel
theorem dX11_digest_43 : decode cX11_digest 43 = .ok (.aload_n 0, 1) := by decide +kernel
theorem dX11_digest_44 : decode cX11_digest 44 = .ok (.lload_n 1, 1) := by decide +kernel
theorem dX11_digest_45 : decode cX11_digest 45 = .ok (.iload_n 3, 1) := by decide +kernel
theorem dX11_digest_46 : decode cX11_digest 46 = .ok (.invokevirtual 312, 3) := by decide +kernel
theorem dX11_digest_49 : decode cX11_digest 49 = .ok (.lstore_n 1, 1) := by decide +kernel
theorem dX11_digest_50 : decode cX11_digest 50 = .ok (.iinc 3 1, 3) := by decide +kernel
theorem dX11_digest_53 : decode cX11_digest 53 = .ok (.goto (-21), 3) := by decide +kernel
theorem dX11_digest_56 : decode cX11_digest 56 = .ok (.iconst 0, 1) := by decide +kernel
theorem dX11_digest_57 : decode cX11_digest 57 = .ok (.istore_n 3, 1) := by decide +kernel
theorem dX11_digest_58 : decode cX11_digest 58 = .ok (.iload_n 3, 1) := by decide +kernel
theorem dX11_digest_59 : decode cX11_digest 59 = .ok (.aload_n 0, 1) := by decide +kernel
theorem dX11_digest_60 : decode cX11_digest 60 = .ok (.getfield 10, 3) := by decide +kernel
theorem dX11_digest_63 : decode cX11_digest 63 = .ok (.getfield 293, 3) := by decide +kernel
theorem dX11_digest_66 : decode cX11_digest 66 = .ok (.if_icmp .ge 87, 3) := by decide +kernel
theorem dX11_digest_69 : decode cX11_digest 69 = .ok (.iconst 0, 1) := by decide +kernel
theorem dX11_digest_70 : decode cX11_digest 70 = .ok (.istore 4, 2) := by decide +kernel
theorem dX11_digest_72 : decode cX11_digest 72 = .ok (.iload 4, 2) := by decide +kernel
theorem dX11_digest_74 : decode cX11_digest 74 = .ok (.aload_n 0, 1) := by decide +kernel
theorem dX11_digest_75 : decode cX11_digest 75 = .ok (.getfield 10, 3) := by decide +kernel
theorem dX11_digest_78 : decode cX11_digest 78 = .ok (.getfield 293, 3) := by decide +kernel
theorem dX11_digest_81 : decode cX11_digest 81 = .ok (.if_icmp .ge 66, 3) := by decide +kernel
theorem dX11_digest_84 : decode cX11_digest 84 = .ok (.iload_n 3, 1) := by decide +kernel
theorem dX11_digest_85 : decode cX11_digest 85 = .ok (.iload 4, 2) := by decide +kernel
theorem dX11_digest_87 : decode cX11_digest 87 = .ok (.if_icmp .ne 6, 3) := by decide +kernel
theorem dX11_digest_90 : decode cX11_digest 90 = .ok (.goto 51, 3) := by decide +kernel
theorem dX11_digest_93 : decode cX11_digest 93 = .ok (.aload_n 0, 1) := by decide +kernel
theorem dX11_digest_94 : decode cX11_digest 94 = .ok (.getfield 10, 3) := by decide +kernel
theorem dX11_digest_97 : decode cX11_digest 97 = .ok (.iload_n 3, 1) := by decide +kernel
theorem dX11_digest_98 : decode cX11_digest 98 = .ok (.iload 4, 2) := by decide +kernel
theorem dX11_digest_100 : decode cX11_digest 100 = .ok (.invokevirtual 182, 3) := by decide +kernel
theorem dX11_digest_103 : decode cX11_digest 103 = .ok (.istore 5, 2) := by decide +kernel
theorem dX11_digest_105 : decode cX11_digest 105 = .ok (.ldc2_w 307, 3) := by decide +kernel
theorem dX11_digest_108 : decode cX11_digest 108 = .ok (.lload_n 1, 1) := by decide +kernel
theorem dX11_digest_109 : decode cX11_digest 109 = .ok (.lmul, 1) := by decide +kernel
theorem dX11_digest_110 : decode cX11_digest 110 = .ok (.aload_n 0, 1) := by decide +kernel
theorem dX11_digest_111 : decode cX11_digest 111 = .ok (.getfield 10, 3) := by decide +kernel
theorem dX11_digest_114 : decode cX11_digest 114 = .ok (.getfield 194, 3) := by decide +kernel
theorem dX11_digest_117 : decode cX11_digest 117 = .ok (.iload 5, 2) := by decide +kernel
theorem dX11_digest_119 : decode cX11_digest 119 = .ok (.iaload, 1) := by decide +kernel
theorem dX11_digest_120 : decode cX11_digest 120 = .ok (.i2l, 1) := by decide +kernel
theorem dX11_digest_121 : decode cX11_digest 121 = .ok (.ladd, 1) := by decide +kernel
theorem dX11_digest_122 : decode cX11_digest 122 = .ok (.lstore_n 1, 1) := by decide +kernel
theorem dX11_digest_123 : decode cX11_digest 123 = .ok (.ldc2_w 307, 3) := by decide +kernel
theorem dX11_digest_126 : decode cX11_digest 126 = .ok (.lload_n 1, 1) := by decide +kernel
theorem dX11_digest_127 : decode cX11_digest 127 = .ok (.lmul, 1) := by decide +kernel
theorem dX11_digest_128 : decode cX11_digest 128 = .ok (.aload_n 0, 1) := by decide +kernel
theorem dX11_digest_129 : decode cX11_digest 129 = .ok (.getfield 10, 3) := by decide +kernel
theorem dX11_digest_132 : decode cX11_digest 132 = .ok (.getfield 51, 3) := by decide +kernel
theorem dX11_digest_135 : decode cX11_digest 135 = .ok (.iload 5, 2) := by decide +kernel
theorem dX11_digest_137 : decode cX11_digest 137 = .ok (.iaload, 1) := by decide +kernel
theorem dX11_digest_138 : decode cX11_digest 138 = .ok (.i2l, 1) := by decide +kernel
theorem dX11_digest_139 : decode cX11_digest 139 = .ok (.ladd, 1) := by decide +kernel
theorem dX11_digest_140 : decode cX11_digest 140 = .ok (.lstore_n 1, 1) := by decide +kernel
theorem dX11_digest_141 : decode cX11_digest 141 = .ok (.iinc 4 1, 3) := by decide +kernel
theorem dX11_digest_144 : decode cX11_digest 144 = .ok (.goto (-72), 3) := by decide +kernel
theorem dX11_digest_147 : decode cX11_digest 147 = .ok (.iinc 3 1, 3) := by decide +kernel
theorem dX11_digest_150 : decode cX11_digest 150 = .ok (.goto (-92), 3) := by decide +kernel
theorem dX11_digest_153 : decode cX11_digest 153 = .ok (.iconst 0, 1) := by decide +kernel
theorem dX11_digest_154 : decode cX11_digest 154 = .ok (.istore_n 3, 1) := by decide +kernel
theorem dX11_digest_155 : decode cX11_digest 155 = .ok (.iload_n 3, 1) := by decide +kernel
theorem dX11_digest_156 : decode cX11_digest 156 = .ok (.iconst 4, 1) := by decide +kernel
theorem dX11_digest_157 : decode cX11_digest 157 = .ok (.if_icmp .ge 16, 3) := by decide +kernel
theorem dX11_digest_160 : decode cX11_digest 160 = .ok (.aload_n 0, 1) := by decide +kernel
theorem dX11_digest_161 : decode cX11_digest 161 = .ok (.lload_n 1, 1) := by decide +kernel
theorem dX11_digest_162 : decode cX11_digest 162 = .ok (.iload_n 3, 1) := by decide +kernel
theorem dX11_digest_163 : decode cX11_digest 163 = .ok (.invokevirtual 316, 3) := by decide +kernel
theorem dX11_digest_166 : decode cX11_digest 166 = .ok (.lstore_n 1, 1) := by decide +kernel
theorem dX11_digest_167 : decode cX11_digest 167 = .ok (.iinc 3 1, 3) := by decide +kernel
theorem dX11_digest_170 : decode cX11_digest 170 = .ok (.goto (-15), 3) := by decide +kernel
theorem dX11_digest_173 : decode cX11_digest 173 = .ok (.lload_n 1, 1) := by decide +kernel
theorem dX11_digest_174 : decode cX11_digest 174 = .ok (.lreturn, 1) := by decide +kernel
theorem dX11_isHour_0 : decode cX11_isHour 0 = .ok (.iload_n 0, 1) := by decide +kernel
theorem dX11_isHour_1 : decode cX11_isHour 1 = .ok (.ifCond .lt 13, 3) := by decide +kernel
theorem dX11_isHour_4 : decode cX11_isHour 4 = .ok (.iload_n 0, 1) := by decide +kernel
theorem dX11_isHour_5 : decode cX11_isHour 5 = .ok (.bipush 24, 2) := by decide +kernel
theorem dX11_isHour_7 : decode cX11_isHour 7 = .ok (.if_icmp .ge 7, 3) := by decide +kernel
theorem dX11_isHour_10 : decode cX11_isHour 10 = .ok (.iconst 1, 1) := by decide +kernel
theorem dX11_isHour_11 : decode cX11_isHour 11 = .ok (.goto 4, 3) := by decide +kernel
theorem dX11_isHour_14 : decode cX11_isHour 14 = .ok (.iconst 0, 1) := by decide +kernel
theorem dX11_isHour_15 : decode cX11_isHour 15 = .ok (.ireturn, 1) := by decide +kernel
theorem dX11_isLoadOrNone_0 : decode cX11_isLoadOrNone 0 = .ok (.iload_n 0, 1) := by decide +kernel
theorem dX11_isLoadOrNone_1 : decode cX11_isLoadOrNone 1 = .ok (.bipush (-9), 2) := by decide +kernel
theorem dX11_isLoadOrNone_3 : decode cX11_isLoadOrNone 3 = .ok (.if_icmp .eq 14, 3) := by decide +kernel
theorem dX11_isLoadOrNone_6 : decode cX11_isLoadOrNone 6 = .ok (.iload_n 0, 1) := by decide +kernel
theorem dX11_isLoadOrNone_7 : decode cX11_isLoadOrNone 7 = .ok (.ifCond .lt 14, 3) := by decide +kernel
theorem dX11_isLoadOrNone_10 : decode cX11_isLoadOrNone 10 = .ok (.iload_n 0, 1) := by decide +kernel
theorem dX11_isLoadOrNone_11 : decode cX11_isLoadOrNone 11 = .ok (.sipush 200, 3) := by decide +kernel
theorem dX11_isLoadOrNone_14 : decode cX11_isLoadOrNone 14 = .ok (.if_icmp .gt 7, 3) := by decide +kernel
theorem dX11_isLoadOrNone_17 : decode cX11_isLoadOrNone 17 = .ok (.iconst 1, 1) := by decide +kernel
theorem dX11_isLoadOrNone_18 : decode cX11_isLoadOrNone 18 = .ok (.goto 4, 3) := by decide +kernel
theorem dX11_isLoadOrNone_21 : decode cX11_isLoadOrNone 21 = .ok (.iconst 0, 1) := by decide +kernel
theorem dX11_isLoadOrNone_22 : decode cX11_isLoadOrNone 22 = .ok (.ireturn, 1) := by decide +kernel
theorem dX11_isTries_0 : decode cX11_isTries 0 = .ok (.iload_n 0, 1) := by decide +kernel
theorem dX11_isTries_1 : decode cX11_isTries 1 = .ok (.iconst 1, 1) := by decide +kernel
theorem dX11_isTries_2 : decode cX11_isTries 2 = .ok (.if_icmp .lt 14, 3) := by decide +kernel
theorem dX11_isTries_5 : decode cX11_isTries 5 = .ok (.iload_n 0, 1) := by decide +kernel
theorem dX11_isTries_6 : decode cX11_isTries 6 = .ok (.sipush 20000, 3) := by decide +kernel
theorem dX11_isTries_9 : decode cX11_isTries 9 = .ok (.if_icmp .gt 7, 3) := by decide +kernel
theorem dX11_isTries_12 : decode cX11_isTries 12 = .ok (.iconst 1, 1) := by decide +kernel
theorem dX11_isTries_13 : decode cX11_isTries 13 = .ok (.goto 4, 3) := by decide +kernel
theorem dX11_isTries_16 : decode cX11_isTries 16 = .ok (.iconst 0, 1) := by decide +kernel
theorem dX11_isTries_17 : decode cX11_isTries 17 = .ok (.ireturn, 1) := by decide +kernel
theorem dX11_isSheet_0 : decode cX11_isSheet 0 = .ok (.iload_n 0, 1) := by decide +kernel
theorem dX11_isSheet_1 : decode cX11_isSheet 1 = .ok (.ifCond .lt 12, 3) := by decide +kernel
theorem dX11_isSheet_4 : decode cX11_isSheet 4 = .ok (.iload_n 0, 1) := by decide +kernel
theorem dX11_isSheet_5 : decode cX11_isSheet 5 = .ok (.iconst 4, 1) := by decide +kernel
theorem dX11_isSheet_6 : decode cX11_isSheet 6 = .ok (.if_icmp .ge 7, 3) := by decide +kernel
theorem dX11_isSheet_9 : decode cX11_isSheet 9 = .ok (.iconst 1, 1) := by decide +kernel
theorem dX11_isSheet_10 : decode cX11_isSheet 10 = .ok (.goto 4, 3) := by decide +kernel
theorem dX11_isSheet_13 : decode cX11_isSheet 13 = .ok (.iconst 0, 1) := by decide +kernel
theorem dX11_isSheet_14 : decode cX11_isSheet 14 = .ok (.ireturn, 1) := by decide +kernel
theorem dX11_found_0 : decode cX11_found 0 = .ok (.aload_n 0, 1) := by decide +kernel
theorem dX11_found_1 : decode cX11_found 1 = .ok (.iload_n 1, 1) := by decide +kernel
theorem dX11_found_2 : decode cX11_found 2 = .ok (.putfield 91, 3) := by decide +kernel
theorem dX11_found_5 : decode cX11_found 5 = .ok (.aload_n 0, 1) := by decide +kernel
theorem dX11_found_6 : decode cX11_found 6 = .ok (.getfield 94, 3) := by decide +kernel
theorem dX11_found_9 : decode cX11_found 9 = .ok (.iload_n 1, 1) := by decide +kernel
theorem dX11_found_10 : decode cX11_found 10 = .ok (.dup2, 1) := by decide +kernel
theorem dX11_found_11 : decode cX11_found 11 = .ok (.iaload, 1) := by decide +kernel
theorem dX11_found_12 : decode cX11_found 12 = .ok (.iconst 1, 1) := by decide +kernel
theorem dX11_found_13 : decode cX11_found 13 = .ok (.iadd, 1) := by decide +kernel
theorem dX11_found_14 : decode cX11_found 14 = .ok (.iastore, 1) := by decide +kernel
theorem dX11_found_15 : decode cX11_found 15 = .ok (.bipush (-3), 2) := by decide +kernel
theorem dX11_found_17 : decode cX11_found 17 = .ok (.ireturn, 1) := by decide +kernel
theorem dX11_seekAll_0 : decode cX11_seekAll 0 = .ok (.aload_n 0, 1) := by decide +kernel
theorem dX11_seekAll_1 : decode cX11_seekAll 1 = .ok (.getfield 31, 3) := by decide +kernel
theorem dX11_seekAll_4 : decode cX11_seekAll 4 = .ok (.iload_n 2, 1) := by decide +kernel
theorem dX11_seekAll_5 : decode cX11_seekAll 5 = .ok (.invokevirtual 319, 3) := by decide +kernel
theorem dX11_seekAll_8 : decode cX11_seekAll 8 = .ok (.aload_n 0, 1) := by decide +kernel
theorem dX11_seekAll_9 : decode cX11_seekAll 9 = .ok (.getfield 31, 3) := by decide +kernel
theorem dX11_seekAll_12 : decode cX11_seekAll 12 = .ok (.aload_n 1, 1) := by decide +kernel
theorem dX11_seekAll_13 : decode cX11_seekAll 13 = .ok (.invokevirtual 320, 3) := by decide +kernel
theorem dX11_seekAll_16 : decode cX11_seekAll 16 = .ok (.aload_n 0, 1) := by decide +kernel
theorem dX11_seekAll_17 : decode cX11_seekAll 17 = .ok (.aload_n 0, 1) := by decide +kernel
theorem dX11_seekAll_18 : decode cX11_seekAll 18 = .ok (.getfield 31, 3) := by decide +kernel
theorem dX11_seekAll_21 : decode cX11_seekAll 21 = .ok (.getfield 258, 3) := by decide +kernel
theorem dX11_seekAll_24 : decode cX11_seekAll 24 = .ok (.putfield 83, 3) := by decide +kernel
theorem dX11_seekAll_27 : decode cX11_seekAll 27 = .ok (.aload_n 0, 1) := by decide +kernel
theorem dX11_seekAll_28 : decode cX11_seekAll 28 = .ok (.getfield 31, 3) := by decide +kernel
theorem dX11_seekAll_31 : decode cX11_seekAll 31 = .ok (.getfield 261, 3) := by decide +kernel
theorem dX11_seekAll_34 : decode cX11_seekAll 34 = .ok (.ifCond .ne 7, 3) := by decide +kernel
theorem dX11_seekAll_37 : decode cX11_seekAll 37 = .ok (.iconst 1, 1) := by decide +kernel
theorem dX11_seekAll_38 : decode cX11_seekAll 38 = .ok (.goto 4, 3) := by decide +kernel
theorem dX11_seekAll_41 : decode cX11_seekAll 41 = .ok (.iconst 0, 1) := by decide +kernel
theorem dX11_seekAll_42 : decode cX11_seekAll 42 = .ok (.ireturn, 1) := by decide +kernel
theorem dX11_seekBest_0 : decode cX11_seekBest 0 = .ok (.aload_n 0, 1) := by decide +kernel
theorem dX11_seekBest_1 : decode cX11_seekBest 1 = .ok (.iconst 0, 1) := by decide +kernel
theorem dX11_seekBest_2 : decode cX11_seekBest 2 = .ok (.putfield 79, 3) := by decide +kernel
theorem dX11_seekBest_5 : decode cX11_seekBest 5 = .ok (.aload_n 0, 1) := by decide +kernel
theorem dX11_seekBest_6 : decode cX11_seekBest 6 = .ok (.aload_n 1, 1) := by decide +kernel
theorem dX11_seekBest_7 : decode cX11_seekBest 7 = .ok (.iload_n 2, 1) := by decide +kernel
theorem dX11_seekBest_8 : decode cX11_seekBest 8 = .ok (.invokevirtual 201, 3) := by decide +kernel
theorem dX11_seekBest_11 : decode cX11_seekBest 11 = .ok (.ifCond .ne 5, 3) := by decide +kernel
theorem dX11_seekBest_14 : decode cX11_seekBest 14 = .ok (.iconst 0, 1) := by decide +kernel
theorem dX11_seekBest_15 : decode cX11_seekBest 15 = .ok (.ireturn, 1) := by decide +kernel
theorem dX11_seekBest_16 : decode cX11_seekBest 16 = .ok (.aload_n 1, 1) := by decide +kernel
theorem dX11_seekBest_17 : decode cX11_seekBest 17 = .ok (.getfield 324, 3) := by decide +kernel
theorem dX11_seekBest_20 : decode cX11_seekBest 20 = .ok (.ifCond .eq 11, 3) := by decide +kernel
theorem dX11_seekBest_23 : decode cX11_seekBest 23 = .ok (.aload_n 0, 1) := by decide +kernel
theorem dX11_seekBest_24 : decode cX11_seekBest 24 = .ok (.aload_n 1, 1) := by decide +kernel
theorem dX11_seekBest_25 : decode cX11_seekBest 25 = .ok (.getfield 327, 3) := by decide +kernel
theorem dX11_seekBest_28 : decode cX11_seekBest 28 = .ok (.invokevirtual 211, 3) := by decide +kernel
theorem dX11_seekBest_31 : decode cX11_seekBest 31 = .ok (.iconst 1, 1) := by decide +kernel
theorem dX11_seekBest_32 : decode cX11_seekBest 32 = .ok (.ireturn, 1) := by decide +kernel
theorem dX11_keepFit_0 : decode cX11_keepFit 0 = .ok (.aload_n 1, 1) := by decide +kernel
theorem dX11_keepFit_1 : decode cX11_keepFit 1 = .ok (.iconst 0, 1) := by decide +kernel
theorem dX11_keepFit_2 : decode cX11_keepFit 2 = .ok (.aload_n 0, 1) := by decide +kernel
theorem dX11_keepFit_3 : decode cX11_keepFit 3 = .ok (.getfield 76, 3) := by decide +kernel
theorem dX11_keepFit_6 : decode cX11_keepFit 6 = .ok (.iconst 0, 1) := by decide +kernel
theorem dX11_keepFit_7 : decode cX11_keepFit 7 = .ok (.bipush 36, 2) := by decide +kernel
theorem dX11_keepFit_9 : decode cX11_keepFit 9 = .ok (.invokestatic 287, 3) := by decide +kernel
theorem dX11_keepFit_12 : decode cX11_keepFit 12 = .ok (.aload_n 0, 1) := by decide +kernel
theorem dX11_keepFit_13 : decode cX11_keepFit 13 = .ok (.iconst 1, 1) := by decide +kernel
theorem dX11_keepFit_14 : decode cX11_keepFit 14 = .ok (.putfield 79, 3) := by decide +kernel
theorem dX11_keepFit_17 : decode cX11_keepFit 17 = .ok (.return_, 1) := by decide +kernel
theorem dX11_surePairs_0 : decode cX11_surePairs 0 = .ok (.iconst 0, 1) := by decide +kernel
theorem dX11_surePairs_1 : decode cX11_surePairs 1 = .ok (.istore_n 1, 1) := by decide +kernel
theorem dX11_surePairs_2 : decode cX11_surePairs 2 = .ok (.iconst 0, 1) := by decide +kernel
theorem dX11_surePairs_3 : decode cX11_surePairs 3 = .ok (.istore_n 2, 1) := by decide +kernel
theorem dX11_surePairs_4 : decode cX11_surePairs 4 = .ok (.iload_n 2, 1) := by decide +kernel
theorem dX11_surePairs_5 : decode cX11_surePairs 5 = .ok (.aload_n 0, 1) := by decide +kernel
theorem dX11_surePairs_6 : decode cX11_surePairs 6 = .ok (.getfield 19, 3) := by decide +kernel
theorem dX11_surePairs_9 : decode cX11_surePairs 9 = .ok (.getfield 330, 3) := by decide +kernel
theorem dX11_surePairs_12 : decode cX11_surePairs 12 = .ok (.if_icmp .ge 44, 3) := by decide +kernel
theorem dX11_surePairs_15 : decode cX11_surePairs 15 = .ok (.aload_n 0, 1) := by decide +kernel
theorem dX11_surePairs_16 : decode cX11_surePairs 16 = .ok (.getfield 19, 3) := by decide +kernel
theorem dX11_surePairs_19 : decode cX11_surePairs 19 = .ok (.iload_n 2, 1) := by decide +kernel
theorem dX11_surePairs_20 : decode cX11_surePairs 20 = .ok (.invokevirtual 333, 3) := by decide +kernel
theorem dX11_surePairs_23 : decode cX11_surePairs 23 = .ok (.ifCond .eq 27, 3) := by decide +kernel
theorem dX11_surePairs_26 : decode cX11_surePairs 26 = .ok (.aload_n 0, 1) := by decide +kernel
theorem dX11_surePairs_27 : decode cX11_surePairs 27 = .ok (.getfield 45, 3) := by decide +kernel
theorem dX11_surePairs_30 : decode cX11_surePairs 30 = .ok (.getfield 224, 3) := by decide +kernel
theorem dX11_surePairs_33 : decode cX11_surePairs 33 = .ok (.iload_n 2, 1) := by decide +kernel
theorem dX11_surePairs_34 : decode cX11_surePairs 34 = .ok (.iaload, 1) := by decide +kernel
theorem dX11_surePairs_35 : decode cX11_surePairs 35 = .ok (.aload_n 0, 1) := by decide +kernel
theorem dX11_surePairs_36 : decode cX11_surePairs 36 = .ok (.getfield 45, 3) := by decide +kernel
theorem dX11_surePairs_39 : decode cX11_surePairs 39 = .ok (.getfield 222, 3) := by decide +kernel
theorem dX11_surePairs_42 : decode cX11_surePairs 42 = .ok (.iload_n 2, 1) := by decide +kernel
theorem dX11_surePairs_43 : decode cX11_surePairs 43 = .ok (.iaload, 1) := by decide +kernel
theorem dX11_surePairs_44 : decode cX11_surePairs 44 = .ok (.if_icmp .ne 6, 3) := by decide +kernel
theorem dX11_surePairs_47 : decode cX11_surePairs 47 = .ok (.iinc 1 1, 3) := by decide +kernel
theorem dX11_surePairs_50 : decode cX11_surePairs 50 = .ok (.iinc 2 1, 3) := by decide +kernel
theorem dX11_surePairs_53 : decode cX11_surePairs 53 = .ok (.goto (-49), 3) := by decide +kernel
theorem dX11_surePairs_56 : decode cX11_surePairs 56 = .ok (.iload_n 1, 1) := by decide +kernel
theorem dX11_surePairs_57 : decode cX11_surePairs 57 = .ok (.ireturn, 1) := by decide +kernel
theorem dX11_digestLine_0 : decode cX11_digestLine 0 = .ok (.lload_n 1, 1) := by decide +kernel
theorem dX11_digestLine_1 : decode cX11_digestLine 1 = .ok (.lstore 4, 2) := by decide +kernel
theorem dX11_digestLine_3 : decode cX11_digestLine 3 = .ok (.iconst 0, 1) := by decide +kernel
theorem dX11_digestLine_4 : decode cX11_digestLine 4 = .ok (.istore 6, 2) := by decide +kernel
theorem dX11_digestLine_6 : decode cX11_digestLine 6 = .ok (.iload 6, 2) := by decide +kernel
theorem dX11_digestLine_8 : decode cX11_digestLine 8 = .ok (.iconst 5, 1) := by decide +kernel
theorem dX11_digestLine_9 : decode cX11_digestLine 9 = .ok (.if_icmp .gt 26, 3) := by decide +kernel
theorem dX11_digestLine_12 : decode cX11_digestLine 12 = .ok (.ldc2_w 307, 3) := by decide +kernel
theorem dX11_digestLine_15 : decode cX11_digestLine 15 = .ok (.lload 4, 2) := by decide +kernel
theorem dX11_digestLine_17 : decode cX11_digestLine 17 = .ok (.lmul, 1) := by decide +kernel
theorem dX11_digestLine_18 : decode cX11_digestLine 18 = .ok (.aload_n 0, 1) := by decide +kernel
theorem dX11_digestLine_19 : decode cX11_digestLine 19 = .ok (.iload_n 3, 1) := by decide +kernel
theorem dX11_digestLine_20 : decode cX11_digestLine 20 = .ok (.iload 6, 2) := by decide +kernel
theorem dX11_digestLine_22 : decode cX11_digestLine 22 = .ok (.invokevirtual 336, 3) := by decide +kernel
theorem dX11_digestLine_25 : decode cX11_digestLine 25 = .ok (.i2l, 1) := by decide +kernel
theorem dX11_digestLine_26 : decode cX11_digestLine 26 = .ok (.ladd, 1) := by decide +kernel
theorem dX11_digestLine_27 : decode cX11_digestLine 27 = .ok (.lstore 4, 2) := by decide +kernel
theorem dX11_digestLine_29 : decode cX11_digestLine 29 = .ok (.iinc 6 1, 3) := by decide +kernel
theorem dX11_digestLine_32 : decode cX11_digestLine 32 = .ok (.goto (-26), 3) := by decide +kernel
theorem dX11_digestLine_35 : decode cX11_digestLine 35 = .ok (.aload_n 0, 1) := by decide +kernel
theorem dX11_digestLine_36 : decode cX11_digestLine 36 = .ok (.getfield 10, 3) := by decide +kernel
theorem dX11_digestLine_39 : decode cX11_digestLine 39 = .ok (.getfield 120, 3) := by decide +kernel
theorem dX11_digestLine_42 : decode cX11_digestLine 42 = .ok (.iload_n 3, 1) := by decide +kernel
theorem dX11_digestLine_43 : decode cX11_digestLine 43 = .ok (.aaload, 1) := by decide +kernel
theorem dX11_digestLine_44 : decode cX11_digestLine 44 = .ok (.iconst 1, 1) := by decide +kernel
theorem dX11_digestLine_45 : decode cX11_digestLine 45 = .ok (.invokevirtual 144, 3) := by decide +kernel
theorem dX11_digestLine_48 : decode cX11_digestLine 48 = .ok (.ifCond .ne 6, 3) := by decide +kernel
theorem dX11_digestLine_51 : decode cX11_digestLine 51 = .ok (.lload 4, 2) := by decide +kernel
theorem dX11_digestLine_53 : decode cX11_digestLine 53 = .ok (.lreturn, 1) := by decide +kernel
theorem dX11_digestLine_54 : decode cX11_digestLine 54 = .ok (.iconst 0, 1) := by decide +kernel
theorem dX11_digestLine_55 : decode cX11_digestLine 55 = .ok (.istore 6, 2) := by decide +kernel
theorem dX11_digestLine_57 : decode cX11_digestLine 57 = .ok (.iload 6, 2) := by decide +kernel
theorem dX11_digestLine_59 : decode cX11_digestLine 59 = .ok (.bipush 24, 2) := by decide +kernel
theorem dX11_digestLine_61 : decode cX11_digestLine 61 = .ok (.if_icmp .ge 34, 3) := by decide +kernel
theorem dX11_digestLine_64 : decode cX11_digestLine 64 = .ok (.ldc2_w 307, 3) := by decide +kernel
theorem dX11_digestLine_67 : decode cX11_digestLine 67 = .ok (.lload 4, 2) := by decide +kernel
theorem dX11_digestLine_69 : decode cX11_digestLine 69 = .ok (.lmul, 1) := by decide +kernel
theorem dX11_digestLine_70 : decode cX11_digestLine 70 = .ok (.aload_n 0, 1) := by decide +kernel
theorem dX11_digestLine_71 : decode cX11_digestLine 71 = .ok (.getfield 10, 3) := by decide +kernel
theorem dX11_digestLine_74 : decode cX11_digestLine 74 = .ok (.getfield 120, 3) := by decide +kernel
theorem dX11_digestLine_77 : decode cX11_digestLine 77 = .ok (.iload_n 3, 1) := by decide +kernel
theorem dX11_digestLine_78 : decode cX11_digestLine 78 = .ok (.aaload, 1) := by decide +kernel
theorem dX11_digestLine_79 : decode cX11_digestLine 79 = .ok (.getfield 165, 3) := by decide +kernel
theorem dX11_digestLine_82 : decode cX11_digestLine 82 = .ok (.iload 6, 2) := by decide +kernel
theorem dX11_digestLine_84 : decode cX11_digestLine 84 = .ok (.iaload, 1) := by decide +kernel
theorem dX11_digestLine_85 : decode cX11_digestLine 85 = .ok (.i2l, 1) := by decide +kernel
theorem dX11_digestLine_86 : decode cX11_digestLine 86 = .ok (.ladd, 1) := by decide +kernel
theorem dX11_digestLine_87 : decode cX11_digestLine 87 = .ok (.lstore 4, 2) := by decide +kernel
theorem dX11_digestLine_89 : decode cX11_digestLine 89 = .ok (.iinc 6 1, 3) := by decide +kernel
theorem dX11_digestLine_92 : decode cX11_digestLine 92 = .ok (.goto (-35), 3) := by decide +kernel
theorem dX11_digestLine_95 : decode cX11_digestLine 95 = .ok (.lload 4, 2) := by decide +kernel
theorem dX11_digestLine_97 : decode cX11_digestLine 97 = .ok (.lreturn, 1) := by decide +kernel
theorem dX11_digestSheet_0 : decode cX11_digestSheet 0 = .ok (.ldc2_w 307, 3) := by decide +kernel
theorem dX11_digestSheet_3 : decode cX11_digestSheet 3 = .ok (.lload_n 1, 1) := by decide +kernel
theorem dX11_digestSheet_4 : decode cX11_digestSheet 4 = .ok (.lmul, 1) := by decide +kernel
theorem dX11_digestSheet_5 : decode cX11_digestSheet 5 = .ok (.aload_n 0, 1) := by decide +kernel
theorem dX11_digestSheet_6 : decode cX11_digestSheet 6 = .ok (.getfield 72, 3) := by decide +kernel
theorem dX11_digestSheet_9 : decode cX11_digestSheet 9 = .ok (.getfield 276, 3) := by decide +kernel
theorem dX11_digestSheet_12 : decode cX11_digestSheet 12 = .ok (.iload_n 3, 1) := by decide +kernel
theorem dX11_digestSheet_13 : decode cX11_digestSheet 13 = .ok (.iaload, 1) := by decide +kernel
theorem dX11_digestSheet_14 : decode cX11_digestSheet 14 = .ok (.i2l, 1) := by decide +kernel
theorem dX11_digestSheet_15 : decode cX11_digestSheet 15 = .ok (.ladd, 1) := by decide +kernel
theorem dX11_digestSheet_16 : decode cX11_digestSheet 16 = .ok (.lstore 4, 2) := by decide +kernel
theorem dX11_digestSheet_18 : decode cX11_digestSheet 18 = .ok (.iconst 0, 1) := by decide +kernel
theorem dX11_digestSheet_19 : decode cX11_digestSheet 19 = .ok (.istore 6, 2) := by decide +kernel
theorem dX11_digestSheet_21 : decode cX11_digestSheet 21 = .ok (.iload 6, 2) := by decide +kernel
theorem dX11_digestSheet_23 : decode cX11_digestSheet 23 = .ok (.aload_n 0, 1) := by decide +kernel
theorem dX11_digestSheet_24 : decode cX11_digestSheet 24 = .ok (.getfield 72, 3) := by decide +kernel
theorem dX11_digestSheet_27 : decode cX11_digestSheet 27 = .ok (.getfield 276, 3) := by decide +kernel
theorem dX11_digestSheet_30 : decode cX11_digestSheet 30 = .ok (.iload_n 3, 1) := by decide +kernel
theorem dX11_digestSheet_31 : decode cX11_digestSheet 31 = .ok (.iaload, 1) := by decide +kernel
theorem dX11_digestSheet_32 : decode cX11_digestSheet 32 = .ok (.if_icmp .ge 31, 3) := by decide +kernel
theorem dX11_digestSheet_35 : decode cX11_digestSheet 35 = .ok (.ldc2_w 307, 3) := by decide +kernel
theorem dX11_digestSheet_38 : decode cX11_digestSheet 38 = .ok (.lload 4, 2) := by decide +kernel
theorem dX11_digestSheet_40 : decode cX11_digestSheet 40 = .ok (.lmul, 1) := by decide +kernel
theorem dX11_digestSheet_41 : decode cX11_digestSheet 41 = .ok (.aload_n 0, 1) := by decide +kernel
theorem dX11_digestSheet_42 : decode cX11_digestSheet 42 = .ok (.getfield 72, 3) := by decide +kernel
theorem dX11_digestSheet_45 : decode cX11_digestSheet 45 = .ok (.getfield 279, 3) := by decide +kernel
theorem dX11_digestSheet_48 : decode cX11_digestSheet 48 = .ok (.iload_n 3, 1) := by decide +kernel
theorem dX11_digestSheet_49 : decode cX11_digestSheet 49 = .ok (.aaload, 1) := by decide +kernel
theorem dX11_digestSheet_50 : decode cX11_digestSheet 50 = .ok (.iload 6, 2) := by decide +kernel
theorem dX11_digestSheet_52 : decode cX11_digestSheet 52 = .ok (.baload, 1) := by decide +kernel
theorem dX11_digestSheet_53 : decode cX11_digestSheet 53 = .ok (.i2l, 1) := by decide +kernel
theorem dX11_digestSheet_54 : decode cX11_digestSheet 54 = .ok (.ladd, 1) := by decide +kernel
theorem dX11_digestSheet_55 : decode cX11_digestSheet 55 = .ok (.lstore 4, 2) := by decide +kernel
theorem dX11_digestSheet_57 : decode cX11_digestSheet 57 = .ok (.iinc 6 1, 3) := by decide +kernel
theorem dX11_digestSheet_60 : decode cX11_digestSheet 60 = .ok (.goto (-39), 3) := by decide +kernel
theorem dX11_digestSheet_63 : decode cX11_digestSheet 63 = .ok (.lload 4, 2) := by decide +kernel
theorem dX11_digestSheet_65 : decode cX11_digestSheet 65 = .ok (.lreturn, 1) := by decide +kernel
