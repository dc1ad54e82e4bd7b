theorem dJ7_fill_53178_0 : decode cJ7_fill_53178 0 = .ok (.iconst 0, 1) := by decide +kernel
theorem dJ7_fill_53178_1 : decode cJ7_fill_53178 1 = .ok (.istore_n 2, 1) := by decide +kernel
theorem dJ7_fill_53178_2 : decode cJ7_fill_53178 2 = .ok (.aload_n 0, 1) := by decide +kernel
theorem dJ7_fill_53178_3 : decode cJ7_fill_53178 3 = .ok (.arraylength, 1) := by decide +kernel
theorem dJ7_fill_53178_4 : decode cJ7_fill_53178 4 = .ok (.istore_n 3, 1) := by decide +kernel
theorem dJ7_fill_53178_5 : decode cJ7_fill_53178 5 = .ok (.iload_n 2, 1) := by decide +kernel
theorem dJ7_fill_53178_6 : decode cJ7_fill_53178 6 = .ok (.iload_n 3, 1) := by decide +kernel
theorem dJ7_fill_53178_7 : decode cJ7_fill_53178 7 = .ok (.if_icmp .ge 13, 3) := by decide +kernel
theorem dJ7_fill_53178_10 : decode cJ7_fill_53178 10 = .ok (.aload_n 0, 1) := by decide +kernel
theorem dJ7_fill_53178_11 : decode cJ7_fill_53178 11 = .ok (.iload_n 2, 1) := by decide +kernel
theorem dJ7_fill_53178_12 : decode cJ7_fill_53178 12 = .ok (.iload_n 1, 1) := by decide +kernel
theorem dJ7_fill_53178_13 : decode cJ7_fill_53178 13 = .ok (.iastore, 1) := by decide +kernel
theorem dJ7_fill_53178_14 : decode cJ7_fill_53178 14 = .ok (.iinc 2 1, 3) := by decide +kernel
theorem dJ7_fill_53178_17 : decode cJ7_fill_53178 17 = .ok (.goto (-12), 3) := by decide +kernel
theorem dJ7_fill_53178_20 : decode cJ7_fill_53178 20 = .ok (.return_, 1) := by decide +kernel
theorem dJ7_fill_d0a16_0 : decode cJ7_fill_d0a16 0 = .ok (.iconst 0, 1) := by decide +kernel
theorem dJ7_fill_d0a16_1 : decode cJ7_fill_d0a16 1 = .ok (.istore_n 3, 1) := by decide +kernel
theorem dJ7_fill_d0a16_2 : decode cJ7_fill_d0a16 2 = .ok (.aload_n 0, 1) := by decide +kernel
theorem dJ7_fill_d0a16_3 : decode cJ7_fill_d0a16 3 = .ok (.arraylength, 1) := by decide +kernel
theorem dJ7_fill_d0a16_4 : decode cJ7_fill_d0a16 4 = .ok (.istore 4, 2) := by decide +kernel
theorem dJ7_fill_d0a16_6 : decode cJ7_fill_d0a16 6 = .ok (.iload_n 3, 1) := by decide +kernel
theorem dJ7_fill_d0a16_7 : decode cJ7_fill_d0a16 7 = .ok (.iload 4, 2) := by decide +kernel
theorem dJ7_fill_d0a16_9 : decode cJ7_fill_d0a16 9 = .ok (.if_icmp .ge 13, 3) := by decide +kernel
theorem dJ7_fill_d0a16_12 : decode cJ7_fill_d0a16 12 = .ok (.aload_n 0, 1) := by decide +kernel
theorem dJ7_fill_d0a16_13 : decode cJ7_fill_d0a16 13 = .ok (.iload_n 3, 1) := by decide +kernel
theorem dJ7_fill_d0a16_14 : decode cJ7_fill_d0a16 14 = .ok (.lload_n 1, 1) := by decide +kernel
theorem dJ7_fill_d0a16_15 : decode cJ7_fill_d0a16 15 = .ok (.lastore, 1) := by decide +kernel
theorem dJ7_fill_d0a16_16 : decode cJ7_fill_d0a16 16 = .ok (.iinc 3 1, 3) := by decide +kernel
theorem dJ7_fill_d0a16_19 : decode cJ7_fill_d0a16 19 = .ok (.goto (-13), 3) := by decide +kernel
theorem dJ7_fill_d0a16_22 : decode cJ7_fill_d0a16 22 = .ok (.return_, 1) := by decide +kernel
theorem dJ9_abs_067f4_0 : decode cJ9_abs_067f4 0 = .ok (.lload_n 0, 1) := by decide +kernel
theorem dJ9_abs_067f4_1 : decode cJ9_abs_067f4 1 = .ok (.lconst 0, 1) := by decide +kernel
theorem dJ9_abs_067f4_2 : decode cJ9_abs_067f4 2 = .ok (.lcmp, 1) := by decide +kernel
theorem dJ9_abs_067f4_3 : decode cJ9_abs_067f4 3 = .ok (.ifCond .ge 8, 3) := by decide +kernel
theorem dJ9_abs_067f4_6 : decode cJ9_abs_067f4 6 = .ok (.lload_n 0, 1) := by decide +kernel
theorem dJ9_abs_067f4_7 : decode cJ9_abs_067f4 7 = .ok (.lneg, 1) := by decide +kernel
theorem dJ9_abs_067f4_8 : decode cJ9_abs_067f4 8 = .ok (.goto 4, 3) := by decide +kernel
theorem dJ9_abs_067f4_11 : decode cJ9_abs_067f4 11 = .ok (.lload_n 0, 1) := by decide +kernel
theorem dJ9_abs_067f4_12 : decode cJ9_abs_067f4 12 = .ok (.lreturn, 1) := by decide +kernel
theorem dJ9_floorMod_f86c9_0 : decode cJ9_floorMod_f86c9 0 = .ok (.lload_n 0, 1) := by decide +kernel
theorem dJ9_floorMod_f86c9_1 : decode cJ9_floorMod_f86c9 1 = .ok (.lload_n 2, 1) := by decide +kernel
theorem dJ9_floorMod_f86c9_2 : decode cJ9_floorMod_f86c9 2 = .ok (.lrem, 1) := by decide +kernel
theorem dJ9_floorMod_f86c9_3 : decode cJ9_floorMod_f86c9 3 = .ok (.lstore 4, 2) := by decide +kernel
theorem dJ9_floorMod_f86c9_5 : decode cJ9_floorMod_f86c9 5 = .ok (.lload_n 0, 1) := by decide +kernel
theorem dJ9_floorMod_f86c9_6 : decode cJ9_floorMod_f86c9 6 = .ok (.lload_n 2, 1) := by decide +kernel
theorem dJ9_floorMod_f86c9_7 : decode cJ9_floorMod_f86c9 7 = .ok (.lxor, 1) := by decide +kernel
theorem dJ9_floorMod_f86c9_8 : decode cJ9_floorMod_f86c9 8 = .ok (.lconst 0, 1) := by decide +kernel
theorem dJ9_floorMod_f86c9_9 : decode cJ9_floorMod_f86c9 9 = .ok (.lcmp, 1) := by decide +kernel
theorem dJ9_floorMod_f86c9_10 : decode cJ9_floorMod_f86c9 10 = .ok (.ifCond .ge 15, 3) := by decide +kernel
theorem dJ9_floorMod_f86c9_13 : decode cJ9_floorMod_f86c9 13 = .ok (.lload 4, 2) := by decide +kernel
theorem dJ9_floorMod_f86c9_15 : decode cJ9_floorMod_f86c9 15 = .ok (.lconst 0, 1) := by decide +kernel
theorem dJ9_floorMod_f86c9_16 : decode cJ9_floorMod_f86c9 16 = .ok (.lcmp, 1) := by decide +kernel
theorem dJ9_floorMod_f86c9_17 : decode cJ9_floorMod_f86c9 17 = .ok (.ifCond .eq 8, 3) := by decide +kernel
theorem dJ9_floorMod_f86c9_20 : decode cJ9_floorMod_f86c9 20 = .ok (.lload 4, 2) := by decide +kernel
theorem dJ9_floorMod_f86c9_22 : decode cJ9_floorMod_f86c9 22 = .ok (.lload_n 2, 1) := by decide +kernel
theorem dJ9_floorMod_f86c9_23 : decode cJ9_floorMod_f86c9 23 = .ok (.ladd, 1) := by decide +kernel
theorem dJ9_floorMod_f86c9_24 : decode cJ9_floorMod_f86c9 24 = .ok (.lreturn, 1) := by decide +kernel
theorem dJ9_floorMod_f86c9_25 : decode cJ9_floorMod_f86c9 25 = .ok (.lload 4, 2) := by decide +kernel
theorem dJ9_floorMod_f86c9_27 : decode cJ9_floorMod_f86c9 27 = .ok (.lreturn, 1) := by decide +kernel
theorem dJ9_max_f86c9_0 : decode cJ9_max_f86c9 0 = .ok (.lload_n 0, 1) := by decide +kernel
theorem dJ9_max_f86c9_1 : decode cJ9_max_f86c9 1 = .ok (.lload_n 2, 1) := by decide +kernel
theorem dJ9_max_f86c9_2 : decode cJ9_max_f86c9 2 = .ok (.lcmp, 1) := by decide +kernel
theorem dJ9_max_f86c9_3 : decode cJ9_max_f86c9 3 = .ok (.ifCond .lt 7, 3) := by decide +kernel
theorem dJ9_max_f86c9_6 : decode cJ9_max_f86c9 6 = .ok (.lload_n 0, 1) := by decide +kernel
theorem dJ9_max_f86c9_7 : decode cJ9_max_f86c9 7 = .ok (.goto 4, 3) := by decide +kernel
theorem dJ9_max_f86c9_10 : decode cJ9_max_f86c9 10 = .ok (.lload_n 2, 1) := by decide +kernel
theorem dJ9_max_f86c9_11 : decode cJ9_max_f86c9 11 = .ok (.lreturn, 1) := by decide +kernel
theorem dX0_go_0 : decode cX0_go 0 = .ok (.iconst 0, 1) := by decide +kernel
theorem dX0_go_1 : decode cX0_go 1 = .ok (.istore 5, 2) := by decide +kernel
theorem dX0_go_3 : decode cX0_go 3 = .ok (.iload 5, 2) := by decide +kernel
theorem dX0_go_5 : decode cX0_go 5 = .ok (.aload_n 0, 1) := by decide +kernel
theorem dX0_go_6 : decode cX0_go 6 = .ok (.getfield 9, 3) := by decide +kernel
theorem dX0_go_9 : decode cX0_go 9 = .ok (.getfield 15, 3) := by decide +kernel
theorem dX0_go_12 : decode cX0_go 12 = .ok (.if_icmp .ge 52, 3) := by decide +kernel
theorem dX0_go_15 : decode cX0_go 15 = .ok (.aload_n 1, 1) := by decide +kernel
theorem dX0_go_16 : decode cX0_go 16 = .ok (.iload_n 2, 1) := by decide +kernel
theorem dX0_go_17 : decode cX0_go 17 = .ok (.iload 5, 2) := by decide +kernel
theorem dX0_go_19 : decode cX0_go 19 = .ok (.iadd, 1) := by decide +kernel
theorem dX0_go_20 : decode cX0_go 20 = .ok (.laload, 1) := by decide +kernel
theorem dX0_go_21 : decode cX0_go 21 = .ok (.l2i, 1) := by decide +kernel
theorem dX0_go_22 : decode cX0_go 22 = .ok (.istore 6, 2) := by decide +kernel
theorem dX0_go_24 : decode cX0_go 24 = .ok (.aload_n 0, 1) := by decide +kernel
theorem dX0_go_25 : decode cX0_go 25 = .ok (.getfield 9, 3) := by decide +kernel
theorem dX0_go_28 : decode cX0_go 28 = .ok (.iload 6, 2) := by decide +kernel
theorem dX0_go_30 : decode cX0_go 30 = .ok (.invokevirtual 21, 3) := by decide +kernel
theorem dX0_go_33 : decode cX0_go 33 = .ok (.ifCond .ne 5, 3) := by decide +kernel
theorem dX0_go_36 : decode cX0_go 36 = .ok (.iconst 0, 1) := by decide +kernel
theorem dX0_go_37 : decode cX0_go 37 = .ok (.ireturn, 1) := by decide +kernel
theorem dX0_go_38 : decode cX0_go 38 = .ok (.aload 4, 2) := by decide +kernel
theorem dX0_go_40 : decode cX0_go 40 = .ok (.iload 5, 2) := by decide +kernel
theorem dX0_go_42 : decode cX0_go 42 = .ok (.aload_n 0, 1) := by decide +kernel
theorem dX0_go_43 : decode cX0_go 43 = .ok (.getfield 9, 3) := by decide +kernel
theorem dX0_go_46 : decode cX0_go 46 = .ok (.getfield 25, 3) := by decide +kernel
theorem dX0_go_49 : decode cX0_go 49 = .ok (.iload 6, 2) := by decide +kernel
theorem dX0_go_51 : decode cX0_go 51 = .ok (.iconst 4, 1) := by decide +kernel
theorem dX0_go_52 : decode cX0_go 52 = .ok (.imul, 1) := by decide +kernel
theorem dX0_go_53 : decode cX0_go 53 = .ok (.iload_n 3, 1) := by decide +kernel
theorem dX0_go_54 : decode cX0_go 54 = .ok (.iadd, 1) := by decide +kernel
theorem dX0_go_55 : decode cX0_go 55 = .ok (.iaload, 1) := by decide +kernel
theorem dX0_go_56 : decode cX0_go 56 = .ok (.i2l, 1) := by decide +kernel
theorem dX0_go_57 : decode cX0_go 57 = .ok (.lastore, 1) := by decide +kernel
theorem dX0_go_58 : decode cX0_go 58 = .ok (.iinc 5 1, 3) := by decide +kernel
theorem dX0_go_61 : decode cX0_go 61 = .ok (.goto (-58), 3) := by decide +kernel
theorem dX0_go_64 : decode cX0_go 64 = .ok (.iconst 1, 1) := by decide +kernel
theorem dX0_go_65 : decode cX0_go 65 = .ok (.ireturn, 1) := by decide +kernel
theorem dX0_init_0 : decode cX0_init 0 = .ok (.aload_n 0, 1) := by decide +kernel
theorem dX0_init_1 : decode cX0_init 1 = .ok (.invokespecial 3, 3) := by decide +kernel
theorem dX0_init_4 : decode cX0_init 4 = .ok (.aload_n 0, 1) := by decide +kernel
theorem dX0_init_5 : decode cX0_init 5 = .ok (.aload_n 1, 1) := by decide +kernel
theorem dX0_init_6 : decode cX0_init 6 = .ok (.putfield 9, 3) := by decide +kernel
theorem dX0_init_9 : decode cX0_init 9 = .ok (.return_, 1) := by decide +kernel
theorem dX10_about_0 : decode cX10_about 0 = .ok (.aload_n 0, 1) := by decide +kernel
theorem dX10_about_1 : decode cX10_about 1 = .ok (.invokevirtual 195, 3) := by decide +kernel
theorem dX10_about_4 : decode cX10_about 4 = .ok (.aload_n 0, 1) := by decide +kernel
theorem dX10_about_5 : decode cX10_about 5 = .ok (.getfield 41, 3) := by decide +kernel
theorem dX10_about_8 : decode cX10_about 8 = .ok (.iload_n 1, 1) := by decide +kernel
theorem dX10_about_9 : decode cX10_about 9 = .ok (.invokevirtual 202, 3) := by decide +kernel
theorem dX10_about_12 : decode cX10_about 12 = .ok (.ifCond .eq 12, 3) := by decide +kernel
theorem dX10_about_15 : decode cX10_about 15 = .ok (.iload_n 2, 1) := by decide +kernel
theorem dX10_about_16 : decode cX10_about 16 = .ok (.ifCond .lt 8, 3) := by decide +kernel
theorem dX10_about_19 : decode cX10_about 19 = .ok (.iload_n 2, 1) := by decide +kernel
theorem dX10_about_20 : decode cX10_about 20 = .ok (.iconst 3, 1) := by decide +kernel
theorem dX10_about_21 : decode cX10_about 21 = .ok (.if_icmp .le 5, 3) := by decide +kernel
theorem dX10_about_24 : decode cX10_about 24 = .ok (.iconst (-1), 1) := by decide +kernel
theorem dX10_about_25 : decode cX10_about 25 = .ok (.ireturn, 1) := by decide +kernel
theorem dX10_about_26 : decode cX10_about 26 = .ok (.iload_n 2, 1) := by decide +kernel
theorem dX10_about_27 : decode cX10_about 27 = .ok (.tableswitch 55 0 2 #[25, 35, 45], 25) := by decide +kernel
theorem dX10_about_52 : decode cX10_about 52 = .ok (.aload_n 0, 1) := by decide +kernel
theorem dX10_about_53 : decode cX10_about 53 = .ok (.getfield 41, 3) := by decide +kernel
theorem dX10_about_56 : decode cX10_about 56 = .ok (.getfield 212, 3) := by decide +kernel
theorem dX10_about_59 : decode cX10_about 59 = .ok (.iload_n 1, 1) := by decide +kernel
theorem dX10_about_60 : decode cX10_about 60 = .ok (.iaload, 1) := by decide +kernel
theorem dX10_about_61 : decode cX10_about 61 = .ok (.ireturn, 1) := by decide +kernel
theorem dX10_about_62 : decode cX10_about 62 = .ok (.aload_n 0, 1) := by decide +kernel
theorem dX10_about_63 : decode cX10_about 63 = .ok (.getfield 41, 3) := by decide +kernel
theorem dX10_about_66 : decode cX10_about 66 = .ok (.getfield 215, 3) := by decide +kernel
theorem dX10_about_69 : decode cX10_about 69 = .ok (.iload_n 1, 1) := by decide +kernel
theorem dX10_about_70 : decode cX10_about 70 = .ok (.iaload, 1) := by decide +kernel
theorem dX10_about_71 : decode cX10_about 71 = .ok (.ireturn, 1) := by decide +kernel
theorem dX10_about_72 : decode cX10_about 72 = .ok (.aload_n 0, 1) := by decide +kernel
theorem dX10_about_73 : decode cX10_about 73 = .ok (.getfield 41, 3) := by decide +kernel
theorem dX10_about_76 : decode cX10_about 76 = .ok (.getfield 218, 3) := by decide +kernel
theorem dX10_about_79 : decode cX10_about 79 = .ok (.iload_n 1, 1) := by decide +kernel
theorem dX10_about_80 : decode cX10_about 80 = .ok (.iaload, 1) := by decide +kernel
theorem dX10_about_81 : decode cX10_about 81 = .ok (.ireturn, 1) := by decide +kernel
theorem dX10_about_82 : decode cX10_about 82 = .ok (.aload_n 0, 1) := by decide +kernel
theorem dX10_about_83 : decode cX10_about 83 = .ok (.aload_n 0, 1) := by decide +kernel
theorem dX10_about_84 : decode cX10_about 84 = .ok (.getfield 41, 3) := by decide +kernel
theorem dX10_about_87 : decode cX10_about 87 = .ok (.getfield 207, 3) := by decide +kernel
theorem dX10_about_90 : decode cX10_about 90 = .ok (.aload_n 0, 1) := by decide +kernel
theorem dX10_about_91 : decode cX10_about 91 = .ok (.getfield 41, 3) := by decide +kernel
theorem dX10_about_94 : decode cX10_about 94 = .ok (.iload_n 1, 1) := by decide +kernel
theorem dX10_about_95 : decode cX10_about 95 = .ok (.invokevirtual 208, 3) := by decide +kernel
theorem dX10_about_98 : decode cX10_about 98 = .ok (.invokevirtual 156, 3) := by decide +kernel
theorem dX10_about_101 : decode cX10_about 101 = .ok (.ireturn, 1) := by decide +kernel
theorem dX10_addSquare_0 : decode cX10_addSquare 0 = .ok (.aload_n 0, 1) := by decide +kernel
theorem dX10_addSquare_1 : decode cX10_addSquare 1 = .ok (.getfield 10, 3) := by decide +kernel
theorem dX10_addSquare_4 : decode cX10_addSquare 4 = .ok (.aload_n 0, 1) := by decide +kernel
theorem dX10_addSquare_5 : decode cX10_addSquare 5 = .ok (.getfield 90, 3) := by decide +kernel
theorem dX10_addSquare_8 : decode cX10_addSquare 8 = .ok (.invokevirtual 343, 3) := by decide +kernel
theorem dX10_addSquare_11 : decode cX10_addSquare 11 = .ok (.istore_n 1, 1) := by decide +kernel
theorem dX10_addSquare_12 : decode cX10_addSquare 12 = .ok (.aload_n 0, 1) := by decide +kernel
theorem dX10_addSquare_13 : decode cX10_addSquare 13 = .ok (.invokevirtual 104, 3) := by decide +kernel
theorem dX10_addSquare_16 : decode cX10_addSquare 16 = .ok (.iload_n 1, 1) := by decide +kernel
theorem dX10_addSquare_17 : decode cX10_addSquare 17 = .ok (.ireturn, 1) := by decide +kernel
theorem dX10_addUnit_0 : decode cX10_addUnit 0 = .ok (.aload_n 0, 1) := by decide +kernel
theorem dX10_addUnit_1 : decode cX10_addUnit 1 = .ok (.getfield 90, 3) := by decide +kernel
theorem dX10_addUnit_4 : decode cX10_addUnit 4 = .ok (.aload_n 0, 1) := by decide +kernel
theorem dX10_addUnit_5 : decode cX10_addUnit 5 = .ok (.getfield 10, 3) := by decide +kernel
theorem dX10_addUnit_8 : decode cX10_addUnit 8 = .ok (.getfield 98, 3) := by decide +kernel
theorem dX10_addUnit_11 : decode cX10_addUnit 11 = .ok (.invokestatic 339, 3) := by decide +kernel
theorem dX10_addUnit_14 : decode cX10_addUnit 14 = .ok (.aload_n 0, 1) := by decide +kernel
theorem dX10_addUnit_15 : decode cX10_addUnit 15 = .ok (.getfield 90, 3) := by decide +kernel
theorem dX10_addUnit_18 : decode cX10_addUnit 18 = .ok (.iload_n 1, 1) := by decide +kernel
theorem dX10_addUnit_19 : decode cX10_addUnit 19 = .ok (.aload_n 0, 1) := by decide +kernel
theorem dX10_addUnit_20 : decode cX10_addUnit 20 = .ok (.getfield 10, 3) := by decide +kernel
theorem dX10_addUnit_23 : decode cX10_addUnit 23 = .ok (.getfield 98, 3) := by decide +kernel
theorem dX10_addUnit_26 : decode cX10_addUnit 26 = .ok (.imul, 1) := by decide +kernel
theorem dX10_addUnit_27 : decode cX10_addUnit 27 = .ok (.iload_n 2, 1) := by decide +kernel
theorem dX10_addUnit_28 : decode cX10_addUnit 28 = .ok (.iadd, 1) := by decide +kernel
theorem dX10_addUnit_29 : decode cX10_addUnit 29 = .ok (.iload_n 3, 1) := by decide +kernel
theorem dX10_addUnit_30 : decode cX10_addUnit 30 = .ok (.i2l, 1) := by decide +kernel
theorem dX10_addUnit_31 : decode cX10_addUnit 31 = .ok (.lastore, 1) := by decide +kernel
theorem dX10_addUnit_32 : decode cX10_addUnit 32 = .ok (.aload_n 0, 1) := by decide +kernel
theorem dX10_addUnit_33 : decode cX10_addUnit 33 = .ok (.invokevirtual 142, 3) := by decide +kernel
theorem dX10_addUnit_36 : decode cX10_addUnit 36 = .ok (.ireturn, 1) := by decide +kernel
theorem dX10_addUpForm_0 : decode cX10_addUpForm 0 = .ok (.aload_n 0, 1) := by decide +kernel
theorem dX10_addUpForm_1 : decode cX10_addUpForm 1 = .ok (.getfield 10, 3) := by decide +kernel
theorem dX10_addUpForm_4 : decode cX10_addUpForm 4 = .ok (.invokevirtual 130, 3) := by decide +kernel
theorem dX10_addUpForm_7 : decode cX10_addUpForm 7 = .ok (.istore_n 1, 1) := by decide +kernel
theorem dX10_addUpForm_8 : decode cX10_addUpForm 8 = .ok (.aload_n 0, 1) := by decide +kernel
theorem dX10_addUpForm_9 : decode cX10_addUpForm 9 = .ok (.getfield 90, 3) := by decide +kernel
theorem dX10_addUpForm_12 : decode cX10_addUpForm 12 = .ok (.lconst 0, 1) := by decide +kernel
theorem dX10_addUpForm_13 : decode cX10_addUpForm 13 = .ok (.invokestatic 369, 3) := by decide +kernel
theorem dX10_addUpForm_16 : decode cX10_addUpForm 16 = .ok (.iconst 0, 1) := by decide +kernel
theorem dX10_addUpForm_17 : decode cX10_addUpForm 17 = .ok (.istore_n 2, 1) := by decide +kernel
theorem dX10_addUpForm_18 : decode cX10_addUpForm 18 = .ok (.iload_n 2, 1) := by decide +kernel
theorem dX10_addUpForm_19 : decode cX10_addUpForm 19 = .ok (.aload_n 0, 1) := by decide +kernel
theorem dX10_addUpForm_20 : decode cX10_addUpForm 20 = .ok (.getfield 41, 3) := by decide +kernel
theorem dX10_addUpForm_23 : decode cX10_addUpForm 23 = .ok (.getfield 198, 3) := by decide +kernel
theorem dX10_addUpForm_26 : decode cX10_addUpForm 26 = .ok (.if_icmp .ge 115, 3) := by decide +kernel
theorem dX10_addUpForm_29 : decode cX10_addUpForm 29 = .ok (.aload_n 0, 1) := by decide +kernel
theorem dX10_addUpForm_30 : decode cX10_addUpForm 30 = .ok (.getfield 41, 3) := by decide +kernel
theorem dX10_addUpForm_33 : decode cX10_addUpForm 33 = .ok (.getfield 207, 3) := by decide +kernel
theorem dX10_addUpForm_36 : decode cX10_addUpForm 36 = .ok (.aload_n 0, 1) := by decide +kernel
theorem dX10_addUpForm_37 : decode cX10_addUpForm 37 = .ok (.getfield 41, 3) := by decide +kernel
theorem dX10_addUpForm_40 : decode cX10_addUpForm 40 = .ok (.iload_n 2, 1) := by decide +kernel
theorem dX10_addUpForm_41 : decode cX10_addUpForm 41 = .ok (.invokevirtual 208, 3) := by decide +kernel
theorem dX10_addUpForm_44 : decode cX10_addUpForm 44 = .ok (.aload_n 0, 1) := by decide +kernel
theorem dX10_addUpForm_45 : decode cX10_addUpForm 45 = .ok (.getfield 41, 3) := by decide +kernel
theorem dX10_addUpForm_48 : decode cX10_addUpForm 48 = .ok (.getfield 207, 3) := by decide +kernel
theorem dX10_addUpForm_51 : decode cX10_addUpForm 51 = .ok (.aload_n 0, 1) := by decide +kernel
theorem dX10_addUpForm_52 : decode cX10_addUpForm 52 = .ok (.getfield 41, 3) := by decide +kernel
theorem dX10_addUpForm_55 : decode cX10_addUpForm 55 = .ok (.iload_n 2, 1) := by decide +kernel
theorem dX10_addUpForm_56 : decode cX10_addUpForm 56 = .ok (.invokevirtual 208, 3) := by decide +kernel
theorem dX10_addUpForm_59 : decode cX10_addUpForm 59 = .ok (.aload_n 0, 1) := by decide +kernel
theorem dX10_addUpForm_60 : decode cX10_addUpForm 60 = .ok (.getfield 94, 3) := by decide +kernel
theorem dX10_addUpForm_63 : decode cX10_addUpForm 63 = .ok (.aload_n 0, 1) := by decide +kernel
theorem dX10_addUpForm_64 : decode cX10_addUpForm 64 = .ok (.getfield 10, 3) := by decide +kernel
theorem dX10_addUpForm_67 : decode cX10_addUpForm 67 = .ok (.getfield 98, 3) := by decide +kernel
theorem dX10_addUpForm_70 : decode cX10_addUpForm 70 = .ok (.invokestatic 372, 3) := by decide +kernel
theorem dX10_addUpForm_73 : decode cX10_addUpForm 73 = .ok (.iconst 0, 1) := by decide +kernel
theorem dX10_addUpForm_74 : decode cX10_addUpForm 74 = .ok (.istore_n 3, 1) := by decide +kernel
theorem dX10_addUpForm_75 : decode cX10_addUpForm 75 = .ok (.iload_n 3, 1) := by decide +kernel
theorem dX10_addUpForm_76 : decode cX10_addUpForm 76 = .ok (.iload_n 1, 1) := by decide +kernel
theorem dX10_addUpForm_77 : decode cX10_addUpForm 77 = .ok (.if_icmp .ge 58, 3) := by decide +kernel
theorem dX10_addUpForm_80 : decode cX10_addUpForm 80 = .ok (.aload_n 0, 1) := by decide +kernel
theorem dX10_addUpForm_81 : decode cX10_addUpForm 81 = .ok (.getfield 90, 3) := by decide +kernel
theorem dX10_addUpForm_84 : decode cX10_addUpForm 84 = .ok (.iload_n 3, 1) := by decide +kernel
theorem dX10_addUpForm_85 : decode cX10_addUpForm 85 = .ok (.laload, 1) := by decide +kernel
theorem dX10_addUpForm_86 : decode cX10_addUpForm 86 = .ok (.aload_n 0, 1) := by decide +kernel
theorem dX10_addUpForm_87 : decode cX10_addUpForm 87 = .ok (.getfield 94, 3) := by decide +kernel
theorem dX10_addUpForm_90 : decode cX10_addUpForm 90 = .ok (.iload_n 3, 1) := by decide +kernel
theorem dX10_addUpForm_91 : decode cX10_addUpForm 91 = .ok (.laload, 1) := by decide +kernel
theorem dX10_addUpForm_92 : decode cX10_addUpForm 92 = .ok (.ladd, 1) := by decide +kernel
theorem dX10_addUpForm_93 : decode cX10_addUpForm 93 = .ok (.lstore 4, 2) := by decide +kernel
theorem dX10_addUpForm_95 : decode cX10_addUpForm 95 = .ok (.aload_n 0, 1) := by decide +kernel
theorem dX10_addUpForm_96 : decode cX10_addUpForm 96 = .ok (.getfield 90, 3) := by decide +kernel
theorem dX10_addUpForm_99 : decode cX10_addUpForm 99 = .ok (.iload_n 3, 1) := by decide +kernel
theorem dX10_addUpForm_100 : decode cX10_addUpForm 100 = .ok (.laload, 1) := by decide +kernel
theorem dX10_addUpForm_101 : decode cX10_addUpForm 101 = .ok (.lload 4, 2) := by decide +kernel
theorem dX10_addUpForm_103 : decode cX10_addUpForm 103 = .ok (.lxor, 1) := by decide +kernel
theorem dX10_addUpForm_104 : decode cX10_addUpForm 104 = .ok (.aload_n 0, 1) := by decide +kernel
theorem dX10_addUpForm_105 : decode cX10_addUpForm 105 = .ok (.getfield 94, 3) := by decide +kernel
theorem dX10_addUpForm_108 : decode cX10_addUpForm 108 = .ok (.iload_n 3, 1) := by decide +kernel
theorem dX10_addUpForm_109 : decode cX10_addUpForm 109 = .ok (.laload, 1) := by decide +kernel
theorem dX10_addUpForm_110 : decode cX10_addUpForm 110 = .ok (.lload 4, 2) := by decide +kernel
theorem dX10_addUpForm_112 : decode cX10_addUpForm 112 = .ok (.lxor, 1) := by decide +kernel
theorem dX10_addUpForm_113 : decode cX10_addUpForm 113 = .ok (.land, 1) := by decide +kernel
theorem dX10_addUpForm_114 : decode cX10_addUpForm 114 = .ok (.lconst 0, 1) := by decide +kernel
theorem dX10_addUpForm_115 : decode cX10_addUpForm 115 = .ok (.lcmp, 1) := by decide +kernel
theorem dX10_addUpForm_116 : decode cX10_addUpForm 116 = .ok (.ifCond .ge 5, 3) := by decide +kernel
theorem dX10_addUpForm_119 : decode cX10_addUpForm 119 = .ok (.iconst 0, 1) := by decide +kernel
theorem dX10_addUpForm_120 : decode cX10_addUpForm 120 = .ok (.ireturn, 1) := by decide +kernel
theorem dX10_addUpForm_121 : decode cX10_addUpForm 121 = .ok (.aload_n 0, 1) := by decide +kernel
theorem dX10_addUpForm_122 : decode cX10_addUpForm 122 = .ok (.getfield 90, 3) := by decide +kernel
theorem dX10_addUpForm_125 : decode cX10_addUpForm 125 = .ok (.iload_n 3, 1) := by decide +kernel
theorem dX10_addUpForm_126 : decode cX10_addUpForm 126 = .ok (.lload 4, 2) := by decide +kernel
theorem dX10_addUpForm_128 : decode cX10_addUpForm 128 = .ok (.lastore, 1) := by decide +kernel
theorem dX10_addUpForm_129 : decode cX10_addUpForm 129 = .ok (.iinc 3 1, 3) := by decide +kernel
theorem dX10_addUpForm_132 : decode cX10_addUpForm 132 = .ok (.goto (-57), 3) := by decide +kernel
theorem dX10_addUpForm_135 : decode cX10_addUpForm 135 = .ok (.iinc 2 1, 3) := by decide +kernel
theorem dX10_addUpForm_138 : decode cX10_addUpForm 138 = .ok (.goto (-120), 3) := by decide +kernel
theorem dX10_addUpForm_141 : decode cX10_addUpForm 141 = .ok (.iconst 1, 1) := by decide +kernel
theorem dX10_addUpForm_142 : decode cX10_addUpForm 142 = .ok (.ireturn, 1) := by decide +kernel
theorem dX10_again_0 : decode cX10_again 0 = .ok (.aload_n 0, 1) := by decide +kernel
theorem dX10_again_1 : decode cX10_again 1 = .ok (.getfield 19, 3) := by decide +kernel
theorem dX10_again_4 : decode cX10_again 4 = .ok (.ifCond .ne 6, 3) := by decide +kernel
theorem dX10_again_7 : decode cX10_again 7 = .ok (.bipush (-3), 2) := by decide +kernel
theorem dX10_again_9 : decode cX10_again 9 = .ok (.ireturn, 1) := by decide +kernel
theorem dX10_again_10 : decode cX10_again 10 = .ok (.aload_n 0, 1) := by decide +kernel
theorem dX10_again_11 : decode cX10_again 11 = .ok (.getfield 10, 3) := by decide +kernel
theorem dX10_again_14 : decode cX10_again 14 = .ok (.aload_n 0, 1) := by decide +kernel
theorem dX10_again_15 : decode cX10_again 15 = .ok (.getfield 16, 3) := by decide +kernel
theorem dX10_again_18 : decode cX10_again 18 = .ok (.invokevirtual 329, 3) := by decide +kernel
theorem dX10_again_21 : decode cX10_again 21 = .ok (.aload_n 0, 1) := by decide +kernel
theorem dX10_again_22 : decode cX10_again 22 = .ok (.invokevirtual 104, 3) := by decide +kernel
theorem dX10_again_25 : decode cX10_again 25 = .ok (.aload_n 0, 1) := by decide +kernel
theorem dX10_again_26 : decode cX10_again 26 = .ok (.getfield 10, 3) := by decide +kernel
theorem dX10_again_29 : decode cX10_again 29 = .ok (.getfield 101, 3) := by decide +kernel
theorem dX10_again_32 : decode cX10_again 32 = .ok (.ireturn, 1) := by decide +kernel
theorem dX10_areApartBy_0 : decode cX10_areApartBy 0 = .ok (.aload_n 0, 1) := by decide +kernel
theorem dX10_areApartBy_1 : decode cX10_areApartBy 1 = .ok (.getfield 10, 3) := by decide +kernel
theorem dX10_areApartBy_4 : decode cX10_areApartBy 4 = .ok (.invokevirtual 130, 3) := by decide +kernel
theorem dX10_areApartBy_7 : decode cX10_areApartBy 7 = .ok (.istore_n 2, 1) := by decide +kernel
theorem dX10_areApartBy_8 : decode cX10_areApartBy 8 = .ok (.aload_n 0, 1) := by decide +kernel
theorem dX10_areApartBy_9 : decode cX10_areApartBy 9 = .ok (.iload_n 2, 1) := by decide +kernel
theorem dX10_areApartBy_10 : decode cX10_areApartBy 10 = .ok (.sipush 400, 3) := by decide +kernel
theorem dX10_areApartBy_13 : decode cX10_areApartBy 13 = .ok (.invokevirtual 375, 3) := by decide +kernel
theorem dX10_areApartBy_16 : decode cX10_areApartBy 16 = .ok (.astore_n 3, 1) := by decide +kernel
theorem dX10_areApartBy_17 : decode cX10_areApartBy 17 = .ok (.iconst 0, 1) := by decide +kernel
theorem dX10_areApartBy_18 : decode cX10_areApartBy 18 = .ok (.istore 4, 2) := by decide +kernel
theorem dX10_areApartBy_20 : decode cX10_areApartBy 20 = .ok (.iload 4, 2) := by decide +kernel
theorem dX10_areApartBy_22 : decode cX10_areApartBy 22 = .ok (.aload_n 0, 1) := by decide +kernel
theorem dX10_areApartBy_23 : decode cX10_areApartBy 23 = .ok (.getfield 41, 3) := by decide +kernel
theorem dX10_areApartBy_26 : decode cX10_areApartBy 26 = .ok (.getfield 198, 3) := by decide +kernel
theorem dX10_areApartBy_29 : decode cX10_areApartBy 29 = .ok (.if_icmp .ge 69, 3) := by decide +kernel
theorem dX10_areApartBy_32 : decode cX10_areApartBy 32 = .ok (.aload_n 0, 1) := by decide +kernel
theorem dX10_areApartBy_33 : decode cX10_areApartBy 33 = .ok (.getfield 41, 3) := by decide +kernel
theorem dX10_areApartBy_36 : decode cX10_areApartBy 36 = .ok (.getfield 207, 3) := by decide +kernel
theorem dX10_areApartBy_39 : decode cX10_areApartBy 39 = .ok (.aload_n 0, 1) := by decide +kernel
theorem dX10_areApartBy_40 : decode cX10_areApartBy 40 = .ok (.getfield 41, 3) := by decide +kernel
theorem dX10_areApartBy_43 : decode cX10_areApartBy 43 = .ok (.iload 4, 2) := by decide +kernel
theorem dX10_areApartBy_45 : decode cX10_areApartBy 45 = .ok (.invokevirtual 208, 3) := by decide +kernel
theorem dX10_areApartBy_48 : decode cX10_areApartBy 48 = .ok (.aload_n 0, 1) := by decide +kernel
theorem dX10_areApartBy_49 : decode cX10_areApartBy 49 = .ok (.getfield 90, 3) := by decide +kernel
theorem dX10_areApartBy_52 : decode cX10_areApartBy 52 = .ok (.iconst 0, 1) := by decide +kernel
theorem dX10_areApartBy_53 : decode cX10_areApartBy 53 = .ok (.iload_n 2, 1) := by decide +kernel
theorem dX10_areApartBy_54 : decode cX10_areApartBy 54 = .ok (.invokestatic 189, 3) := by decide +kernel
theorem dX10_areApartBy_57 : decode cX10_areApartBy 57 = .ok (.aload_n 0, 1) := by decide +kernel
theorem dX10_areApartBy_58 : decode cX10_areApartBy 58 = .ok (.getfield 90, 3) := by decide +kernel
theorem dX10_areApartBy_61 : decode cX10_areApartBy 61 = .ok (.iload_n 2, 1) := by decide +kernel
theorem dX10_areApartBy_62 : decode cX10_areApartBy 62 = .ok (.iload_n 1, 1) := by decide +kernel
theorem dX10_areApartBy_63 : decode cX10_areApartBy 63 = .ok (.invokestatic 379, 3) := by decide +kernel
theorem dX10_areApartBy_66 : decode cX10_areApartBy 66 = .ok (.aload_n 3, 1) := by decide +kernel
theorem dX10_areApartBy_67 : decode cX10_areApartBy 67 = .ok (.aload_n 0, 1) := by decide +kernel
theorem dX10_areApartBy_68 : decode cX10_areApartBy 68 = .ok (.getfield 90, 3) := by decide +kernel
theorem dX10_areApartBy_71 : decode cX10_areApartBy 71 = .ok (.invokevirtual 227, 3) := by decide +kernel
theorem dX10_areApartBy_74 : decode cX10_areApartBy 74 = .ok (.ifCond .lt 5, 3) := by decide +kernel
theorem dX10_areApartBy_77 : decode cX10_areApartBy 77 = .ok (.iconst 0, 1) := by decide +kernel
theorem dX10_areApartBy_78 : decode cX10_areApartBy 78 = .ok (.ireturn, 1) := by decide +kernel
theorem dX10_areApartBy_79 : decode cX10_areApartBy 79 = .ok (.aload_n 3, 1) := by decide +kernel
theorem dX10_areApartBy_80 : decode cX10_areApartBy 80 = .ok (.aload_n 0, 1) := by decide +kernel
theorem dX10_areApartBy_81 : decode cX10_areApartBy 81 = .ok (.getfield 90, 3) := by decide +kernel
theorem dX10_areApartBy_84 : decode cX10_areApartBy 84 = .ok (.bipush (-3), 2) := by decide +kernel
theorem dX10_areApartBy_86 : decode cX10_areApartBy 86 = .ok (.bipush (-3), 2) := by decide +kernel
theorem dX10_areApartBy_88 : decode cX10_areApartBy 88 = .ok (.invokevirtual 279, 3) := by decide +kernel
theorem dX10_areApartBy_91 : decode cX10_areApartBy 91 = .ok (.pop, 1) := by decide +kernel
theorem dX10_areApartBy_92 : decode cX10_areApartBy 92 = .ok (.iinc 4 1, 3) := by decide +kernel
theorem dX10_areApartBy_95 : decode cX10_areApartBy 95 = .ok (.goto (-75), 3) := by decide +kernel
theorem dX10_areApartBy_98 : decode cX10_areApartBy 98 = .ok (.iconst 1, 1) := by decide +kernel
theorem dX10_areApartBy_99 : decode cX10_areApartBy 99 = .ok (.ireturn, 1) := by decide +kernel
theorem dX10_areGenerators_0 : decode cX10_areGenerators 0 = .ok (.iload_n 1, 1) := by decide +kernel
theorem dX10_areGenerators_1 : decode cX10_areGenerators 1 = .ok (.ifCond .lt 10, 3) := by decide +kernel
theorem dX10_areGenerators_4 : decode cX10_areGenerators 4 = .ok (.iload_n 1, 1) := by decide +kernel
theorem dX10_areGenerators_5 : decode cX10_areGenerators 5 = .ok (.ldc_w 367, 3) := by decide +kernel
theorem dX10_areGenerators_8 : decode cX10_areGenerators 8 = .ok (.if_icmp .le 5, 3) := by decide +kernel
theorem dX10_areGenerators_11 : decode cX10_areGenerators 11 = .ok (.iconst 0, 1) := by decide +kernel
theorem dX10_areGenerators_12 : decode cX10_areGenerators 12 = .ok (.ireturn, 1) := by decide +kernel
theorem dX10_areGenerators_13 : decode cX10_areGenerators 13 = .ok (.iload_n 1, 1) := by decide +kernel
theorem dX10_areGenerators_14 : decode cX10_areGenerators 14 = .ok (.istore_n 2, 1) := by decide +kernel
theorem dX10_areGenerators_15 : decode cX10_areGenerators 15 = .ok (.iload_n 2, 1) := by decide +kernel
theorem dX10_areGenerators_16 : decode cX10_areGenerators 16 = .ok (.ifCond .le 29, 3) := by decide +kernel
theorem dX10_areGenerators_19 : decode cX10_areGenerators 19 = .ok (.aload_n 0, 1) := by decide +kernel
theorem dX10_areGenerators_20 : decode cX10_areGenerators 20 = .ok (.getfield 10, 3) := by decide +kernel
theorem dX10_areGenerators_23 : decode cX10_areGenerators 23 = .ok (.iload_n 2, 1) := by decide +kernel
theorem dX10_areGenerators_24 : decode cX10_areGenerators 24 = .ok (.bipush 10, 2) := by decide +kernel
theorem dX10_areGenerators_26 : decode cX10_areGenerators 26 = .ok (.irem, 1) := by decide +kernel
theorem dX10_areGenerators_27 : decode cX10_areGenerators 27 = .ok (.iconst 1, 1) := by decide +kernel
theorem dX10_areGenerators_28 : decode cX10_areGenerators 28 = .ok (.isub, 1) := by decide +kernel
theorem dX10_areGenerators_29 : decode cX10_areGenerators 29 = .ok (.invokevirtual 123, 3) := by decide +kernel
theorem dX10_areGenerators_32 : decode cX10_areGenerators 32 = .ok (.ifCond .ne 5, 3) := by decide +kernel
theorem dX10_areGenerators_35 : decode cX10_areGenerators 35 = .ok (.iconst 0, 1) := by decide +kernel
theorem dX10_areGenerators_36 : decode cX10_areGenerators 36 = .ok (.ireturn, 1) := by decide +kernel
theorem dX10_areGenerators_37 : decode cX10_areGenerators 37 = .ok (.iload_n 2, 1) := by decide +kernel
theorem dX10_areGenerators_38 : decode cX10_areGenerators 38 = .ok (.bipush 10, 2) := by decide +kernel
theorem dX10_areGenerators_40 : decode cX10_areGenerators 40 = .ok (.idiv, 1) := by decide +kernel
theorem dX10_areGenerators_41 : decode cX10_areGenerators 41 = .ok (.istore_n 2, 1) := by decide +kernel
theorem dX10_areGenerators_42 : decode cX10_areGenerators 42 = .ok (.goto (-27), 3) := by decide +kernel
theorem dX10_areGenerators_45 : decode cX10_areGenerators 45 = .ok (.iconst 1, 1) := by decide +kernel
theorem dX10_areGenerators_46 : decode cX10_areGenerators 46 = .ok (.ireturn, 1) := by decide +kernel
theorem dX10_asLong_0 : decode cX10_asLong 0 = .ok (.iload_n 0, 1) := by decide +kernel
theorem dX10_asLong_1 : decode cX10_asLong 1 = .ok (.i2l, 1) := by decide +kernel
theorem dX10_asLong_2 : decode cX10_asLong 2 = .ok (.ldc2_w 331, 3) := by decide +kernel
theorem dX10_asLong_5 : decode cX10_asLong 5 = .ok (.lsub, 1) := by decide +kernel
theorem dX10_asLong_6 : decode cX10_asLong 6 = .ok (.lreturn, 1) := by decide +kernel
theorem dX10_at_0 : decode cX10_at 0 = .ok (.aload_n 0, 1) := by decide +kernel
theorem dX10_at_1 : decode cX10_at 1 = .ok (.getfield 10, 3) := by decide +kernel
theorem dX10_at_4 : decode cX10_at 4 = .ok (.iload_n 1, 1) := by decide +kernel
theorem dX10_at_5 : decode cX10_at 5 = .ok (.invokevirtual 123, 3) := by decide +kernel
theorem dX10_at_8 : decode cX10_at 8 = .ok (.ifCond .eq 15, 3) := by decide +kernel
theorem dX10_at_11 : decode cX10_at 11 = .ok (.aload_n 0, 1) := by decide +kernel
theorem dX10_at_12 : decode cX10_at 12 = .ok (.getfield 10, 3) := by decide +kernel
theorem dX10_at_15 : decode cX10_at 15 = .ok (.iload_n 2, 1) := by decide +kernel
theorem dX10_at_16 : decode cX10_at 16 = .ok (.iload_n 3, 1) := by decide +kernel
theorem dX10_at_17 : decode cX10_at 17 = .ok (.invokevirtual 107, 3) := by decide +kernel
theorem dX10_at_20 : decode cX10_at 20 = .ok (.ifCond .ne 5, 3) := by decide +kernel
theorem dX10_at_23 : decode cX10_at 23 = .ok (.iconst (-1), 1) := by decide +kernel
theorem dX10_at_24 : decode cX10_at 24 = .ok (.ireturn, 1) := by decide +kernel
theorem dX10_at_25 : decode cX10_at 25 = .ok (.sipush 1000, 3) := by decide +kernel
theorem dX10_at_28 : decode cX10_at 28 = .ok (.aload_n 0, 1) := by decide +kernel
theorem dX10_at_29 : decode cX10_at 29 = .ok (.getfield 10, 3) := by decide +kernel
theorem dX10_at_32 : decode cX10_at 32 = .ok (.getfield 145, 3) := by decide +kernel
theorem dX10_at_35 : decode cX10_at 35 = .ok (.iload_n 1, 1) := by decide +kernel
theorem dX10_at_36 : decode cX10_at 36 = .ok (.bipush 9, 2) := by decide +kernel
theorem dX10_at_38 : decode cX10_at 38 = .ok (.imul, 1) := by decide +kernel
theorem dX10_at_39 : decode cX10_at 39 = .ok (.iload_n 2, 1) := by decide +kernel
theorem dX10_at_40 : decode cX10_at 40 = .ok (.aload_n 0, 1) := by decide +kernel
theorem dX10_at_41 : decode cX10_at 41 = .ok (.getfield 10, 3) := by decide +kernel
theorem dX10_at_44 : decode cX10_at 44 = .ok (.getfield 98, 3) := by decide +kernel
theorem dX10_at_47 : decode cX10_at 47 = .ok (.imul, 1) := by decide +kernel
theorem dX10_at_48 : decode cX10_at 48 = .ok (.iadd, 1) := by decide +kernel
theorem dX10_at_49 : decode cX10_at 49 = .ok (.iload_n 3, 1) := by decide +kernel
theorem dX10_at_50 : decode cX10_at 50 = .ok (.iadd, 1) := by decide +kernel
theorem dX10_at_51 : decode cX10_at 51 = .ok (.laload, 1) := by decide +kernel
theorem dX10_at_52 : decode cX10_at 52 = .ok (.l2i, 1) := by decide +kernel
theorem dX10_at_53 : decode cX10_at 53 = .ok (.iadd, 1) := by decide +kernel
theorem dX10_at_54 : decode cX10_at 54 = .ok (.ireturn, 1) := by decide +kernel
theorem dX10_character_0 : decode cX10_character 0 = .ok (.aload_n 0, 1) := by decide +kernel
theorem dX10_character_1 : decode cX10_character 1 = .ok (.getfield 10, 3) := by decide +kernel
theorem dX10_character_4 : decode cX10_character 4 = .ok (.iload_n 1, 1) := by decide +kernel
theorem dX10_character_5 : decode cX10_character 5 = .ok (.invokevirtual 123, 3) := by decide +kernel
theorem dX10_character_8 : decode cX10_character 8 = .ok (.ifCond .eq 18, 3) := by decide +kernel
theorem dX10_character_11 : decode cX10_character 11 = .ok (.iload_n 2, 1) := by decide +kernel
theorem dX10_character_12 : decode cX10_character 12 = .ok (.ifCond .lt 14, 3) := by decide +kernel
theorem dX10_character_15 : decode cX10_character 15 = .ok (.iload_n 2, 1) := by decide +kernel
theorem dX10_character_16 : decode cX10_character 16 = .ok (.aload_n 0, 1) := by decide +kernel
theorem dX10_character_17 : decode cX10_character 17 = .ok (.getfield 10, 3) := by decide +kernel
theorem dX10_character_20 : decode cX10_character 20 = .ok (.getfield 98, 3) := by decide +kernel
theorem dX10_character_23 : decode cX10_character 23 = .ok (.if_icmp .le 5, 3) := by decide +kernel
theorem dX10_character_26 : decode cX10_character 26 = .ok (.iconst (-1), 1) := by decide +kernel
theorem dX10_character_27 : decode cX10_character 27 = .ok (.ireturn, 1) := by decide +kernel
theorem dX10_character_28 : decode cX10_character 28 = .ok (.ldc 160, 2) := by decide +kernel
theorem dX10_character_30 : decode cX10_character 30 = .ok (.aload_n 0, 1) := by decide +kernel
theorem dX10_character_31 : decode cX10_character 31 = .ok (.getfield 10, 3) := by decide +kernel
theorem dX10_character_34 : decode cX10_character 34 = .ok (.getfield 145, 3) := by decide +kernel
theorem dX10_character_37 : decode cX10_character 37 = .ok (.iload_n 1, 1) := by decide +kernel
theorem dX10_character_38 : decode cX10_character 38 = .ok (.bipush 9, 2) := by decide +kernel
theorem dX10_character_40 : decode cX10_character 40 = .ok (.imul, 1) := by decide +kernel
theorem dX10_character_41 : decode cX10_character 41 = .ok (.aload_n 0, 1) := by decide +kernel
theorem dX10_character_42 : decode cX10_character 42 = .ok (.getfield 10, 3) := by decide +kernel
theorem dX10_character_45 : decode cX10_character 45 = .ok (.getfield 98, 3) := by decide +kernel
theorem dX10_character_48 : decode cX10_character 48 = .ok (.invokestatic 161, 3) := by decide +kernel
theorem dX10_character_51 : decode cX10_character 51 = .ok (.iload_n 2, 1) := by decide +kernel
theorem dX10_character_52 : decode cX10_character 52 = .ok (.laload, 1) := by decide +kernel
theorem dX10_character_53 : decode cX10_character 53 = .ok (.l2i, 1) := by decide +kernel
theorem dX10_character_54 : decode cX10_character 54 = .ok (.iadd, 1) := by decide +kernel
theorem dX10_character_55 : decode cX10_character 55 = .ok (.ireturn, 1) := by decide +kernel
theorem dX10_clearBench_0 : decode cX10_clearBench 0 = .ok (.aload_n 0, 1) := by decide +kernel
theorem dX10_clearBench_1 : decode cX10_clearBench 1 = .ok (.getfield 54, 3) := by decide +kernel
theorem dX10_clearBench_4 : decode cX10_clearBench 4 = .ok (.ifnonnull 23, 3) := by decide +kernel
theorem dX10_clearBench_7 : decode cX10_clearBench 7 = .ok (.aload_n 0, 1) := by decide +kernel
theorem dX10_clearBench_8 : decode cX10_clearBench 8 = .ok (.new 36, 3) := by decide +kernel
theorem dX10_clearBench_11 : decode cX10_clearBench 11 = .ok (.dup, 1) := by decide +kernel
theorem dX10_clearBench_12 : decode cX10_clearBench 12 = .ok (.sipush 400, 3) := by decide +kernel
theorem dX10_clearBench_15 : decode cX10_clearBench 15 = .ok (.sipush 12000, 3) := by decide +kernel
theorem dX10_clearBench_18 : decode cX10_clearBench 18 = .ok (.sipush 1024, 3) := by decide +kernel
theorem dX10_clearBench_21 : decode cX10_clearBench 21 = .ok (.invokespecial 38, 3) := by decide +kernel
theorem dX10_clearBench_24 : decode cX10_clearBench 24 = .ok (.putfield 54, 3) := by decide +kernel
theorem dX10_clearBench_27 : decode cX10_clearBench 27 = .ok (.aload_n 0, 1) := by decide +kernel
theorem dX10_clearBench_28 : decode cX10_clearBench 28 = .ok (.getfield 54, 3) := by decide +kernel
theorem dX10_clearBench_31 : decode cX10_clearBench 31 = .ok (.iload_n 1, 1) := by decide +kernel
theorem dX10_clearBench_32 : decode cX10_clearBench 32 = .ok (.iload_n 2, 1) := by decide +kernel
theorem dX10_clearBench_33 : decode cX10_clearBench 33 = .ok (.invokevirtual 275, 3) := by decide +kernel
theorem dX10_clearBench_36 : decode cX10_clearBench 36 = .ok (.aload_n 0, 1) := by decide +kernel
theorem dX10_clearBench_37 : decode cX10_clearBench 37 = .ok (.getfield 54, 3) := by decide +kernel
theorem dX10_clearBench_40 : decode cX10_clearBench 40 = .ok (.areturn, 1) := by decide +kernel
theorem dX10_copy_0 : decode cX10_copy 0 = .ok (.iload_n 1, 1) := by decide +kernel
theorem dX10_copy_1 : decode cX10_copy 1 = .ok (.invokestatic 303, 3) := by decide +kernel
theorem dX10_copy_4 : decode cX10_copy 4 = .ok (.ifCond .eq 10, 3) := by decide +kernel
theorem dX10_copy_7 : decode cX10_copy 7 = .ok (.iload_n 3, 1) := by decide +kernel
theorem dX10_copy_8 : decode cX10_copy 8 = .ok (.invokestatic 303, 3) := by decide +kernel
theorem dX10_copy_11 : decode cX10_copy 11 = .ok (.ifCond .ne 5, 3) := by decide +kernel
theorem dX10_copy_14 : decode cX10_copy 14 = .ok (.iconst (-1), 1) := by decide +kernel
theorem dX10_copy_15 : decode cX10_copy 15 = .ok (.ireturn, 1) := by decide +kernel
theorem dX10_copy_16 : decode cX10_copy 16 = .ok (.aload_n 0, 1) := by decide +kernel
theorem dX10_copy_17 : decode cX10_copy 17 = .ok (.getfield 32, 3) := by decide +kernel
theorem dX10_copy_20 : decode cX10_copy 20 = .ok (.iload_n 1, 1) := by decide +kernel
theorem dX10_copy_21 : decode cX10_copy 21 = .ok (.aaload, 1) := by decide +kernel
theorem dX10_copy_22 : decode cX10_copy 22 = .ok (.astore 6, 2) := by decide +kernel
theorem dX10_copy_24 : decode cX10_copy 24 = .ok (.aload_n 0, 1) := by decide +kernel
theorem dX10_copy_25 : decode cX10_copy 25 = .ok (.getfield 32, 3) := by decide +kernel
theorem dX10_copy_28 : decode cX10_copy 28 = .ok (.iload_n 3, 1) := by decide +kernel
theorem dX10_copy_29 : decode cX10_copy 29 = .ok (.aaload, 1) := by decide +kernel
theorem dX10_copy_30 : decode cX10_copy 30 = .ok (.astore 7, 2) := by decide +kernel
theorem dX10_copy_32 : decode cX10_copy 32 = .ok (.aload 6, 2) := by decide +kernel
theorem dX10_copy_34 : decode cX10_copy 34 = .ok (.invokevirtual 312, 3) := by decide +kernel
theorem dX10_copy_37 : decode cX10_copy 37 = .ok (.ifCond .ne 11, 3) := by decide +kernel
theorem dX10_copy_40 : decode cX10_copy 40 = .ok (.aload 7, 2) := by decide +kernel
theorem dX10_copy_42 : decode cX10_copy 42 = .ok (.invokevirtual 312, 3) := by decide +kernel
theorem dX10_copy_45 : decode cX10_copy 45 = .ok (.ifCond .eq 6, 3) := by decide +kernel
theorem dX10_copy_48 : decode cX10_copy 48 = .ok (.bipush (-11), 2) := by decide +kernel
theorem dX10_copy_50 : decode cX10_copy 50 = .ok (.ireturn, 1) := by decide +kernel
theorem dX10_copy_51 : decode cX10_copy 51 = .ok (.aload 6, 2) := by decide +kernel
theorem dX10_copy_53 : decode cX10_copy 53 = .ok (.getfield 322, 3) := by decide +kernel
theorem dX10_copy_56 : decode cX10_copy 56 = .ok (.aload 7, 2) := by decide +kernel
theorem dX10_copy_58 : decode cX10_copy 58 = .ok (.getfield 322, 3) := by decide +kernel
theorem dX10_copy_61 : decode cX10_copy 61 = .ok (.if_icmp .eq 6, 3) := by decide +kernel
theorem dX10_copy_64 : decode cX10_copy 64 = .ok (.bipush (-13), 2) := by decide +kernel
theorem dX10_copy_66 : decode cX10_copy 66 = .ok (.ireturn, 1) := by decide +kernel
theorem dX10_copy_67 : decode cX10_copy 67 = .ok (.aload 6, 2) := by decide +kernel
theorem dX10_copy_69 : decode cX10_copy 69 = .ok (.iload_n 2, 1) := by decide +kernel
theorem dX10_copy_70 : decode cX10_copy 70 = .ok (.iload 5, 2) := by decide +kernel
theorem dX10_copy_72 : decode cX10_copy 72 = .ok (.invokevirtual 315, 3) := by decide +kernel
theorem dX10_copy_75 : decode cX10_copy 75 = .ok (.ifCond .ne 15, 3) := by decide +kernel
theorem dX10_copy_78 : decode cX10_copy 78 = .ok (.aload 7, 2) := by decide +kernel
theorem dX10_copy_80 : decode cX10_copy 80 = .ok (.iload 4, 2) := by decide +kernel
theorem dX10_copy_82 : decode cX10_copy 82 = .ok (.iload 5, 2) := by decide +kernel
theorem dX10_copy_84 : decode cX10_copy 84 = .ok (.invokevirtual 315, 3) := by decide +kernel
theorem dX10_copy_87 : decode cX10_copy 87 = .ok (.ifCond .eq 6, 3) := by decide +kernel
theorem dX10_copy_90 : decode cX10_copy 90 = .ok (.bipush (-12), 2) := by decide +kernel
theorem dX10_copy_92 : decode cX10_copy 92 = .ok (.ireturn, 1) := by decide +kernel
theorem dX10_copy_93 : decode cX10_copy 93 = .ok (.aload 6, 2) := by decide +kernel
theorem dX10_copy_95 : decode cX10_copy 95 = .ok (.getfield 250, 3) := by decide +kernel
theorem dX10_copy_98 : decode cX10_copy 98 = .ok (.iload_n 2, 1) := by decide +kernel
theorem dX10_copy_99 : decode cX10_copy 99 = .ok (.aload 7, 2) := by decide +kernel
theorem dX10_copy_101 : decode cX10_copy 101 = .ok (.getfield 250, 3) := by decide +kernel
theorem dX10_copy_104 : decode cX10_copy 104 = .ok (.iload 4, 2) := by decide +kernel
theorem dX10_copy_106 : decode cX10_copy 106 = .ok (.iload 5, 2) := by decide +kernel
theorem dX10_copy_108 : decode cX10_copy 108 = .ok (.invokestatic 189, 3) := by decide +kernel
theorem dX10_copy_111 : decode cX10_copy 111 = .ok (.iload 5, 2) := by decide +kernel
theorem dX10_copy_113 : decode cX10_copy 113 = .ok (.ireturn, 1) := by decide +kernel
theorem dX10_countImage_0 : decode cX10_countImage 0 = .ok (.aload_n 0, 1) := by decide +kernel
theorem dX10_countImage_1 : decode cX10_countImage 1 = .ok (.aload_n 0, 1) := by decide +kernel
theorem dX10_countImage_2 : decode cX10_countImage 2 = .ok (.getfield 10, 3) := by decide +kernel
theorem dX10_countImage_5 : decode cX10_countImage 5 = .ok (.invokevirtual 130, 3) := by decide +kernel
theorem dX10_countImage_8 : decode cX10_countImage 8 = .ok (.sipush 400, 3) := by decide +kernel
theorem dX10_countImage_11 : decode cX10_countImage 11 = .ok (.invokevirtual 375, 3) := by decide +kernel
theorem dX10_countImage_14 : decode cX10_countImage 14 = .ok (.astore_n 2, 1) := by decide +kernel
theorem dX10_countImage_15 : decode cX10_countImage 15 = .ok (.aload_n 0, 1) := by decide +kernel
theorem dX10_countImage_16 : decode cX10_countImage 16 = .ok (.getfield 90, 3) := by decide +kernel
theorem dX10_countImage_19 : decode cX10_countImage 19 = .ok (.aload_n 0, 1) := by decide +kernel
theorem dX10_countImage_20 : decode cX10_countImage 20 = .ok (.getfield 10, 3) := by decide +kernel
theorem dX10_countImage_23 : decode cX10_countImage 23 = .ok (.getfield 98, 3) := by decide +kernel
theorem dX10_countImage_26 : decode cX10_countImage 26 = .ok (.invokestatic 339, 3) := by decide +kernel
theorem dX10_countImage_29 : decode cX10_countImage 29 = .ok (.aload_n 2, 1) := by decide +kernel
theorem dX10_countImage_30 : decode cX10_countImage 30 = .ok (.aload_n 0, 1) := by decide +kernel
theorem dX10_countImage_31 : decode cX10_countImage 31 = .ok (.getfield 90, 3) := by decide +kernel
theorem dX10_countImage_34 : decode cX10_countImage 34 = .ok (.bipush (-3), 2) := by decide +kernel
theorem dX10_countImage_36 : decode cX10_countImage 36 = .ok (.bipush (-3), 2) := by decide +kernel
theorem dX10_countImage_38 : decode cX10_countImage 38 = .ok (.invokevirtual 279, 3) := by decide +kernel
theorem dX10_countImage_41 : decode cX10_countImage 41 = .ok (.pop, 1) := by decide +kernel
theorem dX10_countImage_42 : decode cX10_countImage 42 = .ok (.aload_n 0, 1) := by decide +kernel
theorem dX10_countImage_43 : decode cX10_countImage 43 = .ok (.getfield 70, 3) := by decide +kernel
theorem dX10_countImage_46 : decode cX10_countImage 46 = .ok (.iload_n 1, 1) := by decide +kernel
theorem dX10_countImage_47 : decode cX10_countImage 47 = .ok (.putfield 364, 3) := by decide +kernel
theorem dX10_countImage_50 : decode cX10_countImage 50 = .ok (.aload_n 2, 1) := by decide +kernel
theorem dX10_countImage_51 : decode cX10_countImage 51 = .ok (.aload_n 0, 1) := by decide +kernel
theorem dX10_countImage_52 : decode cX10_countImage 52 = .ok (.getfield 70, 3) := by decide +kernel
theorem dX10_countImage_55 : decode cX10_countImage 55 = .ok (.aload_n 0, 1) := by decide +kernel
theorem dX10_countImage_56 : decode cX10_countImage 56 = .ok (.getfield 10, 3) := by decide +kernel
theorem dX10_countImage_59 : decode cX10_countImage 59 = .ok (.getfield 101, 3) := by decide +kernel
theorem dX10_countImage_62 : decode cX10_countImage 62 = .ok (.invokevirtual 282, 3) := by decide +kernel
theorem dX10_countImage_65 : decode cX10_countImage 65 = .ok (.aload_n 2, 1) := by decide +kernel
theorem dX10_countImage_66 : decode cX10_countImage 66 = .ok (.getfield 198, 3) := by decide +kernel
theorem dX10_countImage_69 : decode cX10_countImage 69 = .ok (.ireturn, 1) := by decide +kernel
theorem dX10_drop_0 : decode cX10_drop 0 = .ok (.aload_n 0, 1) := by decide +kernel
theorem dX10_drop_1 : decode cX10_drop 1 = .ok (.getfield 10, 3) := by decide +kernel
theorem dX10_drop_4 : decode cX10_drop 4 = .ok (.getfield 101, 3) := by decide +kernel
theorem dX10_drop_7 : decode cX10_drop 7 = .ok (.ifCond .ne 6, 3) := by decide +kernel
theorem dX10_drop_10 : decode cX10_drop 10 = .ok (.bipush (-3), 2) := by decide +kernel
theorem dX10_drop_12 : decode cX10_drop 12 = .ok (.ireturn, 1) := by decide +kernel
theorem dX10_drop_13 : decode cX10_drop 13 = .ok (.aload_n 0, 1) := by decide +kernel
theorem dX10_drop_14 : decode cX10_drop 14 = .ok (.getfield 10, 3) := by decide +kernel
theorem dX10_drop_17 : decode cX10_drop 17 = .ok (.dup, 1) := by decide +kernel
theorem dX10_drop_18 : decode cX10_drop 18 = .ok (.getfield 101, 3) := by decide +kernel
theorem dX10_drop_21 : decode cX10_drop 21 = .ok (.iconst 1, 1) := by decide +kernel
theorem dX10_drop_22 : decode cX10_drop 22 = .ok (.isub, 1) := by decide +kernel
theorem dX10_drop_23 : decode cX10_drop 23 = .ok (.putfield 101, 3) := by decide +kernel
theorem dX10_drop_26 : decode cX10_drop 26 = .ok (.aload_n 0, 1) := by decide +kernel
theorem dX10_drop_27 : decode cX10_drop 27 = .ok (.invokevirtual 104, 3) := by decide +kernel
theorem dX10_drop_30 : decode cX10_drop 30 = .ok (.aload_n 0, 1) := by decide +kernel
theorem dX10_drop_31 : decode cX10_drop 31 = .ok (.getfield 10, 3) := by decide +kernel
theorem dX10_drop_34 : decode cX10_drop 34 = .ok (.getfield 101, 3) := by decide +kernel
theorem dX10_drop_37 : decode cX10_drop 37 = .ok (.ireturn, 1) := by decide +kernel
theorem dX10_element_0 : decode cX10_element 0 = .ok (.aload_n 0, 1) := by decide +kernel
theorem dX10_element_1 : decode cX10_element 1 = .ok (.invokevirtual 195, 3) := by decide +kernel
theorem dX10_element_4 : decode cX10_element 4 = .ok (.aload_n 0, 1) := by decide +kernel
theorem dX10_element_5 : decode cX10_element 5 = .ok (.getfield 41, 3) := by decide +kernel
theorem dX10_element_8 : decode cX10_element 8 = .ok (.iload_n 1, 1) := by decide +kernel
theorem dX10_element_9 : decode cX10_element 9 = .ok (.invokevirtual 202, 3) := by decide +kernel
theorem dX10_element_12 : decode cX10_element 12 = .ok (.ifCond .eq 15, 3) := by decide +kernel
theorem dX10_element_15 : decode cX10_element 15 = .ok (.aload_n 0, 1) := by decide +kernel
theorem dX10_element_16 : decode cX10_element 16 = .ok (.getfield 10, 3) := by decide +kernel
theorem dX10_element_19 : decode cX10_element 19 = .ok (.iload_n 2, 1) := by decide +kernel
theorem dX10_element_20 : decode cX10_element 20 = .ok (.iload_n 3, 1) := by decide +kernel
theorem dX10_element_21 : decode cX10_element 21 = .ok (.invokevirtual 107, 3) := by decide +kernel
theorem dX10_element_24 : decode cX10_element 24 = .ok (.ifCond .ne 8, 3) := by decide +kernel
theorem dX10_element_27 : decode cX10_element 27 = .ok (.iconst (-1), 1) := by decide +kernel
theorem dX10_element_28 : decode cX10_element 28 = .ok (.invokestatic 203, 3) := by decide +kernel
theorem dX10_element_31 : decode cX10_element 31 = .ok (.lreturn, 1) := by decide +kernel
theorem dX10_element_32 : decode cX10_element 32 = .ok (.aload_n 0, 1) := by decide +kernel
theorem dX10_element_33 : decode cX10_element 33 = .ok (.getfield 41, 3) := by decide +kernel
theorem dX10_element_36 : decode cX10_element 36 = .ok (.getfield 207, 3) := by decide +kernel
theorem dX10_element_39 : decode cX10_element 39 = .ok (.aload_n 0, 1) := by decide +kernel
theorem dX10_element_40 : decode cX10_element 40 = .ok (.getfield 41, 3) := by decide +kernel
theorem dX10_element_43 : decode cX10_element 43 = .ok (.iload_n 1, 1) := by decide +kernel
theorem dX10_element_44 : decode cX10_element 44 = .ok (.invokevirtual 208, 3) := by decide +kernel
theorem dX10_element_47 : decode cX10_element 47 = .ok (.iload_n 2, 1) := by decide +kernel
theorem dX10_element_48 : decode cX10_element 48 = .ok (.aload_n 0, 1) := by decide +kernel
theorem dX10_element_49 : decode cX10_element 49 = .ok (.getfield 10, 3) := by decide +kernel
theorem dX10_element_52 : decode cX10_element 52 = .ok (.getfield 98, 3) := by decide +kernel
theorem dX10_element_55 : decode cX10_element 55 = .ok (.imul, 1) := by decide +kernel
theorem dX10_element_56 : decode cX10_element 56 = .ok (.iadd, 1) := by decide +kernel
theorem dX10_element_57 : decode cX10_element 57 = .ok (.iload_n 3, 1) := by decide +kernel
theorem dX10_element_58 : decode cX10_element 58 = .ok (.iadd, 1) := by decide +kernel
theorem dX10_element_59 : decode cX10_element 59 = .ok (.laload, 1) := by decide +kernel
theorem dX10_element_60 : decode cX10_element 60 = .ok (.lreturn, 1) := by decide +kernel
theorem dX10_factor_0 : decode cX10_factor 0 = .ok (.aload_n 0, 1) := by decide +kernel
theorem dX10_factor_1 : decode cX10_factor 1 = .ok (.getfield 10, 3) := by decide +kernel
theorem dX10_factor_4 : decode cX10_factor 4 = .ok (.iload_n 1, 1) := by decide +kernel
theorem dX10_factor_5 : decode cX10_factor 5 = .ok (.invokevirtual 123, 3) := by decide +kernel
theorem dX10_factor_8 : decode cX10_factor 8 = .ok (.ifCond .eq 10, 3) := by decide +kernel
theorem dX10_factor_11 : decode cX10_factor 11 = .ok (.iload_n 2, 1) := by decide +kernel
theorem dX10_factor_12 : decode cX10_factor 12 = .ok (.invokestatic 167, 3) := by decide +kernel
theorem dX10_factor_15 : decode cX10_factor 15 = .ok (.ifCond .ne 5, 3) := by decide +kernel
theorem dX10_factor_18 : decode cX10_factor 18 = .ok (.iconst (-1), 1) := by decide +kernel
theorem dX10_factor_19 : decode cX10_factor 19 = .ok (.ireturn, 1) := by decide +kernel
theorem dX10_factor_20 : decode cX10_factor 20 = .ok (.aload_n 0, 1) := by decide +kernel
theorem dX10_factor_21 : decode cX10_factor 21 = .ok (.getfield 10, 3) := by decide +kernel
theorem dX10_factor_24 : decode cX10_factor 24 = .ok (.getfield 145, 3) := by decide +kernel
theorem dX10_factor_27 : decode cX10_factor 27 = .ok (.iload_n 1, 1) := by decide +kernel
theorem dX10_factor_28 : decode cX10_factor 28 = .ok (.bipush 9, 2) := by decide +kernel
theorem dX10_factor_30 : decode cX10_factor 30 = .ok (.imul, 1) := by decide +kernel
theorem dX10_factor_31 : decode cX10_factor 31 = .ok (.aload_n 0, 1) := by decide +kernel
theorem dX10_factor_32 : decode cX10_factor 32 = .ok (.getfield 10, 3) := by decide +kernel
theorem dX10_factor_35 : decode cX10_factor 35 = .ok (.getfield 98, 3) := by decide +kernel
theorem dX10_factor_38 : decode cX10_factor 38 = .ok (.invokestatic 161, 3) := by decide +kernel
theorem dX10_factor_41 : decode cX10_factor 41 = .ok (.astore_n 3, 1) := by decide +kernel
theorem dX10_factor_42 : decode cX10_factor 42 = .ok (.aload_n 3, 1) := by decide +kernel
theorem dX10_factor_43 : decode cX10_factor 43 = .ok (.aload_n 0, 1) := by decide +kernel
theorem dX10_factor_44 : decode cX10_factor 44 = .ok (.getfield 10, 3) := by decide +kernel
theorem dX10_factor_47 : decode cX10_factor 47 = .ok (.getfield 98, 3) := by decide +kernel
theorem dX10_factor_50 : decode cX10_factor 50 = .ok (.iload_n 2, 1) := by decide +kernel
theorem dX10_factor_51 : decode cX10_factor 51 = .ok (.invokestatic 170, 3) := by decide +kernel
theorem dX10_factor_54 : decode cX10_factor 54 = .ok (.ireturn, 1) := by decide +kernel
theorem dX10_faithful_0 : decode cX10_faithful 0 = .ok (.iload_n 1, 1) := by decide +kernel
theorem dX10_faithful_1 : decode cX10_faithful 1 = .ok (.invokestatic 259, 3) := by decide +kernel
theorem dX10_faithful_4 : decode cX10_faithful 4 = .ok (.ifCond .ne 5, 3) := by decide +kernel
theorem dX10_faithful_7 : decode cX10_faithful 7 = .ok (.iconst (-1), 1) := by decide +kernel
theorem dX10_faithful_8 : decode cX10_faithful 8 = .ok (.ireturn, 1) := by decide +kernel
theorem dX10_faithful_9 : decode cX10_faithful 9 = .ok (.aload_n 0, 1) := by decide +kernel
theorem dX10_faithful_10 : decode cX10_faithful 10 = .ok (.invokevirtual 195, 3) := by decide +kernel
theorem dX10_faithful_13 : decode cX10_faithful 13 = .ok (.aload_n 0, 1) := by decide +kernel
theorem dX10_faithful_14 : decode cX10_faithful 14 = .ok (.iload_n 1, 1) := by decide +kernel
theorem dX10_faithful_15 : decode cX10_faithful 15 = .ok (.invokevirtual 265, 3) := by decide +kernel
theorem dX10_faithful_18 : decode cX10_faithful 18 = .ok (.ifCond .eq 7, 3) := by decide +kernel
theorem dX10_faithful_21 : decode cX10_faithful 21 = .ok (.iconst 1, 1) := by decide +kernel
theorem dX10_faithful_22 : decode cX10_faithful 22 = .ok (.goto 4, 3) := by decide +kernel
theorem dX10_faithful_25 : decode cX10_faithful 25 = .ok (.iconst 0, 1) := by decide +kernel
theorem dX10_faithful_26 : decode cX10_faithful 26 = .ok (.ireturn, 1) := by decide +kernel
theorem dX10_feed_0 : decode cX10_feed 0 = .ok (.iload_n 3, 1) := by decide +kernel
theorem dX10_feed_1 : decode cX10_feed 1 = .ok (.iconst 1, 1) := by decide +kernel
theorem dX10_feed_2 : decode cX10_feed 2 = .ok (.if_icmp .lt 9, 3) := by decide +kernel
theorem dX10_feed_5 : decode cX10_feed 5 = .ok (.iload_n 3, 1) := by decide +kernel
theorem dX10_feed_6 : decode cX10_feed 6 = .ok (.bipush 8, 2) := by decide +kernel
theorem dX10_feed_8 : decode cX10_feed 8 = .ok (.if_icmp .le 5, 3) := by decide +kernel
theorem dX10_feed_11 : decode cX10_feed 11 = .ok (.iconst (-1), 1) := by decide +kernel
theorem dX10_feed_12 : decode cX10_feed 12 = .ok (.ireturn, 1) := by decide +kernel
theorem dX10_feed_13 : decode cX10_feed 13 = .ok (.aload_n 0, 1) := by decide +kernel
theorem dX10_feed_14 : decode cX10_feed 14 = .ok (.getfield 26, 3) := by decide +kernel
theorem dX10_feed_17 : decode cX10_feed 17 = .ok (.getfield 174, 3) := by decide +kernel
theorem dX10_feed_20 : decode cX10_feed 20 = .ok (.iload_n 3, 1) := by decide +kernel
theorem dX10_feed_21 : decode cX10_feed 21 = .ok (.iadd, 1) := by decide +kernel
theorem dX10_feed_22 : decode cX10_feed 22 = .ok (.bipush 120, 2) := by decide +kernel
theorem dX10_feed_24 : decode cX10_feed 24 = .ok (.if_icmp .le 6, 3) := by decide +kernel
theorem dX10_feed_27 : decode cX10_feed 27 = .ok (.bipush (-2), 2) := by decide +kernel
theorem dX10_feed_29 : decode cX10_feed 29 = .ok (.ireturn, 1) := by decide +kernel
theorem dX10_feed_30 : decode cX10_feed 30 = .ok (.aload_n 0, 1) := by decide +kernel
theorem dX10_feed_31 : decode cX10_feed 31 = .ok (.getfield 26, 3) := by decide +kernel
theorem dX10_feed_34 : decode cX10_feed 34 = .ok (.lload_n 1, 1) := by decide +kernel
theorem dX10_feed_35 : decode cX10_feed 35 = .ok (.iload_n 3, 1) := by decide +kernel
theorem dX10_feed_36 : decode cX10_feed 36 = .ok (.invokevirtual 175, 3) := by decide +kernel
theorem dX10_feed_39 : decode cX10_feed 39 = .ok (.aload_n 0, 1) := by decide +kernel
theorem dX10_feed_40 : decode cX10_feed 40 = .ok (.getfield 26, 3) := by decide +kernel
theorem dX10_feed_43 : decode cX10_feed 43 = .ok (.getfield 174, 3) := by decide +kernel
theorem dX10_feed_46 : decode cX10_feed 46 = .ok (.ireturn, 1) := by decide +kernel
theorem dX10_fitsUnit_0 : decode cX10_fitsUnit 0 = .ok (.iload_n 0, 1) := by decide +kernel
theorem dX10_fitsUnit_1 : decode cX10_fitsUnit 1 = .ok (.ifCond .eq 19, 3) := by decide +kernel
theorem dX10_fitsUnit_4 : decode cX10_fitsUnit 4 = .ok (.iload_n 1, 1) := by decide +kernel
theorem dX10_fitsUnit_5 : decode cX10_fitsUnit 5 = .ok (.iconst 1, 1) := by decide +kernel
theorem dX10_fitsUnit_6 : decode cX10_fitsUnit 6 = .ok (.if_icmp .eq 8, 3) := by decide +kernel
theorem dX10_fitsUnit_9 : decode cX10_fitsUnit 9 = .ok (.iload_n 1, 1) := by decide +kernel
theorem dX10_fitsUnit_10 : decode cX10_fitsUnit 10 = .ok (.iconst (-1), 1) := by decide +kernel
theorem dX10_fitsUnit_11 : decode cX10_fitsUnit 11 = .ok (.if_icmp .ne 7, 3) := by decide +kernel
theorem dX10_fitsUnit_14 : decode cX10_fitsUnit 14 = .ok (.iconst 1, 1) := by decide +kernel
theorem dX10_fitsUnit_15 : decode cX10_fitsUnit 15 = .ok (.goto 4, 3) := by decide +kernel
theorem dX10_fitsUnit_18 : decode cX10_fitsUnit 18 = .ok (.iconst 0, 1) := by decide +kernel
theorem dX10_fitsUnit_19 : decode cX10_fitsUnit 19 = .ok (.ireturn, 1) := by decide +kernel
theorem dX10_fitsUnit_20 : decode cX10_fitsUnit 20 = .ok (.iload_n 1, 1) := by decide +kernel
theorem dX10_fitsUnit_21 : decode cX10_fitsUnit 21 = .ok (.bipush (-99), 2) := by decide +kernel
theorem dX10_fitsUnit_23 : decode cX10_fitsUnit 23 = .ok (.if_icmp .lt 13, 3) := by decide +kernel
theorem dX10_fitsUnit_26 : decode cX10_fitsUnit 26 = .ok (.iload_n 1, 1) := by decide +kernel
theorem dX10_fitsUnit_27 : decode cX10_fitsUnit 27 = .ok (.bipush 99, 2) := by decide +kernel
theorem dX10_fitsUnit_29 : decode cX10_fitsUnit 29 = .ok (.if_icmp .gt 7, 3) := by decide +kernel
theorem dX10_fitsUnit_32 : decode cX10_fitsUnit 32 = .ok (.iconst 1, 1) := by decide +kernel
theorem dX10_fitsUnit_33 : decode cX10_fitsUnit 33 = .ok (.goto 4, 3) := by decide +kernel
theorem dX10_fitsUnit_36 : decode cX10_fitsUnit 36 = .ok (.iconst 0, 1) := by decide +kernel
theorem dX10_fitsUnit_37 : decode cX10_fitsUnit 37 = .ok (.ireturn, 1) := by decide +kernel
theorem dX10_forgetWhatCame_0 : decode cX10_forgetWhatCame 0 = .ok (.aload_n 0, 1) := by decide +kernel
theorem dX10_forgetWhatCame_1 : decode cX10_forgetWhatCame 1 = .ok (.iconst 0, 1) := by decide +kernel
theorem dX10_forgetWhatCame_2 : decode cX10_forgetWhatCame 2 = .ok (.putfield 45, 3) := by decide +kernel
theorem dX10_forgetWhatCame_5 : decode cX10_forgetWhatCame 5 = .ok (.aload_n 0, 1) := by decide +kernel
theorem dX10_forgetWhatCame_6 : decode cX10_forgetWhatCame 6 = .ok (.iconst 0, 1) := by decide +kernel
theorem dX10_forgetWhatCame_7 : decode cX10_forgetWhatCame 7 = .ok (.putfield 51, 3) := by decide +kernel
theorem dX10_forgetWhatCame_10 : decode cX10_forgetWhatCame 10 = .ok (.aload_n 0, 1) := by decide +kernel
theorem dX10_forgetWhatCame_11 : decode cX10_forgetWhatCame 11 = .ok (.getfield 57, 3) := by decide +kernel
theorem dX10_forgetWhatCame_14 : decode cX10_forgetWhatCame 14 = .ok (.iconst 0, 1) := by decide +kernel
theorem dX10_forgetWhatCame_15 : decode cX10_forgetWhatCame 15 = .ok (.invokestatic 333, 3) := by decide +kernel
theorem dX10_forgetWhatCame_18 : decode cX10_forgetWhatCame 18 = .ok (.return_, 1) := by decide +kernel
theorem dX10_form_0 : decode cX10_form 0 = .ok (.aload_n 0, 1) := by decide +kernel
theorem dX10_form_1 : decode cX10_form 1 = .ok (.getfield 10, 3) := by decide +kernel
theorem dX10_form_4 : decode cX10_form 4 = .ok (.iload_n 1, 1) := by decide +kernel
theorem dX10_form_5 : decode cX10_form 5 = .ok (.iload_n 2, 1) := by decide +kernel
theorem dX10_form_6 : decode cX10_form 6 = .ok (.invokevirtual 107, 3) := by decide +kernel
theorem dX10_form_9 : decode cX10_form 9 = .ok (.ifCond .ne 8, 3) := by decide +kernel
theorem dX10_form_12 : decode cX10_form 12 = .ok (.iconst (-1), 1) := by decide +kernel
theorem dX10_form_13 : decode cX10_form 13 = .ok (.invokestatic 203, 3) := by decide +kernel
theorem dX10_form_16 : decode cX10_form 16 = .ok (.lreturn, 1) := by decide +kernel
theorem dX10_form_17 : decode cX10_form 17 = .ok (.aload_n 0, 1) := by decide +kernel
