theorem dJ7_fill_53178_0 : decode cJ7_fill_53178 0 = .ok (.iconst 0, 1) := by decide +kernel
theorem dJ7_fill_53178_1 : decode cJ7_fill_53178 1 = .ok (.istore_n 2, 1) := by decide +kernel
theorem dJ7_fill_53178_2 : decode cJ7_fill_53178 2 = .ok (.aload_n 0, 1) := by decide +kernel
theorem dJ7_fill_53178_3 : decode cJ7_fill_53178 3 = .ok (.arraylength, 1) := by decide +kernel
theorem dJ7_fill_53178_4 : decode cJ7_fill_53178 4 = .ok (.istore_n 3, 1) := by decide +kernel
theorem dJ7_fill_53178_5 : decode cJ7_fill_53178 5 = .ok (.iload_n 2, 1) := by decide +kernel
theorem dJ7_fill_53178_6 : decode cJ7_fill_53178 6 = .ok (.iload_n 3, 1) := by decide +kernel
theorem dJ7_fill_53178_7 : decode cJ7_fill_53178 7 = .ok (.if_icmp .ge 13, 3) := by decide +kernel
theorem dJ7_fill_53178_10 : decode cJ7_fill_53178 10 = .ok (.aload_n 0, 1) := by decide +kernel
theorem dJ7_fill_53178_11 : decode cJ7_fill_53178 11 = .ok (.iload_n 2, 1) := by decide +kernel
theorem dJ7_fill_53178_12 : decode cJ7_fill_53178 12 = .ok (.iload_n 1, 1) := by decide +kernel
theorem dJ7_fill_53178_13 : decode cJ7_fill_53178 13 = .ok (.iastore, 1) := by decide +kernel
theorem dJ7_fill_53178_14 : decode cJ7_fill_53178 14 = .ok (.iinc 2 1, 3) := by decide +kernel
theorem dJ7_fill_53178_17 : decode cJ7_fill_53178 17 = .ok (.goto (-12), 3) := by decide +kernel
theorem dJ7_fill_53178_20 : decode cJ7_fill_53178 20 = .ok (.return_, 1) := by decide +kernel
theorem dJ7_fill_d0a16_0 : decode cJ7_fill_d0a16 0 = .ok (.iconst 0, 1) := by decide +kernel
theorem dJ7_fill_d0a16_1 : decode cJ7_fill_d0a16 1 = .ok (.istore_n 3, 1) := by decide +kernel
theorem dJ7_fill_d0a16_2 : decode cJ7_fill_d0a16 2 = .ok (.aload_n 0, 1) := by decide +kernel
theorem dJ7_fill_d0a16_3 : decode cJ7_fill_d0a16 3 = .ok (.arraylength, 1) := by decide +kernel
theorem dJ7_fill_d0a16_4 : decode cJ7_fill_d0a16 4 = .ok (.istore 4, 2) := by decide +kernel
theorem dJ7_fill_d0a16_6 : decode cJ7_fill_d0a16 6 = .ok (.iload_n 3, 1) := by decide +kernel
theorem dJ7_fill_d0a16_7 : decode cJ7_fill_d0a16 7 = .ok (.iload 4, 2) := by decide +kernel
theorem dJ7_fill_d0a16_9 : decode cJ7_fill_d0a16 9 = .ok (.if_icmp .ge 13, 3) := by decide +kernel
theorem dJ7_fill_d0a16_12 : decode cJ7_fill_d0a16 12 = .ok (.aload_n 0, 1) := by decide +kernel
theorem dJ7_fill_d0a16_13 : decode cJ7_fill_d0a16 13 = .ok (.iload_n 3, 1) := by decide +kernel
theorem dJ7_fill_d0a16_14 : decode cJ7_fill_d0a16 14 = .ok (.lload_n 1, 1) := by decide +kernel
theorem dJ7_fill_d0a16_15 : decode cJ7_fill_d0a16 15 = .ok (.lastore, 1) := by decide +kernel
theorem dJ7_fill_d0a16_16 : decode cJ7_fill_d0a16 16 = .ok (.iinc 3 1, 3) := by decide +kernel
theorem dJ7_fill_d0a16_19 : decode cJ7_fill_d0a16 19 = .ok (.goto (-13), 3) := by decide +kernel
theorem dJ7_fill_d0a16_22 : decode cJ7_fill_d0a16 22 = .ok (.return_, 1) := by decide +kernel
theorem dJ9_abs_067f4_0 : decode cJ9_abs_067f4 0 = .ok (.lload_n 0, 1) := by decide +kernel
theorem dJ9_abs_067f4_1 : decode cJ9_abs_067f4 1 = .ok (.lconst 0, 1) := by decide +kernel
theorem dJ9_abs_067f4_2 : decode cJ9_abs_067f4 2 = .ok (.lcmp, 1) := by decide +kernel
theorem dJ9_abs_067f4_3 : decode cJ9_abs_067f4 3 = .ok (.ifCond .ge 8, 3) := by decide +kernel
theorem dJ9_abs_067f4_11 : decode cJ9_abs_067f4 11 = .ok (.lload_n 0, 1) := by decide +kernel
theorem dJ9_abs_067f4_12 : decode cJ9_abs_067f4 12 = .ok (.lreturn, 1) := by decide +kernel
theorem dJ9_floorMod_f86c9_0 : decode cJ9_floorMod_f86c9 0 = .ok (.lload_n 0, 1) := by decide +kernel
theorem dJ9_floorMod_f86c9_1 : decode cJ9_floorMod_f86c9 1 = .ok (.lload_n 2, 1) := by decide +kernel
theorem dJ9_floorMod_f86c9_2 : decode cJ9_floorMod_f86c9 2 = .ok (.lrem, 1) := by decide +kernel
theorem dJ9_floorMod_f86c9_3 : decode cJ9_floorMod_f86c9 3 = .ok (.lstore 4, 2) := by decide +kernel
theorem dJ9_floorMod_f86c9_5 : decode cJ9_floorMod_f86c9 5 = .ok (.lload_n 0, 1) := by decide +kernel
theorem dJ9_floorMod_f86c9_6 : decode cJ9_floorMod_f86c9 6 = .ok (.lload_n 2, 1) := by decide +kernel
theorem dJ9_floorMod_f86c9_7 : decode cJ9_floorMod_f86c9 7 = .ok (.lxor, 1) := by decide +kernel
theorem dJ9_floorMod_f86c9_8 : decode cJ9_floorMod_f86c9 8 = .ok (.lconst 0, 1) := by decide +kernel
theorem dJ9_floorMod_f86c9_9 : decode cJ9_floorMod_f86c9 9 = .ok (.lcmp, 1) := by decide +kernel
theorem dJ9_floorMod_f86c9_10 : decode cJ9_floorMod_f86c9 10 = .ok (.ifCond .ge 15, 3) := by decide +kernel
theorem dJ9_floorMod_f86c9_25 : decode cJ9_floorMod_f86c9 25 = .ok (.lload 4, 2) := by decide +kernel
theorem dJ9_floorMod_f86c9_27 : decode cJ9_floorMod_f86c9 27 = .ok (.lreturn, 1) := by decide +kernel
theorem dJ9_max_f86c9_0 : decode cJ9_max_f86c9 0 = .ok (.lload_n 0, 1) := by decide +kernel
theorem dJ9_max_f86c9_1 : decode cJ9_max_f86c9 1 = .ok (.lload_n 2, 1) := by decide +kernel
theorem dJ9_max_f86c9_2 : decode cJ9_max_f86c9 2 = .ok (.lcmp, 1) := by decide +kernel
theorem dJ9_max_f86c9_3 : decode cJ9_max_f86c9 3 = .ok (.ifCond .lt 7, 3) := by decide +kernel
theorem dJ9_max_f86c9_6 : decode cJ9_max_f86c9 6 = .ok (.lload_n 0, 1) := by decide +kernel
theorem dJ9_max_f86c9_7 : decode cJ9_max_f86c9 7 = .ok (.goto 4, 3) := by decide +kernel
theorem dJ9_max_f86c9_11 : decode cJ9_max_f86c9 11 = .ok (.lreturn, 1) := by decide +kernel
theorem dX0_init_0 : decode cX0_init 0 = .ok (.aload_n 0, 1) := by decide +kernel
theorem dX0_init_1 : decode cX0_init 1 = .ok (.invokespecial 3, 3) := by decide +kernel
theorem dX0_init_4 : decode cX0_init 4 = .ok (.aload_n 0, 1) := by decide +kernel
theorem dX0_init_5 : decode cX0_init 5 = .ok (.aload_n 1, 1) := by decide +kernel
theorem dX0_init_6 : decode cX0_init 6 = .ok (.putfield 9, 3) := by decide +kernel
theorem dX0_init_9 : decode cX0_init 9 = .ok (.return_, 1) := by decide +kernel
theorem dX10_about_0 : decode cX10_about 0 = .ok (.aload_n 0, 1) := by decide +kernel
theorem dX10_about_1 : decode cX10_about 1 = .ok (.invokevirtual 195, 3) := by decide +kernel
theorem dX10_about_4 : decode cX10_about 4 = .ok (.aload_n 0, 1) := by decide +kernel
theorem dX10_about_5 : decode cX10_about 5 = .ok (.getfield 41, 3) := by decide +kernel
theorem dX10_about_8 : decode cX10_about 8 = .ok (.iload_n 1, 1) := by decide +kernel
theorem dX10_about_9 : decode cX10_about 9 = .ok (.invokevirtual 202, 3) := by decide +kernel
theorem dX10_about_12 : decode cX10_about 12 = .ok (.ifCond .eq 12, 3) := by decide +kernel
theorem dX10_about_15 : decode cX10_about 15 = .ok (.iload_n 2, 1) := by decide +kernel
theorem dX10_about_16 : decode cX10_about 16 = .ok (.ifCond .lt 8, 3) := by decide +kernel
theorem dX10_about_19 : decode cX10_about 19 = .ok (.iload_n 2, 1) := by decide +kernel
theorem dX10_about_20 : decode cX10_about 20 = .ok (.iconst 3, 1) := by decide +kernel
theorem dX10_about_21 : decode cX10_about 21 = .ok (.if_icmp .le 5, 3) := by decide +kernel
theorem dX10_about_24 : decode cX10_about 24 = .ok (.iconst (-1), 1) := by decide +kernel
theorem dX10_about_25 : decode cX10_about 25 = .ok (.ireturn, 1) := by decide +kernel
theorem dX10_about_26 : decode cX10_about 26 = .ok (.iload_n 2, 1) := by decide +kernel
theorem dX10_about_27 : decode cX10_about 27 = .ok (.tableswitch 55 0 2 #[25, 35, 45], 25) := by decide +kernel
theorem dX10_about_52 : decode cX10_about 52 = .ok (.aload_n 0, 1) := by decide +kernel
theorem dX10_about_53 : decode cX10_about 53 = .ok (.getfield 41, 3) := by decide +kernel
theorem dX10_about_56 : decode cX10_about 56 = .ok (.getfield 212, 3) := by decide +kernel
theorem dX10_about_59 : decode cX10_about 59 = .ok (.iload_n 1, 1) := by decide +kernel
theorem dX10_about_60 : decode cX10_about 60 = .ok (.iaload, 1) := by decide +kernel
theorem dX10_about_61 : decode cX10_about 61 = .ok (.ireturn, 1) := by decide +kernel
theorem dX10_about_62 : decode cX10_about 62 = .ok (.aload_n 0, 1) := by decide +kernel
theorem dX10_about_63 : decode cX10_about 63 = .ok (.getfield 41, 3) := by decide +kernel
theorem dX10_about_66 : decode cX10_about 66 = .ok (.getfield 215, 3) := by decide +kernel
theorem dX10_about_69 : decode cX10_about 69 = .ok (.iload_n 1, 1) := by decide +kernel
theorem dX10_about_70 : decode cX10_about 70 = .ok (.iaload, 1) := by decide +kernel
theorem dX10_about_71 : decode cX10_about 71 = .ok (.ireturn, 1) := by decide +kernel
theorem dX10_about_72 : decode cX10_about 72 = .ok (.aload_n 0, 1) := by decide +kernel
theorem dX10_about_73 : decode cX10_about 73 = .ok (.getfield 41, 3) := by decide +kernel
theorem dX10_about_76 : decode cX10_about 76 = .ok (.getfield 218, 3) := by decide +kernel
theorem dX10_about_79 : decode cX10_about 79 = .ok (.iload_n 1, 1) := by decide +kernel
theorem dX10_about_80 : decode cX10_about 80 = .ok (.iaload, 1) := by decide +kernel
theorem dX10_about_81 : decode cX10_about 81 = .ok (.ireturn, 1) := by decide +kernel
theorem dX10_about_82 : decode cX10_about 82 = .ok (.aload_n 0, 1) := by decide +kernel
theorem dX10_about_83 : decode cX10_about 83 = .ok (.aload_n 0, 1) := by decide +kernel
theorem dX10_about_84 : decode cX10_about 84 = .ok (.getfield 41, 3) := by decide +kernel
theorem dX10_about_87 : decode cX10_about 87 = .ok (.getfield 207, 3) := by decide +kernel
theorem dX10_about_90 : decode cX10_about 90 = .ok (.aload_n 0, 1) := by decide +kernel
theorem dX10_about_91 : decode cX10_about 91 = .ok (.getfield 41, 3) := by decide +kernel
theorem dX10_about_94 : decode cX10_about 94 = .ok (.iload_n 1, 1) := by decide +kernel
theorem dX10_about_95 : decode cX10_about 95 = .ok (.invokevirtual 208, 3) := by decide +kernel
theorem dX10_about_98 : decode cX10_about 98 = .ok (.invokevirtual 156, 3) := by decide +kernel
theorem dX10_about_101 : decode cX10_about 101 = .ok (.ireturn, 1) := by decide +kernel
theorem dX10_addSquare_0 : decode cX10_addSquare 0 = .ok (.aload_n 0, 1) := by decide +kernel
theorem dX10_addSquare_1 : decode cX10_addSquare 1 = .ok (.getfield 10, 3) := by decide +kernel
theorem dX10_addSquare_4 : decode cX10_addSquare 4 = .ok (.aload_n 0, 1) := by decide +kernel
theorem dX10_addSquare_5 : decode cX10_addSquare 5 = .ok (.getfield 90, 3) := by decide +kernel
theorem dX10_addSquare_8 : decode cX10_addSquare 8 = .ok (.invokevirtual 343, 3) := by decide +kernel
theorem dX10_addSquare_11 : decode cX10_addSquare 11 = .ok (.istore_n 1, 1) := by decide +kernel
theorem dX10_addSquare_12 : decode cX10_addSquare 12 = .ok (.aload_n 0, 1) := by decide +kernel
theorem dX10_addSquare_13 : decode cX10_addSquare 13 = .ok (.invokevirtual 104, 3) := by decide +kernel
theorem dX10_addSquare_16 : decode cX10_addSquare 16 = .ok (.iload_n 1, 1) := by decide +kernel
theorem dX10_addSquare_17 : decode cX10_addSquare 17 = .ok (.ireturn, 1) := by decide +kernel
theorem dX10_addUnit_0 : decode cX10_addUnit 0 = .ok (.aload_n 0, 1) := by decide +kernel
theorem dX10_addUnit_1 : decode cX10_addUnit 1 = .ok (.getfield 90, 3) := by decide +kernel
theorem dX10_addUnit_4 : decode cX10_addUnit 4 = .ok (.aload_n 0, 1) := by decide +kernel
theorem dX10_addUnit_5 : decode cX10_addUnit 5 = .ok (.getfield 10, 3) := by decide +kernel
theorem dX10_addUnit_8 : decode cX10_addUnit 8 = .ok (.getfield 98, 3) := by decide +kernel
theorem dX10_addUnit_11 : decode cX10_addUnit 11 = .ok (.invokestatic 339, 3) := by decide +kernel
theorem dX10_addUnit_14 : decode cX10_addUnit 14 = .ok (.aload_n 0, 1) := by decide +kernel
theorem dX10_addUnit_15 : decode cX10_addUnit 15 = .ok (.getfield 90, 3) := by decide +kernel
theorem dX10_addUnit_18 : decode cX10_addUnit 18 = .ok (.iload_n 1, 1) := by decide +kernel
theorem dX10_addUnit_19 : decode cX10_addUnit 19 = .ok (.aload_n 0, 1) := by decide +kernel
theorem dX10_addUnit_20 : decode cX10_addUnit 20 = .ok (.getfield 10, 3) := by decide +kernel
theorem dX10_addUnit_23 : decode cX10_addUnit 23 = .ok (.getfield 98, 3) := by decide +kernel
theorem dX10_addUnit_26 : decode cX10_addUnit 26 = .ok (.imul, 1) := by decide +kernel
theorem dX10_addUnit_27 : decode cX10_addUnit 27 = .ok (.iload_n 2, 1) := by decide +kernel
theorem dX10_addUnit_28 : decode cX10_addUnit 28 = .ok (.iadd, 1) := by decide +kernel
theorem dX10_addUnit_29 : decode cX10_addUnit 29 = .ok (.iload_n 3, 1) := by decide +kernel
theorem dX10_addUnit_30 : decode cX10_addUnit 30 = .ok (.i2l, 1) := by decide +kernel
theorem dX10_addUnit_31 : decode cX10_addUnit 31 = .ok (.lastore, 1) := by decide +kernel
theorem dX10_addUnit_32 : decode cX10_addUnit 32 = .ok (.aload_n 0, 1) := by decide +kernel
theorem dX10_addUnit_33 : decode cX10_addUnit 33 = .ok (.invokevirtual 142, 3) := by decide +kernel
theorem dX10_addUnit_36 : decode cX10_addUnit 36 = .ok (.ireturn, 1) := by decide +kernel
theorem dX10_addUpForm_0 : decode cX10_addUpForm 0 = .ok (.aload_n 0, 1) := by decide +kernel
theorem dX10_addUpForm_1 : decode cX10_addUpForm 1 = .ok (.getfield 10, 3) := by decide +kernel
theorem dX10_addUpForm_4 : decode cX10_addUpForm 4 = .ok (.invokevirtual 130, 3) := by decide +kernel
theorem dX10_addUpForm_7 : decode cX10_addUpForm 7 = .ok (.istore_n 1, 1) := by decide +kernel
theorem dX10_addUpForm_8 : decode cX10_addUpForm 8 = .ok (.aload_n 0, 1) := by decide +kernel
theorem dX10_addUpForm_9 : decode cX10_addUpForm 9 = .ok (.getfield 90, 3) := by decide +kernel
theorem dX10_addUpForm_12 : decode cX10_addUpForm 12 = .ok (.lconst 0, 1) := by decide +kernel
theorem dX10_addUpForm_13 : decode cX10_addUpForm 13 = .ok (.invokestatic 369, 3) := by decide +kernel
theorem dX10_addUpForm_16 : decode cX10_addUpForm 16 = .ok (.iconst 0, 1) := by decide +kernel
theorem dX10_addUpForm_17 : decode cX10_addUpForm 17 = .ok (.istore_n 2, 1) := by decide +kernel
theorem dX10_addUpForm_18 : decode cX10_addUpForm 18 = .ok (.iload_n 2, 1) := by decide +kernel
theorem dX10_addUpForm_19 : decode cX10_addUpForm 19 = .ok (.aload_n 0, 1) := by decide +kernel
theorem dX10_addUpForm_20 : decode cX10_addUpForm 20 = .ok (.getfield 41, 3) := by decide +kernel
theorem dX10_addUpForm_23 : decode cX10_addUpForm 23 = .ok (.getfield 198, 3) := by decide +kernel
theorem dX10_addUpForm_26 : decode cX10_addUpForm 26 = .ok (.if_icmp .ge 115, 3) := by decide +kernel
theorem dX10_addUpForm_29 : decode cX10_addUpForm 29 = .ok (.aload_n 0, 1) := by decide +kernel
theorem dX10_addUpForm_30 : decode cX10_addUpForm 30 = .ok (.getfield 41, 3) := by decide +kernel
theorem dX10_addUpForm_33 : decode cX10_addUpForm 33 = .ok (.getfield 207, 3) := by decide +kernel
theorem dX10_addUpForm_36 : decode cX10_addUpForm 36 = .ok (.aload_n 0, 1) := by decide +kernel
theorem dX10_addUpForm_37 : decode cX10_addUpForm 37 = .ok (.getfield 41, 3) := by decide +kernel
theorem dX10_addUpForm_40 : decode cX10_addUpForm 40 = .ok (.iload_n 2, 1) := by decide +kernel
theorem dX10_addUpForm_41 : decode cX10_addUpForm 41 = .ok (.invokevirtual 208, 3) := by decide +kernel
theorem dX10_addUpForm_44 : decode cX10_addUpForm 44 = .ok (.aload_n 0, 1) := by decide +kernel
theorem dX10_addUpForm_45 : decode cX10_addUpForm 45 = .ok (.getfield 41, 3) := by decide +kernel
theorem dX10_addUpForm_48 : decode cX10_addUpForm 48 = .ok (.getfield 207, 3) := by decide +kernel
theorem dX10_addUpForm_51 : decode cX10_addUpForm 51 = .ok (.aload_n 0, 1) := by decide +kernel
theorem dX10_addUpForm_52 : decode cX10_addUpForm 52 = .ok (.getfield 41, 3) := by decide +kernel
theorem dX10_addUpForm_55 : decode cX10_addUpForm 55 = .ok (.iload_n 2, 1) := by decide +kernel
theorem dX10_addUpForm_56 : decode cX10_addUpForm 56 = .ok (.invokevirtual 208, 3) := by decide +kernel
theorem dX10_addUpForm_59 : decode cX10_addUpForm 59 = .ok (.aload_n 0, 1) := by decide +kernel
theorem dX10_addUpForm_60 : decode cX10_addUpForm 60 = .ok (.getfield 94, 3) := by decide +kernel
theorem dX10_addUpForm_63 : decode cX10_addUpForm 63 = .ok (.aload_n 0, 1) := by decide +kernel
theorem dX10_addUpForm_64 : decode cX10_addUpForm 64 = .ok (.getfield 10, 3) := by decide +kernel
theorem dX10_addUpForm_67 : decode cX10_addUpForm 67 = .ok (.getfield 98, 3) := by decide +kernel
theorem dX10_addUpForm_70 : decode cX10_addUpForm 70 = .ok (.invokestatic 372, 3) := by decide +kernel
theorem dX10_addUpForm_73 : decode cX10_addUpForm 73 = .ok (.iconst 0, 1) := by decide +kernel
theorem dX10_addUpForm_74 : decode cX10_addUpForm 74 = .ok (.istore_n 3, 1) := by decide +kernel
theorem dX10_addUpForm_75 : decode cX10_addUpForm 75 = .ok (.iload_n 3, 1) := by decide +kernel
theorem dX10_addUpForm_76 : decode cX10_addUpForm 76 = .ok (.iload_n 1, 1) := by decide +kernel
theorem dX10_addUpForm_77 : decode cX10_addUpForm 77 = .ok (.if_icmp .ge 58, 3) := by decide +kernel
theorem dX10_addUpForm_80 : decode cX10_addUpForm 80 = .ok (.aload_n 0, 1) := by decide +kernel
theorem dX10_addUpForm_81 : decode cX10_addUpForm 81 = .ok (.getfield 90, 3) := by decide +kernel
theorem dX10_addUpForm_84 : decode cX10_addUpForm 84 = .ok (.iload_n 3, 1) := by decide +kernel
theorem dX10_addUpForm_85 : decode cX10_addUpForm 85 = .ok (.laload, 1) := by decide +kernel
theorem dX10_addUpForm_86 : decode cX10_addUpForm 86 = .ok (.aload_n 0, 1) := by decide +kernel
theorem dX10_addUpForm_87 : decode cX10_addUpForm 87 = .ok (.getfield 94, 3) := by decide +kernel
theorem dX10_addUpForm_90 : decode cX10_addUpForm 90 = .ok (.iload_n 3, 1) := by decide +kernel
theorem dX10_addUpForm_91 : decode cX10_addUpForm 91 = .ok (.laload, 1) := by decide +kernel
theorem dX10_addUpForm_92 : decode cX10_addUpForm 92 = .ok (.ladd, 1) := by decide +kernel
theorem dX10_addUpForm_93 : decode cX10_addUpForm 93 = .ok (.lstore 4, 2) := by decide +kernel
theorem dX10_addUpForm_95 : decode cX10_addUpForm 95 = .ok (.aload_n 0, 1) := by decide +kernel
theorem dX10_addUpForm_96 : decode cX10_addUpForm 96 = .ok (.getfield 90, 3) := by decide +kernel
theorem dX10_addUpForm_99 : decode cX10_addUpForm 99 = .ok (.iload_n 3, 1) := by decide +kernel
theorem dX10_addUpForm_100 : decode cX10_addUpForm 100 = .ok (.laload, 1) := by decide +kernel
theorem dX10_addUpForm_101 : decode cX10_addUpForm 101 = .ok (.lload 4, 2) := by decide +kernel
theorem dX10_addUpForm_103 : decode cX10_addUpForm 103 = .ok (.lxor, 1) := by decide +kernel
theorem dX10_addUpForm_104 : decode cX10_addUpForm 104 = .ok (.aload_n 0, 1) := by decide +kernel
theorem dX10_addUpForm_105 : decode cX10_addUpForm 105 = .ok (.getfield 94, 3) := by decide +kernel
theorem dX10_addUpForm_108 : decode cX10_addUpForm 108 = .ok (.iload_n 3, 1) := by decide +kernel
theorem dX10_addUpForm_109 : decode cX10_addUpForm 109 = .ok (.laload, 1) := by decide +kernel
theorem dX10_addUpForm_110 : decode cX10_addUpForm 110 = .ok (.lload 4, 2) := by decide +kernel
theorem dX10_addUpForm_112 : decode cX10_addUpForm 112 = .ok (.lxor, 1) := by decide +kernel
theorem dX10_addUpForm_113 : decode cX10_addUpForm 113 = .ok (.land, 1) := by decide +kernel
theorem dX10_addUpForm_114 : decode cX10_addUpForm 114 = .ok (.lconst 0, 1) := by decide +kernel
theorem dX10_addUpForm_115 : decode cX10_addUpForm 115 = .ok (.lcmp, 1) := by decide +kernel
theorem dX10_addUpForm_116 : decode cX10_addUpForm 116 = .ok (.ifCond .ge 5, 3) := by decide +kernel
theorem dX10_addUpForm_121 : decode cX10_addUpForm 121 = .ok (.aload_n 0, 1) := by decide +kernel
theorem dX10_addUpForm_122 : decode cX10_addUpForm 122 = .ok (.getfield 90, 3) := by decide +kernel
theorem dX10_addUpForm_125 : decode cX10_addUpForm 125 = .ok (.iload_n 3, 1) := by decide +kernel
theorem dX10_addUpForm_126 : decode cX10_addUpForm 126 = .ok (.lload 4, 2) := by decide +kernel
theorem dX10_addUpForm_128 : decode cX10_addUpForm 128 = .ok (.lastore, 1) := by decide +kernel
theorem dX10_addUpForm_129 : decode cX10_addUpForm 129 = .ok (.iinc 3 1, 3) := by decide +kernel
theorem dX10_addUpForm_132 : decode cX10_addUpForm 132 = .ok (.goto (-57), 3) := by decide +kernel
theorem dX10_addUpForm_135 : decode cX10_addUpForm 135 = .ok (.iinc 2 1, 3) := by decide +kernel
theorem dX10_addUpForm_138 : decode cX10_addUpForm 138 = .ok (.goto (-120), 3) := by decide +kernel
theorem dX10_addUpForm_141 : decode cX10_addUpForm 141 = .ok (.iconst 1, 1) := by decide +kernel
theorem dX10_addUpForm_142 : decode cX10_addUpForm 142 = .ok (.ireturn, 1) := by decide +kernel
theorem dX10_again_0 : decode cX10_again 0 = .ok (.aload_n 0, 1) := by decide +kernel
theorem dX10_again_1 : decode cX10_again 1 = .ok (.getfield 19, 3) := by decide +kernel
theorem dX10_again_4 : decode cX10_again 4 = .ok (.ifCond .ne 6, 3) := by decide +kernel
theorem dX10_again_7 : decode cX10_again 7 = .ok (.bipush (-3), 2) := by decide +kernel
theorem dX10_again_9 : decode cX10_again 9 = .ok (.ireturn, 1) := by decide +kernel
theorem dX10_areApartBy_0 : decode cX10_areApartBy 0 = .ok (.aload_n 0, 1) := by decide +kernel
theorem dX10_areApartBy_1 : decode cX10_areApartBy 1 = .ok (.getfield 10, 3) := by decide +kernel
theorem dX10_areApartBy_4 : decode cX10_areApartBy 4 = .ok (.invokevirtual 130, 3) := by decide +kernel
theorem dX10_areApartBy_7 : decode cX10_areApartBy 7 = .ok (.istore_n 2, 1) := by decide +kernel
theorem dX10_areApartBy_8 : decode cX10_areApartBy 8 = .ok (.aload_n 0, 1) := by decide +kernel
theorem dX10_areApartBy_9 : decode cX10_areApartBy 9 = .ok (.iload_n 2, 1) := by decide +kernel
theorem dX10_areApartBy_10 : decode cX10_areApartBy 10 = .ok (.sipush 400, 3) := by decide +kernel
theorem dX10_areApartBy_13 : decode cX10_areApartBy 13 = .ok (.invokevirtual 375, 3) := by decide +kernel
theorem dX10_areApartBy_16 : decode cX10_areApartBy 16 = .ok (.astore_n 3, 1) := by decide +kernel
theorem dX10_areApartBy_17 : decode cX10_areApartBy 17 = .ok (.iconst 0, 1) := by decide +kernel
theorem dX10_areApartBy_18 : decode cX10_areApartBy 18 = .ok (.istore 4, 2) := by decide +kernel
theorem dX10_areApartBy_20 : decode cX10_areApartBy 20 = .ok (.iload 4, 2) := by decide +kernel
theorem dX10_areApartBy_22 : decode cX10_areApartBy 22 = .ok (.aload_n 0, 1) := by decide +kernel
theorem dX10_areApartBy_23 : decode cX10_areApartBy 23 = .ok (.getfield 41, 3) := by decide +kernel
theorem dX10_areApartBy_26 : decode cX10_areApartBy 26 = .ok (.getfield 198, 3) := by decide +kernel
theorem dX10_areApartBy_29 : decode cX10_areApartBy 29 = .ok (.if_icmp .ge 69, 3) := by decide +kernel
theorem dX10_areApartBy_32 : decode cX10_areApartBy 32 = .ok (.aload_n 0, 1) := by decide +kernel
theorem dX10_areApartBy_33 : decode cX10_areApartBy 33 = .ok (.getfield 41, 3) := by decide +kernel
theorem dX10_areApartBy_36 : decode cX10_areApartBy 36 = .ok (.getfield 207, 3) := by decide +kernel
theorem dX10_areApartBy_39 : decode cX10_areApartBy 39 = .ok (.aload_n 0, 1) := by decide +kernel
theorem dX10_areApartBy_40 : decode cX10_areApartBy 40 = .ok (.getfield 41, 3) := by decide +kernel
theorem dX10_areApartBy_43 : decode cX10_areApartBy 43 = .ok (.iload 4, 2) := by decide +kernel
theorem dX10_areApartBy_45 : decode cX10_areApartBy 45 = .ok (.invokevirtual 208, 3) := by decide +kernel
theorem dX10_areApartBy_48 : decode cX10_areApartBy 48 = .ok (.aload_n 0, 1) := by decide +kernel
theorem dX10_areApartBy_49 : decode cX10_areApartBy 49 = .ok (.getfield 90, 3) := by decide +kernel
theorem dX10_areApartBy_52 : decode cX10_areApartBy 52 = .ok (.iconst 0, 1) := by decide +kernel
theorem dX10_areApartBy_53 : decode cX10_areApartBy 53 = .ok (.iload_n 2, 1) := by decide +kernel
theorem dX10_areApartBy_54 : decode cX10_areApartBy 54 = .ok (.invokestatic 189, 3) := by decide +kernel
theorem dX10_areApartBy_57 : decode cX10_areApartBy 57 = .ok (.aload_n 0, 1) := by decide +kernel
theorem dX10_areApartBy_58 : decode cX10_areApartBy 58 = .ok (.getfield 90, 3) := by decide +kernel
theorem dX10_areApartBy_61 : decode cX10_areApartBy 61 = .ok (.iload_n 2, 1) := by decide +kernel
theorem dX10_areApartBy_62 : decode cX10_areApartBy 62 = .ok (.iload_n 1, 1) := by decide +kernel
theorem dX10_areApartBy_63 : decode cX10_areApartBy 63 = .ok (.invokestatic 379, 3) := by decide +kernel
theorem dX10_areApartBy_66 : decode cX10_areApartBy 66 = .ok (.aload_n 3, 1) := by decide +kernel
theorem dX10_areApartBy_67 : decode cX10_areApartBy 67 = .ok (.aload_n 0, 1) := by decide +kernel
theorem dX10_areApartBy_68 : decode cX10_areApartBy 68 = .ok (.getfield 90, 3) := by decide +kernel
theorem dX10_areApartBy_71 : decode cX10_areApartBy 71 = .ok (.invokevirtual 227, 3) := by decide +kernel
theorem dX10_areApartBy_74 : decode cX10_areApartBy 74 = .ok (.ifCond .lt 5, 3) := by decide +kernel
theorem dX10_areApartBy_79 : decode cX10_areApartBy 79 = .ok (.aload_n 3, 1) := by decide +kernel
theorem dX10_areApartBy_80 : decode cX10_areApartBy 80 = .ok (.aload_n 0, 1) := by decide +kernel
theorem dX10_areApartBy_81 : decode cX10_areApartBy 81 = .ok (.getfield 90, 3) := by decide +kernel
theorem dX10_areApartBy_84 : decode cX10_areApartBy 84 = .ok (.bipush (-3), 2) := by decide +kernel
theorem dX10_areApartBy_86 : decode cX10_areApartBy 86 = .ok (.bipush (-3), 2) := by decide +kernel
theorem dX10_areApartBy_88 : decode cX10_areApartBy 88 = .ok (.invokevirtual 279, 3) := by decide +kernel
theorem dX10_areApartBy_91 : decode cX10_areApartBy 91 = .ok (.pop, 1) := by decide +kernel
theorem dX10_areApartBy_92 : decode cX10_areApartBy 92 = .ok (.iinc 4 1, 3) := by decide +kernel
theorem dX10_areApartBy_95 : decode cX10_areApartBy 95 = .ok (.goto (-75), 3) := by decide +kernel
theorem dX10_areApartBy_98 : decode cX10_areApartBy 98 = .ok (.iconst 1, 1) := by decide +kernel
theorem dX10_areApartBy_99 : decode cX10_areApartBy 99 = .ok (.ireturn, 1) := by decide +kernel
theorem dX10_areGenerators_0 : decode cX10_areGenerators 0 = .ok (.iload_n 1, 1) := by decide +kernel
theorem dX10_areGenerators_1 : decode cX10_areGenerators 1 = .ok (.ifCond .lt 10, 3) := by decide +kernel
theorem dX10_areGenerators_4 : decode cX10_areGenerators 4 = .ok (.iload_n 1, 1) := by decide +kernel
theorem dX10_areGenerators_5 : decode cX10_areGenerators 5 = .ok (.ldc_w 367, 3) := by decide +kernel
theorem dX10_areGenerators_8 : decode cX10_areGenerators 8 = .ok (.if_icmp .le 5, 3) := by decide +kernel
theorem dX10_areGenerators_11 : decode cX10_areGenerators 11 = .ok (.iconst 0, 1) := by decide +kernel
theorem dX10_areGenerators_12 : decode cX10_areGenerators 12 = .ok (.ireturn, 1) := by decide +kernel
theorem dX10_areGenerators_13 : decode cX10_areGenerators 13 = .ok (.iload_n 1, 1) := by decide +kernel
theorem dX10_areGenerators_14 : decode cX10_areGenerators 14 = .ok (.istore_n 2, 1) := by decide +kernel
theorem dX10_areGenerators_15 : decode cX10_areGenerators 15 = .ok (.iload_n 2, 1) := by decide +kernel
theorem dX10_areGenerators_16 : decode cX10_areGenerators 16 = .ok (.ifCond .le 29, 3) := by decide +kernel
theorem dX10_areGenerators_19 : decode cX10_areGenerators 19 = .ok (.aload_n 0, 1) := by decide +kernel
theorem dX10_areGenerators_20 : decode cX10_areGenerators 20 = .ok (.getfield 10, 3) := by decide +kernel
theorem dX10_areGenerators_23 : decode cX10_areGenerators 23 = .ok (.iload_n 2, 1) := by decide +kernel
theorem dX10_areGenerators_24 : decode cX10_areGenerators 24 = .ok (.bipush 10, 2) := by decide +kernel
theorem dX10_areGenerators_26 : decode cX10_areGenerators 26 = .ok (.irem, 1) := by decide +kernel
theorem dX10_areGenerators_27 : decode cX10_areGenerators 27 = .ok (.iconst 1, 1) := by decide +kernel
theorem dX10_areGenerators_28 : decode cX10_areGenerators 28 = .ok (.isub, 1) := by decide +kernel
theorem dX10_areGenerators_29 : decode cX10_areGenerators 29 = .ok (.invokevirtual 123, 3) := by decide +kernel
theorem dX10_areGenerators_32 : decode cX10_areGenerators 32 = .ok (.ifCond .ne 5, 3) := by decide +kernel
theorem dX10_areGenerators_35 : decode cX10_areGenerators 35 = .ok (.iconst 0, 1) := by decide +kernel
theorem dX10_areGenerators_36 : decode cX10_areGenerators 36 = .ok (.ireturn, 1) := by decide +kernel
theorem dX10_areGenerators_45 : decode cX10_areGenerators 45 = .ok (.iconst 1, 1) := by decide +kernel
theorem dX10_areGenerators_46 : decode cX10_areGenerators 46 = .ok (.ireturn, 1) := by decide +kernel
theorem dX10_asLong_0 : decode cX10_asLong 0 = .ok (.iload_n 0, 1) := by decide +kernel
theorem dX10_asLong_1 : decode cX10_asLong 1 = .ok (.i2l, 1) := by decide +kernel
theorem dX10_asLong_2 : decode cX10_asLong 2 = .ok (.ldc2_w 331, 3) := by decide +kernel
theorem dX10_asLong_5 : decode cX10_asLong 5 = .ok (.lsub, 1) := by decide +kernel
theorem dX10_asLong_6 : decode cX10_asLong 6 = .ok (.lreturn, 1) := by decide +kernel
theorem dX10_at_0 : decode cX10_at 0 = .ok (.aload_n 0, 1) := by decide +kernel
theorem dX10_at_1 : decode cX10_at 1 = .ok (.getfield 10, 3) := by decide +kernel
theorem dX10_at_4 : decode cX10_at 4 = .ok (.iload_n 1, 1) := by decide +kernel
theorem dX10_at_5 : decode cX10_at 5 = .ok (.invokevirtual 123, 3) := by decide +kernel
theorem dX10_at_8 : decode cX10_at 8 = .ok (.ifCond .eq 15, 3) := by decide +kernel
theorem dX10_at_23 : decode cX10_at 23 = .ok (.iconst (-1), 1) := by decide +kernel
theorem dX10_at_24 : decode cX10_at 24 = .ok (.ireturn, 1) := by decide +kernel
theorem dX10_character_0 : decode cX10_character 0 = .ok (.aload_n 0, 1) := by decide +kernel
theorem dX10_character_1 : decode cX10_character 1 = .ok (.getfield 10, 3) := by decide +kernel
theorem dX10_character_4 : decode cX10_character 4 = .ok (.iload_n 1, 1) := by decide +kernel
theorem dX10_character_5 : decode cX10_character 5 = .ok (.invokevirtual 123, 3) := by decide +kernel
theorem dX10_character_8 : decode cX10_character 8 = .ok (.ifCond .eq 18, 3) := by decide +kernel
theorem dX10_character_26 : decode cX10_character 26 = .ok (.iconst (-1), 1) := by decide +kernel
theorem dX10_character_27 : decode cX10_character 27 = .ok (.ireturn, 1) := by decide +kernel
theorem dX10_clearBench_0 : decode cX10_clearBench 0 = .ok (.aload_n 0, 1) := by decide +kernel
theorem dX10_clearBench_1 : decode cX10_clearBench 1 = .ok (.getfield 54, 3) := by decide +kernel
theorem dX10_clearBench_4 : decode cX10_clearBench 4 = .ok (.ifnonnull 23, 3) := by decide +kernel
theorem dX10_clearBench_7 : decode cX10_clearBench 7 = .ok (.aload_n 0, 1) := by decide +kernel
theorem dX10_clearBench_8 : decode cX10_clearBench 8 = .ok (.new 36, 3) := by decide +kernel
theorem dX10_clearBench_11 : decode cX10_clearBench 11 = .ok (.dup, 1) := by decide +kernel
theorem dX10_clearBench_12 : decode cX10_clearBench 12 = .ok (.sipush 400, 3) := by decide +kernel
theorem dX10_clearBench_15 : decode cX10_clearBench 15 = .ok (.sipush 12000, 3) := by decide +kernel
theorem dX10_clearBench_18 : decode cX10_clearBench 18 = .ok (.sipush 1024, 3) := by decide +kernel
theorem dX10_clearBench_21 : decode cX10_clearBench 21 = .ok (.invokespecial 38, 3) := by decide +kernel
theorem dX10_clearBench_24 : decode cX10_clearBench 24 = .ok (.putfield 54, 3) := by decide +kernel
theorem dX10_clearBench_27 : decode cX10_clearBench 27 = .ok (.aload_n 0, 1) := by decide +kernel
theorem dX10_clearBench_28 : decode cX10_clearBench 28 = .ok (.getfield 54, 3) := by decide +kernel
theorem dX10_clearBench_31 : decode cX10_clearBench 31 = .ok (.iload_n 1, 1) := by decide +kernel
theorem dX10_clearBench_32 : decode cX10_clearBench 32 = .ok (.iload_n 2, 1) := by decide +kernel
theorem dX10_clearBench_33 : decode cX10_clearBench 33 = .ok (.invokevirtual 275, 3) := by decide +kernel
theorem dX10_clearBench_36 : decode cX10_clearBench 36 = .ok (.aload_n 0, 1) := by decide +kernel
theorem dX10_clearBench_37 : decode cX10_clearBench 37 = .ok (.getfield 54, 3) := by decide +kernel
theorem dX10_clearBench_40 : decode cX10_clearBench 40 = .ok (.areturn, 1) := by decide +kernel
theorem dX10_copy_0 : decode cX10_copy 0 = .ok (.iload_n 1, 1) := by decide +kernel
theorem dX10_copy_1 : decode cX10_copy 1 = .ok (.invokestatic 303, 3) := by decide +kernel
theorem dX10_copy_4 : decode cX10_copy 4 = .ok (.ifCond .eq 10, 3) := by decide +kernel
theorem dX10_copy_7 : decode cX10_copy 7 = .ok (.iload_n 3, 1) := by decide +kernel
theorem dX10_copy_8 : decode cX10_copy 8 = .ok (.invokestatic 303, 3) := by decide +kernel
theorem dX10_copy_11 : decode cX10_copy 11 = .ok (.ifCond .ne 5, 3) := by decide +kernel
theorem dX10_copy_14 : decode cX10_copy 14 = .ok (.iconst (-1), 1) := by decide +kernel
theorem dX10_copy_15 : decode cX10_copy 15 = .ok (.ireturn, 1) := by decide +kernel
theorem dX10_copy_16 : decode cX10_copy 16 = .ok (.aload_n 0, 1) := by decide +kernel
theorem dX10_copy_17 : decode cX10_copy 17 = .ok (.getfield 32, 3) := by decide +kernel
theorem dX10_copy_20 : decode cX10_copy 20 = .ok (.iload_n 1, 1) := by decide +kernel
theorem dX10_copy_21 : decode cX10_copy 21 = .ok (.aaload, 1) := by decide +kernel
theorem dX10_copy_22 : decode cX10_copy 22 = .ok (.astore 6, 2) := by decide +kernel
theorem dX10_copy_24 : decode cX10_copy 24 = .ok (.aload_n 0, 1) := by decide +kernel
theorem dX10_copy_25 : decode cX10_copy 25 = .ok (.getfield 32, 3) := by decide +kernel
theorem dX10_copy_28 : decode cX10_copy 28 = .ok (.iload_n 3, 1) := by decide +kernel
theorem dX10_copy_29 : decode cX10_copy 29 = .ok (.aaload, 1) := by decide +kernel
theorem dX10_copy_30 : decode cX10_copy 30 = .ok (.astore 7, 2) := by decide +kernel
theorem dX10_copy_32 : decode cX10_copy 32 = .ok (.aload 6, 2) := by decide +kernel
theorem dX10_copy_34 : decode cX10_copy 34 = .ok (.invokevirtual 312, 3) := by decide +kernel
theorem dX10_copy_37 : decode cX10_copy 37 = .ok (.ifCond .ne 11, 3) := by decide +kernel
theorem dX10_copy_48 : decode cX10_copy 48 = .ok (.bipush (-11), 2) := by decide +kernel
theorem dX10_copy_50 : decode cX10_copy 50 = .ok (.ireturn, 1) := by decide +kernel
theorem dX10_countImage_0 : decode cX10_countImage 0 = .ok (.aload_n 0, 1) := by decide +kernel
theorem dX10_countImage_1 : decode cX10_countImage 1 = .ok (.aload_n 0, 1) := by decide +kernel
theorem dX10_countImage_2 : decode cX10_countImage 2 = .ok (.getfield 10, 3) := by decide +kernel
theorem dX10_countImage_5 : decode cX10_countImage 5 = .ok (.invokevirtual 130, 3) := by decide +kernel
theorem dX10_countImage_8 : decode cX10_countImage 8 = .ok (.sipush 400, 3) := by decide +kernel
theorem dX10_countImage_11 : decode cX10_countImage 11 = .ok (.invokevirtual 375, 3) := by decide +kernel
theorem dX10_countImage_14 : decode cX10_countImage 14 = .ok (.astore_n 2, 1) := by decide +kernel
theorem dX10_countImage_15 : decode cX10_countImage 15 = .ok (.aload_n 0, 1) := by decide +kernel
theorem dX10_countImage_16 : decode cX10_countImage 16 = .ok (.getfield 90, 3) := by decide +kernel
theorem dX10_countImage_19 : decode cX10_countImage 19 = .ok (.aload_n 0, 1) := by decide +kernel
theorem dX10_countImage_20 : decode cX10_countImage 20 = .ok (.getfield 10, 3) := by decide +kernel
theorem dX10_countImage_23 : decode cX10_countImage 23 = .ok (.getfield 98, 3) := by decide +kernel
theorem dX10_countImage_26 : decode cX10_countImage 26 = .ok (.invokestatic 339, 3) := by decide +kernel
theorem dX10_countImage_29 : decode cX10_countImage 29 = .ok (.aload_n 2, 1) := by decide +kernel
theorem dX10_countImage_30 : decode cX10_countImage 30 = .ok (.aload_n 0, 1) := by decide +kernel
theorem dX10_countImage_31 : decode cX10_countImage 31 = .ok (.getfield 90, 3) := by decide +kernel
theorem dX10_countImage_34 : decode cX10_countImage 34 = .ok (.bipush (-3), 2) := by decide +kernel
theorem dX10_countImage_36 : decode cX10_countImage 36 = .ok (.bipush (-3), 2) := by decide +kernel
theorem dX10_countImage_38 : decode cX10_countImage 38 = .ok (.invokevirtual 279, 3) := by decide +kernel
theorem dX10_countImage_41 : decode cX10_countImage 41 = .ok (.pop, 1) := by decide +kernel
theorem dX10_countImage_42 : decode cX10_countImage 42 = .ok (.aload_n 0, 1) := by decide +kernel
theorem dX10_countImage_43 : decode cX10_countImage 43 = .ok (.getfield 70, 3) := by decide +kernel
theorem dX10_countImage_46 : decode cX10_countImage 46 = .ok (.iload_n 1, 1) := by decide +kernel
theorem dX10_countImage_47 : decode cX10_countImage 47 = .ok (.putfield 364, 3) := by decide +kernel
theorem dX10_countImage_50 : decode cX10_countImage 50 = .ok (.aload_n 2, 1) := by decide +kernel
theorem dX10_countImage_51 : decode cX10_countImage 51 = .ok (.aload_n 0, 1) := by decide +kernel
theorem dX10_countImage_52 : decode cX10_countImage 52 = .ok (.getfield 70, 3) := by decide +kernel
theorem dX10_countImage_55 : decode cX10_countImage 55 = .ok (.aload_n 0, 1) := by decide +kernel
theorem dX10_countImage_56 : decode cX10_countImage 56 = .ok (.getfield 10, 3) := by decide +kernel
theorem dX10_countImage_59 : decode cX10_countImage 59 = .ok (.getfield 101, 3) := by decide +kernel
theorem dX10_countImage_62 : decode cX10_countImage 62 = .ok (.invokevirtual 282, 3) := by decide +kernel
theorem dX10_countImage_65 : decode cX10_countImage 65 = .ok (.aload_n 2, 1) := by decide +kernel
theorem dX10_countImage_66 : decode cX10_countImage 66 = .ok (.getfield 198, 3) := by decide +kernel
theorem dX10_countImage_69 : decode cX10_countImage 69 = .ok (.ireturn, 1) := by decide +kernel
theorem dX10_drop_0 : decode cX10_drop 0 = .ok (.aload_n 0, 1) := by decide +kernel
theorem dX10_drop_1 : decode cX10_drop 1 = .ok (.getfield 10, 3) := by decide +kernel
theorem dX10_drop_4 : decode cX10_drop 4 = .ok (.getfield 101, 3) := by decide +kernel
theorem dX10_drop_7 : decode cX10_drop 7 = .ok (.ifCond .ne 6, 3) := by decide +kernel
theorem dX10_drop_10 : decode cX10_drop 10 = .ok (.bipush (-3), 2) := by decide +kernel
theorem dX10_drop_12 : decode cX10_drop 12 = .ok (.ireturn, 1) := by decide +kernel
theorem dX10_element_0 : decode cX10_element 0 = .ok (.aload_n 0, 1) := by decide +kernel
theorem dX10_element_1 : decode cX10_element 1 = .ok (.invokevirtual 195, 3) := by decide +kernel
theorem dX10_element_4 : decode cX10_element 4 = .ok (.aload_n 0, 1) := by decide +kernel
theorem dX10_element_5 : decode cX10_element 5 = .ok (.getfield 41, 3) := by decide +kernel
theorem dX10_element_8 : decode cX10_element 8 = .ok (.iload_n 1, 1) := by decide +kernel
theorem dX10_element_9 : decode cX10_element 9 = .ok (.invokevirtual 202, 3) := by decide +kernel
theorem dX10_element_12 : decode cX10_element 12 = .ok (.ifCond .eq 15, 3) := by decide +kernel
theorem dX10_element_15 : decode cX10_element 15 = .ok (.aload_n 0, 1) := by decide +kernel
theorem dX10_element_16 : decode cX10_element 16 = .ok (.getfield 10, 3) := by decide +kernel
theorem dX10_element_19 : decode cX10_element 19 = .ok (.iload_n 2, 1) := by decide +kernel
theorem dX10_element_20 : decode cX10_element 20 = .ok (.iload_n 3, 1) := by decide +kernel
theorem dX10_element_21 : decode cX10_element 21 = .ok (.invokevirtual 107, 3) := by decide +kernel
theorem dX10_element_24 : decode cX10_element 24 = .ok (.ifCond .ne 8, 3) := by decide +kernel
theorem dX10_element_27 : decode cX10_element 27 = .ok (.iconst (-1), 1) := by decide +kernel
theorem dX10_element_28 : decode cX10_element 28 = .ok (.invokestatic 203, 3) := by decide +kernel
theorem dX10_element_31 : decode cX10_element 31 = .ok (.lreturn, 1) := by decide +kernel
theorem dX10_element_32 : decode cX10_element 32 = .ok (.aload_n 0, 1) := by decide +kernel
theorem dX10_element_33 : decode cX10_element 33 = .ok (.getfield 41, 3) := by decide +kernel
theorem dX10_element_36 : decode cX10_element 36 = .ok (.getfield 207, 3) := by decide +kernel
theorem dX10_element_39 : decode cX10_element 39 = .ok (.aload_n 0, 1) := by decide +kernel
theorem dX10_element_40 : decode cX10_element 40 = .ok (.getfield 41, 3) := by decide +kernel
theorem dX10_element_43 : decode cX10_element 43 = .ok (.iload_n 1, 1) := by decide +kernel
theorem dX10_element_44 : decode cX10_element 44 = .ok (.invokevirtual 208, 3) := by decide +kernel
theorem dX10_element_47 : decode cX10_element 47 = .ok (.iload_n 2, 1) := by decide +kernel
theorem dX10_element_48 : decode cX10_element 48 = .ok (.aload_n 0, 1) := by decide +kernel
theorem dX10_element_49 : decode cX10_element 49 = .ok (.getfield 10, 3) := by decide +kernel
theorem dX10_element_52 : decode cX10_element 52 = .ok (.getfield 98, 3) := by decide +kernel
theorem dX10_element_55 : decode cX10_element 55 = .ok (.imul, 1) := by decide +kernel
theorem dX10_element_56 : decode cX10_element 56 = .ok (.iadd, 1) := by decide +kernel
theorem dX10_element_57 : decode cX10_element 57 = .ok (.iload_n 3, 1) := by decide +kernel
theorem dX10_element_58 : decode cX10_element 58 = .ok (.iadd, 1) := by decide +kernel
theorem dX10_element_59 : decode cX10_element 59 = .ok (.laload, 1) := by decide +kernel
theorem dX10_element_60 : decode cX10_element 60 = .ok (.lreturn, 1) := by decide +kernel
theorem dX10_factor_0 : decode cX10_factor 0 = .ok (.aload_n 0, 1) := by decide +kernel
theorem dX10_factor_1 : decode cX10_factor 1 = .ok (.getfield 10, 3) := by decide +kernel
theorem dX10_factor_4 : decode cX10_factor 4 = .ok (.iload_n 1, 1) := by decide +kernel
theorem dX10_factor_5 : decode cX10_factor 5 = .ok (.invokevirtual 123, 3) := by decide +kernel
theorem dX10_factor_8 : decode cX10_factor 8 = .ok (.ifCond .eq 10, 3) := by decide +kernel
theorem dX10_factor_18 : decode cX10_factor 18 = .ok (.iconst (-1), 1) := by decide +kernel
theorem dX10_factor_19 : decode cX10_factor 19 = .ok (.ireturn, 1) := by decide +kernel
theorem dX10_faithful_0 : decode cX10_faithful 0 = .ok (.iload_n 1, 1) := by decide +kernel
theorem dX10_faithful_1 : decode cX10_faithful 1 = .ok (.invokestatic 259, 3) := by decide +kernel
theorem dX10_faithful_4 : decode cX10_faithful 4 = .ok (.ifCond .ne 5, 3) := by decide +kernel
theorem dX10_faithful_7 : decode cX10_faithful 7 = .ok (.iconst (-1), 1) := by decide +kernel
theorem dX10_faithful_8 : decode cX10_faithful 8 = .ok (.ireturn, 1) := by decide +kernel
theorem dX10_faithful_9 : decode cX10_faithful 9 = .ok (.aload_n 0, 1) := by decide +kernel
theorem dX10_faithful_10 : decode cX10_faithful 10 = .ok (.invokevirtual 195, 3) := by decide +kernel
theorem dX10_faithful_13 : decode cX10_faithful 13 = .ok (.aload_n 0, 1) := by decide +kernel
theorem dX10_faithful_14 : decode cX10_faithful 14 = .ok (.iload_n 1, 1) := by decide +kernel
theorem dX10_faithful_15 : decode cX10_faithful 15 = .ok (.invokevirtual 265, 3) := by decide +kernel
theorem dX10_faithful_18 : decode cX10_faithful 18 = .ok (.ifCond .eq 7, 3) := by decide +kernel
theorem dX10_faithful_21 : decode cX10_faithful 21 = .ok (.iconst 1, 1) := by decide +kernel
theorem dX10_faithful_22 : decode cX10_faithful 22 = .ok (.goto 4, 3) := by decide +kernel
theorem dX10_faithful_26 : decode cX10_faithful 26 = .ok (.ireturn, 1) := by decide +kernel
theorem dX10_feed_0 : decode cX10_feed 0 = .ok (.iload_n 3, 1) := by decide +kernel
theorem dX10_feed_1 : decode cX10_feed 1 = .ok (.iconst 1, 1) := by decide +kernel
theorem dX10_feed_2 : decode cX10_feed 2 = .ok (.if_icmp .lt 9, 3) := by decide +kernel
theorem dX10_feed_5 : decode cX10_feed 5 = .ok (.iload_n 3, 1) := by decide +kernel
theorem dX10_feed_6 : decode cX10_feed 6 = .ok (.bipush 8, 2) := by decide +kernel
theorem dX10_feed_8 : decode cX10_feed 8 = .ok (.if_icmp .le 5, 3) := by decide +kernel
theorem dX10_feed_11 : decode cX10_feed 11 = .ok (.iconst (-1), 1) := by decide +kernel
theorem dX10_feed_12 : decode cX10_feed 12 = .ok (.ireturn, 1) := by decide +kernel
theorem dX10_feed_13 : decode cX10_feed 13 = .ok (.aload_n 0, 1) := by decide +kernel
theorem dX10_feed_14 : decode cX10_feed 14 = .ok (.getfield 26, 3) := by decide +kernel
theorem dX10_feed_17 : decode cX10_feed 17 = .ok (.getfield 174, 3) := by decide +kernel
theorem dX10_feed_20 : decode cX10_feed 20 = .ok (.iload_n 3, 1) := by decide +kernel
theorem dX10_feed_21 : decode cX10_feed 21 = .ok (.iadd, 1) := by decide +kernel
theorem dX10_feed_22 : decode cX10_feed 22 = .ok (.bipush 120, 2) := by decide +kernel
theorem dX10_feed_24 : decode cX10_feed 24 = .ok (.if_icmp .le 6, 3) := by decide +kernel
theorem dX10_feed_30 : decode cX10_feed 30 = .ok (.aload_n 0, 1) := by decide +kernel
theorem dX10_feed_31 : decode cX10_feed 31 = .ok (.getfield 26, 3) := by decide +kernel
theorem dX10_feed_34 : decode cX10_feed 34 = .ok (.lload_n 1, 1) := by decide +kernel
theorem dX10_feed_35 : decode cX10_feed 35 = .ok (.iload_n 3, 1) := by decide +kernel
theorem dX10_feed_36 : decode cX10_feed 36 = .ok (.invokevirtual 175, 3) := by decide +kernel
theorem dX10_feed_39 : decode cX10_feed 39 = .ok (.aload_n 0, 1) := by decide +kernel
theorem dX10_feed_40 : decode cX10_feed 40 = .ok (.getfield 26, 3) := by decide +kernel
theorem dX10_feed_43 : decode cX10_feed 43 = .ok (.getfield 174, 3) := by decide +kernel
theorem dX10_feed_46 : decode cX10_feed 46 = .ok (.ireturn, 1) := by decide +kernel
theorem dX10_fitsUnit_0 : decode cX10_fitsUnit 0 = .ok (.iload_n 0, 1) := by decide +kernel
theorem dX10_fitsUnit_1 : decode cX10_fitsUnit 1 = .ok (.ifCond .eq 19, 3) := by decide +kernel
theorem dX10_fitsUnit_4 : decode cX10_fitsUnit 4 = .ok (.iload_n 1, 1) := by decide +kernel
theorem dX10_fitsUnit_5 : decode cX10_fitsUnit 5 = .ok (.iconst 1, 1) := by decide +kernel
theorem dX10_fitsUnit_6 : decode cX10_fitsUnit 6 = .ok (.if_icmp .eq 8, 3) := by decide +kernel
theorem dX10_fitsUnit_9 : decode cX10_fitsUnit 9 = .ok (.iload_n 1, 1) := by decide +kernel
theorem dX10_fitsUnit_10 : decode cX10_fitsUnit 10 = .ok (.iconst (-1), 1) := by decide +kernel
theorem dX10_fitsUnit_11 : decode cX10_fitsUnit 11 = .ok (.if_icmp .ne 7, 3) := by decide +kernel
theorem dX10_fitsUnit_14 : decode cX10_fitsUnit 14 = .ok (.iconst 1, 1) := by decide +kernel
theorem dX10_fitsUnit_15 : decode cX10_fitsUnit 15 = .ok (.goto 4, 3) := by decide +kernel
theorem dX10_fitsUnit_18 : decode cX10_fitsUnit 18 = .ok (.iconst 0, 1) := by decide +kernel
theorem dX10_fitsUnit_19 : decode cX10_fitsUnit 19 = .ok (.ireturn, 1) := by decide +kernel
theorem dX10_fitsUnit_20 : decode cX10_fitsUnit 20 = .ok (.iload_n 1, 1) := by decide +kernel
theorem dX10_fitsUnit_21 : decode cX10_fitsUnit 21 = .ok (.bipush (-99), 2) := by decide +kernel
theorem dX10_fitsUnit_23 : decode cX10_fitsUnit 23 = .ok (.if_icmp .lt 13, 3) := by decide +kernel
theorem dX10_fitsUnit_26 : decode cX10_fitsUnit 26 = .ok (.iload_n 1, 1) := by decide +kernel
theorem dX10_fitsUnit_27 : decode cX10_fitsUnit 27 = .ok (.bipush 99, 2) := by decide +kernel
theorem dX10_fitsUnit_29 : decode cX10_fitsUnit 29 = .ok (.if_icmp .gt 7, 3) := by decide +kernel
theorem dX10_fitsUnit_32 : decode cX10_fitsUnit 32 = .ok (.iconst 1, 1) := by decide +kernel
theorem dX10_fitsUnit_33 : decode cX10_fitsUnit 33 = .ok (.goto 4, 3) := by decide +kernel
theorem dX10_fitsUnit_36 : decode cX10_fitsUnit 36 = .ok (.iconst 0, 1) := by decide +kernel
theorem dX10_fitsUnit_37 : decode cX10_fitsUnit 37 = .ok (.ireturn, 1) := by decide +kernel
theorem dX10_forgetWhatCame_0 : decode cX10_forgetWhatCame 0 = .ok (.aload_n 0, 1) := by decide +kernel
theorem dX10_forgetWhatCame_1 : decode cX10_forgetWhatCame 1 = .ok (.iconst 0, 1) := by decide +kernel
theorem dX10_forgetWhatCame_2 : decode cX10_forgetWhatCame 2 = .ok (.putfield 45, 3) := by decide +kernel
theorem dX10_forgetWhatCame_5 : decode cX10_forgetWhatCame 5 = .ok (.aload_n 0, 1) := by decide +kernel
theorem dX10_forgetWhatCame_6 : decode cX10_forgetWhatCame 6 = .ok (.iconst 0, 1) := by decide +kernel
theorem dX10_forgetWhatCame_7 : decode cX10_forgetWhatCame 7 = .ok (.putfield 51, 3) := by decide +kernel
theorem dX10_forgetWhatCame_10 : decode cX10_forgetWhatCame 10 = .ok (.aload_n 0, 1) := by decide +kernel
theorem dX10_forgetWhatCame_11 : decode cX10_forgetWhatCame 11 = .ok (.getfield 57, 3) := by decide +kernel
theorem dX10_forgetWhatCame_14 : decode cX10_forgetWhatCame 14 = .ok (.iconst 0, 1) := by decide +kernel
theorem dX10_forgetWhatCame_15 : decode cX10_forgetWhatCame 15 = .ok (.invokestatic 333, 3) := by decide +kernel
theorem dX10_forgetWhatCame_18 : decode cX10_forgetWhatCame 18 = .ok (.return_, 1) := by decide +kernel
theorem dX10_form_0 : decode cX10_form 0 = .ok (.aload_n 0, 1) := by decide +kernel
theorem dX10_form_1 : decode cX10_form 1 = .ok (.getfield 10, 3) := by decide +kernel
theorem dX10_form_4 : decode cX10_form 4 = .ok (.iload_n 1, 1) := by decide +kernel
theorem dX10_form_5 : decode cX10_form 5 = .ok (.iload_n 2, 1) := by decide +kernel
theorem dX10_form_6 : decode cX10_form 6 = .ok (.invokevirtual 107, 3) := by decide +kernel
theorem dX10_form_9 : decode cX10_form 9 = .ok (.ifCond .ne 8, 3) := by decide +kernel
theorem dX10_form_12 : decode cX10_form 12 = .ok (.iconst (-1), 1) := by decide +kernel
theorem dX10_form_13 : decode cX10_form 13 = .ok (.invokestatic 203, 3) := by decide +kernel
theorem dX10_form_16 : decode cX10_form 16 = .ok (.lreturn, 1) := by decide +kernel
theorem dX10_form_17 : decode cX10_form 17 = .ok (.aload_n 0, 1) := by decide +kernel
theorem dX10_form_18 : decode cX10_form 18 = .ok (.invokevirtual 195, 3) := by decide +kernel
theorem dX10_form_21 : decode cX10_form 21 = .ok (.aload_n 0, 1) := by decide +kernel
theorem dX10_form_22 : decode cX10_form 22 = .ok (.getfield 41, 3) := by decide +kernel
theorem dX10_form_25 : decode cX10_form 25 = .ok (.getfield 199, 3) := by decide +kernel
theorem dX10_form_28 : decode cX10_form 28 = .ok (.ifCond .ne 9, 3) := by decide +kernel
theorem dX10_form_37 : decode cX10_form 37 = .ok (.aload_n 0, 1) := by decide +kernel
theorem dX10_form_38 : decode cX10_form 38 = .ok (.invokevirtual 234, 3) := by decide +kernel
theorem dX10_form_41 : decode cX10_form 41 = .ok (.ifCond .ne 9, 3) := by decide +kernel
theorem dX10_form_50 : decode cX10_form 50 = .ok (.aload_n 0, 1) := by decide +kernel
theorem dX10_form_51 : decode cX10_form 51 = .ok (.getfield 90, 3) := by decide +kernel
theorem dX10_form_54 : decode cX10_form 54 = .ok (.aload_n 0, 1) := by decide +kernel
theorem dX10_form_55 : decode cX10_form 55 = .ok (.getfield 10, 3) := by decide +kernel
theorem dX10_form_58 : decode cX10_form 58 = .ok (.invokevirtual 130, 3) := by decide +kernel
theorem dX10_form_61 : decode cX10_form 61 = .ok (.invokestatic 237, 3) := by decide +kernel
theorem dX10_form_64 : decode cX10_form 64 = .ok (.lstore_n 3, 1) := by decide +kernel
theorem dX10_form_65 : decode cX10_form 65 = .ok (.aload_n 0, 1) := by decide +kernel
theorem dX10_form_66 : decode cX10_form 66 = .ok (.getfield 90, 3) := by decide +kernel
theorem dX10_form_69 : decode cX10_form 69 = .ok (.iload_n 1, 1) := by decide +kernel
theorem dX10_form_70 : decode cX10_form 70 = .ok (.aload_n 0, 1) := by decide +kernel
theorem dX10_form_71 : decode cX10_form 71 = .ok (.getfield 10, 3) := by decide +kernel
theorem dX10_form_74 : decode cX10_form 74 = .ok (.getfield 98, 3) := by decide +kernel
theorem dX10_form_77 : decode cX10_form 77 = .ok (.imul, 1) := by decide +kernel
theorem dX10_form_78 : decode cX10_form 78 = .ok (.iload_n 2, 1) := by decide +kernel
theorem dX10_form_79 : decode cX10_form 79 = .ok (.iadd, 1) := by decide +kernel
theorem dX10_form_80 : decode cX10_form 80 = .ok (.laload, 1) := by decide +kernel
theorem dX10_form_81 : decode cX10_form 81 = .ok (.lconst 1, 1) := by decide +kernel
theorem dX10_form_82 : decode cX10_form 82 = .ok (.lload_n 3, 1) := by decide +kernel
theorem dX10_form_83 : decode cX10_form 83 = .ok (.invokestatic 241, 3) := by decide +kernel
theorem dX10_form_86 : decode cX10_form 86 = .ok (.ldiv, 1) := by decide +kernel
theorem dX10_form_87 : decode cX10_form 87 = .ok (.lreturn, 1) := by decide +kernel
theorem dX10_found_0 : decode cX10_found 0 = .ok (.aload_n 0, 1) := by decide +kernel
theorem dX10_found_1 : decode cX10_found 1 = .ok (.iload_n 1, 1) := by decide +kernel
theorem dX10_found_2 : decode cX10_found 2 = .ok (.invokevirtual 221, 3) := by decide +kernel
theorem dX10_found_5 : decode cX10_found 5 = .ok (.ifCond .ne 5, 3) := by decide +kernel
theorem dX10_found_8 : decode cX10_found 8 = .ok (.iconst (-1), 1) := by decide +kernel
theorem dX10_found_9 : decode cX10_found 9 = .ok (.ireturn, 1) := by decide +kernel
theorem dX10_found_10 : decode cX10_found 10 = .ok (.aload_n 0, 1) := by decide +kernel
theorem dX10_found_11 : decode cX10_found 11 = .ok (.invokevirtual 195, 3) := by decide +kernel
theorem dX10_found_14 : decode cX10_found 14 = .ok (.aload_n 0, 1) := by decide +kernel
theorem dX10_found_15 : decode cX10_found 15 = .ok (.iload_n 1, 1) := by decide +kernel
theorem dX10_found_16 : decode cX10_found 16 = .ok (.invokevirtual 224, 3) := by decide +kernel
theorem dX10_found_19 : decode cX10_found 19 = .ok (.ifCond .ne 6, 3) := by decide +kernel
theorem dX10_found_25 : decode cX10_found 25 = .ok (.aload_n 0, 1) := by decide +kernel
theorem dX10_found_26 : decode cX10_found 26 = .ok (.getfield 41, 3) := by decide +kernel
theorem dX10_found_29 : decode cX10_found 29 = .ok (.aload_n 0, 1) := by decide +kernel
theorem dX10_found_30 : decode cX10_found 30 = .ok (.getfield 90, 3) := by decide +kernel
theorem dX10_found_33 : decode cX10_found 33 = .ok (.invokevirtual 227, 3) := by decide +kernel
theorem dX10_found_36 : decode cX10_found 36 = .ok (.istore_n 2, 1) := by decide +kernel
theorem dX10_found_37 : decode cX10_found 37 = .ok (.iload_n 2, 1) := by decide +kernel
theorem dX10_found_38 : decode cX10_found 38 = .ok (.ifCond .ge 8, 3) := by decide +kernel
theorem dX10_found_46 : decode cX10_found 46 = .ok (.iload_n 2, 1) := by decide +kernel
theorem dX10_found_47 : decode cX10_found 47 = .ok (.ireturn, 1) := by decide +kernel
theorem dX10_image_0 : decode cX10_image 0 = .ok (.iload_n 1, 1) := by decide +kernel
theorem dX10_image_1 : decode cX10_image 1 = .ok (.invokestatic 259, 3) := by decide +kernel
theorem dX10_image_4 : decode cX10_image 4 = .ok (.ifCond .ne 5, 3) := by decide +kernel
theorem dX10_image_7 : decode cX10_image 7 = .ok (.iconst (-1), 1) := by decide +kernel
theorem dX10_image_8 : decode cX10_image 8 = .ok (.ireturn, 1) := by decide +kernel
theorem dX10_image_9 : decode cX10_image 9 = .ok (.aload_n 0, 1) := by decide +kernel
theorem dX10_image_10 : decode cX10_image 10 = .ok (.getfield 57, 3) := by decide +kernel
theorem dX10_image_13 : decode cX10_image 13 = .ok (.iload_n 1, 1) := by decide +kernel
theorem dX10_image_14 : decode cX10_image 14 = .ok (.iaload, 1) := by decide +kernel
theorem dX10_image_15 : decode cX10_image 15 = .ok (.ifCond .ne 14, 3) := by decide +kernel
theorem dX10_image_18 : decode cX10_image 18 = .ok (.aload_n 0, 1) := by decide +kernel
theorem dX10_image_19 : decode cX10_image 19 = .ok (.getfield 57, 3) := by decide +kernel
theorem dX10_image_22 : decode cX10_image 22 = .ok (.iload_n 1, 1) := by decide +kernel
theorem dX10_image_23 : decode cX10_image 23 = .ok (.aload_n 0, 1) := by decide +kernel
theorem dX10_image_24 : decode cX10_image 24 = .ok (.iload_n 1, 1) := by decide +kernel
theorem dX10_image_25 : decode cX10_image 25 = .ok (.invokevirtual 262, 3) := by decide +kernel
theorem dX10_image_28 : decode cX10_image 28 = .ok (.iastore, 1) := by decide +kernel
theorem dX10_image_29 : decode cX10_image 29 = .ok (.aload_n 0, 1) := by decide +kernel
theorem dX10_image_30 : decode cX10_image 30 = .ok (.getfield 57, 3) := by decide +kernel
theorem dX10_image_33 : decode cX10_image 33 = .ok (.iload_n 1, 1) := by decide +kernel
theorem dX10_image_34 : decode cX10_image 34 = .ok (.iaload, 1) := by decide +kernel
theorem dX10_image_35 : decode cX10_image 35 = .ok (.ireturn, 1) := by decide +kernel
theorem dX10_init_0 : decode cX10_init 0 = .ok (.aload_n 0, 1) := by decide +kernel
theorem dX10_init_1 : decode cX10_init 1 = .ok (.invokespecial 1, 3) := by decide +kernel
theorem dX10_init_4 : decode cX10_init 4 = .ok (.aload_n 0, 1) := by decide +kernel
theorem dX10_init_5 : decode cX10_init 5 = .ok (.new 7, 3) := by decide +kernel
theorem dX10_init_8 : decode cX10_init 8 = .ok (.dup, 1) := by decide +kernel
theorem dX10_init_9 : decode cX10_init 9 = .ok (.invokespecial 9, 3) := by decide +kernel
theorem dX10_init_12 : decode cX10_init 12 = .ok (.putfield 10, 3) := by decide +kernel
theorem dX10_init_15 : decode cX10_init 15 = .ok (.aload_n 0, 1) := by decide +kernel
theorem dX10_init_16 : decode cX10_init 16 = .ok (.new 7, 3) := by decide +kernel
theorem dX10_init_19 : decode cX10_init 19 = .ok (.dup, 1) := by decide +kernel
theorem dX10_init_20 : decode cX10_init 20 = .ok (.invokespecial 9, 3) := by decide +kernel
theorem dX10_init_23 : decode cX10_init 23 = .ok (.putfield 16, 3) := by decide +kernel
theorem dX10_init_26 : decode cX10_init 26 = .ok (.aload_n 0, 1) := by decide +kernel
theorem dX10_init_27 : decode cX10_init 27 = .ok (.iconst 0, 1) := by decide +kernel
theorem dX10_init_28 : decode cX10_init 28 = .ok (.putfield 19, 3) := by decide +kernel
theorem dX10_init_31 : decode cX10_init 31 = .ok (.aload_n 0, 1) := by decide +kernel
theorem dX10_init_32 : decode cX10_init 32 = .ok (.new 23, 3) := by decide +kernel
theorem dX10_init_35 : decode cX10_init 35 = .ok (.dup, 1) := by decide +kernel
theorem dX10_init_36 : decode cX10_init 36 = .ok (.invokespecial 25, 3) := by decide +kernel
theorem dX10_init_39 : decode cX10_init 39 = .ok (.putfield 26, 3) := by decide +kernel
theorem dX10_init_42 : decode cX10_init 42 = .ok (.aload_n 0, 1) := by decide +kernel
theorem dX10_init_43 : decode cX10_init 43 = .ok (.iconst 4, 1) := by decide +kernel
theorem dX10_init_44 : decode cX10_init 44 = .ok (.anewarray 30, 3) := by decide +kernel
theorem dX10_init_47 : decode cX10_init 47 = .ok (.putfield 32, 3) := by decide +kernel
theorem dX10_init_50 : decode cX10_init 50 = .ok (.aload_n 0, 1) := by decide +kernel
theorem dX10_init_51 : decode cX10_init 51 = .ok (.new 36, 3) := by decide +kernel
theorem dX10_init_54 : decode cX10_init 54 = .ok (.dup, 1) := by decide +kernel
theorem dX10_init_55 : decode cX10_init 55 = .ok (.bipush 100, 2) := by decide +kernel
theorem dX10_init_57 : decode cX10_init 57 = .ok (.sipush 900, 3) := by decide +kernel
theorem dX10_init_60 : decode cX10_init 60 = .ok (.sipush 256, 3) := by decide +kernel
theorem dX10_init_63 : decode cX10_init 63 = .ok (.invokespecial 38, 3) := by decide +kernel
theorem dX10_init_66 : decode cX10_init 66 = .ok (.putfield 41, 3) := by decide +kernel
theorem dX10_init_69 : decode cX10_init 69 = .ok (.aload_n 0, 1) := by decide +kernel
theorem dX10_init_70 : decode cX10_init 70 = .ok (.iconst 0, 1) := by decide +kernel
theorem dX10_init_71 : decode cX10_init 71 = .ok (.putfield 45, 3) := by decide +kernel
theorem dX10_init_74 : decode cX10_init 74 = .ok (.aload_n 0, 1) := by decide +kernel
theorem dX10_init_75 : decode cX10_init 75 = .ok (.new 36, 3) := by decide +kernel
theorem dX10_init_78 : decode cX10_init 78 = .ok (.dup, 1) := by decide +kernel
theorem dX10_init_79 : decode cX10_init 79 = .ok (.bipush 60, 2) := by decide +kernel
theorem dX10_init_81 : decode cX10_init 81 = .ok (.sipush 180, 3) := by decide +kernel
theorem dX10_init_84 : decode cX10_init 84 = .ok (.sipush 128, 3) := by decide +kernel
theorem dX10_init_87 : decode cX10_init 87 = .ok (.invokespecial 38, 3) := by decide +kernel
theorem dX10_init_90 : decode cX10_init 90 = .ok (.putfield 48, 3) := by decide +kernel
theorem dX10_init_93 : decode cX10_init 93 = .ok (.aload_n 0, 1) := by decide +kernel
theorem dX10_init_94 : decode cX10_init 94 = .ok (.iconst 0, 1) := by decide +kernel
theorem dX10_init_95 : decode cX10_init 95 = .ok (.putfield 51, 3) := by decide +kernel
theorem dX10_init_98 : decode cX10_init 98 = .ok (.aload_n 0, 1) := by decide +kernel
theorem dX10_init_99 : decode cX10_init 99 = .ok (.aconst_null, 1) := by decide +kernel
theorem dX10_init_100 : decode cX10_init 100 = .ok (.putfield 54, 3) := by decide +kernel
theorem dX10_init_103 : decode cX10_init 103 = .ok (.aload_n 0, 1) := by decide +kernel
theorem dX10_init_104 : decode cX10_init 104 = .ok (.bipush 8, 2) := by decide +kernel
theorem dX10_init_106 : decode cX10_init 106 = .ok (.newarray .int, 2) := by decide +kernel
theorem dX10_init_108 : decode cX10_init 108 = .ok (.putfield 57, 3) := by decide +kernel
theorem dX10_init_111 : decode cX10_init 111 = .ok (.aload_n 0, 1) := by decide +kernel
theorem dX10_init_112 : decode cX10_init 112 = .ok (.iconst 0, 1) := by decide +kernel
theorem dX10_init_113 : decode cX10_init 113 = .ok (.putfield 61, 3) := by decide +kernel
theorem dX10_init_116 : decode cX10_init 116 = .ok (.aload_n 0, 1) := by decide +kernel
theorem dX10_init_117 : decode cX10_init 117 = .ok (.new 65, 3) := by decide +kernel
theorem dX10_init_120 : decode cX10_init 120 = .ok (.dup, 1) := by decide +kernel
theorem dX10_init_121 : decode cX10_init 121 = .ok (.aload_n 0, 1) := by decide +kernel
theorem dX10_init_122 : decode cX10_init 122 = .ok (.getfield 10, 3) := by decide +kernel
theorem dX10_init_125 : decode cX10_init 125 = .ok (.invokespecial 67, 3) := by decide +kernel
