theorem dJ7_fill_53178_0 : decode cJ7_fill_53178 0 = .ok (.iconst 0, 1) := by decide +kernel
theorem dJ7_fill_53178_1 : decode cJ7_fill_53178 1 = .ok (.istore_n 2, 1) := by decide +kernel
theorem dJ7_fill_53178_2 : decode cJ7_fill_53178 2 = .ok (.aload_n 0, 1) := by decide +kernel
theorem dJ7_fill_53178_3 : decode cJ7_fill_53178 3 = .ok (.arraylength, 1) := by decide +kernel
theorem dJ7_fill_53178_4 : decode cJ7_fill_53178 4 = .ok (.istore_n 3, 1) := by decide +kernel
theorem dJ7_fill_53178_5 : decode cJ7_fill_53178 5 = .ok (.iload_n 2, 1) := by decide +kernel
theorem dJ7_fill_53178_6 : decode cJ7_fill_53178 6 = .ok (.iload_n 3, 1) := by decide +kernel
theorem dJ7_fill_53178_7 : decode cJ7_fill_53178 7 = .ok (.if_icmp .ge 13, 3) := by decide +kernel
theorem dJ7_fill_53178_10 : decode cJ7_fill_53178 10 = .ok (.aload_n 0, 1) := by decide +kernel
theorem dJ7_fill_53178_11 : decode cJ7_fill_53178 11 = .ok (.iload_n 2, 1) := by decide +kernel
theorem dJ7_fill_53178_12 : decode cJ7_fill_53178 12 = .ok (.iload_n 1, 1) := by decide +kernel
theorem dJ7_fill_53178_13 : decode cJ7_fill_53178 13 = .ok (.iastore, 1) := by decide +kernel
theorem dJ7_fill_53178_14 : decode cJ7_fill_53178 14 = .ok (.iinc 2 1, 3) := by decide +kernel
theorem dJ7_fill_53178_17 : decode cJ7_fill_53178 17 = .ok (.goto (-12), 3) := by decide +kernel
theorem dJ7_fill_53178_20 : decode cJ7_fill_53178 20 = .ok (.return_, 1) := by decide +kernel
theorem dJ7_fill_d0a16_0 : decode cJ7_fill_d0a16 0 = .ok (.iconst 0, 1) := by decide +kernel
theorem dJ7_fill_d0a16_1 : decode cJ7_fill_d0a16 1 = .ok (.istore_n 3, 1) := by decide +kernel
theorem dJ7_fill_d0a16_2 : decode cJ7_fill_d0a16 2 = .ok (.aload_n 0, 1) := by decide +kernel
theorem dJ7_fill_d0a16_3 : decode cJ7_fill_d0a16 3 = .ok (.arraylength, 1) := by decide +kernel
theorem dJ7_fill_d0a16_4 : decode cJ7_fill_d0a16 4 = .ok (.istore 4, 2) := by decide +kernel
theorem dJ7_fill_d0a16_6 : decode cJ7_fill_d0a16 6 = .ok (.iload_n 3, 1) := by decide +kernel
theorem dJ7_fill_d0a16_7 : decode cJ7_fill_d0a16 7 = .ok (.iload 4, 2) := by decide +kernel
theorem dJ7_fill_d0a16_9 : decode cJ7_fill_d0a16 9 = .ok (.if_icmp .ge 13, 3) := by decide +kernel
theorem dJ7_fill_d0a16_12 : decode cJ7_fill_d0a16 12 = .ok (.aload_n 0, 1) := by decide +kernel
theorem dJ7_fill_d0a16_13 : decode cJ7_fill_d0a16 13 = .ok (.iload_n 3, 1) := by decide +kernel
theorem dJ7_fill_d0a16_14 : decode cJ7_fill_d0a16 14 = .ok (.lload_n 1, 1) := by decide +kernel
theorem dJ7_fill_d0a16_15 : decode cJ7_fill_d0a16 15 = .ok (.lastore, 1) := by decide +kernel
theorem dJ7_fill_d0a16_16 : decode cJ7_fill_d0a16 16 = .ok (.iinc 3 1, 3) := by decide +kernel
theorem dJ7_fill_d0a16_19 : decode cJ7_fill_d0a16 19 = .ok (.goto (-13), 3) := by decide +kernel
theorem dJ7_fill_d0a16_22 : decode cJ7_fill_d0a16 22 = .ok (.return_, 1) := by decide +kernel
theorem dX10_addSquare_0 : decode cX10_addSquare 0 = .ok (.aload_n 0, 1) := by decide +kernel
theorem dX10_addSquare_1 : decode cX10_addSquare 1 = .ok (.getfield 10, 3) := by decide +kernel
theorem dX10_addSquare_4 : decode cX10_addSquare 4 = .ok (.aload_n 0, 1) := by decide +kernel
theorem dX10_addSquare_5 : decode cX10_addSquare 5 = .ok (.getfield 90, 3) := by decide +kernel
theorem dX10_addSquare_8 : decode cX10_addSquare 8 = .ok (.invokevirtual 343, 3) := by decide +kernel
theorem dX10_addSquare_11 : decode cX10_addSquare 11 = .ok (.istore_n 1, 1) := by decide +kernel
theorem dX10_addSquare_12 : decode cX10_addSquare 12 = .ok (.aload_n 0, 1) := by decide +kernel
theorem dX10_addSquare_13 : decode cX10_addSquare 13 = .ok (.invokevirtual 104, 3) := by decide +kernel
theorem dX10_addSquare_16 : decode cX10_addSquare 16 = .ok (.iload_n 1, 1) := by decide +kernel
theorem dX10_addSquare_17 : decode cX10_addSquare 17 = .ok (.ireturn, 1) := by decide +kernel
theorem dX10_addUnit_0 : decode cX10_addUnit 0 = .ok (.aload_n 0, 1) := by decide +kernel
theorem dX10_addUnit_1 : decode cX10_addUnit 1 = .ok (.getfield 90, 3) := by decide +kernel
theorem dX10_addUnit_4 : decode cX10_addUnit 4 = .ok (.aload_n 0, 1) := by decide +kernel
theorem dX10_addUnit_5 : decode cX10_addUnit 5 = .ok (.getfield 10, 3) := by decide +kernel
theorem dX10_addUnit_8 : decode cX10_addUnit 8 = .ok (.getfield 98, 3) := by decide +kernel
theorem dX10_addUnit_11 : decode cX10_addUnit 11 = .ok (.invokestatic 339, 3) := by decide +kernel
theorem dX10_addUnit_14 : decode cX10_addUnit 14 = .ok (.aload_n 0, 1) := by decide +kernel
theorem dX10_addUnit_15 : decode cX10_addUnit 15 = .ok (.getfield 90, 3) := by decide +kernel
theorem dX10_addUnit_18 : decode cX10_addUnit 18 = .ok (.iload_n 1, 1) := by decide +kernel
theorem dX10_addUnit_19 : decode cX10_addUnit 19 = .ok (.aload_n 0, 1) := by decide +kernel
theorem dX10_addUnit_20 : decode cX10_addUnit 20 = .ok (.getfield 10, 3) := by decide +kernel
theorem dX10_addUnit_23 : decode cX10_addUnit 23 = .ok (.getfield 98, 3) := by decide +kernel
theorem dX10_addUnit_26 : decode cX10_addUnit 26 = .ok (.imul, 1) := by decide +kernel
theorem dX10_addUnit_27 : decode cX10_addUnit 27 = .ok (.iload_n 2, 1) := by decide +kernel
theorem dX10_addUnit_28 : decode cX10_addUnit 28 = .ok (.iadd, 1) := by decide +kernel
theorem dX10_addUnit_29 : decode cX10_addUnit 29 = .ok (.iload_n 3, 1) := by decide +kernel
theorem dX10_addUnit_30 : decode cX10_addUnit 30 = .ok (.i2l, 1) := by decide +kernel
theorem dX10_addUnit_31 : decode cX10_addUnit 31 = .ok (.lastore, 1) := by decide +kernel
theorem dX10_addUnit_32 : decode cX10_addUnit 32 = .ok (.aload_n 0, 1) := by decide +kernel
theorem dX10_addUnit_33 : decode cX10_addUnit 33 = .ok (.invokevirtual 142, 3) := by decide +kernel
theorem dX10_addUnit_36 : decode cX10_addUnit 36 = .ok (.ireturn, 1) := by decide +kernel
theorem dX10_fitsUnit_0 : decode cX10_fitsUnit 0 = .ok (.iload_n 0, 1) := by decide +kernel
theorem dX10_fitsUnit_1 : decode cX10_fitsUnit 1 = .ok (.ifCond .eq 19, 3) := by decide +kernel
theorem dX10_fitsUnit_4 : decode cX10_fitsUnit 4 = .ok (.iload_n 1, 1) := by decide +kernel
theorem dX10_fitsUnit_5 : decode cX10_fitsUnit 5 = .ok (.iconst 1, 1) := by decide +kernel
theorem dX10_fitsUnit_6 : decode cX10_fitsUnit 6 = .ok (.if_icmp .eq 8, 3) := by decide +kernel
theorem dX10_fitsUnit_9 : decode cX10_fitsUnit 9 = .ok (.iload_n 1, 1) := by decide +kernel
theorem dX10_fitsUnit_10 : decode cX10_fitsUnit 10 = .ok (.iconst (-1), 1) := by decide +kernel
theorem dX10_fitsUnit_11 : decode cX10_fitsUnit 11 = .ok (.if_icmp .ne 7, 3) := by decide +kernel
theorem dX10_fitsUnit_14 : decode cX10_fitsUnit 14 = .ok (.iconst 1, 1) := by decide +kernel
theorem dX10_fitsUnit_15 : decode cX10_fitsUnit 15 = .ok (.goto 4, 3) := by decide +kernel
theorem dX10_fitsUnit_18 : decode cX10_fitsUnit 18 = .ok (.iconst 0, 1) := by decide +kernel
theorem dX10_fitsUnit_19 : decode cX10_fitsUnit 19 = .ok (.ireturn, 1) := by decide +kernel
theorem dX10_fitsUnit_20 : decode cX10_fitsUnit 20 = .ok (.iload_n 1, 1) := by decide +kernel
theorem dX10_fitsUnit_21 : decode cX10_fitsUnit 21 = .ok (.bipush (-99), 2) := by decide +kernel
theorem dX10_fitsUnit_23 : decode cX10_fitsUnit 23 = .ok (.if_icmp .lt 13, 3) := by decide +kernel
theorem dX10_fitsUnit_26 : decode cX10_fitsUnit 26 = .ok (.iload_n 1, 1) := by decide +kernel
theorem dX10_fitsUnit_27 : decode cX10_fitsUnit 27 = .ok (.bipush 99, 2) := by decide +kernel
theorem dX10_fitsUnit_29 : decode cX10_fitsUnit 29 = .ok (.if_icmp .gt 7, 3) := by decide +kernel
theorem dX10_fitsUnit_32 : decode cX10_fitsUnit 32 = .ok (.iconst 1, 1) := by decide +kernel
theorem dX10_fitsUnit_33 : decode cX10_fitsUnit 33 = .ok (.goto 4, 3) := by decide +kernel
theorem dX10_fitsUnit_36 : decode cX10_fitsUnit 36 = .ok (.iconst 0, 1) := by decide +kernel
theorem dX10_fitsUnit_37 : decode cX10_fitsUnit 37 = .ok (.ireturn, 1) := by decide +kernel
theorem dX10_forgetWhatCame_0 : decode cX10_forgetWhatCame 0 = .ok (.aload_n 0, 1) := by decide +kernel
theorem dX10_forgetWhatCame_1 : decode cX10_forgetWhatCame 1 = .ok (.iconst 0, 1) := by decide +kernel
theorem dX10_forgetWhatCame_2 : decode cX10_forgetWhatCame 2 = .ok (.putfield 45, 3) := by decide +kernel
theorem dX10_forgetWhatCame_5 : decode cX10_forgetWhatCame 5 = .ok (.aload_n 0, 1) := by decide +kernel
theorem dX10_forgetWhatCame_6 : decode cX10_forgetWhatCame 6 = .ok (.iconst 0, 1) := by decide +kernel
theorem dX10_forgetWhatCame_7 : decode cX10_forgetWhatCame 7 = .ok (.putfield 51, 3) := by decide +kernel
theorem dX10_forgetWhatCame_10 : decode cX10_forgetWhatCame 10 = .ok (.aload_n 0, 1) := by decide +kernel
theorem dX10_forgetWhatCame_11 : decode cX10_forgetWhatCame 11 = .ok (.getfield 57, 3) := by decide +kernel
theorem dX10_forgetWhatCame_14 : decode cX10_forgetWhatCame 14 = .ok (.iconst 0, 1) := by decide +kernel
theorem dX10_forgetWhatCame_15 : decode cX10_forgetWhatCame 15 = .ok (.invokestatic 333, 3) := by decide +kernel
theorem dX10_forgetWhatCame_18 : decode cX10_forgetWhatCame 18 = .ok (.return_, 1) := by decide +kernel
theorem dX10_seed_0 : decode cX10_seed 0 = .ok (.aload_n 0, 1) := by decide +kernel
theorem dX10_seed_1 : decode cX10_seed 1 = .ok (.getfield 10, 3) := by decide +kernel
theorem dX10_seed_4 : decode cX10_seed 4 = .ok (.getfield 297, 3) := by decide +kernel
theorem dX10_seed_7 : decode cX10_seed 7 = .ok (.istore_n 2, 1) := by decide +kernel
theorem dX10_seed_8 : decode cX10_seed 8 = .ok (.aload_n 0, 1) := by decide +kernel
theorem dX10_seed_9 : decode cX10_seed 9 = .ok (.getfield 10, 3) := by decide +kernel
theorem dX10_seed_12 : decode cX10_seed 12 = .ok (.iload_n 1, 1) := by decide +kernel
theorem dX10_seed_13 : decode cX10_seed 13 = .ok (.putfield 297, 3) := by decide +kernel
theorem dX10_seed_16 : decode cX10_seed 16 = .ok (.iload_n 2, 1) := by decide +kernel
theorem dX10_seed_17 : decode cX10_seed 17 = .ok (.ireturn, 1) := by decide +kernel
theorem dX10_size_0 : decode cX10_size 0 = .ok (.iload_n 1, 1) := by decide +kernel
theorem dX10_size_1 : decode cX10_size 1 = .ok (.iconst 1, 1) := by decide +kernel
theorem dX10_size_2 : decode cX10_size 2 = .ok (.if_icmp .lt 8, 3) := by decide +kernel
theorem dX10_size_5 : decode cX10_size 5 = .ok (.iload_n 1, 1) := by decide +kernel
theorem dX10_size_6 : decode cX10_size 6 = .ok (.iconst 3, 1) := by decide +kernel
theorem dX10_size_7 : decode cX10_size 7 = .ok (.if_icmp .le 5, 3) := by decide +kernel
theorem dX10_size_10 : decode cX10_size 10 = .ok (.iconst (-1), 1) := by decide +kernel
theorem dX10_size_11 : decode cX10_size 11 = .ok (.ireturn, 1) := by decide +kernel
theorem dX10_size_12 : decode cX10_size 12 = .ok (.aload_n 0, 1) := by decide +kernel
theorem dX10_size_13 : decode cX10_size 13 = .ok (.getfield 10, 3) := by decide +kernel
theorem dX10_size_16 : decode cX10_size 16 = .ok (.getfield 98, 3) := by decide +kernel
theorem dX10_size_19 : decode cX10_size 19 = .ok (.istore_n 2, 1) := by decide +kernel
theorem dX10_size_20 : decode cX10_size 20 = .ok (.iload_n 1, 1) := by decide +kernel
theorem dX10_size_21 : decode cX10_size 21 = .ok (.iload_n 2, 1) := by decide +kernel
theorem dX10_size_22 : decode cX10_size 22 = .ok (.if_icmp .eq 23, 3) := by decide +kernel
theorem dX10_size_25 : decode cX10_size 25 = .ok (.aload_n 0, 1) := by decide +kernel
theorem dX10_size_26 : decode cX10_size 26 = .ok (.getfield 10, 3) := by decide +kernel
theorem dX10_size_29 : decode cX10_size 29 = .ok (.iload_n 1, 1) := by decide +kernel
theorem dX10_size_30 : decode cX10_size 30 = .ok (.putfield 98, 3) := by decide +kernel
theorem dX10_size_33 : decode cX10_size 33 = .ok (.aload_n 0, 1) := by decide +kernel
theorem dX10_size_34 : decode cX10_size 34 = .ok (.getfield 10, 3) := by decide +kernel
theorem dX10_size_37 : decode cX10_size 37 = .ok (.iconst 0, 1) := by decide +kernel
theorem dX10_size_38 : decode cX10_size 38 = .ok (.putfield 101, 3) := by decide +kernel
theorem dX10_size_41 : decode cX10_size 41 = .ok (.aload_n 0, 1) := by decide +kernel
theorem dX10_size_42 : decode cX10_size 42 = .ok (.invokevirtual 104, 3) := by decide +kernel
theorem dX10_size_45 : decode cX10_size 45 = .ok (.iload_n 2, 1) := by decide +kernel
theorem dX10_size_46 : decode cX10_size 46 = .ok (.ireturn, 1) := by decide +kernel
theorem dX10_unit_0 : decode cX10_unit 0 = .ok (.aload_n 0, 1) := by decide +kernel
theorem dX10_unit_1 : decode cX10_unit 1 = .ok (.getfield 10, 3) := by decide +kernel
theorem dX10_unit_4 : decode cX10_unit 4 = .ok (.iload_n 1, 1) := by decide +kernel
theorem dX10_unit_5 : decode cX10_unit 5 = .ok (.iload_n 2, 1) := by decide +kernel
theorem dX10_unit_6 : decode cX10_unit 6 = .ok (.invokevirtual 107, 3) := by decide +kernel
theorem dX10_unit_9 : decode cX10_unit 9 = .ok (.ifCond .eq 20, 3) := by decide +kernel
theorem dX10_unit_12 : decode cX10_unit 12 = .ok (.iload_n 1, 1) := by decide +kernel
theorem dX10_unit_13 : decode cX10_unit 13 = .ok (.iload_n 2, 1) := by decide +kernel
theorem dX10_unit_14 : decode cX10_unit 14 = .ok (.if_icmp .ne 7, 3) := by decide +kernel
theorem dX10_unit_17 : decode cX10_unit 17 = .ok (.iconst 1, 1) := by decide +kernel
theorem dX10_unit_18 : decode cX10_unit 18 = .ok (.goto 4, 3) := by decide +kernel
theorem dX10_unit_21 : decode cX10_unit 21 = .ok (.iconst 0, 1) := by decide +kernel
theorem dX10_unit_22 : decode cX10_unit 22 = .ok (.iload_n 3, 1) := by decide +kernel
theorem dX10_unit_23 : decode cX10_unit 23 = .ok (.invokestatic 111, 3) := by decide +kernel
theorem dX10_unit_26 : decode cX10_unit 26 = .ok (.ifCond .ne 5, 3) := by decide +kernel
theorem dX10_unit_29 : decode cX10_unit 29 = .ok (.iconst (-1), 1) := by decide +kernel
theorem dX10_unit_30 : decode cX10_unit 30 = .ok (.ireturn, 1) := by decide +kernel
theorem dX10_unit_31 : decode cX10_unit 31 = .ok (.aload_n 0, 1) := by decide +kernel
theorem dX10_unit_32 : decode cX10_unit 32 = .ok (.getfield 10, 3) := by decide +kernel
theorem dX10_unit_35 : decode cX10_unit 35 = .ok (.invokevirtual 115, 3) := by decide +kernel
theorem dX10_unit_38 : decode cX10_unit 38 = .ok (.ifCond .eq 6, 3) := by decide +kernel
theorem dX10_unit_41 : decode cX10_unit 41 = .ok (.bipush (-2), 2) := by decide +kernel
theorem dX10_unit_43 : decode cX10_unit 43 = .ok (.ireturn, 1) := by decide +kernel
theorem dX10_unit_44 : decode cX10_unit 44 = .ok (.aload_n 0, 1) := by decide +kernel
theorem dX10_unit_45 : decode cX10_unit 45 = .ok (.iload_n 1, 1) := by decide +kernel
theorem dX10_unit_46 : decode cX10_unit 46 = .ok (.iload_n 2, 1) := by decide +kernel
theorem dX10_unit_47 : decode cX10_unit 47 = .ok (.iload_n 3, 1) := by decide +kernel
theorem dX10_unit_48 : decode cX10_unit 48 = .ok (.invokevirtual 119, 3) := by decide +kernel
theorem dX10_unit_51 : decode cX10_unit 51 = .ok (.ireturn, 1) := by decide +kernel
theorem dX11_clears_0 : decode cX11_clears 0 = .ok (.iconst 0, 1) := by decide +kernel
theorem dX11_clears_1 : decode cX11_clears 1 = .ok (.istore_n 2, 1) := by decide +kernel
theorem dX11_clears_2 : decode cX11_clears 2 = .ok (.iload_n 2, 1) := by decide +kernel
theorem dX11_clears_3 : decode cX11_clears 3 = .ok (.bipush 9, 2) := by decide +kernel
theorem dX11_clears_5 : decode cX11_clears 5 = .ok (.if_icmp .ge 13, 3) := by decide +kernel
theorem dX11_clears_8 : decode cX11_clears 8 = .ok (.aload_n 1, 1) := by decide +kernel
theorem dX11_clears_9 : decode cX11_clears 9 = .ok (.iload_n 2, 1) := by decide +kernel
theorem dX11_clears_10 : decode cX11_clears 10 = .ok (.lconst 0, 1) := by decide +kernel
theorem dX11_clears_11 : decode cX11_clears 11 = .ok (.lastore, 1) := by decide +kernel
theorem dX11_clears_12 : decode cX11_clears 12 = .ok (.iinc 2 1, 3) := by decide +kernel
theorem dX11_clears_15 : decode cX11_clears 15 = .ok (.goto (-13), 3) := by decide +kernel
theorem dX11_clears_18 : decode cX11_clears 18 = .ok (.return_, 1) := by decide +kernel
theorem dX11_comes_0 : decode cX11_comes 0 = .ok (.iconst 0, 1) := by decide +kernel
theorem dX11_comes_1 : decode cX11_comes 1 = .ok (.istore_n 1, 1) := by decide +kernel
theorem dX11_comes_2 : decode cX11_comes 2 = .ok (.iload_n 1, 1) := by decide +kernel
theorem dX11_comes_3 : decode cX11_comes 3 = .ok (.bipush 9, 2) := by decide +kernel
theorem dX11_comes_5 : decode cX11_comes 5 = .ok (.if_icmp .ge 30, 3) := by decide +kernel
theorem dX11_comes_8 : decode cX11_comes 8 = .ok (.aload_n 0, 1) := by decide +kernel
theorem dX11_comes_9 : decode cX11_comes 9 = .ok (.getfield 16, 3) := by decide +kernel
theorem dX11_comes_12 : decode cX11_comes 12 = .ok (.bipush 9, 2) := by decide +kernel
theorem dX11_comes_14 : decode cX11_comes 14 = .ok (.aload_n 0, 1) := by decide +kernel
theorem dX11_comes_15 : decode cX11_comes 15 = .ok (.getfield 85, 3) := by decide +kernel
theorem dX11_comes_18 : decode cX11_comes 18 = .ok (.imul, 1) := by decide +kernel
theorem dX11_comes_19 : decode cX11_comes 19 = .ok (.iload_n 1, 1) := by decide +kernel
theorem dX11_comes_20 : decode cX11_comes 20 = .ok (.iadd, 1) := by decide +kernel
theorem dX11_comes_21 : decode cX11_comes 21 = .ok (.aload_n 0, 1) := by decide +kernel
theorem dX11_comes_22 : decode cX11_comes 22 = .ok (.getfield 23, 3) := by decide +kernel
theorem dX11_comes_25 : decode cX11_comes 25 = .ok (.iload_n 1, 1) := by decide +kernel
theorem dX11_comes_26 : decode cX11_comes 26 = .ok (.laload, 1) := by decide +kernel
theorem dX11_comes_27 : decode cX11_comes 27 = .ok (.l2i, 1) := by decide +kernel
theorem dX11_comes_28 : decode cX11_comes 28 = .ok (.iastore, 1) := by decide +kernel
theorem dX11_comes_29 : decode cX11_comes 29 = .ok (.iinc 1 1, 3) := by decide +kernel
theorem dX11_comes_32 : decode cX11_comes 32 = .ok (.goto (-30), 3) := by decide +kernel
theorem dX11_comes_35 : decode cX11_comes 35 = .ok (.aload_n 0, 1) := by decide +kernel
theorem dX11_comes_36 : decode cX11_comes 36 = .ok (.dup, 1) := by decide +kernel
theorem dX11_comes_37 : decode cX11_comes 37 = .ok (.getfield 85, 3) := by decide +kernel
theorem dX11_comes_40 : decode cX11_comes 40 = .ok (.iconst 1, 1) := by decide +kernel
theorem dX11_comes_41 : decode cX11_comes 41 = .ok (.iadd, 1) := by decide +kernel
theorem dX11_comes_42 : decode cX11_comes 42 = .ok (.putfield 85, 3) := by decide +kernel
theorem dX11_comes_45 : decode cX11_comes 45 = .ok (.aload_n 0, 1) := by decide +kernel
theorem dX11_comes_46 : decode cX11_comes 46 = .ok (.iconst 0, 1) := by decide +kernel
theorem dX11_comes_47 : decode cX11_comes 47 = .ok (.putfield 98, 3) := by decide +kernel
theorem dX11_comes_50 : decode cX11_comes 50 = .ok (.aload_n 0, 1) := by decide +kernel
theorem dX11_comes_51 : decode cX11_comes 51 = .ok (.iconst 0, 1) := by decide +kernel
theorem dX11_comes_52 : decode cX11_comes 52 = .ok (.putfield 102, 3) := by decide +kernel
theorem dX11_comes_55 : decode cX11_comes 55 = .ok (.aload_n 0, 1) := by decide +kernel
theorem dX11_comes_56 : decode cX11_comes 56 = .ok (.getfield 85, 3) := by decide +kernel
theorem dX11_comes_59 : decode cX11_comes 59 = .ok (.iconst 1, 1) := by decide +kernel
theorem dX11_comes_60 : decode cX11_comes 60 = .ok (.isub, 1) := by decide +kernel
theorem dX11_comes_61 : decode cX11_comes 61 = .ok (.ireturn, 1) := by decide +kernel
theorem dX11_first_0 : decode cX11_first 0 = .ok (.aload_n 0, 1) := by decide +kernel
theorem dX11_first_1 : decode cX11_first 1 = .ok (.aload_n 1, 1) := by decide +kernel
theorem dX11_first_2 : decode cX11_first 2 = .ok (.invokevirtual 90, 3) := by decide +kernel
theorem dX11_first_5 : decode cX11_first 5 = .ok (.iconst 0, 1) := by decide +kernel
theorem dX11_first_6 : decode cX11_first 6 = .ok (.istore_n 2, 1) := by decide +kernel
theorem dX11_first_7 : decode cX11_first 7 = .ok (.iload_n 2, 1) := by decide +kernel
theorem dX11_first_8 : decode cX11_first 8 = .ok (.aload_n 0, 1) := by decide +kernel
theorem dX11_first_9 : decode cX11_first 9 = .ok (.getfield 7, 3) := by decide +kernel
theorem dX11_first_12 : decode cX11_first 12 = .ok (.if_icmp .ge 15, 3) := by decide +kernel
theorem dX11_first_15 : decode cX11_first 15 = .ok (.aload_n 1, 1) := by decide +kernel
theorem dX11_first_16 : decode cX11_first 16 = .ok (.iconst 4, 1) := by decide +kernel
theorem dX11_first_17 : decode cX11_first 17 = .ok (.iload_n 2, 1) := by decide +kernel
theorem dX11_first_18 : decode cX11_first 18 = .ok (.imul, 1) := by decide +kernel
theorem dX11_first_19 : decode cX11_first 19 = .ok (.lconst 1, 1) := by decide +kernel
theorem dX11_first_20 : decode cX11_first 20 = .ok (.lastore, 1) := by decide +kernel
theorem dX11_first_21 : decode cX11_first 21 = .ok (.iinc 2 1, 3) := by decide +kernel
theorem dX11_first_24 : decode cX11_first 24 = .ok (.goto (-17), 3) := by decide +kernel
theorem dX11_first_27 : decode cX11_first 27 = .ok (.return_, 1) := by decide +kernel
theorem dX11_in_0 : decode cX11_in 0 = .ok (.lload_n 0, 1) := by decide +kernel
theorem dX11_in_1 : decode cX11_in 1 = .ok (.lload_n 2, 1) := by decide +kernel
theorem dX11_in_2 : decode cX11_in 2 = .ok (.lcmp, 1) := by decide +kernel
theorem dX11_in_3 : decode cX11_in 3 = .ok (.ifCond .lt 14, 3) := by decide +kernel
theorem dX11_in_6 : decode cX11_in 6 = .ok (.lload_n 0, 1) := by decide +kernel
theorem dX11_in_7 : decode cX11_in 7 = .ok (.lload 4, 2) := by decide +kernel
theorem dX11_in_9 : decode cX11_in 9 = .ok (.lcmp, 1) := by decide +kernel
theorem dX11_in_10 : decode cX11_in 10 = .ok (.ifCond .gt 7, 3) := by decide +kernel
theorem dX11_in_13 : decode cX11_in 13 = .ok (.iconst 1, 1) := by decide +kernel
theorem dX11_in_14 : decode cX11_in 14 = .ok (.goto 4, 3) := by decide +kernel
theorem dX11_in_17 : decode cX11_in 17 = .ok (.iconst 0, 1) := by decide +kernel
theorem dX11_in_18 : decode cX11_in 18 = .ok (.ireturn, 1) := by decide +kernel
theorem dX11_isPlace_0 : decode cX11_isPlace 0 = .ok (.iload_n 1, 1) := by decide +kernel
theorem dX11_isPlace_1 : decode cX11_isPlace 1 = .ok (.i2l, 1) := by decide +kernel
theorem dX11_isPlace_2 : decode cX11_isPlace 2 = .ok (.lconst 0, 1) := by decide +kernel
theorem dX11_isPlace_3 : decode cX11_isPlace 3 = .ok (.aload_n 0, 1) := by decide +kernel
theorem dX11_isPlace_4 : decode cX11_isPlace 4 = .ok (.getfield 7, 3) := by decide +kernel
theorem dX11_isPlace_7 : decode cX11_isPlace 7 = .ok (.iconst 1, 1) := by decide +kernel
theorem dX11_isPlace_8 : decode cX11_isPlace 8 = .ok (.isub, 1) := by decide +kernel
theorem dX11_isPlace_9 : decode cX11_isPlace 9 = .ok (.i2l, 1) := by decide +kernel
theorem dX11_isPlace_10 : decode cX11_isPlace 10 = .ok (.invokestatic 81, 3) := by decide +kernel
theorem dX11_isPlace_13 : decode cX11_isPlace 13 = .ok (.ireturn, 1) := by decide +kernel
theorem dX11_makesUnit_0 : decode cX11_makesUnit 0 = .ok (.aload_n 0, 1) := by decide +kernel
theorem dX11_makesUnit_1 : decode cX11_makesUnit 1 = .ok (.aload_n 0, 1) := by decide +kernel
theorem dX11_makesUnit_2 : decode cX11_makesUnit 2 = .ok (.getfield 23, 3) := by decide +kernel
theorem dX11_makesUnit_5 : decode cX11_makesUnit 5 = .ok (.invokevirtual 107, 3) := by decide +kernel
theorem dX11_makesUnit_8 : decode cX11_makesUnit 8 = .ok (.aload_n 0, 1) := by decide +kernel
theorem dX11_makesUnit_9 : decode cX11_makesUnit 9 = .ok (.getfield 23, 3) := by decide +kernel
theorem dX11_makesUnit_12 : decode cX11_makesUnit 12 = .ok (.iconst 3, 1) := by decide +kernel
theorem dX11_makesUnit_13 : decode cX11_makesUnit 13 = .ok (.iload_n 1, 1) := by decide +kernel
theorem dX11_makesUnit_14 : decode cX11_makesUnit 14 = .ok (.imul, 1) := by decide +kernel
theorem dX11_makesUnit_15 : decode cX11_makesUnit 15 = .ok (.iload_n 2, 1) := by decide +kernel
theorem dX11_makesUnit_16 : decode cX11_makesUnit 16 = .ok (.iadd, 1) := by decide +kernel
theorem dX11_makesUnit_17 : decode cX11_makesUnit 17 = .ok (.iload_n 3, 1) := by decide +kernel
theorem dX11_makesUnit_18 : decode cX11_makesUnit 18 = .ok (.i2l, 1) := by decide +kernel
theorem dX11_makesUnit_19 : decode cX11_makesUnit 19 = .ok (.lastore, 1) := by decide +kernel
theorem dX11_makesUnit_20 : decode cX11_makesUnit 20 = .ok (.return_, 1) := by decide +kernel
theorem dX11_seed_0 : decode cX11_seed 0 = .ok (.aload_n 0, 1) := by decide +kernel
theorem dX11_seed_1 : decode cX11_seed 1 = .ok (.getfield 13, 3) := by decide +kernel
theorem dX11_seed_4 : decode cX11_seed 4 = .ok (.istore_n 2, 1) := by decide +kernel
theorem dX11_seed_5 : decode cX11_seed 5 = .ok (.aload_n 0, 1) := by decide +kernel
theorem dX11_seed_6 : decode cX11_seed 6 = .ok (.iload_n 1, 1) := by decide +kernel
theorem dX11_seed_7 : decode cX11_seed 7 = .ok (.putfield 13, 3) := by decide +kernel
theorem dX11_seed_10 : decode cX11_seed 10 = .ok (.iload_n 2, 1) := by decide +kernel
theorem dX11_seed_11 : decode cX11_seed 11 = .ok (.ireturn, 1) := by decide +kernel
theorem dX11_size_0 : decode cX11_size 0 = .ok (.iload_n 1, 1) := by decide +kernel
theorem dX11_size_1 : decode cX11_size 1 = .ok (.i2l, 1) := by decide +kernel
theorem dX11_size_2 : decode cX11_size 2 = .ok (.lconst 1, 1) := by decide +kernel
theorem dX11_size_3 : decode cX11_size 3 = .ok (.ldc2_w 105, 3) := by decide +kernel
theorem dX11_size_6 : decode cX11_size 6 = .ok (.invokestatic 81, 3) := by decide +kernel
theorem dX11_size_9 : decode cX11_size 9 = .ok (.ifCond .ne 5, 3) := by decide +kernel
theorem dX11_size_12 : decode cX11_size 12 = .ok (.iconst (-1), 1) := by decide +kernel
theorem dX11_size_13 : decode cX11_size 13 = .ok (.ireturn, 1) := by decide +kernel
theorem dX11_size_14 : decode cX11_size 14 = .ok (.aload_n 0, 1) := by decide +kernel
theorem dX11_size_15 : decode cX11_size 15 = .ok (.getfield 7, 3) := by decide +kernel
theorem dX11_size_18 : decode cX11_size 18 = .ok (.istore_n 2, 1) := by decide +kernel
theorem dX11_size_19 : decode cX11_size 19 = .ok (.iload_n 1, 1) := by decide +kernel
theorem dX11_size_20 : decode cX11_size 20 = .ok (.iload_n 2, 1) := by decide +kernel
theorem dX11_size_21 : decode cX11_size 21 = .ok (.if_icmp .eq 23, 3) := by decide +kernel
theorem dX11_size_24 : decode cX11_size 24 = .ok (.aload_n 0, 1) := by decide +kernel
theorem dX11_size_25 : decode cX11_size 25 = .ok (.iload_n 1, 1) := by decide +kernel
theorem dX11_size_26 : decode cX11_size 26 = .ok (.putfield 7, 3) := by decide +kernel
theorem dX11_size_29 : decode cX11_size 29 = .ok (.aload_n 0, 1) := by decide +kernel
theorem dX11_size_30 : decode cX11_size 30 = .ok (.iconst 0, 1) := by decide +kernel
theorem dX11_size_31 : decode cX11_size 31 = .ok (.putfield 85, 3) := by decide +kernel
theorem dX11_size_34 : decode cX11_size 34 = .ok (.aload_n 0, 1) := by decide +kernel
theorem dX11_size_35 : decode cX11_size 35 = .ok (.iconst 0, 1) := by decide +kernel
theorem dX11_size_36 : decode cX11_size 36 = .ok (.putfield 98, 3) := by decide +kernel
theorem dX11_size_39 : decode cX11_size 39 = .ok (.aload_n 0, 1) := by decide +kernel
theorem dX11_size_40 : decode cX11_size 40 = .ok (.iconst 0, 1) := by decide +kernel
theorem dX11_size_41 : decode cX11_size 41 = .ok (.putfield 102, 3) := by decide +kernel
theorem dX11_size_44 : decode cX11_size 44 = .ok (.iload_n 2, 1) := by decide +kernel
theorem dX11_size_45 : decode cX11_size 45 = .ok (.ireturn, 1) := by decide +kernel
theorem dX11_unit_0 : decode cX11_unit 0 = .ok (.aload_n 0, 1) := by decide +kernel
theorem dX11_unit_1 : decode cX11_unit 1 = .ok (.iload_n 1, 1) := by decide +kernel
theorem dX11_unit_2 : decode cX11_unit 2 = .ok (.invokevirtual 110, 3) := by decide +kernel
theorem dX11_unit_5 : decode cX11_unit 5 = .ok (.ifCond .eq 43, 3) := by decide +kernel
theorem dX11_unit_8 : decode cX11_unit 8 = .ok (.aload_n 0, 1) := by decide +kernel
theorem dX11_unit_9 : decode cX11_unit 9 = .ok (.iload_n 2, 1) := by decide +kernel
theorem dX11_unit_10 : decode cX11_unit 10 = .ok (.invokevirtual 110, 3) := by decide +kernel
theorem dX11_unit_13 : decode cX11_unit 13 = .ok (.ifCond .eq 35, 3) := by decide +kernel
theorem dX11_unit_16 : decode cX11_unit 16 = .ok (.iload_n 1, 1) := by decide +kernel
theorem dX11_unit_17 : decode cX11_unit 17 = .ok (.iload_n 2, 1) := by decide +kernel
theorem dX11_unit_18 : decode cX11_unit 18 = .ok (.if_icmp .ne 16, 3) := by decide +kernel
theorem dX11_unit_21 : decode cX11_unit 21 = .ok (.iload_n 3, 1) := by decide +kernel
theorem dX11_unit_22 : decode cX11_unit 22 = .ok (.iconst 1, 1) := by decide +kernel
theorem dX11_unit_23 : decode cX11_unit 23 = .ok (.if_icmp .eq 27, 3) := by decide +kernel
theorem dX11_unit_26 : decode cX11_unit 26 = .ok (.iload_n 3, 1) := by decide +kernel
theorem dX11_unit_27 : decode cX11_unit 27 = .ok (.iconst (-1), 1) := by decide +kernel
theorem dX11_unit_28 : decode cX11_unit 28 = .ok (.if_icmp .eq 22, 3) := by decide +kernel
theorem dX11_unit_31 : decode cX11_unit 31 = .ok (.goto 17, 3) := by decide +kernel
theorem dX11_unit_34 : decode cX11_unit 34 = .ok (.iload_n 3, 1) := by decide +kernel
theorem dX11_unit_35 : decode cX11_unit 35 = .ok (.i2l, 1) := by decide +kernel
theorem dX11_unit_36 : decode cX11_unit 36 = .ok (.ldc2_w 94, 3) := by decide +kernel
theorem dX11_unit_39 : decode cX11_unit 39 = .ok (.ldc2_w 96, 3) := by decide +kernel
theorem dX11_unit_42 : decode cX11_unit 42 = .ok (.invokestatic 81, 3) := by decide +kernel
theorem dX11_unit_45 : decode cX11_unit 45 = .ok (.ifCond .ne 5, 3) := by decide +kernel
theorem dX11_unit_48 : decode cX11_unit 48 = .ok (.iconst (-1), 1) := by decide +kernel
theorem dX11_unit_49 : decode cX11_unit 49 = .ok (.ireturn, 1) := by decide +kernel
theorem dX11_unit_50 : decode cX11_unit 50 = .ok (.aload_n 0, 1) := by decide +kernel
theorem dX11_unit_51 : decode cX11_unit 51 = .ok (.getfield 85, 3) := by decide +kernel
theorem dX11_unit_54 : decode cX11_unit 54 = .ok (.iconst 4, 1) := by decide +kernel
theorem dX11_unit_55 : decode cX11_unit 55 = .ok (.if_icmp .ne 6, 3) := by decide +kernel
theorem dX11_unit_58 : decode cX11_unit 58 = .ok (.bipush (-2), 2) := by decide +kernel
theorem dX11_unit_60 : decode cX11_unit 60 = .ok (.ireturn, 1) := by decide +kernel
theorem dX11_unit_61 : decode cX11_unit 61 = .ok (.aload_n 0, 1) := by decide +kernel
theorem dX11_unit_62 : decode cX11_unit 62 = .ok (.iload_n 1, 1) := by decide +kernel
theorem dX11_unit_63 : decode cX11_unit 63 = .ok (.iload_n 2, 1) := by decide +kernel
theorem dX11_unit_64 : decode cX11_unit 64 = .ok (.iload_n 3, 1) := by decide +kernel
theorem dX11_unit_65 : decode cX11_unit 65 = .ok (.invokevirtual 114, 3) := by decide +kernel
theorem dX11_unit_68 : decode cX11_unit 68 = .ok (.aload_n 0, 1) := by decide +kernel
theorem dX11_unit_69 : decode cX11_unit 69 = .ok (.invokevirtual 118, 3) := by decide +kernel
theorem dX11_unit_72 : decode cX11_unit 72 = .ok (.ireturn, 1) := by decide +kernel
theorem dX5_append_0 : decode cX5_append 0 = .ok (.aload_n 0, 1) := by decide +kernel
theorem dX5_append_1 : decode cX5_append 1 = .ok (.invokevirtual 25, 3) := by decide +kernel
theorem dX5_append_4 : decode cX5_append 4 = .ok (.ifCond .eq 6, 3) := by decide +kernel
theorem dX5_append_7 : decode cX5_append 7 = .ok (.bipush (-2), 2) := by decide +kernel
theorem dX5_append_9 : decode cX5_append 9 = .ok (.ireturn, 1) := by decide +kernel
theorem dX5_append_10 : decode cX5_append 10 = .ok (.aload_n 1, 1) := by decide +kernel
theorem dX5_append_11 : decode cX5_append 11 = .ok (.iconst 0, 1) := by decide +kernel
theorem dX5_append_12 : decode cX5_append 12 = .ok (.aload_n 0, 1) := by decide +kernel
theorem dX5_append_13 : decode cX5_append 13 = .ok (.getfield 21, 3) := by decide +kernel
theorem dX5_append_16 : decode cX5_append 16 = .ok (.aload_n 0, 1) := by decide +kernel
theorem dX5_append_17 : decode cX5_append 17 = .ok (.getfield 15, 3) := by decide +kernel
theorem dX5_append_20 : decode cX5_append 20 = .ok (.bipush 9, 2) := by decide +kernel
theorem dX5_append_22 : decode cX5_append 22 = .ok (.imul, 1) := by decide +kernel
theorem dX5_append_23 : decode cX5_append 23 = .ok (.bipush 9, 2) := by decide +kernel
theorem dX5_append_25 : decode cX5_append 25 = .ok (.invokestatic 29, 3) := by decide +kernel
theorem dX5_append_28 : decode cX5_append 28 = .ok (.aload_n 0, 1) := by decide +kernel
theorem dX5_append_29 : decode cX5_append 29 = .ok (.dup, 1) := by decide +kernel
theorem dX5_append_30 : decode cX5_append 30 = .ok (.getfield 15, 3) := by decide +kernel
theorem dX5_append_33 : decode cX5_append 33 = .ok (.iconst 1, 1) := by decide +kernel
theorem dX5_append_34 : decode cX5_append 34 = .ok (.iadd, 1) := by decide +kernel
theorem dX5_append_35 : decode cX5_append 35 = .ok (.putfield 15, 3) := by decide +kernel
theorem dX5_append_38 : decode cX5_append 38 = .ok (.aload_n 0, 1) := by decide +kernel
theorem dX5_append_39 : decode cX5_append 39 = .ok (.getfield 15, 3) := by decide +kernel
theorem dX5_append_42 : decode cX5_append 42 = .ok (.iconst 1, 1) := by decide +kernel
theorem dX5_append_43 : decode cX5_append 43 = .ok (.isub, 1) := by decide +kernel
theorem dX5_append_44 : decode cX5_append 44 = .ok (.ireturn, 1) := by decide +kernel
theorem dX5_isFull_0 : decode cX5_isFull 0 = .ok (.aload_n 0, 1) := by decide +kernel
theorem dX5_isFull_1 : decode cX5_isFull 1 = .ok (.getfield 15, 3) := by decide +kernel
theorem dX5_isFull_4 : decode cX5_isFull 4 = .ok (.iconst 4, 1) := by decide +kernel
theorem dX5_isFull_5 : decode cX5_isFull 5 = .ok (.if_icmp .lt 7, 3) := by decide +kernel
theorem dX5_isFull_8 : decode cX5_isFull 8 = .ok (.iconst 1, 1) := by decide +kernel
theorem dX5_isFull_9 : decode cX5_isFull 9 = .ok (.goto 4, 3) := by decide +kernel
theorem dX5_isFull_12 : decode cX5_isFull 12 = .ok (.iconst 0, 1) := by decide +kernel
theorem dX5_isFull_13 : decode cX5_isFull 13 = .ok (.ireturn, 1) := by decide +kernel
theorem dX5_isPlace_0 : decode cX5_isPlace 0 = .ok (.iload_n 1, 1) := by decide +kernel
theorem dX5_isPlace_1 : decode cX5_isPlace 1 = .ok (.ifCond .lt 27, 3) := by decide +kernel
theorem dX5_isPlace_4 : decode cX5_isPlace 4 = .ok (.iload_n 1, 1) := by decide +kernel
theorem dX5_isPlace_5 : decode cX5_isPlace 5 = .ok (.aload_n 0, 1) := by decide +kernel
theorem dX5_isPlace_6 : decode cX5_isPlace 6 = .ok (.getfield 9, 3) := by decide +kernel
theorem dX5_isPlace_9 : decode cX5_isPlace 9 = .ok (.if_icmp .ge 19, 3) := by decide +kernel
theorem dX5_isPlace_12 : decode cX5_isPlace 12 = .ok (.iload_n 2, 1) := by decide +kernel
theorem dX5_isPlace_13 : decode cX5_isPlace 13 = .ok (.ifCond .lt 15, 3) := by decide +kernel
theorem dX5_isPlace_16 : decode cX5_isPlace 16 = .ok (.iload_n 2, 1) := by decide +kernel
theorem dX5_isPlace_17 : decode cX5_isPlace 17 = .ok (.aload_n 0, 1) := by decide +kernel
theorem dX5_isPlace_18 : decode cX5_isPlace 18 = .ok (.getfield 9, 3) := by decide +kernel
theorem dX5_isPlace_21 : decode cX5_isPlace 21 = .ok (.if_icmp .ge 7, 3) := by decide +kernel
theorem dX5_isPlace_24 : decode cX5_isPlace 24 = .ok (.iconst 1, 1) := by decide +kernel
theorem dX5_isPlace_25 : decode cX5_isPlace 25 = .ok (.goto 4, 3) := by decide +kernel
theorem dX5_isPlace_28 : decode cX5_isPlace 28 = .ok (.iconst 0, 1) := by decide +kernel
theorem dX5_isPlace_29 : decode cX5_isPlace 29 = .ok (.ireturn, 1) := by decide +kernel
theorem dX7_becomeOne_0 : decode cX7_becomeOne 0 = .ok (.aload_n 0, 1) := by decide +kernel
theorem dX7_becomeOne_1 : decode cX7_becomeOne 1 = .ok (.lconst 0, 1) := by decide +kernel
theorem dX7_becomeOne_2 : decode cX7_becomeOne 2 = .ok (.invokestatic 7, 3) := by decide +kernel
theorem dX7_becomeOne_5 : decode cX7_becomeOne 5 = .ok (.iconst 0, 1) := by decide +kernel
theorem dX7_becomeOne_6 : decode cX7_becomeOne 6 = .ok (.istore_n 2, 1) := by decide +kernel
theorem dX7_becomeOne_7 : decode cX7_becomeOne 7 = .ok (.iload_n 2, 1) := by decide +kernel
theorem dX7_becomeOne_8 : decode cX7_becomeOne 8 = .ok (.iload_n 1, 1) := by decide +kernel
theorem dX7_becomeOne_9 : decode cX7_becomeOne 9 = .ok (.if_icmp .ge 17, 3) := by decide +kernel
theorem dX7_becomeOne_12 : decode cX7_becomeOne 12 = .ok (.aload_n 0, 1) := by decide +kernel
theorem dX7_becomeOne_13 : decode cX7_becomeOne 13 = .ok (.iload_n 2, 1) := by decide +kernel
theorem dX7_becomeOne_14 : decode cX7_becomeOne 14 = .ok (.iload_n 1, 1) := by decide +kernel
theorem dX7_becomeOne_15 : decode cX7_becomeOne 15 = .ok (.imul, 1) := by decide +kernel
theorem dX7_becomeOne_16 : decode cX7_becomeOne 16 = .ok (.iload_n 2, 1) := by decide +kernel
theorem dX7_becomeOne_17 : decode cX7_becomeOne 17 = .ok (.iadd, 1) := by decide +kernel
theorem dX7_becomeOne_18 : decode cX7_becomeOne 18 = .ok (.lconst 1, 1) := by decide +kernel
theorem dX7_becomeOne_19 : decode cX7_becomeOne 19 = .ok (.lastore, 1) := by decide +kernel
theorem dX7_becomeOne_20 : decode cX7_becomeOne 20 = .ok (.iinc 2 1, 3) := by decide +kernel
theorem dX7_becomeOne_23 : decode cX7_becomeOne 23 = .ok (.goto (-16), 3) := by decide +kernel
theorem dX7_becomeOne_26 : decode cX7_becomeOne 26 = .ok (.return_, 1) := by decide +kernel
