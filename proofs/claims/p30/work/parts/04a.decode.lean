theorem dX0_go_0 : decode cX0_go 0 = .ok (.iconst 0, 1) := by decide +kernel
theorem dX0_go_1 : decode cX0_go 1 = .ok (.istore 5, 2) := by decide +kernel
theorem dX0_go_3 : decode cX0_go 3 = .ok (.iload 5, 2) := by decide +kernel
theorem dX0_go_5 : decode cX0_go 5 = .ok (.aload_n 0, 1) := by decide +kernel
theorem dX0_go_6 : decode cX0_go 6 = .ok (.getfield 9, 3) := by decide +kernel
theorem dX0_go_9 : decode cX0_go 9 = .ok (.getfield 15, 3) := by decide +kernel
theorem dX0_go_12 : decode cX0_go 12 = .ok (.if_icmp .ge 52, 3) := by decide +kernel
theorem dX0_go_15 : decode cX0_go 15 = .ok (.aload_n 1, 1) := by decide +kernel
theorem dX0_go_16 : decode cX0_go 16 = .ok (.iload_n 2, 1) := by decide +kernel
theorem dX0_go_17 : decode cX0_go 17 = .ok (.iload 5, 2) := by decide +kernel
theorem dX0_go_19 : decode cX0_go 19 = .ok (.iadd, 1) := by decide +kernel
theorem dX0_go_20 : decode cX0_go 20 = .ok (.laload, 1) := by decide +kernel
theorem dX0_go_21 : decode cX0_go 21 = .ok (.l2i, 1) := by decide +kernel
theorem dX0_go_22 : decode cX0_go 22 = .ok (.istore 6, 2) := by decide +kernel
theorem dX0_go_24 : decode cX0_go 24 = .ok (.aload_n 0, 1) := by decide +kernel
theorem dX0_go_25 : decode cX0_go 25 = .ok (.getfield 9, 3) := by decide +kernel
theorem dX0_go_28 : decode cX0_go 28 = .ok (.iload 6, 2) := by decide +kernel
theorem dX0_go_30 : decode cX0_go 30 = .ok (.invokevirtual 21, 3) := by decide +kernel
theorem dX0_go_33 : decode cX0_go 33 = .ok (.ifCond .ne 5, 3) := by decide +kernel
theorem dX0_go_36 : decode cX0_go 36 = .ok (.iconst 0, 1) := by decide +kernel
theorem dX0_go_37 : decode cX0_go 37 = .ok (.ireturn, 1) := by decide +kernel
theorem dX0_go_38 : decode cX0_go 38 = .ok (.aload 4, 2) := by decide +kernel
theorem dX0_go_40 : decode cX0_go 40 = .ok (.iload 5, 2) := by decide +kernel
theorem dX0_go_42 : decode cX0_go 42 = .ok (.aload_n 0, 1) := by decide +kernel
theorem dX0_go_43 : decode cX0_go 43 = .ok (.getfield 9, 3) := by decide +kernel
theorem dX0_go_46 : decode cX0_go 46 = .ok (.getfield 25, 3) := by decide +kernel
theorem dX0_go_49 : decode cX0_go 49 = .ok (.iload 6, 2) := by decide +kernel
theorem dX0_go_51 : decode cX0_go 51 = .ok (.iconst 4, 1) := by decide +kernel
theorem dX0_go_52 : decode cX0_go 52 = .ok (.imul, 1) := by decide +kernel
theorem dX0_go_53 : decode cX0_go 53 = .ok (.iload_n 3, 1) := by decide +kernel
theorem dX0_go_54 : decode cX0_go 54 = .ok (.iadd, 1) := by decide +kernel
theorem dX0_go_55 : decode cX0_go 55 = .ok (.iaload, 1) := by decide +kernel
theorem dX0_go_56 : decode cX0_go 56 = .ok (.i2l, 1) := by decide +kernel
theorem dX0_go_57 : decode cX0_go 57 = .ok (.lastore, 1) := by decide +kernel
theorem dX0_go_58 : decode cX0_go 58 = .ok (.iinc 5 1, 3) := by decide +kernel
theorem dX0_go_61 : decode cX0_go 61 = .ok (.goto (-58), 3) := by decide +kernel
theorem dX0_go_64 : decode cX0_go 64 = .ok (.iconst 1, 1) := by decide +kernel
theorem dX0_go_65 : decode cX0_go 65 = .ok (.ireturn, 1) := by decide +kernel
theorem dX10_clearBench_0 : decode cX10_clearBench 0 = .ok (.aload_n 0, 1) := by decide +kernel
theorem dX10_clearBench_1 : decode cX10_clearBench 1 = .ok (.getfield 54, 3) := by decide +kernel
theorem dX10_clearBench_4 : decode cX10_clearBench 4 = .ok (.ifnonnull 23, 3) := by decide +kernel
theorem dX10_clearBench_7 : decode cX10_clearBench 7 = .ok (.aload_n 0, 1) := by decide +kernel
theorem dX10_clearBench_8 : decode cX10_clearBench 8 = .ok (.new 36, 3) := by decide +kernel
theorem dX10_clearBench_11 : decode cX10_clearBench 11 = .ok (.dup, 1) := by decide +kernel
theorem dX10_clearBench_12 : decode cX10_clearBench 12 = .ok (.sipush 400, 3) := by decide +kernel
theorem dX10_clearBench_15 : decode cX10_clearBench 15 = .ok (.sipush 12000, 3) := by decide +kernel
theorem dX10_clearBench_18 : decode cX10_clearBench 18 = .ok (.sipush 1024, 3) := by decide +kernel
theorem dX10_clearBench_21 : decode cX10_clearBench 21 = .ok (.invokespecial 38, 3) := by decide +kernel
theorem dX10_clearBench_24 : decode cX10_clearBench 24 = .ok (.putfield 54, 3) := by decide +kernel
theorem dX10_clearBench_27 : decode cX10_clearBench 27 = .ok (.aload_n 0, 1) := by decide +kernel
theorem dX10_clearBench_28 : decode cX10_clearBench 28 = .ok (.getfield 54, 3) := by decide +kernel
theorem dX10_clearBench_31 : decode cX10_clearBench 31 = .ok (.iload_n 1, 1) := by decide +kernel
theorem dX10_clearBench_32 : decode cX10_clearBench 32 = .ok (.iload_n 2, 1) := by decide +kernel
theorem dX10_clearBench_33 : decode cX10_clearBench 33 = .ok (.invokevirtual 275, 3) := by decide +kernel
theorem dX10_clearBench_36 : decode cX10_clearBench 36 = .ok (.aload_n 0, 1) := by decide +kernel
theorem dX10_clearBench_37 : decode cX10_clearBench 37 = .ok (.getfield 54, 3) := by decide +kernel
theorem dX10_clearBench_40 : decode cX10_clearBench 40 = .ok (.areturn, 1) := by decide +kernel
theorem dX10_factor_0 : decode cX10_factor 0 = .ok (.aload_n 0, 1) := by decide +kernel
theorem dX10_factor_1 : decode cX10_factor 1 = .ok (.getfield 10, 3) := by decide +kernel
theorem dX10_factor_4 : decode cX10_factor 4 = .ok (.iload_n 1, 1) := by decide +kernel
theorem dX10_factor_5 : decode cX10_factor 5 = .ok (.invokevirtual 123, 3) := by decide +kernel
theorem dX10_factor_8 : decode cX10_factor 8 = .ok (.ifCond .eq 10, 3) := by decide +kernel
theorem dX10_factor_11 : decode cX10_factor 11 = .ok (.iload_n 2, 1) := by decide +kernel
theorem dX10_factor_12 : decode cX10_factor 12 = .ok (.invokestatic 167, 3) := by decide +kernel
theorem dX10_factor_15 : decode cX10_factor 15 = .ok (.ifCond .ne 5, 3) := by decide +kernel
theorem dX10_factor_18 : decode cX10_factor 18 = .ok (.iconst (-1), 1) := by decide +kernel
theorem dX10_factor_19 : decode cX10_factor 19 = .ok (.ireturn, 1) := by decide +kernel
theorem dX10_factor_20 : decode cX10_factor 20 = .ok (.aload_n 0, 1) := by decide +kernel
theorem dX10_factor_21 : decode cX10_factor 21 = .ok (.getfield 10, 3) := by decide +kernel
theorem dX10_factor_24 : decode cX10_factor 24 = .ok (.getfield 145, 3) := by decide +kernel
theorem dX10_factor_27 : decode cX10_factor 27 = .ok (.iload_n 1, 1) := by decide +kernel
theorem dX10_factor_28 : decode cX10_factor 28 = .ok (.bipush 9, 2) := by decide +kernel
theorem dX10_factor_30 : decode cX10_factor 30 = .ok (.imul, 1) := by decide +kernel
theorem dX10_factor_31 : decode cX10_factor 31 = .ok (.aload_n 0, 1) := by decide +kernel
theorem dX10_factor_32 : decode cX10_factor 32 = .ok (.getfield 10, 3) := by decide +kernel
theorem dX10_factor_35 : decode cX10_factor 35 = .ok (.getfield 98, 3) := by decide +kernel
theorem dX10_factor_38 : decode cX10_factor 38 = .ok (.invokestatic 161, 3) := by decide +kernel
theorem dX10_factor_41 : decode cX10_factor 41 = .ok (.astore_n 3, 1) := by decide +kernel
theorem dX10_factor_42 : decode cX10_factor 42 = .ok (.aload_n 3, 1) := by decide +kernel
theorem dX10_factor_43 : decode cX10_factor 43 = .ok (.aload_n 0, 1) := by decide +kernel
theorem dX10_factor_44 : decode cX10_factor 44 = .ok (.getfield 10, 3) := by decide +kernel
theorem dX10_factor_47 : decode cX10_factor 47 = .ok (.getfield 98, 3) := by decide +kernel
theorem dX10_factor_50 : decode cX10_factor 50 = .ok (.iload_n 2, 1) := by decide +kernel
theorem dX10_factor_51 : decode cX10_factor 51 = .ok (.invokestatic 170, 3) := by decide +kernel
theorem dX10_factor_54 : decode cX10_factor 54 = .ok (.ireturn, 1) := by decide +kernel
theorem dX10_round_0 : decode cX10_round 0 = .ok (.iload_n 1, 1) := by decide +kernel
theorem dX10_round_1 : decode cX10_round 1 = .ok (.ifCond .lt 8, 3) := by decide +kernel
theorem dX10_round_4 : decode cX10_round 4 = .ok (.iload_n 1, 1) := by decide +kernel
theorem dX10_round_5 : decode cX10_round 5 = .ok (.iconst 2, 1) := by decide +kernel
theorem dX10_round_6 : decode cX10_round 6 = .ok (.if_icmp .le 5, 3) := by decide +kernel
theorem dX10_round_9 : decode cX10_round 9 = .ok (.iconst (-1), 1) := by decide +kernel
theorem dX10_round_10 : decode cX10_round 10 = .ok (.ireturn, 1) := by decide +kernel
theorem dX10_round_11 : decode cX10_round 11 = .ok (.aload_n 0, 1) := by decide +kernel
theorem dX10_round_12 : decode cX10_round 12 = .ok (.getfield 51, 3) := by decide +kernel
theorem dX10_round_15 : decode cX10_round 15 = .ok (.ifCond .ne 6, 3) := by decide +kernel
theorem dX10_round_18 : decode cX10_round 18 = .ok (.bipush (-3), 2) := by decide +kernel
theorem dX10_round_20 : decode cX10_round 20 = .ok (.ireturn, 1) := by decide +kernel
theorem dX10_round_21 : decode cX10_round 21 = .ok (.iload_n 1, 1) := by decide +kernel
theorem dX10_round_22 : decode cX10_round 22 = .ok (.ifCond .ne 11, 3) := by decide +kernel
theorem dX10_round_25 : decode cX10_round 25 = .ok (.aload_n 0, 1) := by decide +kernel
theorem dX10_round_26 : decode cX10_round 26 = .ok (.getfield 48, 3) := by decide +kernel
theorem dX10_round_29 : decode cX10_round 29 = .ok (.getfield 198, 3) := by decide +kernel
theorem dX10_round_32 : decode cX10_round 32 = .ok (.ireturn, 1) := by decide +kernel
theorem dX10_round_33 : decode cX10_round 33 = .ok (.iload_n 1, 1) := by decide +kernel
theorem dX10_round_34 : decode cX10_round 34 = .ok (.iconst 1, 1) := by decide +kernel
theorem dX10_round_35 : decode cX10_round 35 = .ok (.if_icmp .ne 19, 3) := by decide +kernel
theorem dX10_round_38 : decode cX10_round 38 = .ok (.aload_n 0, 1) := by decide +kernel
theorem dX10_round_39 : decode cX10_round 39 = .ok (.getfield 48, 3) := by decide +kernel
theorem dX10_round_42 : decode cX10_round 42 = .ok (.getfield 199, 3) := by decide +kernel
theorem dX10_round_45 : decode cX10_round 45 = .ok (.ifCond .eq 7, 3) := by decide +kernel
theorem dX10_round_48 : decode cX10_round 48 = .ok (.iconst 1, 1) := by decide +kernel
theorem dX10_round_49 : decode cX10_round 49 = .ok (.goto 4, 3) := by decide +kernel
theorem dX10_round_52 : decode cX10_round 52 = .ok (.iconst 0, 1) := by decide +kernel
theorem dX10_round_53 : decode cX10_round 53 = .ok (.ireturn, 1) := by decide +kernel
theorem dX10_round_54 : decode cX10_round 54 = .ok (.aload_n 0, 1) := by decide +kernel
theorem dX10_round_55 : decode cX10_round 55 = .ok (.getfield 48, 3) := by decide +kernel
theorem dX10_round_58 : decode cX10_round 58 = .ok (.getfield 199, 3) := by decide +kernel
theorem dX10_round_61 : decode cX10_round 61 = .ok (.ifCond .eq 10, 3) := by decide +kernel
theorem dX10_round_64 : decode cX10_round 64 = .ok (.aload_n 0, 1) := by decide +kernel
theorem dX10_round_65 : decode cX10_round 65 = .ok (.invokevirtual 286, 3) := by decide +kernel
theorem dX10_round_68 : decode cX10_round 68 = .ok (.goto 5, 3) := by decide +kernel
theorem dX10_round_71 : decode cX10_round 71 = .ok (.bipush (-3), 2) := by decide +kernel
theorem dX10_round_73 : decode cX10_round 73 = .ok (.ireturn, 1) := by decide +kernel
theorem dX10_roundOfTrail_0 : decode cX10_roundOfTrail 0 = .ok (.aload_n 0, 1) := by decide +kernel
theorem dX10_roundOfTrail_1 : decode cX10_roundOfTrail 1 = .ok (.getfield 61, 3) := by decide +kernel
theorem dX10_roundOfTrail_4 : decode cX10_roundOfTrail 4 = .ok (.ifCond .ne 75, 3) := by decide +kernel
theorem dX10_roundOfTrail_7 : decode cX10_roundOfTrail 7 = .ok (.aload_n 0, 1) := by decide +kernel
theorem dX10_roundOfTrail_8 : decode cX10_roundOfTrail 8 = .ok (.aload_n 0, 1) := by decide +kernel
theorem dX10_roundOfTrail_9 : decode cX10_roundOfTrail 9 = .ok (.getfield 48, 3) := by decide +kernel
theorem dX10_roundOfTrail_12 : decode cX10_roundOfTrail 12 = .ok (.getfield 198, 3) := by decide +kernel
theorem dX10_roundOfTrail_15 : decode cX10_roundOfTrail 15 = .ok (.sipush 200, 3) := by decide +kernel
theorem dX10_roundOfTrail_18 : decode cX10_roundOfTrail 18 = .ok (.invokevirtual 375, 3) := by decide +kernel
theorem dX10_roundOfTrail_21 : decode cX10_roundOfTrail 21 = .ok (.astore_n 1, 1) := by decide +kernel
theorem dX10_roundOfTrail_22 : decode cX10_roundOfTrail 22 = .ok (.bipush 60, 2) := by decide +kernel
theorem dX10_roundOfTrail_24 : decode cX10_roundOfTrail 24 = .ok (.newarray .long, 2) := by decide +kernel
theorem dX10_roundOfTrail_26 : decode cX10_roundOfTrail 26 = .ok (.astore_n 2, 1) := by decide +kernel
theorem dX10_roundOfTrail_27 : decode cX10_roundOfTrail 27 = .ok (.iconst 0, 1) := by decide +kernel
theorem dX10_roundOfTrail_28 : decode cX10_roundOfTrail 28 = .ok (.istore_n 3, 1) := by decide +kernel
theorem dX10_roundOfTrail_29 : decode cX10_roundOfTrail 29 = .ok (.iload_n 3, 1) := by decide +kernel
theorem dX10_roundOfTrail_30 : decode cX10_roundOfTrail 30 = .ok (.bipush 60, 2) := by decide +kernel
theorem dX10_roundOfTrail_32 : decode cX10_roundOfTrail 32 = .ok (.if_icmp .ge 14, 3) := by decide +kernel
theorem dX10_roundOfTrail_35 : decode cX10_roundOfTrail 35 = .ok (.aload_n 2, 1) := by decide +kernel
theorem dX10_roundOfTrail_36 : decode cX10_roundOfTrail 36 = .ok (.iload_n 3, 1) := by decide +kernel
theorem dX10_roundOfTrail_37 : decode cX10_roundOfTrail 37 = .ok (.iload_n 3, 1) := by decide +kernel
theorem dX10_roundOfTrail_38 : decode cX10_roundOfTrail 38 = .ok (.i2l, 1) := by decide +kernel
theorem dX10_roundOfTrail_39 : decode cX10_roundOfTrail 39 = .ok (.lastore, 1) := by decide +kernel
theorem dX10_roundOfTrail_40 : decode cX10_roundOfTrail 40 = .ok (.iinc 3 1, 3) := by decide +kernel
theorem dX10_roundOfTrail_43 : decode cX10_roundOfTrail 43 = .ok (.goto (-14), 3) := by decide +kernel
theorem dX10_roundOfTrail_46 : decode cX10_roundOfTrail 46 = .ok (.aload_n 1, 1) := by decide +kernel
theorem dX10_roundOfTrail_47 : decode cX10_roundOfTrail 47 = .ok (.aload_n 2, 1) := by decide +kernel
theorem dX10_roundOfTrail_48 : decode cX10_roundOfTrail 48 = .ok (.bipush (-3), 2) := by decide +kernel
theorem dX10_roundOfTrail_50 : decode cX10_roundOfTrail 50 = .ok (.bipush (-3), 2) := by decide +kernel
theorem dX10_roundOfTrail_52 : decode cX10_roundOfTrail 52 = .ok (.invokevirtual 279, 3) := by decide +kernel
theorem dX10_roundOfTrail_55 : decode cX10_roundOfTrail 55 = .ok (.pop, 1) := by decide +kernel
theorem dX10_roundOfTrail_56 : decode cX10_roundOfTrail 56 = .ok (.aload_n 1, 1) := by decide +kernel
theorem dX10_roundOfTrail_57 : decode cX10_roundOfTrail 57 = .ok (.aload_n 0, 1) := by decide +kernel
theorem dX10_roundOfTrail_58 : decode cX10_roundOfTrail 58 = .ok (.getfield 86, 3) := by decide +kernel
theorem dX10_roundOfTrail_61 : decode cX10_roundOfTrail 61 = .ok (.aload_n 0, 1) := by decide +kernel
theorem dX10_roundOfTrail_62 : decode cX10_roundOfTrail 62 = .ok (.getfield 10, 3) := by decide +kernel
theorem dX10_roundOfTrail_65 : decode cX10_roundOfTrail 65 = .ok (.getfield 101, 3) := by decide +kernel
theorem dX10_roundOfTrail_68 : decode cX10_roundOfTrail 68 = .ok (.invokevirtual 282, 3) := by decide +kernel
theorem dX10_roundOfTrail_71 : decode cX10_roundOfTrail 71 = .ok (.aload_n 0, 1) := by decide +kernel
theorem dX10_roundOfTrail_72 : decode cX10_roundOfTrail 72 = .ok (.aload_n 1, 1) := by decide +kernel
theorem dX10_roundOfTrail_73 : decode cX10_roundOfTrail 73 = .ok (.getfield 198, 3) := by decide +kernel
theorem dX10_roundOfTrail_76 : decode cX10_roundOfTrail 76 = .ok (.putfield 61, 3) := by decide +kernel
theorem dX10_roundOfTrail_79 : decode cX10_roundOfTrail 79 = .ok (.aload_n 0, 1) := by decide +kernel
theorem dX10_roundOfTrail_80 : decode cX10_roundOfTrail 80 = .ok (.getfield 61, 3) := by decide +kernel
theorem dX10_roundOfTrail_83 : decode cX10_roundOfTrail 83 = .ok (.ireturn, 1) := by decide +kernel
theorem dX11_clears_0 : decode cX11_clears 0 = .ok (.iconst 0, 1) := by decide +kernel
theorem dX11_clears_1 : decode cX11_clears 1 = .ok (.istore_n 2, 1) := by decide +kernel
theorem dX11_clears_2 : decode cX11_clears 2 = .ok (.iload_n 2, 1) := by decide +kernel
theorem dX11_clears_3 : decode cX11_clears 3 = .ok (.bipush 9, 2) := by decide +kernel
theorem dX11_clears_5 : decode cX11_clears 5 = .ok (.if_icmp .ge 13, 3) := by decide +kernel
theorem dX11_clears_8 : decode cX11_clears 8 = .ok (.aload_n 1, 1) := by decide +kernel
theorem dX11_clears_9 : decode cX11_clears 9 = .ok (.iload_n 2, 1) := by decide +kernel
theorem dX11_clears_10 : decode cX11_clears 10 = .ok (.lconst 0, 1) := by decide +kernel
theorem dX11_clears_11 : decode cX11_clears 11 = .ok (.lastore, 1) := by decide +kernel
theorem dX11_clears_12 : decode cX11_clears 12 = .ok (.iinc 2 1, 3) := by decide +kernel
theorem dX11_clears_15 : decode cX11_clears 15 = .ok (.goto (-13), 3) := by decide +kernel
theorem dX11_clears_18 : decode cX11_clears 18 = .ok (.return_, 1) := by decide +kernel
theorem dX11_common_0 : decode cX11_common 0 = .ok (.lload_n 0, 1) := by decide +kernel
theorem dX11_common_1 : decode cX11_common 1 = .ok (.lconst 0, 1) := by decide +kernel
theorem dX11_common_2 : decode cX11_common 2 = .ok (.lcmp, 1) := by decide +kernel
theorem dX11_common_3 : decode cX11_common 3 = .ok (.ifCond .ge 8, 3) := by decide +kernel
theorem dX11_common_6 : decode cX11_common 6 = .ok (.lload_n 0, 1) := by decide +kernel
theorem dX11_common_7 : decode cX11_common 7 = .ok (.lneg, 1) := by decide +kernel
theorem dX11_common_8 : decode cX11_common 8 = .ok (.goto 4, 3) := by decide +kernel
theorem dX11_common_11 : decode cX11_common 11 = .ok (.lload_n 0, 1) := by decide +kernel
theorem dX11_common_12 : decode cX11_common 12 = .ok (.lstore 4, 2) := by decide +kernel
theorem dX11_common_14 : decode cX11_common 14 = .ok (.lload_n 2, 1) := by decide +kernel
theorem dX11_common_15 : decode cX11_common 15 = .ok (.lconst 0, 1) := by decide +kernel
theorem dX11_common_16 : decode cX11_common 16 = .ok (.lcmp, 1) := by decide +kernel
theorem dX11_common_17 : decode cX11_common 17 = .ok (.ifCond .ge 8, 3) := by decide +kernel
theorem dX11_common_20 : decode cX11_common 20 = .ok (.lload_n 2, 1) := by decide +kernel
theorem dX11_common_21 : decode cX11_common 21 = .ok (.lneg, 1) := by decide +kernel
theorem dX11_common_22 : decode cX11_common 22 = .ok (.goto 4, 3) := by decide +kernel
theorem dX11_common_25 : decode cX11_common 25 = .ok (.lload_n 2, 1) := by decide +kernel
theorem dX11_common_26 : decode cX11_common 26 = .ok (.lstore 6, 2) := by decide +kernel
theorem dX11_common_28 : decode cX11_common 28 = .ok (.lload 6, 2) := by decide +kernel
theorem dX11_common_30 : decode cX11_common 30 = .ok (.lconst 0, 1) := by decide +kernel
theorem dX11_common_31 : decode cX11_common 31 = .ok (.lcmp, 1) := by decide +kernel
theorem dX11_common_32 : decode cX11_common 32 = .ok (.ifCond .eq 21, 3) := by decide +kernel
theorem dX11_common_35 : decode cX11_common 35 = .ok (.lload 4, 2) := by decide +kernel
theorem dX11_common_37 : decode cX11_common 37 = .ok (.lload 6, 2) := by decide +kernel
theorem dX11_common_39 : decode cX11_common 39 = .ok (.lrem, 1) := by decide +kernel
theorem dX11_common_40 : decode cX11_common 40 = .ok (.lstore 8, 2) := by decide +kernel
theorem dX11_common_42 : decode cX11_common 42 = .ok (.lload 6, 2) := by decide +kernel
theorem dX11_common_44 : decode cX11_common 44 = .ok (.lstore 4, 2) := by decide +kernel
theorem dX11_common_46 : decode cX11_common 46 = .ok (.lload 8, 2) := by decide +kernel
theorem dX11_common_48 : decode cX11_common 48 = .ok (.lstore 6, 2) := by decide +kernel
theorem dX11_common_50 : decode cX11_common 50 = .ok (.goto (-22), 3) := by decide +kernel
theorem dX11_common_53 : decode cX11_common 53 = .ok (.lload 4, 2) := by decide +kernel
theorem dX11_common_55 : decode cX11_common 55 = .ok (.lreturn, 1) := by decide +kernel
theorem dX11_det_0 : decode cX11_det 0 = .ok (.aload_n 0, 1) := by decide +kernel
theorem dX11_det_1 : decode cX11_det 1 = .ok (.getfield 7, 3) := by decide +kernel
theorem dX11_det_4 : decode cX11_det 4 = .ok (.iconst 1, 1) := by decide +kernel
theorem dX11_det_5 : decode cX11_det 5 = .ok (.if_icmp .ne 7, 3) := by decide +kernel
theorem dX11_det_8 : decode cX11_det 8 = .ok (.aload_n 1, 1) := by decide +kernel
theorem dX11_det_9 : decode cX11_det 9 = .ok (.iconst 0, 1) := by decide +kernel
theorem dX11_det_10 : decode cX11_det 10 = .ok (.laload, 1) := by decide +kernel
theorem dX11_det_11 : decode cX11_det 11 = .ok (.lreturn, 1) := by decide +kernel
theorem dX11_det_12 : decode cX11_det 12 = .ok (.aload_n 0, 1) := by decide +kernel
theorem dX11_det_13 : decode cX11_det 13 = .ok (.getfield 7, 3) := by decide +kernel
theorem dX11_det_16 : decode cX11_det 16 = .ok (.iconst 2, 1) := by decide +kernel
theorem dX11_det_17 : decode cX11_det 17 = .ok (.if_icmp .ne 19, 3) := by decide +kernel
theorem dX11_det_20 : decode cX11_det 20 = .ok (.aload_n 1, 1) := by decide +kernel
theorem dX11_det_21 : decode cX11_det 21 = .ok (.iconst 0, 1) := by decide +kernel
theorem dX11_det_22 : decode cX11_det 22 = .ok (.laload, 1) := by decide +kernel
theorem dX11_det_23 : decode cX11_det 23 = .ok (.aload_n 1, 1) := by decide +kernel
theorem dX11_det_24 : decode cX11_det 24 = .ok (.iconst 4, 1) := by decide +kernel
theorem dX11_det_25 : decode cX11_det 25 = .ok (.laload, 1) := by decide +kernel
theorem dX11_det_26 : decode cX11_det 26 = .ok (.lmul, 1) := by decide +kernel
theorem dX11_det_27 : decode cX11_det 27 = .ok (.aload_n 1, 1) := by decide +kernel
theorem dX11_det_28 : decode cX11_det 28 = .ok (.iconst 1, 1) := by decide +kernel
theorem dX11_det_29 : decode cX11_det 29 = .ok (.laload, 1) := by decide +kernel
theorem dX11_det_30 : decode cX11_det 30 = .ok (.aload_n 1, 1) := by decide +kernel
theorem dX11_det_31 : decode cX11_det 31 = .ok (.iconst 3, 1) := by decide +kernel
theorem dX11_det_32 : decode cX11_det 32 = .ok (.laload, 1) := by decide +kernel
theorem dX11_det_33 : decode cX11_det 33 = .ok (.lmul, 1) := by decide +kernel
theorem dX11_det_34 : decode cX11_det 34 = .ok (.lsub, 1) := by decide +kernel
theorem dX11_det_35 : decode cX11_det 35 = .ok (.lreturn, 1) := by decide +kernel
theorem dX11_det_36 : decode cX11_det 36 = .ok (.aload_n 1, 1) := by decide +kernel
theorem dX11_det_37 : decode cX11_det 37 = .ok (.iconst 0, 1) := by decide +kernel
theorem dX11_det_38 : decode cX11_det 38 = .ok (.laload, 1) := by decide +kernel
theorem dX11_det_39 : decode cX11_det 39 = .ok (.aload_n 1, 1) := by decide +kernel
theorem dX11_det_40 : decode cX11_det 40 = .ok (.iconst 4, 1) := by decide +kernel
theorem dX11_det_41 : decode cX11_det 41 = .ok (.laload, 1) := by decide +kernel
theorem dX11_det_42 : decode cX11_det 42 = .ok (.aload_n 1, 1) := by decide +kernel
theorem dX11_det_43 : decode cX11_det 43 = .ok (.bipush 8, 2) := by decide +kernel
theorem dX11_det_45 : decode cX11_det 45 = .ok (.laload, 1) := by decide +kernel
theorem dX11_det_46 : decode cX11_det 46 = .ok (.lmul, 1) := by decide +kernel
theorem dX11_det_47 : decode cX11_det 47 = .ok (.aload_n 1, 1) := by decide +kernel
theorem dX11_det_48 : decode cX11_det 48 = .ok (.iconst 5, 1) := by decide +kernel
theorem dX11_det_49 : decode cX11_det 49 = .ok (.laload, 1) := by decide +kernel
theorem dX11_det_50 : decode cX11_det 50 = .ok (.aload_n 1, 1) := by decide +kernel
theorem dX11_det_51 : decode cX11_det 51 = .ok (.bipush 7, 2) := by decide +kernel
theorem dX11_det_53 : decode cX11_det 53 = .ok (.laload, 1) := by decide +kernel
theorem dX11_det_54 : decode cX11_det 54 = .ok (.lmul, 1) := by decide +kernel
theorem dX11_det_55 : decode cX11_det 55 = .ok (.lsub, 1) := by decide +kernel
theorem dX11_det_56 : decode cX11_det 56 = .ok (.lmul, 1) := by decide +kernel
theorem dX11_det_57 : decode cX11_det 57 = .ok (.aload_n 1, 1) := by decide +kernel
theorem dX11_det_58 : decode cX11_det 58 = .ok (.iconst 1, 1) := by decide +kernel
theorem dX11_det_59 : decode cX11_det 59 = .ok (.laload, 1) := by decide +kernel
theorem dX11_det_60 : decode cX11_det 60 = .ok (.aload_n 1, 1) := by decide +kernel
theorem dX11_det_61 : decode cX11_det 61 = .ok (.iconst 3, 1) := by decide +kernel
theorem dX11_det_62 : decode cX11_det 62 = .ok (.laload, 1) := by decide +kernel
theorem dX11_det_63 : decode cX11_det 63 = .ok (.aload_n 1, 1) := by decide +kernel
theorem dX11_det_64 : decode cX11_det 64 = .ok (.bipush 8, 2) := by decide +kernel
theorem dX11_det_66 : decode cX11_det 66 = .ok (.laload, 1) := by decide +kernel
theorem dX11_det_67 : decode cX11_det 67 = .ok (.lmul, 1) := by decide +kernel
theorem dX11_det_68 : decode cX11_det 68 = .ok (.aload_n 1, 1) := by decide +kernel
theorem dX11_det_69 : decode cX11_det 69 = .ok (.iconst 5, 1) := by decide +kernel
theorem dX11_det_70 : decode cX11_det 70 = .ok (.laload, 1) := by decide +kernel
theorem dX11_det_71 : decode cX11_det 71 = .ok (.aload_n 1, 1) := by decide +kernel
theorem dX11_det_72 : decode cX11_det 72 = .ok (.bipush 6, 2) := by decide +kernel
theorem dX11_det_74 : decode cX11_det 74 = .ok (.laload, 1) := by decide +kernel
theorem dX11_det_75 : decode cX11_det 75 = .ok (.lmul, 1) := by decide +kernel
theorem dX11_det_76 : decode cX11_det 76 = .ok (.lsub, 1) := by decide +kernel
theorem dX11_det_77 : decode cX11_det 77 = .ok (.lmul, 1) := by decide +kernel
theorem dX11_det_78 : decode cX11_det 78 = .ok (.lsub, 1) := by decide +kernel
theorem dX11_det_79 : decode cX11_det 79 = .ok (.aload_n 1, 1) := by decide +kernel
theorem dX11_det_80 : decode cX11_det 80 = .ok (.iconst 2, 1) := by decide +kernel
theorem dX11_det_81 : decode cX11_det 81 = .ok (.laload, 1) := by decide +kernel
theorem dX11_det_82 : decode cX11_det 82 = .ok (.aload_n 1, 1) := by decide +kernel
theorem dX11_det_83 : decode cX11_det 83 = .ok (.iconst 3, 1) := by decide +kernel
theorem dX11_det_84 : decode cX11_det 84 = .ok (.laload, 1) := by decide +kernel
theorem dX11_det_85 : decode cX11_det 85 = .ok (.aload_n 1, 1) := by decide +kernel
theorem dX11_det_86 : decode cX11_det 86 = .ok (.bipush 7, 2) := by decide +kernel
theorem dX11_det_88 : decode cX11_det 88 = .ok (.laload, 1) := by decide +kernel
theorem dX11_det_89 : decode cX11_det 89 = .ok (.lmul, 1) := by decide +kernel
theorem dX11_det_90 : decode cX11_det 90 = .ok (.aload_n 1, 1) := by decide +kernel
theorem dX11_det_91 : decode cX11_det 91 = .ok (.iconst 4, 1) := by decide +kernel
theorem dX11_det_92 : decode cX11_det 92 = .ok (.laload, 1) := by decide +kernel
theorem dX11_det_93 : decode cX11_det 93 = .ok (.aload_n 1, 1) := by decide +kernel
theorem dX11_det_94 : decode cX11_det 94 = .ok (.bipush 6, 2) := by decide +kernel
theorem dX11_det_96 : decode cX11_det 96 = .ok (.laload, 1) := by decide +kernel
theorem dX11_det_97 : decode cX11_det 97 = .ok (.lmul, 1) := by decide +kernel
theorem dX11_det_98 : decode cX11_det 98 = .ok (.lsub, 1) := by decide +kernel
theorem dX11_det_99 : decode cX11_det 99 = .ok (.lmul, 1) := by decide +kernel
theorem dX11_det_100 : decode cX11_det 100 = .ok (.ladd, 1) := by decide +kernel
theorem dX11_det_101 : decode cX11_det 101 = .ok (.lreturn, 1) := by decide +kernel
theorem dX11_factor_0 : decode cX11_factor 0 = .ok (.aload_n 0, 1) := by decide +kernel
theorem dX11_factor_1 : decode cX11_factor 1 = .ok (.iload_n 1, 1) := by decide +kernel
theorem dX11_factor_2 : decode cX11_factor 2 = .ok (.invokevirtual 122, 3) := by decide +kernel
theorem dX11_factor_5 : decode cX11_factor 5 = .ok (.ifCond .eq 19, 3) := by decide +kernel
theorem dX11_factor_8 : decode cX11_factor 8 = .ok (.iload_n 2, 1) := by decide +kernel
theorem dX11_factor_9 : decode cX11_factor 9 = .ok (.iconst 1, 1) := by decide +kernel
theorem dX11_factor_10 : decode cX11_factor 10 = .ok (.if_icmp .lt 14, 3) := by decide +kernel
theorem dX11_factor_13 : decode cX11_factor 13 = .ok (.iload_n 2, 1) := by decide +kernel
theorem dX11_factor_14 : decode cX11_factor 14 = .ok (.iconst 5, 1) := by decide +kernel
theorem dX11_factor_15 : decode cX11_factor 15 = .ok (.if_icmp .eq 9, 3) := by decide +kernel
theorem dX11_factor_18 : decode cX11_factor 18 = .ok (.iload_n 2, 1) := by decide +kernel
theorem dX11_factor_19 : decode cX11_factor 19 = .ok (.bipush 6, 2) := by decide +kernel
theorem dX11_factor_21 : decode cX11_factor 21 = .ok (.if_icmp .le 5, 3) := by decide +kernel
theorem dX11_factor_24 : decode cX11_factor 24 = .ok (.iconst (-1), 1) := by decide +kernel
theorem dX11_factor_25 : decode cX11_factor 25 = .ok (.ireturn, 1) := by decide +kernel
theorem dX11_factor_26 : decode cX11_factor 26 = .ok (.aload_n 0, 1) := by decide +kernel
theorem dX11_factor_27 : decode cX11_factor 27 = .ok (.iload_n 1, 1) := by decide +kernel
theorem dX11_factor_28 : decode cX11_factor 28 = .ok (.invokevirtual 160, 3) := by decide +kernel
theorem dX11_factor_31 : decode cX11_factor 31 = .ok (.iconst 0, 1) := by decide +kernel
theorem dX11_factor_32 : decode cX11_factor 32 = .ok (.istore_n 3, 1) := by decide +kernel
theorem dX11_factor_33 : decode cX11_factor 33 = .ok (.iload_n 2, 1) := by decide +kernel
theorem dX11_factor_34 : decode cX11_factor 34 = .ok (.iconst 3, 1) := by decide +kernel
theorem dX11_factor_35 : decode cX11_factor 35 = .ok (.if_icmp .ge 7, 3) := by decide +kernel
theorem dX11_factor_38 : decode cX11_factor 38 = .ok (.iconst 1, 1) := by decide +kernel
theorem dX11_factor_39 : decode cX11_factor 39 = .ok (.goto 4, 3) := by decide +kernel
theorem dX11_factor_42 : decode cX11_factor 42 = .ok (.iconst 2, 1) := by decide +kernel
theorem dX11_factor_43 : decode cX11_factor 43 = .ok (.istore 4, 2) := by decide +kernel
theorem dX11_factor_45 : decode cX11_factor 45 = .ok (.aload_n 0, 1) := by decide +kernel
theorem dX11_factor_46 : decode cX11_factor 46 = .ok (.iload 4, 2) := by decide +kernel
theorem dX11_factor_48 : decode cX11_factor 48 = .ok (.iload_n 2, 1) := by decide +kernel
theorem dX11_factor_49 : decode cX11_factor 49 = .ok (.iconst 1, 1) := by decide +kernel
theorem dX11_factor_50 : decode cX11_factor 50 = .ok (.if_icmp .ne 7, 3) := by decide +kernel
theorem dX11_factor_53 : decode cX11_factor 53 = .ok (.iconst (-1), 1) := by decide +kernel
theorem dX11_factor_54 : decode cX11_factor 54 = .ok (.goto 4, 3) := by decide +kernel
theorem dX11_factor_57 : decode cX11_factor 57 = .ok (.iconst 1, 1) := by decide +kernel
theorem dX11_factor_58 : decode cX11_factor 58 = .ok (.iload_n 2, 1) := by decide +kernel
theorem dX11_factor_59 : decode cX11_factor 59 = .ok (.iconst 3, 1) := by decide +kernel
theorem dX11_factor_60 : decode cX11_factor 60 = .ok (.if_icmp .ne 7, 3) := by decide +kernel
theorem dX11_factor_63 : decode cX11_factor 63 = .ok (.iconst 1, 1) := by decide +kernel
theorem dX11_factor_64 : decode cX11_factor 64 = .ok (.goto 14, 3) := by decide +kernel
theorem dX11_factor_67 : decode cX11_factor 67 = .ok (.iload_n 2, 1) := by decide +kernel
theorem dX11_factor_68 : decode cX11_factor 68 = .ok (.bipush 6, 2) := by decide +kernel
theorem dX11_factor_70 : decode cX11_factor 70 = .ok (.if_icmp .ne 7, 3) := by decide +kernel
theorem dX11_factor_73 : decode cX11_factor 73 = .ok (.iconst (-1), 1) := by decide +kernel
theorem dX11_factor_74 : decode cX11_factor 74 = .ok (.goto 4, 3) := by decide +kernel
theorem dX11_factor_77 : decode cX11_factor 77 = .ok (.iconst 0, 1) := by decide +kernel
theorem dX11_factor_78 : decode cX11_factor 78 = .ok (.invokevirtual 165, 3) := by decide +kernel
theorem dX11_factor_81 : decode cX11_factor 81 = .ok (.ifCond .eq 9, 3) := by decide +kernel
theorem dX11_factor_84 : decode cX11_factor 84 = .ok (.iinc 3 1, 3) := by decide +kernel
theorem dX11_factor_87 : decode cX11_factor 87 = .ok (.goto (-42), 3) := by decide +kernel
theorem dX11_factor_90 : decode cX11_factor 90 = .ok (.iload_n 3, 1) := by decide +kernel
theorem dX11_factor_91 : decode cX11_factor 91 = .ok (.ireturn, 1) := by decide +kernel
theorem dX11_far_0 : decode cX11_far 0 = .ok (.ldc2_w 88, 3) := by decide +kernel
theorem dX11_far_3 : decode cX11_far 3 = .ok (.iload_n 0, 1) := by decide +kernel
theorem dX11_far_4 : decode cX11_far 4 = .ok (.i2l, 1) := by decide +kernel
theorem dX11_far_5 : decode cX11_far 5 = .ok (.ladd, 1) := by decide +kernel
theorem dX11_far_6 : decode cX11_far 6 = .ok (.lreturn, 1) := by decide +kernel
theorem dX11_findForm_0 : decode cX11_findForm 0 = .ok (.aload_n 0, 1) := by decide +kernel
theorem dX11_findForm_1 : decode cX11_findForm 1 = .ok (.aload_n 0, 1) := by decide +kernel
theorem dX11_findForm_2 : decode cX11_findForm 2 = .ok (.getfield 27, 3) := by decide +kernel
theorem dX11_findForm_5 : decode cX11_findForm 5 = .ok (.invokevirtual 90, 3) := by decide +kernel
theorem dX11_findForm_8 : decode cX11_findForm 8 = .ok (.iconst 1, 1) := by decide +kernel
theorem dX11_findForm_9 : decode cX11_findForm 9 = .ok (.istore_n 1, 1) := by decide +kernel
theorem dX11_findForm_10 : decode cX11_findForm 10 = .ok (.iconst 0, 1) := by decide +kernel
theorem dX11_findForm_11 : decode cX11_findForm 11 = .ok (.istore_n 2, 1) := by decide +kernel
theorem dX11_findForm_12 : decode cX11_findForm 12 = .ok (.iload_n 2, 1) := by decide +kernel
theorem dX11_findForm_13 : decode cX11_findForm 13 = .ok (.aload_n 0, 1) := by decide +kernel
theorem dX11_findForm_14 : decode cX11_findForm 14 = .ok (.getfield 202, 3) := by decide +kernel
theorem dX11_findForm_17 : decode cX11_findForm 17 = .ok (.if_icmp .ge 204, 3) := by decide +kernel
theorem dX11_findForm_20 : decode cX11_findForm 20 = .ok (.aload_n 0, 1) := by decide +kernel
theorem dX11_findForm_21 : decode cX11_findForm 21 = .ok (.iload_n 2, 1) := by decide +kernel
theorem dX11_findForm_22 : decode cX11_findForm 22 = .ok (.aload_n 0, 1) := by decide +kernel
theorem dX11_findForm_23 : decode cX11_findForm 23 = .ok (.getfield 30, 3) := by decide +kernel
theorem dX11_findForm_26 : decode cX11_findForm 26 = .ok (.invokevirtual 209, 3) := by decide +kernel
theorem dX11_findForm_29 : decode cX11_findForm 29 = .ok (.iconst 0, 1) := by decide +kernel
theorem dX11_findForm_30 : decode cX11_findForm 30 = .ok (.istore_n 3, 1) := by decide +kernel
theorem dX11_findForm_31 : decode cX11_findForm 31 = .ok (.iload_n 3, 1) := by decide +kernel
theorem dX11_findForm_32 : decode cX11_findForm 32 = .ok (.aload_n 0, 1) := by decide +kernel
theorem dX11_findForm_33 : decode cX11_findForm 33 = .ok (.getfield 7, 3) := by decide +kernel
theorem dX11_findForm_36 : decode cX11_findForm 36 = .ok (.if_icmp .ge 179, 3) := by decide +kernel
theorem dX11_findForm_39 : decode cX11_findForm 39 = .ok (.iconst 0, 1) := by decide +kernel
theorem dX11_findForm_40 : decode cX11_findForm 40 = .ok (.istore 4, 2) := by decide +kernel
theorem dX11_findForm_42 : decode cX11_findForm 42 = .ok (.iload 4, 2) := by decide +kernel
theorem dX11_findForm_44 : decode cX11_findForm 44 = .ok (.aload_n 0, 1) := by decide +kernel
theorem dX11_findForm_45 : decode cX11_findForm 45 = .ok (.getfield 7, 3) := by decide +kernel
theorem dX11_findForm_48 : decode cX11_findForm 48 = .ok (.if_icmp .ge 161, 3) := by decide +kernel
theorem dX11_findForm_51 : decode cX11_findForm 51 = .ok (.lconst 0, 1) := by decide +kernel
theorem dX11_findForm_52 : decode cX11_findForm 52 = .ok (.lstore 5, 2) := by decide +kernel
theorem dX11_findForm_54 : decode cX11_findForm 54 = .ok (.iconst 0, 1) := by decide +kernel
theorem dX11_findForm_55 : decode cX11_findForm 55 = .ok (.istore 7, 2) := by decide +kernel
theorem dX11_findForm_57 : decode cX11_findForm 57 = .ok (.iload 7, 2) := by decide +kernel
theorem dX11_findForm_59 : decode cX11_findForm 59 = .ok (.aload_n 0, 1) := by decide +kernel
theorem dX11_findForm_60 : decode cX11_findForm 60 = .ok (.getfield 7, 3) := by decide +kernel
theorem dX11_findForm_63 : decode cX11_findForm 63 = .ok (.if_icmp .ge 38, 3) := by decide +kernel
theorem dX11_findForm_66 : decode cX11_findForm 66 = .ok (.lload 5, 2) := by decide +kernel
theorem dX11_findForm_68 : decode cX11_findForm 68 = .ok (.aload_n 0, 1) := by decide +kernel
theorem dX11_findForm_69 : decode cX11_findForm 69 = .ok (.getfield 30, 3) := by decide +kernel
theorem dX11_findForm_72 : decode cX11_findForm 72 = .ok (.iconst 3, 1) := by decide +kernel
theorem dX11_findForm_73 : decode cX11_findForm 73 = .ok (.iload 7, 2) := by decide +kernel
theorem dX11_findForm_75 : decode cX11_findForm 75 = .ok (.imul, 1) := by decide +kernel
theorem dX11_findForm_76 : decode cX11_findForm 76 = .ok (.iload_n 3, 1) := by decide +kernel
theorem dX11_findForm_77 : decode cX11_findForm 77 = .ok (.iadd, 1) := by decide +kernel
theorem dX11_findForm_78 : decode cX11_findForm 78 = .ok (.laload, 1) := by decide +kernel
theorem dX11_findForm_79 : decode cX11_findForm 79 = .ok (.aload_n 0, 1) := by decide +kernel
theorem dX11_findForm_80 : decode cX11_findForm 80 = .ok (.getfield 30, 3) := by decide +kernel
theorem dX11_findForm_83 : decode cX11_findForm 83 = .ok (.iconst 3, 1) := by decide +kernel
theorem dX11_findForm_84 : decode cX11_findForm 84 = .ok (.iload 7, 2) := by decide +kernel
theorem dX11_findForm_86 : decode cX11_findForm 86 = .ok (.imul, 1) := by decide +kernel
theorem dX11_findForm_87 : decode cX11_findForm 87 = .ok (.iload 4, 2) := by decide +kernel
theorem dX11_findForm_89 : decode cX11_findForm 89 = .ok (.iadd, 1) := by decide +kernel
theorem dX11_findForm_90 : decode cX11_findForm 90 = .ok (.laload, 1) := by decide +kernel
theorem dX11_findForm_91 : decode cX11_findForm 91 = .ok (.lmul, 1) := by decide +kernel
theorem dX11_findForm_92 : decode cX11_findForm 92 = .ok (.ladd, 1) := by decide +kernel
theorem dX11_findForm_93 : decode cX11_findForm 93 = .ok (.lstore 5, 2) := by decide +kernel
theorem dX11_findForm_95 : decode cX11_findForm 95 = .ok (.iinc 7 1, 3) := by decide +kernel
theorem dX11_findForm_98 : decode cX11_findForm 98 = .ok (.goto (-41), 3) := by decide +kernel
theorem dX11_findForm_101 : decode cX11_findForm 101 = .ok (.aload_n 0, 1) := by decide +kernel
theorem dX11_findForm_102 : decode cX11_findForm 102 = .ok (.getfield 27, 3) := by decide +kernel
theorem dX11_findForm_105 : decode cX11_findForm 105 = .ok (.iconst 3, 1) := by decide +kernel
theorem dX11_findForm_106 : decode cX11_findForm 106 = .ok (.iload_n 3, 1) := by decide +kernel
theorem dX11_findForm_107 : decode cX11_findForm 107 = .ok (.imul, 1) := by decide +kernel
theorem dX11_findForm_108 : decode cX11_findForm 108 = .ok (.iload 4, 2) := by decide +kernel
theorem dX11_findForm_110 : decode cX11_findForm 110 = .ok (.iadd, 1) := by decide +kernel
theorem dX11_findForm_111 : decode cX11_findForm 111 = .ok (.laload, 1) := by decide +kernel
theorem dX11_findForm_112 : decode cX11_findForm 112 = .ok (.lload 5, 2) := by decide +kernel
theorem dX11_findForm_114 : decode cX11_findForm 114 = .ok (.ladd, 1) := by decide +kernel
theorem dX11_findForm_115 : decode cX11_findForm 115 = .ok (.lstore 7, 2) := by decide +kernel
theorem dX11_findForm_117 : decode cX11_findForm 117 = .ok (.iload_n 1, 1) := by decide +kernel
theorem dX11_findForm_118 : decode cX11_findForm 118 = .ok (.ifCond .eq 70, 3) := by decide +kernel
theorem dX11_findForm_121 : decode cX11_findForm 121 = .ok (.aload_n 0, 1) := by decide +kernel
theorem dX11_findForm_122 : decode cX11_findForm 122 = .ok (.getfield 27, 3) := by decide +kernel
theorem dX11_findForm_125 : decode cX11_findForm 125 = .ok (.iconst 3, 1) := by decide +kernel
theorem dX11_findForm_126 : decode cX11_findForm 126 = .ok (.iload_n 3, 1) := by decide +kernel
theorem dX11_findForm_127 : decode cX11_findForm 127 = .ok (.imul, 1) := by decide +kernel
theorem dX11_findForm_128 : decode cX11_findForm 128 = .ok (.iload 4, 2) := by decide +kernel
theorem dX11_findForm_130 : decode cX11_findForm 130 = .ok (.iadd, 1) := by decide +kernel
theorem dX11_findForm_131 : decode cX11_findForm 131 = .ok (.laload, 1) := by decide +kernel
theorem dX11_findForm_132 : decode cX11_findForm 132 = .ok (.lconst 0, 1) := by decide +kernel
theorem dX11_findForm_133 : decode cX11_findForm 133 = .ok (.lcmp, 1) := by decide +kernel
theorem dX11_findForm_134 : decode cX11_findForm 134 = .ok (.ifCond .lt 7, 3) := by decide +kernel
theorem dX11_findForm_137 : decode cX11_findForm 137 = .ok (.iconst 1, 1) := by decide +kernel
theorem dX11_findForm_138 : decode cX11_findForm 138 = .ok (.goto 4, 3) := by decide +kernel
theorem dX11_findForm_141 : decode cX11_findForm 141 = .ok (.iconst 0, 1) := by decide +kernel
theorem dX11_findForm_142 : decode cX11_findForm 142 = .ok (.lload 5, 2) := by decide +kernel
theorem dX11_findForm_144 : decode cX11_findForm 144 = .ok (.lconst 0, 1) := by decide +kernel
theorem dX11_findForm_145 : decode cX11_findForm 145 = .ok (.lcmp, 1) := by decide +kernel
theorem dX11_findForm_146 : decode cX11_findForm 146 = .ok (.ifCond .lt 7, 3) := by decide +kernel
theorem dX11_findForm_149 : decode cX11_findForm 149 = .ok (.iconst 1, 1) := by decide +kernel
theorem dX11_findForm_150 : decode cX11_findForm 150 = .ok (.goto 4, 3) := by decide +kernel
theorem dX11_findForm_153 : decode cX11_findForm 153 = .ok (.iconst 0, 1) := by decide +kernel
theorem dX11_findForm_154 : decode cX11_findForm 154 = .ok (.if_icmp .ne 30, 3) := by decide +kernel
theorem dX11_findForm_157 : decode cX11_findForm 157 = .ok (.lload 7, 2) := by decide +kernel
theorem dX11_findForm_159 : decode cX11_findForm 159 = .ok (.lconst 0, 1) := by decide +kernel
theorem dX11_findForm_160 : decode cX11_findForm 160 = .ok (.lcmp, 1) := by decide +kernel
theorem dX11_findForm_161 : decode cX11_findForm 161 = .ok (.ifCond .lt 7, 3) := by decide +kernel
theorem dX11_findForm_164 : decode cX11_findForm 164 = .ok (.iconst 1, 1) := by decide +kernel
theorem dX11_findForm_165 : decode cX11_findForm 165 = .ok (.goto 4, 3) := by decide +kernel
theorem dX11_findForm_168 : decode cX11_findForm 168 = .ok (.iconst 0, 1) := by decide +kernel
theorem dX11_findForm_169 : decode cX11_findForm 169 = .ok (.lload 5, 2) := by decide +kernel
theorem dX11_findForm_171 : decode cX11_findForm 171 = .ok (.lconst 0, 1) := by decide +kernel
theorem dX11_findForm_172 : decode cX11_findForm 172 = .ok (.lcmp, 1) := by decide +kernel
theorem dX11_findForm_173 : decode cX11_findForm 173 = .ok (.ifCond .lt 7, 3) := by decide +kernel
theorem dX11_findForm_176 : decode cX11_findForm 176 = .ok (.iconst 1, 1) := by decide +kernel
theorem dX11_findForm_177 : decode cX11_findForm 177 = .ok (.goto 4, 3) := by decide +kernel
theorem dX11_findForm_180 : decode cX11_findForm 180 = .ok (.iconst 0, 1) := by decide +kernel
theorem dX11_findForm_181 : decode cX11_findForm 181 = .ok (.if_icmp .ne 7, 3) := by decide +kernel
theorem dX11_findForm_184 : decode cX11_findForm 184 = .ok (.iconst 1, 1) := by decide +kernel
theorem dX11_findForm_185 : decode cX11_findForm 185 = .ok (.goto 4, 3) := by decide +kernel
theorem dX11_findForm_188 : decode cX11_findForm 188 = .ok (.iconst 0, 1) := by decide +kernel
theorem dX11_findForm_189 : decode cX11_findForm 189 = .ok (.istore_n 1, 1) := by decide +kernel
theorem dX11_findForm_190 : decode cX11_findForm 190 = .ok (.aload_n 0, 1) := by decide +kernel
theorem dX11_findForm_191 : decode cX11_findForm 191 = .ok (.getfield 27, 3) := by decide +kernel
theorem dX11_findForm_194 : decode cX11_findForm 194 = .ok (.iconst 3, 1) := by decide +kernel
theorem dX11_findForm_195 : decode cX11_findForm 195 = .ok (.iload_n 3, 1) := by decide +kernel
theorem dX11_findForm_196 : decode cX11_findForm 196 = .ok (.imul, 1) := by decide +kernel
theorem dX11_findForm_197 : decode cX11_findForm 197 = .ok (.iload 4, 2) := by decide +kernel
theorem dX11_findForm_199 : decode cX11_findForm 199 = .ok (.iadd, 1) := by decide +kernel
theorem dX11_findForm_200 : decode cX11_findForm 200 = .ok (.lload 7, 2) := by decide +kernel
theorem dX11_findForm_202 : decode cX11_findForm 202 = .ok (.lastore, 1) := by decide +kernel
theorem dX11_findForm_203 : decode cX11_findForm 203 = .ok (.iinc 4 1, 3) := by decide +kernel
theorem dX11_findForm_206 : decode cX11_findForm 206 = .ok (.goto (-164), 3) := by decide +kernel
theorem dX11_findForm_209 : decode cX11_findForm 209 = .ok (.iinc 3 1, 3) := by decide +kernel
theorem dX11_findForm_212 : decode cX11_findForm 212 = .ok (.goto (-181), 3) := by decide +kernel
theorem dX11_findForm_215 : decode cX11_findForm 215 = .ok (.iinc 2 1, 3) := by decide +kernel
theorem dX11_findForm_218 : decode cX11_findForm 218 = .ok (.goto (-206), 3) := by decide +kernel
theorem dX11_findForm_221 : decode cX11_findForm 221 = .ok (.iload_n 1, 1) := by decide +kernel
theorem dX11_findForm_222 : decode cX11_findForm 222 = .ok (.ireturn, 1) := by decide +kernel
theorem dX11_findList_0 : decode cX11_findList 0 = .ok (.aload_n 0, 1) := by decide +kernel
theorem dX11_findList_1 : decode cX11_findList 1 = .ok (.getfield 98, 3) := by decide +kernel
theorem dX11_findList_4 : decode cX11_findList 4 = .ok (.ifCond .eq 4, 3) := by decide +kernel
theorem dX11_findList_7 : decode cX11_findList 7 = .ok (.return_, 1) := by decide +kernel
theorem dX11_findList_8 : decode cX11_findList 8 = .ok (.aload_n 0, 1) := by decide +kernel
theorem dX11_findList_9 : decode cX11_findList 9 = .ok (.iconst 0, 1) := by decide +kernel
theorem dX11_findList_10 : decode cX11_findList 10 = .ok (.putfield 202, 3) := by decide +kernel
theorem dX11_findList_13 : decode cX11_findList 13 = .ok (.aload_n 0, 1) := by decide +kernel
theorem dX11_findList_14 : decode cX11_findList 14 = .ok (.aload_n 0, 1) := by decide +kernel
theorem dX11_findList_15 : decode cX11_findList 15 = .ok (.getfield 27, 3) := by decide +kernel
theorem dX11_findList_18 : decode cX11_findList 18 = .ok (.invokevirtual 107, 3) := by decide +kernel
theorem dX11_findList_21 : decode cX11_findList 21 = .ok (.aload_n 0, 1) := by decide +kernel
theorem dX11_findList_22 : decode cX11_findList 22 = .ok (.aload_n 0, 1) := by decide +kernel
theorem dX11_findList_23 : decode cX11_findList 23 = .ok (.getfield 27, 3) := by decide +kernel
theorem dX11_findList_26 : decode cX11_findList 26 = .ok (.bipush (-3), 2) := by decide +kernel
theorem dX11_findList_28 : decode cX11_findList 28 = .ok (.bipush (-3), 2) := by decide +kernel
theorem dX11_findList_30 : decode cX11_findList 30 = .ok (.invokevirtual 205, 3) := by decide +kernel
theorem dX11_findList_33 : decode cX11_findList 33 = .ok (.iconst 0, 1) := by decide +kernel
theorem dX11_findList_34 : decode cX11_findList 34 = .ok (.istore_n 1, 1) := by decide +kernel
theorem dX11_findList_35 : decode cX11_findList 35 = .ok (.iload_n 1, 1) := by decide +kernel
theorem dX11_findList_36 : decode cX11_findList 36 = .ok (.aload_n 0, 1) := by decide +kernel
theorem dX11_findList_37 : decode cX11_findList 37 = .ok (.getfield 202, 3) := by decide +kernel
theorem dX11_findList_40 : decode cX11_findList 40 = .ok (.if_icmp .ge 100, 3) := by decide +kernel
theorem dX11_findList_43 : decode cX11_findList 43 = .ok (.iconst 0, 1) := by decide +kernel
theorem dX11_findList_44 : decode cX11_findList 44 = .ok (.istore_n 2, 1) := by decide +kernel
theorem dX11_findList_45 : decode cX11_findList 45 = .ok (.iload_n 2, 1) := by decide +kernel
theorem dX11_findList_46 : decode cX11_findList 46 = .ok (.aload_n 0, 1) := by decide +kernel
theorem dX11_findList_47 : decode cX11_findList 47 = .ok (.getfield 85, 3) := by decide +kernel
theorem dX11_findList_50 : decode cX11_findList 50 = .ok (.if_icmp .ge 84, 3) := by decide +kernel
theorem dX11_findList_53 : decode cX11_findList 53 = .ok (.aload_n 0, 1) := by decide +kernel
theorem dX11_findList_54 : decode cX11_findList 54 = .ok (.getfield 202, 3) := by decide +kernel
theorem dX11_findList_57 : decode cX11_findList 57 = .ok (.bipush 100, 2) := by decide +kernel
theorem dX11_findList_59 : decode cX11_findList 59 = .ok (.if_icmp .ge 75, 3) := by decide +kernel
theorem dX11_findList_62 : decode cX11_findList 62 = .ok (.aload_n 0, 1) := by decide +kernel
theorem dX11_findList_63 : decode cX11_findList 63 = .ok (.iload_n 1, 1) := by decide +kernel
theorem dX11_findList_64 : decode cX11_findList 64 = .ok (.aload_n 0, 1) := by decide +kernel
theorem dX11_findList_65 : decode cX11_findList 65 = .ok (.getfield 27, 3) := by decide +kernel
theorem dX11_findList_68 : decode cX11_findList 68 = .ok (.invokevirtual 209, 3) := by decide +kernel
theorem dX11_findList_71 : decode cX11_findList 71 = .ok (.aload_n 0, 1) := by decide +kernel
theorem dX11_findList_72 : decode cX11_findList 72 = .ok (.iload_n 2, 1) := by decide +kernel
theorem dX11_findList_73 : decode cX11_findList 73 = .ok (.aload_n 0, 1) := by decide +kernel
theorem dX11_findList_74 : decode cX11_findList 74 = .ok (.getfield 30, 3) := by decide +kernel
theorem dX11_findList_77 : decode cX11_findList 77 = .ok (.invokevirtual 125, 3) := by decide +kernel
theorem dX11_findList_80 : decode cX11_findList 80 = .ok (.aload_n 0, 1) := by decide +kernel
theorem dX11_findList_81 : decode cX11_findList 81 = .ok (.aload_n 0, 1) := by decide +kernel
theorem dX11_findList_82 : decode cX11_findList 82 = .ok (.getfield 27, 3) := by decide +kernel
theorem dX11_findList_85 : decode cX11_findList 85 = .ok (.aload_n 0, 1) := by decide +kernel
theorem dX11_findList_86 : decode cX11_findList 86 = .ok (.getfield 30, 3) := by decide +kernel
theorem dX11_findList_89 : decode cX11_findList 89 = .ok (.aload_n 0, 1) := by decide +kernel
theorem dX11_findList_90 : decode cX11_findList 90 = .ok (.getfield 33, 3) := by decide +kernel
theorem dX11_findList_93 : decode cX11_findList 93 = .ok (.invokevirtual 129, 3) := by decide +kernel
theorem dX11_findList_96 : decode cX11_findList 96 = .ok (.aload_n 0, 1) := by decide +kernel
theorem dX11_findList_97 : decode cX11_findList 97 = .ok (.aload_n 0, 1) := by decide +kernel
theorem dX11_findList_98 : decode cX11_findList 98 = .ok (.getfield 33, 3) := by decide +kernel
theorem dX11_findList_101 : decode cX11_findList 101 = .ok (.invokevirtual 212, 3) := by decide +kernel
theorem dX11_findList_104 : decode cX11_findList 104 = .ok (.ifCond .ge 24, 3) := by decide +kernel
theorem dX11_findList_107 : decode cX11_findList 107 = .ok (.aload_n 0, 1) := by decide +kernel
theorem dX11_findList_108 : decode cX11_findList 108 = .ok (.aload_n 0, 1) := by decide +kernel
theorem dX11_findList_109 : decode cX11_findList 109 = .ok (.getfield 33, 3) := by decide +kernel
theorem dX11_findList_112 : decode cX11_findList 112 = .ok (.invokevirtual 154, 3) := by decide +kernel
theorem dX11_findList_115 : decode cX11_findList 115 = .ok (.ifCond .ne 13, 3) := by decide +kernel
theorem dX11_findList_118 : decode cX11_findList 118 = .ok (.aload_n 0, 1) := by decide +kernel
theorem dX11_findList_119 : decode cX11_findList 119 = .ok (.aload_n 0, 1) := by decide +kernel
theorem dX11_findList_120 : decode cX11_findList 120 = .ok (.getfield 33, 3) := by decide +kernel
theorem dX11_findList_123 : decode cX11_findList 123 = .ok (.iload_n 1, 1) := by decide +kernel
theorem dX11_findList_124 : decode cX11_findList 124 = .ok (.iload_n 2, 1) := by decide +kernel
theorem dX11_findList_125 : decode cX11_findList 125 = .ok (.invokevirtual 205, 3) := by decide +kernel
theorem dX11_findList_128 : decode cX11_findList 128 = .ok (.iinc 2 1, 3) := by decide +kernel
theorem dX11_findList_131 : decode cX11_findList 131 = .ok (.goto (-86), 3) := by decide +kernel
theorem dX11_findList_134 : decode cX11_findList 134 = .ok (.iinc 1 1, 3) := by decide +kernel
theorem dX11_findList_137 : decode cX11_findList 137 = .ok (.goto (-102), 3) := by decide +kernel
theorem dX11_findList_140 : decode cX11_findList 140 = .ok (.aload_n 0, 1) := by decide +kernel
theorem dX11_findList_141 : decode cX11_findList 141 = .ok (.iconst 1, 1) := by decide +kernel
theorem dX11_findList_142 : decode cX11_findList 142 = .ok (.putfield 216, 3) := by decide +kernel
theorem dX11_findList_145 : decode cX11_findList 145 = .ok (.iconst 0, 1) := by decide +kernel
theorem dX11_findList_146 : decode cX11_findList 146 = .ok (.istore_n 1, 1) := by decide +kernel
theorem dX11_findList_147 : decode cX11_findList 147 = .ok (.iload_n 1, 1) := by decide +kernel
theorem dX11_findList_148 : decode cX11_findList 148 = .ok (.aload_n 0, 1) := by decide +kernel
theorem dX11_findList_149 : decode cX11_findList 149 = .ok (.getfield 202, 3) := by decide +kernel
theorem dX11_findList_152 : decode cX11_findList 152 = .ok (.if_icmp .ge 86, 3) := by decide +kernel
theorem dX11_findList_155 : decode cX11_findList 155 = .ok (.iconst 0, 1) := by decide +kernel
theorem dX11_findList_156 : decode cX11_findList 156 = .ok (.istore_n 2, 1) := by decide +kernel
theorem dX11_findList_157 : decode cX11_findList 157 = .ok (.iload_n 2, 1) := by decide +kernel
theorem dX11_findList_158 : decode cX11_findList 158 = .ok (.aload_n 0, 1) := by decide +kernel
theorem dX11_findList_159 : decode cX11_findList 159 = .ok (.getfield 85, 3) := by decide +kernel
theorem dX11_findList_162 : decode cX11_findList 162 = .ok (.if_icmp .ge 70, 3) := by decide +kernel
theorem dX11_findList_165 : decode cX11_findList 165 = .ok (.aload_n 0, 1) := by decide +kernel
theorem dX11_findList_166 : decode cX11_findList 166 = .ok (.iload_n 1, 1) := by decide +kernel
theorem dX11_findList_167 : decode cX11_findList 167 = .ok (.aload_n 0, 1) := by decide +kernel
theorem dX11_findList_168 : decode cX11_findList 168 = .ok (.getfield 27, 3) := by decide +kernel
theorem dX11_findList_171 : decode cX11_findList 171 = .ok (.invokevirtual 209, 3) := by decide +kernel
theorem dX11_findList_174 : decode cX11_findList 174 = .ok (.aload_n 0, 1) := by decide +kernel
theorem dX11_findList_175 : decode cX11_findList 175 = .ok (.iload_n 2, 1) := by decide +kernel
theorem dX11_findList_176 : decode cX11_findList 176 = .ok (.aload_n 0, 1) := by decide +kernel
theorem dX11_findList_177 : decode cX11_findList 177 = .ok (.getfield 30, 3) := by decide +kernel
theorem dX11_findList_180 : decode cX11_findList 180 = .ok (.invokevirtual 125, 3) := by decide +kernel
theorem dX11_findList_183 : decode cX11_findList 183 = .ok (.aload_n 0, 1) := by decide +kernel
theorem dX11_findList_184 : decode cX11_findList 184 = .ok (.aload_n 0, 1) := by decide +kernel
theorem dX11_findList_185 : decode cX11_findList 185 = .ok (.getfield 27, 3) := by decide +kernel
theorem dX11_findList_188 : decode cX11_findList 188 = .ok (.aload_n 0, 1) := by decide +kernel
theorem dX11_findList_189 : decode cX11_findList 189 = .ok (.getfield 30, 3) := by decide +kernel
theorem dX11_findList_192 : decode cX11_findList 192 = .ok (.aload_n 0, 1) := by decide +kernel
theorem dX11_findList_193 : decode cX11_findList 193 = .ok (.getfield 33, 3) := by decide +kernel
theorem dX11_findList_196 : decode cX11_findList 196 = .ok (.invokevirtual 129, 3) := by decide +kernel
theorem dX11_findList_199 : decode cX11_findList 199 = .ok (.aload_n 0, 1) := by decide +kernel
theorem dX11_findList_200 : decode cX11_findList 200 = .ok (.aload_n 0, 1) := by decide +kernel
theorem dX11_findList_201 : decode cX11_findList 201 = .ok (.getfield 216, 3) := by decide +kernel
theorem dX11_findList_204 : decode cX11_findList 204 = .ok (.ifCond .eq 18, 3) := by decide +kernel
theorem dX11_findList_207 : decode cX11_findList 207 = .ok (.aload_n 0, 1) := by decide +kernel
theorem dX11_findList_208 : decode cX11_findList 208 = .ok (.aload_n 0, 1) := by decide +kernel
theorem dX11_findList_209 : decode cX11_findList 209 = .ok (.getfield 33, 3) := by decide +kernel
theorem dX11_findList_212 : decode cX11_findList 212 = .ok (.invokevirtual 212, 3) := by decide +kernel
theorem dX11_findList_215 : decode cX11_findList 215 = .ok (.ifCond .lt 7, 3) := by decide +kernel
theorem dX11_findList_218 : decode cX11_findList 218 = .ok (.iconst 1, 1) := by decide +kernel
theorem dX11_findList_219 : decode cX11_findList 219 = .ok (.goto 4, 3) := by decide +kernel
theorem dX11_findList_222 : decode cX11_findList 222 = .ok (.iconst 0, 1) := by decide +kernel
theorem dX11_findList_223 : decode cX11_findList 223 = .ok (.putfield 216, 3) := by decide +kernel
theorem dX11_findList_226 : decode cX11_findList 226 = .ok (.iinc 2 1, 3) := by decide +kernel
theorem dX11_findList_229 : decode cX11_findList 229 = .ok (.goto (-72), 3) := by decide +kernel
theorem dX11_findList_232 : decode cX11_findList 232 = .ok (.iinc 1 1, 3) := by decide +kernel
theorem dX11_findList_235 : decode cX11_findList 235 = .ok (.goto (-88), 3) := by decide +kernel
theorem dX11_findList_238 : decode cX11_findList 238 = .ok (.aload_n 0, 1) := by decide +kernel
theorem dX11_findList_239 : decode cX11_findList 239 = .ok (.iconst 1, 1) := by decide +kernel
theorem dX11_findList_240 : decode cX11_findList 240 = .ok (.putfield 98, 3) := by decide +kernel
theorem dX11_findList_243 : decode cX11_findList 243 = .ok (.return_, 1) := by decide +kernel
theorem dX11_finds_0 : decode cX11_finds 0 = .ok (.aload_n 0, 1) := by decide +kernel
theorem dX11_finds_1 : decode cX11_finds 1 = .ok (.iload_n 1, 1) := by decide +kernel
theorem dX11_finds_2 : decode cX11_finds 2 = .ok (.aload_n 0, 1) := by decide +kernel
theorem dX11_finds_3 : decode cX11_finds 3 = .ok (.getfield 27, 3) := by decide +kernel
theorem dX11_finds_6 : decode cX11_finds 6 = .ok (.invokevirtual 125, 3) := by decide +kernel
theorem dX11_finds_9 : decode cX11_finds 9 = .ok (.aload_n 0, 1) := by decide +kernel
theorem dX11_finds_10 : decode cX11_finds 10 = .ok (.getfield 27, 3) := by decide +kernel
theorem dX11_finds_13 : decode cX11_finds 13 = .ok (.iconst 0, 1) := by decide +kernel
theorem dX11_finds_14 : decode cX11_finds 14 = .ok (.laload, 1) := by decide +kernel
theorem dX11_finds_15 : decode cX11_finds 15 = .ok (.aload_n 0, 1) := by decide +kernel
theorem dX11_finds_16 : decode cX11_finds 16 = .ok (.getfield 27, 3) := by decide +kernel
theorem dX11_finds_19 : decode cX11_finds 19 = .ok (.iconst 4, 1) := by decide +kernel
theorem dX11_finds_20 : decode cX11_finds 20 = .ok (.laload, 1) := by decide +kernel
theorem dX11_finds_21 : decode cX11_finds 21 = .ok (.ladd, 1) := by decide +kernel
theorem dX11_finds_22 : decode cX11_finds 22 = .ok (.aload_n 0, 1) := by decide +kernel
theorem dX11_finds_23 : decode cX11_finds 23 = .ok (.getfield 27, 3) := by decide +kernel
theorem dX11_finds_26 : decode cX11_finds 26 = .ok (.bipush 8, 2) := by decide +kernel
theorem dX11_finds_28 : decode cX11_finds 28 = .ok (.laload, 1) := by decide +kernel
theorem dX11_finds_29 : decode cX11_finds 29 = .ok (.ladd, 1) := by decide +kernel
theorem dX11_finds_30 : decode cX11_finds 30 = .ok (.lstore_n 2, 1) := by decide +kernel
theorem dX11_finds_31 : decode cX11_finds 31 = .ok (.aload_n 0, 1) := by decide +kernel
theorem dX11_finds_32 : decode cX11_finds 32 = .ok (.getfield 36, 3) := by decide +kernel
theorem dX11_finds_35 : decode cX11_finds 35 = .ok (.iconst 0, 1) := by decide +kernel
theorem dX11_finds_36 : decode cX11_finds 36 = .ok (.aload_n 0, 1) := by decide +kernel
theorem dX11_finds_37 : decode cX11_finds 37 = .ok (.getfield 7, 3) := by decide +kernel
theorem dX11_finds_40 : decode cX11_finds 40 = .ok (.iconst 2, 1) := by decide +kernel
theorem dX11_finds_41 : decode cX11_finds 41 = .ok (.irem, 1) := by decide +kernel
theorem dX11_finds_42 : decode cX11_finds 42 = .ok (.ifCond .ne 14, 3) := by decide +kernel
theorem dX11_finds_45 : decode cX11_finds 45 = .ok (.aload_n 0, 1) := by decide +kernel
theorem dX11_finds_46 : decode cX11_finds 46 = .ok (.aload_n 0, 1) := by decide +kernel
theorem dX11_finds_47 : decode cX11_finds 47 = .ok (.getfield 27, 3) := by decide +kernel
theorem dX11_finds_50 : decode cX11_finds 50 = .ok (.invokevirtual 139, 3) := by decide +kernel
theorem dX11_finds_53 : decode cX11_finds 53 = .ok (.goto 12, 3) := by decide +kernel
theorem dX11_finds_56 : decode cX11_finds 56 = .ok (.aload_n 0, 1) := by decide +kernel
theorem dX11_finds_57 : decode cX11_finds 57 = .ok (.aload_n 0, 1) := by decide +kernel
theorem dX11_finds_58 : decode cX11_finds 58 = .ok (.getfield 27, 3) := by decide +kernel
theorem dX11_finds_61 : decode cX11_finds 61 = .ok (.invokevirtual 139, 3) := by decide +kernel
theorem dX11_finds_64 : decode cX11_finds 64 = .ok (.lneg, 1) := by decide +kernel
theorem dX11_finds_65 : decode cX11_finds 65 = .ok (.lastore, 1) := by decide +kernel
theorem dX11_finds_66 : decode cX11_finds 66 = .ok (.aload_n 0, 1) := by decide +kernel
theorem dX11_finds_67 : decode cX11_finds 67 = .ok (.getfield 36, 3) := by decide +kernel
theorem dX11_finds_70 : decode cX11_finds 70 = .ok (.iconst 1, 1) := by decide +kernel
theorem dX11_finds_71 : decode cX11_finds 71 = .ok (.aload_n 0, 1) := by decide +kernel
theorem dX11_finds_72 : decode cX11_finds 72 = .ok (.getfield 7, 3) := by decide +kernel
theorem dX11_finds_75 : decode cX11_finds 75 = .ok (.iconst 1, 1) := by decide +kernel
theorem dX11_finds_76 : decode cX11_finds 76 = .ok (.if_icmp .ne 7, 3) := by decide +kernel
theorem dX11_finds_79 : decode cX11_finds 79 = .ok (.lconst 1, 1) := by decide +kernel
theorem dX11_finds_80 : decode cX11_finds 80 = .ok (.goto 48, 3) := by decide +kernel
theorem dX11_finds_83 : decode cX11_finds 83 = .ok (.aload_n 0, 1) := by decide +kernel
theorem dX11_finds_84 : decode cX11_finds 84 = .ok (.getfield 7, 3) := by decide +kernel
theorem dX11_finds_87 : decode cX11_finds 87 = .ok (.iconst 2, 1) := by decide +kernel
theorem dX11_finds_88 : decode cX11_finds 88 = .ok (.if_icmp .ne 8, 3) := by decide +kernel
theorem dX11_finds_91 : decode cX11_finds 91 = .ok (.lload_n 2, 1) := by decide +kernel
theorem dX11_finds_92 : decode cX11_finds 92 = .ok (.lneg, 1) := by decide +kernel
theorem dX11_finds_93 : decode cX11_finds 93 = .ok (.goto 35, 3) := by decide +kernel
theorem dX11_finds_96 : decode cX11_finds 96 = .ok (.aload_n 0, 1) := by decide +kernel
theorem dX11_finds_97 : decode cX11_finds 97 = .ok (.aload_n 0, 1) := by decide +kernel
theorem dX11_finds_98 : decode cX11_finds 98 = .ok (.getfield 27, 3) := by decide +kernel
theorem dX11_finds_101 : decode cX11_finds 101 = .ok (.iconst 0, 1) := by decide +kernel
theorem dX11_finds_102 : decode cX11_finds 102 = .ok (.iconst 0, 1) := by decide +kernel
theorem dX11_finds_103 : decode cX11_finds 103 = .ok (.invokevirtual 135, 3) := by decide +kernel
theorem dX11_finds_106 : decode cX11_finds 106 = .ok (.aload_n 0, 1) := by decide +kernel
theorem dX11_finds_107 : decode cX11_finds 107 = .ok (.aload_n 0, 1) := by decide +kernel
theorem dX11_finds_108 : decode cX11_finds 108 = .ok (.getfield 27, 3) := by decide +kernel
theorem dX11_finds_111 : decode cX11_finds 111 = .ok (.iconst 1, 1) := by decide +kernel
theorem dX11_finds_112 : decode cX11_finds 112 = .ok (.iconst 1, 1) := by decide +kernel
theorem dX11_finds_113 : decode cX11_finds 113 = .ok (.invokevirtual 135, 3) := by decide +kernel
theorem dX11_finds_116 : decode cX11_finds 116 = .ok (.ladd, 1) := by decide +kernel
theorem dX11_finds_117 : decode cX11_finds 117 = .ok (.aload_n 0, 1) := by decide +kernel
theorem dX11_finds_118 : decode cX11_finds 118 = .ok (.aload_n 0, 1) := by decide +kernel
theorem dX11_finds_119 : decode cX11_finds 119 = .ok (.getfield 27, 3) := by decide +kernel
theorem dX11_finds_122 : decode cX11_finds 122 = .ok (.iconst 2, 1) := by decide +kernel
theorem dX11_finds_123 : decode cX11_finds 123 = .ok (.iconst 2, 1) := by decide +kernel
theorem dX11_finds_124 : decode cX11_finds 124 = .ok (.invokevirtual 135, 3) := by decide +kernel
theorem dX11_finds_127 : decode cX11_finds 127 = .ok (.ladd, 1) := by decide +kernel
theorem dX11_finds_128 : decode cX11_finds 128 = .ok (.lastore, 1) := by decide +kernel
theorem dX11_finds_129 : decode cX11_finds 129 = .ok (.aload_n 0, 1) := by decide +kernel
theorem dX11_finds_130 : decode cX11_finds 130 = .ok (.getfield 36, 3) := by decide +kernel
theorem dX11_finds_133 : decode cX11_finds 133 = .ok (.iconst 2, 1) := by decide +kernel
theorem dX11_finds_134 : decode cX11_finds 134 = .ok (.aload_n 0, 1) := by decide +kernel
theorem dX11_finds_135 : decode cX11_finds 135 = .ok (.getfield 7, 3) := by decide +kernel
theorem dX11_finds_138 : decode cX11_finds 138 = .ok (.iconst 2, 1) := by decide +kernel
theorem dX11_finds_139 : decode cX11_finds 139 = .ok (.if_icmp .ne 7, 3) := by decide +kernel
theorem dX11_finds_142 : decode cX11_finds 142 = .ok (.lconst 1, 1) := by decide +kernel
theorem dX11_finds_143 : decode cX11_finds 143 = .ok (.goto 17, 3) := by decide +kernel
theorem dX11_finds_146 : decode cX11_finds 146 = .ok (.aload_n 0, 1) := by decide +kernel
theorem dX11_finds_147 : decode cX11_finds 147 = .ok (.getfield 7, 3) := by decide +kernel
