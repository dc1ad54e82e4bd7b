theorem dX11_witness_5 : decode cX11_witness 5 = .ok (.istore_n 1, 1) := by decide +kernel
theorem dX11_witness_6 : decode cX11_witness 6 = .ok (.iload_n 1, 1) := by decide +kernel
theorem dX11_witness_7 : decode cX11_witness 7 = .ok (.aload_n 0, 1) := by decide +kernel
theorem dX11_witness_8 : decode cX11_witness 8 = .ok (.getfield 202, 3) := by decide +kernel
theorem dX11_witness_11 : decode cX11_witness 11 = .ok (.if_icmp .ge 21, 3) := by decide +kernel
theorem dX11_witness_14 : decode cX11_witness 14 = .ok (.aload_n 0, 1) := by decide +kernel
theorem dX11_witness_15 : decode cX11_witness 15 = .ok (.iload_n 1, 1) := by decide +kernel
theorem dX11_witness_16 : decode cX11_witness 16 = .ok (.invokevirtual 226, 3) := by decide +kernel
theorem dX11_witness_19 : decode cX11_witness 19 = .ok (.bipush (-3), 2) := by decide +kernel
theorem dX11_witness_21 : decode cX11_witness 21 = .ok (.if_icmp .ne 5, 3) := by decide +kernel
theorem dX11_witness_24 : decode cX11_witness 24 = .ok (.iload_n 1, 1) := by decide +kernel
theorem dX11_witness_25 : decode cX11_witness 25 = .ok (.ireturn, 1) := by decide +kernel
theorem dX11_witness_26 : decode cX11_witness 26 = .ok (.iinc 1 1, 3) := by decide +kernel
theorem dX11_witness_29 : decode cX11_witness 29 = .ok (.goto (-23), 3) := by decide +kernel
theorem dX11_witness_32 : decode cX11_witness 32 = .ok (.bipush (-3), 2) := by decide +kernel
theorem dX11_witness_34 : decode cX11_witness 34 = .ok (.ireturn, 1) := by decide +kernel
theorem dX1_go_0 : decode cX1_go 0 = .ok (.aload_n 0, 1) := by decide +kernel
theorem dX1_go_1 : decode cX1_go 1 = .ok (.getfield 9, 3) := by decide +kernel
theorem dX1_go_4 : decode cX1_go 4 = .ok (.getfield 15, 3) := by decide +kernel
theorem dX1_go_7 : decode cX1_go 7 = .ok (.iload_n 3, 1) := by decide +kernel
theorem dX1_go_8 : decode cX1_go 8 = .ok (.bipush 9, 2) := by decide +kernel
theorem dX1_go_10 : decode cX1_go 10 = .ok (.imul, 1) := by decide +kernel
theorem dX1_go_11 : decode cX1_go 11 = .ok (.aload_n 1, 1) := by decide +kernel
theorem dX1_go_12 : decode cX1_go 12 = .ok (.iload_n 2, 1) := by decide +kernel
theorem dX1_go_13 : decode cX1_go 13 = .ok (.aload 4, 2) := by decide +kernel
theorem dX1_go_15 : decode cX1_go 15 = .ok (.aload_n 0, 1) := by decide +kernel
theorem dX1_go_16 : decode cX1_go 16 = .ok (.getfield 9, 3) := by decide +kernel
theorem dX1_go_19 : decode cX1_go 19 = .ok (.getfield 21, 3) := by decide +kernel
theorem dX1_go_22 : decode cX1_go 22 = .ok (.invokestatic 25, 3) := by decide +kernel
theorem dX1_go_25 : decode cX1_go 25 = .ok (.aload 4, 2) := by decide +kernel
theorem dX1_go_27 : decode cX1_go 27 = .ok (.aload_n 0, 1) := by decide +kernel
theorem dX1_go_28 : decode cX1_go 28 = .ok (.getfield 9, 3) := by decide +kernel
theorem dX1_go_31 : decode cX1_go 31 = .ok (.getfield 21, 3) := by decide +kernel
theorem dX1_go_34 : decode cX1_go 34 = .ok (.ldc2_w 31, 3) := by decide +kernel
theorem dX1_go_37 : decode cX1_go 37 = .ok (.invokestatic 33, 3) := by decide +kernel
theorem dX1_go_40 : decode cX1_go 40 = .ok (.ireturn, 1) := by decide +kernel
theorem dX1_init_0 : decode cX1_init 0 = .ok (.aload_n 0, 1) := by decide +kernel
theorem dX1_init_1 : decode cX1_init 1 = .ok (.invokespecial 3, 3) := by decide +kernel
theorem dX1_init_4 : decode cX1_init 4 = .ok (.aload_n 0, 1) := by decide +kernel
theorem dX1_init_5 : decode cX1_init 5 = .ok (.aload_n 1, 1) := by decide +kernel
theorem dX1_init_6 : decode cX1_init 6 = .ok (.putfield 9, 3) := by decide +kernel
theorem dX1_init_9 : decode cX1_init 9 = .ok (.return_, 1) := by decide +kernel
theorem dX2_go_0 : decode cX2_go 0 = .ok (.aload_n 1, 1) := by decide +kernel
theorem dX2_go_1 : decode cX2_go 1 = .ok (.iload_n 2, 1) := by decide +kernel
theorem dX2_go_2 : decode cX2_go 2 = .ok (.aload_n 0, 1) := by decide +kernel
theorem dX2_go_3 : decode cX2_go 3 = .ok (.getfield 15, 3) := by decide +kernel
theorem dX2_go_6 : decode cX2_go 6 = .ok (.getfield 19, 3) := by decide +kernel
theorem dX2_go_9 : decode cX2_go 9 = .ok (.iload_n 3, 1) := by decide +kernel
theorem dX2_go_10 : decode cX2_go 10 = .ok (.bipush 9, 2) := by decide +kernel
theorem dX2_go_12 : decode cX2_go 12 = .ok (.imul, 1) := by decide +kernel
theorem dX2_go_13 : decode cX2_go 13 = .ok (.aload 4, 2) := by decide +kernel
theorem dX2_go_15 : decode cX2_go 15 = .ok (.aload_n 0, 1) := by decide +kernel
theorem dX2_go_16 : decode cX2_go 16 = .ok (.getfield 15, 3) := by decide +kernel
theorem dX2_go_19 : decode cX2_go 19 = .ok (.getfield 25, 3) := by decide +kernel
theorem dX2_go_22 : decode cX2_go 22 = .ok (.invokestatic 28, 3) := by decide +kernel
theorem dX2_go_25 : decode cX2_go 25 = .ok (.aload_n 0, 1) := by decide +kernel
theorem dX2_go_26 : decode cX2_go 26 = .ok (.getfield 9, 3) := by decide +kernel
theorem dX2_go_29 : decode cX2_go 29 = .ok (.ifCond .le 21, 3) := by decide +kernel
theorem dX2_go_32 : decode cX2_go 32 = .ok (.aload 4, 2) := by decide +kernel
theorem dX2_go_34 : decode cX2_go 34 = .ok (.aload_n 0, 1) := by decide +kernel
theorem dX2_go_35 : decode cX2_go 35 = .ok (.getfield 15, 3) := by decide +kernel
theorem dX2_go_38 : decode cX2_go 38 = .ok (.invokevirtual 34, 3) := by decide +kernel
theorem dX2_go_41 : decode cX2_go 41 = .ok (.aload_n 0, 1) := by decide +kernel
theorem dX2_go_42 : decode cX2_go 42 = .ok (.getfield 9, 3) := by decide +kernel
theorem dX2_go_45 : decode cX2_go 45 = .ok (.invokestatic 38, 3) := by decide +kernel
theorem dX2_go_48 : decode cX2_go 48 = .ok (.iconst 1, 1) := by decide +kernel
theorem dX2_go_49 : decode cX2_go 49 = .ok (.ireturn, 1) := by decide +kernel
theorem dX2_go_50 : decode cX2_go 50 = .ok (.aload 4, 2) := by decide +kernel
theorem dX2_go_52 : decode cX2_go 52 = .ok (.aload_n 0, 1) := by decide +kernel
theorem dX2_go_53 : decode cX2_go 53 = .ok (.getfield 15, 3) := by decide +kernel
theorem dX2_go_56 : decode cX2_go 56 = .ok (.invokevirtual 34, 3) := by decide +kernel
theorem dX2_go_59 : decode cX2_go 59 = .ok (.ldc2_w 42, 3) := by decide +kernel
theorem dX2_go_62 : decode cX2_go 62 = .ok (.invokestatic 44, 3) := by decide +kernel
theorem dX2_go_65 : decode cX2_go 65 = .ok (.ireturn, 1) := by decide +kernel
theorem dX2_init_0 : decode cX2_init 0 = .ok (.aload_n 0, 1) := by decide +kernel
theorem dX2_init_1 : decode cX2_init 1 = .ok (.invokespecial 3, 3) := by decide +kernel
theorem dX2_init_4 : decode cX2_init 4 = .ok (.aload_n 0, 1) := by decide +kernel
theorem dX2_init_5 : decode cX2_init 5 = .ok (.iconst 0, 1) := by decide +kernel
theorem dX2_init_6 : decode cX2_init 6 = .ok (.putfield 9, 3) := by decide +kernel
theorem dX2_init_9 : decode cX2_init 9 = .ok (.aload_n 0, 1) := by decide +kernel
theorem dX2_init_10 : decode cX2_init 10 = .ok (.aload_n 1, 1) := by decide +kernel
theorem dX2_init_11 : decode cX2_init 11 = .ok (.putfield 15, 3) := by decide +kernel
theorem dX2_init_14 : decode cX2_init 14 = .ok (.return_, 1) := by decide +kernel
theorem dX3_characterOf_0 : decode cX3_characterOf 0 = .ok (.iconst 4, 1) := by decide +kernel
theorem dX3_characterOf_1 : decode cX3_characterOf 1 = .ok (.newarray .long, 2) := by decide +kernel
theorem dX3_characterOf_3 : decode cX3_characterOf 3 = .ok (.astore_n 3, 1) := by decide +kernel
theorem dX3_characterOf_4 : decode cX3_characterOf 4 = .ok (.aload_n 0, 1) := by decide +kernel
theorem dX3_characterOf_5 : decode cX3_characterOf 5 = .ok (.iload_n 1, 1) := by decide +kernel
theorem dX3_characterOf_6 : decode cX3_characterOf 6 = .ok (.iload_n 2, 1) := by decide +kernel
theorem dX3_characterOf_7 : decode cX3_characterOf 7 = .ok (.iload_n 2, 1) := by decide +kernel
theorem dX3_characterOf_8 : decode cX3_characterOf 8 = .ok (.invokestatic 15, 3) := by decide +kernel
theorem dX3_characterOf_11 : decode cX3_characterOf 11 = .ok (.lstore 4, 2) := by decide +kernel
theorem dX3_characterOf_13 : decode cX3_characterOf 13 = .ok (.aload_n 3, 1) := by decide +kernel
theorem dX3_characterOf_14 : decode cX3_characterOf 14 = .ok (.iconst 0, 1) := by decide +kernel
theorem dX3_characterOf_15 : decode cX3_characterOf 15 = .ok (.iload_n 2, 1) := by decide +kernel
theorem dX3_characterOf_16 : decode cX3_characterOf 16 = .ok (.iconst 2, 1) := by decide +kernel
theorem dX3_characterOf_17 : decode cX3_characterOf 17 = .ok (.if_icmp .ne 8, 3) := by decide +kernel
theorem dX3_characterOf_20 : decode cX3_characterOf 20 = .ok (.lload 4, 2) := by decide +kernel
theorem dX3_characterOf_22 : decode cX3_characterOf 22 = .ok (.goto 6, 3) := by decide +kernel
theorem dX3_characterOf_25 : decode cX3_characterOf 25 = .ok (.lload 4, 2) := by decide +kernel
theorem dX3_characterOf_27 : decode cX3_characterOf 27 = .ok (.lneg, 1) := by decide +kernel
theorem dX3_characterOf_28 : decode cX3_characterOf 28 = .ok (.lastore, 1) := by decide +kernel
theorem dX3_characterOf_29 : decode cX3_characterOf 29 = .ok (.iload_n 2, 1) := by decide +kernel
theorem dX3_characterOf_30 : decode cX3_characterOf 30 = .ok (.iconst 3, 1) := by decide +kernel
theorem dX3_characterOf_31 : decode cX3_characterOf 31 = .ok (.if_icmp .ne 34, 3) := by decide +kernel
theorem dX3_characterOf_34 : decode cX3_characterOf 34 = .ok (.iconst 0, 1) := by decide +kernel
theorem dX3_characterOf_35 : decode cX3_characterOf 35 = .ok (.istore 6, 2) := by decide +kernel
theorem dX3_characterOf_37 : decode cX3_characterOf 37 = .ok (.iload 6, 2) := by decide +kernel
theorem dX3_characterOf_39 : decode cX3_characterOf 39 = .ok (.iconst 3, 1) := by decide +kernel
theorem dX3_characterOf_40 : decode cX3_characterOf 40 = .ok (.if_icmp .ge 25, 3) := by decide +kernel
theorem dX3_characterOf_43 : decode cX3_characterOf 43 = .ok (.aload_n 3, 1) := by decide +kernel
theorem dX3_characterOf_44 : decode cX3_characterOf 44 = .ok (.iconst 1, 1) := by decide +kernel
theorem dX3_characterOf_45 : decode cX3_characterOf 45 = .ok (.dup2, 1) := by decide +kernel
theorem dX3_characterOf_46 : decode cX3_characterOf 46 = .ok (.laload, 1) := by decide +kernel
theorem dX3_characterOf_47 : decode cX3_characterOf 47 = .ok (.aload_n 0, 1) := by decide +kernel
theorem dX3_characterOf_48 : decode cX3_characterOf 48 = .ok (.iload_n 1, 1) := by decide +kernel
theorem dX3_characterOf_49 : decode cX3_characterOf 49 = .ok (.iconst 3, 1) := by decide +kernel
theorem dX3_characterOf_50 : decode cX3_characterOf 50 = .ok (.iload 6, 2) := by decide +kernel
theorem dX3_characterOf_52 : decode cX3_characterOf 52 = .ok (.iload 6, 2) := by decide +kernel
theorem dX3_characterOf_54 : decode cX3_characterOf 54 = .ok (.invokestatic 21, 3) := by decide +kernel
theorem dX3_characterOf_57 : decode cX3_characterOf 57 = .ok (.ladd, 1) := by decide +kernel
theorem dX3_characterOf_58 : decode cX3_characterOf 58 = .ok (.lastore, 1) := by decide +kernel
theorem dX3_characterOf_59 : decode cX3_characterOf 59 = .ok (.iinc 6 1, 3) := by decide +kernel
theorem dX3_characterOf_62 : decode cX3_characterOf 62 = .ok (.goto (-25), 3) := by decide +kernel
theorem dX3_characterOf_65 : decode cX3_characterOf 65 = .ok (.iload_n 2, 1) := by decide +kernel
theorem dX3_characterOf_66 : decode cX3_characterOf 66 = .ok (.iconst 1, 1) := by decide +kernel
theorem dX3_characterOf_67 : decode cX3_characterOf 67 = .ok (.if_icmp .le 15, 3) := by decide +kernel
theorem dX3_characterOf_70 : decode cX3_characterOf 70 = .ok (.aload_n 3, 1) := by decide +kernel
theorem dX3_characterOf_71 : decode cX3_characterOf 71 = .ok (.iload_n 2, 1) := by decide +kernel
theorem dX3_characterOf_72 : decode cX3_characterOf 72 = .ok (.iconst 1, 1) := by decide +kernel
theorem dX3_characterOf_73 : decode cX3_characterOf 73 = .ok (.isub, 1) := by decide +kernel
theorem dX3_characterOf_74 : decode cX3_characterOf 74 = .ok (.aload_n 0, 1) := by decide +kernel
theorem dX3_characterOf_75 : decode cX3_characterOf 75 = .ok (.iload_n 1, 1) := by decide +kernel
theorem dX3_characterOf_76 : decode cX3_characterOf 76 = .ok (.iload_n 2, 1) := by decide +kernel
theorem dX3_characterOf_77 : decode cX3_characterOf 77 = .ok (.invokestatic 25, 3) := by decide +kernel
theorem dX3_characterOf_80 : decode cX3_characterOf 80 = .ok (.lneg, 1) := by decide +kernel
theorem dX3_characterOf_81 : decode cX3_characterOf 81 = .ok (.lastore, 1) := by decide +kernel
theorem dX3_characterOf_82 : decode cX3_characterOf 82 = .ok (.aload_n 3, 1) := by decide +kernel
theorem dX3_characterOf_83 : decode cX3_characterOf 83 = .ok (.iload_n 2, 1) := by decide +kernel
theorem dX3_characterOf_84 : decode cX3_characterOf 84 = .ok (.lconst 1, 1) := by decide +kernel
theorem dX3_characterOf_85 : decode cX3_characterOf 85 = .ok (.lastore, 1) := by decide +kernel
theorem dX3_characterOf_86 : decode cX3_characterOf 86 = .ok (.aload_n 3, 1) := by decide +kernel
theorem dX3_characterOf_87 : decode cX3_characterOf 87 = .ok (.areturn, 1) := by decide +kernel
theorem dX3_howOften_0 : decode cX3_howOften 0 = .ok (.iconst 0, 1) := by decide +kernel
theorem dX3_howOften_1 : decode cX3_howOften 1 = .ok (.istore_n 3, 1) := by decide +kernel
theorem dX3_howOften_2 : decode cX3_howOften 2 = .ok (.iload_n 1, 1) := by decide +kernel
theorem dX3_howOften_3 : decode cX3_howOften 3 = .ok (.istore 4, 2) := by decide +kernel
theorem dX3_howOften_5 : decode cX3_howOften 5 = .ok (.iload_n 3, 1) := by decide +kernel
theorem dX3_howOften_6 : decode cX3_howOften 6 = .ok (.iload_n 1, 1) := by decide +kernel
theorem dX3_howOften_7 : decode cX3_howOften 7 = .ok (.if_icmp .ge 29, 3) := by decide +kernel
theorem dX3_howOften_10 : decode cX3_howOften 10 = .ok (.aload_n 0, 1) := by decide +kernel
theorem dX3_howOften_11 : decode cX3_howOften 11 = .ok (.iload 4, 2) := by decide +kernel
theorem dX3_howOften_13 : decode cX3_howOften 13 = .ok (.iload_n 2, 1) := by decide +kernel
theorem dX3_howOften_14 : decode cX3_howOften 14 = .ok (.invokestatic 29, 3) := by decide +kernel
theorem dX3_howOften_17 : decode cX3_howOften 17 = .ok (.ifCond .eq 19, 3) := by decide +kernel
theorem dX3_howOften_20 : decode cX3_howOften 20 = .ok (.iload 4, 2) := by decide +kernel
theorem dX3_howOften_22 : decode cX3_howOften 22 = .ok (.getstatic 9, 3) := by decide +kernel
theorem dX3_howOften_25 : decode cX3_howOften 25 = .ok (.iload_n 2, 1) := by decide +kernel
theorem dX3_howOften_26 : decode cX3_howOften 26 = .ok (.iaload, 1) := by decide +kernel
theorem dX3_howOften_27 : decode cX3_howOften 27 = .ok (.isub, 1) := by decide +kernel
theorem dX3_howOften_28 : decode cX3_howOften 28 = .ok (.istore 4, 2) := by decide +kernel
theorem dX3_howOften_30 : decode cX3_howOften 30 = .ok (.iinc 3 1, 3) := by decide +kernel
theorem dX3_howOften_33 : decode cX3_howOften 33 = .ok (.goto (-28), 3) := by decide +kernel
theorem dX3_howOften_36 : decode cX3_howOften 36 = .ok (.iload_n 3, 1) := by decide +kernel
theorem dX3_howOften_37 : decode cX3_howOften 37 = .ok (.ireturn, 1) := by decide +kernel
theorem dX3_isFactor_0 : decode cX3_isFactor 0 = .ok (.iload_n 0, 1) := by decide +kernel
theorem dX3_isFactor_1 : decode cX3_isFactor 1 = .ok (.ifCond .lt 23, 3) := by decide +kernel
theorem dX3_isFactor_4 : decode cX3_isFactor 4 = .ok (.iload_n 0, 1) := by decide +kernel
theorem dX3_isFactor_5 : decode cX3_isFactor 5 = .ok (.getstatic 9, 3) := by decide +kernel
theorem dX3_isFactor_8 : decode cX3_isFactor 8 = .ok (.arraylength, 1) := by decide +kernel
theorem dX3_isFactor_9 : decode cX3_isFactor 9 = .ok (.if_icmp .ge 15, 3) := by decide +kernel
theorem dX3_isFactor_12 : decode cX3_isFactor 12 = .ok (.getstatic 9, 3) := by decide +kernel
theorem dX3_isFactor_15 : decode cX3_isFactor 15 = .ok (.iload_n 0, 1) := by decide +kernel
theorem dX3_isFactor_16 : decode cX3_isFactor 16 = .ok (.iaload, 1) := by decide +kernel
theorem dX3_isFactor_17 : decode cX3_isFactor 17 = .ok (.ifCond .le 7, 3) := by decide +kernel
theorem dX3_isFactor_20 : decode cX3_isFactor 20 = .ok (.iconst 1, 1) := by decide +kernel
theorem dX3_isFactor_21 : decode cX3_isFactor 21 = .ok (.goto 4, 3) := by decide +kernel
theorem dX3_isFactor_24 : decode cX3_isFactor 24 = .ok (.iconst 0, 1) := by decide +kernel
theorem dX3_isFactor_25 : decode cX3_isFactor 25 = .ok (.ireturn, 1) := by decide +kernel
theorem dX3_takeOut_0 : decode cX3_takeOut 0 = .ok (.getstatic 9, 3) := by decide +kernel
theorem dX3_takeOut_3 : decode cX3_takeOut 3 = .ok (.iload_n 2, 1) := by decide +kernel
theorem dX3_takeOut_4 : decode cX3_takeOut 4 = .ok (.iaload, 1) := by decide +kernel
theorem dX3_takeOut_5 : decode cX3_takeOut 5 = .ok (.istore_n 3, 1) := by decide +kernel
theorem dX3_takeOut_6 : decode cX3_takeOut 6 = .ok (.iload_n 1, 1) := by decide +kernel
theorem dX3_takeOut_7 : decode cX3_takeOut 7 = .ok (.iload_n 3, 1) := by decide +kernel
theorem dX3_takeOut_8 : decode cX3_takeOut 8 = .ok (.if_icmp .ge 5, 3) := by decide +kernel
theorem dX3_takeOut_11 : decode cX3_takeOut 11 = .ok (.iconst 0, 1) := by decide +kernel
theorem dX3_takeOut_12 : decode cX3_takeOut 12 = .ok (.ireturn, 1) := by decide +kernel
theorem dX3_takeOut_13 : decode cX3_takeOut 13 = .ok (.iload_n 1, 1) := by decide +kernel
theorem dX3_takeOut_14 : decode cX3_takeOut 14 = .ok (.istore 4, 2) := by decide +kernel
theorem dX3_takeOut_16 : decode cX3_takeOut 16 = .ok (.iload 4, 2) := by decide +kernel
theorem dX3_takeOut_18 : decode cX3_takeOut 18 = .ok (.iload_n 3, 1) := by decide +kernel
theorem dX3_takeOut_19 : decode cX3_takeOut 19 = .ok (.if_icmp .lt 54, 3) := by decide +kernel
theorem dX3_takeOut_22 : decode cX3_takeOut 22 = .ok (.aload_n 0, 1) := by decide +kernel
theorem dX3_takeOut_23 : decode cX3_takeOut 23 = .ok (.iload 4, 2) := by decide +kernel
theorem dX3_takeOut_25 : decode cX3_takeOut 25 = .ok (.iload_n 3, 1) := by decide +kernel
theorem dX3_takeOut_26 : decode cX3_takeOut 26 = .ok (.isub, 1) := by decide +kernel
theorem dX3_takeOut_27 : decode cX3_takeOut 27 = .ok (.dup2, 1) := by decide +kernel
theorem dX3_takeOut_28 : decode cX3_takeOut 28 = .ok (.laload, 1) := by decide +kernel
theorem dX3_takeOut_29 : decode cX3_takeOut 29 = .ok (.aload_n 0, 1) := by decide +kernel
theorem dX3_takeOut_30 : decode cX3_takeOut 30 = .ok (.iload 4, 2) := by decide +kernel
theorem dX3_takeOut_32 : decode cX3_takeOut 32 = .ok (.laload, 1) := by decide +kernel
theorem dX3_takeOut_33 : decode cX3_takeOut 33 = .ok (.getstatic 33, 3) := by decide +kernel
theorem dX3_takeOut_36 : decode cX3_takeOut 36 = .ok (.iload_n 2, 1) := by decide +kernel
theorem dX3_takeOut_37 : decode cX3_takeOut 37 = .ok (.iaload, 1) := by decide +kernel
theorem dX3_takeOut_38 : decode cX3_takeOut 38 = .ok (.i2l, 1) := by decide +kernel
theorem dX3_takeOut_39 : decode cX3_takeOut 39 = .ok (.lmul, 1) := by decide +kernel
theorem dX3_takeOut_40 : decode cX3_takeOut 40 = .ok (.lsub, 1) := by decide +kernel
theorem dX3_takeOut_41 : decode cX3_takeOut 41 = .ok (.lastore, 1) := by decide +kernel
theorem dX3_takeOut_42 : decode cX3_takeOut 42 = .ok (.iload_n 3, 1) := by decide +kernel
theorem dX3_takeOut_43 : decode cX3_takeOut 43 = .ok (.iconst 2, 1) := by decide +kernel
theorem dX3_takeOut_44 : decode cX3_takeOut 44 = .ok (.if_icmp .ne 23, 3) := by decide +kernel
theorem dX3_takeOut_47 : decode cX3_takeOut 47 = .ok (.aload_n 0, 1) := by decide +kernel
theorem dX3_takeOut_48 : decode cX3_takeOut 48 = .ok (.iload 4, 2) := by decide +kernel
theorem dX3_takeOut_50 : decode cX3_takeOut 50 = .ok (.iconst 1, 1) := by decide +kernel
theorem dX3_takeOut_51 : decode cX3_takeOut 51 = .ok (.isub, 1) := by decide +kernel
theorem dX3_takeOut_52 : decode cX3_takeOut 52 = .ok (.dup2, 1) := by decide +kernel
theorem dX3_takeOut_53 : decode cX3_takeOut 53 = .ok (.laload, 1) := by decide +kernel
theorem dX3_takeOut_54 : decode cX3_takeOut 54 = .ok (.aload_n 0, 1) := by decide +kernel
theorem dX3_takeOut_55 : decode cX3_takeOut 55 = .ok (.iload 4, 2) := by decide +kernel
theorem dX3_takeOut_57 : decode cX3_takeOut 57 = .ok (.laload, 1) := by decide +kernel
theorem dX3_takeOut_58 : decode cX3_takeOut 58 = .ok (.getstatic 36, 3) := by decide +kernel
theorem dX3_takeOut_61 : decode cX3_takeOut 61 = .ok (.iload_n 2, 1) := by decide +kernel
theorem dX3_takeOut_62 : decode cX3_takeOut 62 = .ok (.iaload, 1) := by decide +kernel
theorem dX3_takeOut_63 : decode cX3_takeOut 63 = .ok (.i2l, 1) := by decide +kernel
theorem dX3_takeOut_64 : decode cX3_takeOut 64 = .ok (.lmul, 1) := by decide +kernel
theorem dX3_takeOut_65 : decode cX3_takeOut 65 = .ok (.lsub, 1) := by decide +kernel
theorem dX3_takeOut_66 : decode cX3_takeOut 66 = .ok (.lastore, 1) := by decide +kernel
theorem dX3_takeOut_67 : decode cX3_takeOut 67 = .ok (.iinc 4 (-1), 3) := by decide +kernel
theorem dX3_takeOut_70 : decode cX3_takeOut 70 = .ok (.goto (-54), 3) := by decide +kernel
theorem dX3_takeOut_73 : decode cX3_takeOut 73 = .ok (.iconst 0, 1) := by decide +kernel
theorem dX3_takeOut_74 : decode cX3_takeOut 74 = .ok (.istore 4, 2) := by decide +kernel
theorem dX3_takeOut_76 : decode cX3_takeOut 76 = .ok (.iload 4, 2) := by decide +kernel
theorem dX3_takeOut_78 : decode cX3_takeOut 78 = .ok (.iload_n 3, 1) := by decide +kernel
theorem dX3_takeOut_79 : decode cX3_takeOut 79 = .ok (.if_icmp .ge 20, 3) := by decide +kernel
theorem dX3_takeOut_82 : decode cX3_takeOut 82 = .ok (.aload_n 0, 1) := by decide +kernel
theorem dX3_takeOut_83 : decode cX3_takeOut 83 = .ok (.iload 4, 2) := by decide +kernel
theorem dX3_takeOut_85 : decode cX3_takeOut 85 = .ok (.laload, 1) := by decide +kernel
theorem dX3_takeOut_86 : decode cX3_takeOut 86 = .ok (.lconst 0, 1) := by decide +kernel
theorem dX3_takeOut_87 : decode cX3_takeOut 87 = .ok (.lcmp, 1) := by decide +kernel
theorem dX3_takeOut_88 : decode cX3_takeOut 88 = .ok (.ifCond .eq 5, 3) := by decide +kernel
theorem dX3_takeOut_91 : decode cX3_takeOut 91 = .ok (.iconst 0, 1) := by decide +kernel
theorem dX3_takeOut_92 : decode cX3_takeOut 92 = .ok (.ireturn, 1) := by decide +kernel
theorem dX3_takeOut_93 : decode cX3_takeOut 93 = .ok (.iinc 4 1, 3) := by decide +kernel
theorem dX3_takeOut_96 : decode cX3_takeOut 96 = .ok (.goto (-20), 3) := by decide +kernel
theorem dX3_takeOut_99 : decode cX3_takeOut 99 = .ok (.iload_n 3, 1) := by decide +kernel
theorem dX3_takeOut_100 : decode cX3_takeOut 100 = .ok (.istore 4, 2) := by decide +kernel
theorem dX3_takeOut_102 : decode cX3_takeOut 102 = .ok (.iload 4, 2) := by decide +kernel
theorem dX3_takeOut_104 : decode cX3_takeOut 104 = .ok (.iload_n 1, 1) := by decide +kernel
theorem dX3_takeOut_105 : decode cX3_takeOut 105 = .ok (.if_icmp .gt 19, 3) := by decide +kernel
theorem dX3_takeOut_108 : decode cX3_takeOut 108 = .ok (.aload_n 0, 1) := by decide +kernel
theorem dX3_takeOut_109 : decode cX3_takeOut 109 = .ok (.iload 4, 2) := by decide +kernel
theorem dX3_takeOut_111 : decode cX3_takeOut 111 = .ok (.iload_n 3, 1) := by decide +kernel
theorem dX3_takeOut_112 : decode cX3_takeOut 112 = .ok (.isub, 1) := by decide +kernel
theorem dX3_takeOut_113 : decode cX3_takeOut 113 = .ok (.aload_n 0, 1) := by decide +kernel
theorem dX3_takeOut_114 : decode cX3_takeOut 114 = .ok (.iload 4, 2) := by decide +kernel
theorem dX3_takeOut_116 : decode cX3_takeOut 116 = .ok (.laload, 1) := by decide +kernel
theorem dX3_takeOut_117 : decode cX3_takeOut 117 = .ok (.lastore, 1) := by decide +kernel
theorem dX3_takeOut_118 : decode cX3_takeOut 118 = .ok (.iinc 4 1, 3) := by decide +kernel
theorem dX3_takeOut_121 : decode cX3_takeOut 121 = .ok (.goto (-19), 3) := by decide +kernel
theorem dX3_takeOut_124 : decode cX3_takeOut 124 = .ok (.iconst 1, 1) := by decide +kernel
theorem dX3_takeOut_125 : decode cX3_takeOut 125 = .ok (.ireturn, 1) := by decide +kernel
theorem dX4_append_0 : decode cX4_append 0 = .ok (.aload_n 0, 1) := by decide +kernel
theorem dX4_append_1 : decode cX4_append 1 = .ok (.getfield 22, 3) := by decide +kernel
theorem dX4_append_4 : decode cX4_append 4 = .ok (.aload_n 0, 1) := by decide +kernel
theorem dX4_append_5 : decode cX4_append 5 = .ok (.getfield 19, 3) := by decide +kernel
theorem dX4_append_8 : decode cX4_append 8 = .ok (.if_icmp .lt 5, 3) := by decide +kernel
theorem dX4_append_11 : decode cX4_append 11 = .ok (.iconst (-1), 1) := by decide +kernel
theorem dX4_append_12 : decode cX4_append 12 = .ok (.ireturn, 1) := by decide +kernel
theorem dX4_append_13 : decode cX4_append 13 = .ok (.aload_n 0, 1) := by decide +kernel
theorem dX4_append_14 : decode cX4_append 14 = .ok (.getfield 22, 3) := by decide +kernel
theorem dX4_append_17 : decode cX4_append 17 = .ok (.istore 4, 2) := by decide +kernel
theorem dX4_append_19 : decode cX4_append 19 = .ok (.aload_n 1, 1) := by decide +kernel
theorem dX4_append_20 : decode cX4_append 20 = .ok (.iconst 0, 1) := by decide +kernel
theorem dX4_append_21 : decode cX4_append 21 = .ok (.aload_n 0, 1) := by decide +kernel
theorem dX4_append_22 : decode cX4_append 22 = .ok (.getfield 29, 3) := by decide +kernel
theorem dX4_append_25 : decode cX4_append 25 = .ok (.aload_n 0, 1) := by decide +kernel
theorem dX4_append_26 : decode cX4_append 26 = .ok (.iload 4, 2) := by decide +kernel
theorem dX4_append_28 : decode cX4_append 28 = .ok (.invokevirtual 65, 3) := by decide +kernel
theorem dX4_append_31 : decode cX4_append 31 = .ok (.aload_n 0, 1) := by decide +kernel
theorem dX4_append_32 : decode cX4_append 32 = .ok (.getfield 15, 3) := by decide +kernel
theorem dX4_append_35 : decode cX4_append 35 = .ok (.invokestatic 69, 3) := by decide +kernel
theorem dX4_append_38 : decode cX4_append 38 = .ok (.aload_n 0, 1) := by decide +kernel
theorem dX4_append_39 : decode cX4_append 39 = .ok (.getfield 32, 3) := by decide +kernel
theorem dX4_append_42 : decode cX4_append 42 = .ok (.iload 4, 2) := by decide +kernel
theorem dX4_append_44 : decode cX4_append 44 = .ok (.iload_n 2, 1) := by decide +kernel
theorem dX4_append_45 : decode cX4_append 45 = .ok (.iastore, 1) := by decide +kernel
theorem dX4_append_46 : decode cX4_append 46 = .ok (.aload_n 0, 1) := by decide +kernel
theorem dX4_append_47 : decode cX4_append 47 = .ok (.getfield 36, 3) := by decide +kernel
theorem dX4_append_50 : decode cX4_append 50 = .ok (.iload 4, 2) := by decide +kernel
theorem dX4_append_52 : decode cX4_append 52 = .ok (.iload_n 3, 1) := by decide +kernel
theorem dX4_append_53 : decode cX4_append 53 = .ok (.iastore, 1) := by decide +kernel
theorem dX4_append_54 : decode cX4_append 54 = .ok (.aload_n 0, 1) := by decide +kernel
theorem dX4_append_55 : decode cX4_append 55 = .ok (.getfield 39, 3) := by decide +kernel
theorem dX4_append_58 : decode cX4_append 58 = .ok (.iload 4, 2) := by decide +kernel
theorem dX4_append_60 : decode cX4_append 60 = .ok (.aload_n 0, 1) := by decide +kernel
theorem dX4_append_61 : decode cX4_append 61 = .ok (.iload_n 2, 1) := by decide +kernel
theorem dX4_append_62 : decode cX4_append 62 = .ok (.invokevirtual 75, 3) := by decide +kernel
theorem dX4_append_65 : decode cX4_append 65 = .ok (.ifCond .eq 14, 3) := by decide +kernel
theorem dX4_append_68 : decode cX4_append 68 = .ok (.aload_n 0, 1) := by decide +kernel
theorem dX4_append_69 : decode cX4_append 69 = .ok (.getfield 39, 3) := by decide +kernel
theorem dX4_append_72 : decode cX4_append 72 = .ok (.iload_n 2, 1) := by decide +kernel
theorem dX4_append_73 : decode cX4_append 73 = .ok (.iaload, 1) := by decide +kernel
theorem dX4_append_74 : decode cX4_append 74 = .ok (.iconst 1, 1) := by decide +kernel
theorem dX4_append_75 : decode cX4_append 75 = .ok (.iadd, 1) := by decide +kernel
theorem dX4_append_76 : decode cX4_append 76 = .ok (.goto 4, 3) := by decide +kernel
theorem dX4_append_79 : decode cX4_append 79 = .ok (.iconst 0, 1) := by decide +kernel
theorem dX4_append_80 : decode cX4_append 80 = .ok (.iastore, 1) := by decide +kernel
theorem dX4_append_81 : decode cX4_append 81 = .ok (.aload_n 0, 1) := by decide +kernel
theorem dX4_append_82 : decode cX4_append 82 = .ok (.aload_n 1, 1) := by decide +kernel
theorem dX4_append_83 : decode cX4_append 83 = .ok (.invokevirtual 57, 3) := by decide +kernel
theorem dX4_append_86 : decode cX4_append 86 = .ok (.istore 5, 2) := by decide +kernel
theorem dX4_append_88 : decode cX4_append 88 = .ok (.aload_n 0, 1) := by decide +kernel
theorem dX4_append_89 : decode cX4_append 89 = .ok (.getfield 48, 3) := by decide +kernel
theorem dX4_append_92 : decode cX4_append 92 = .ok (.iload 4, 2) := by decide +kernel
theorem dX4_append_94 : decode cX4_append 94 = .ok (.aload_n 0, 1) := by decide +kernel
theorem dX4_append_95 : decode cX4_append 95 = .ok (.getfield 45, 3) := by decide +kernel
theorem dX4_append_98 : decode cX4_append 98 = .ok (.iload 5, 2) := by decide +kernel
theorem dX4_append_100 : decode cX4_append 100 = .ok (.iaload, 1) := by decide +kernel
theorem dX4_append_101 : decode cX4_append 101 = .ok (.iastore, 1) := by decide +kernel
theorem dX4_append_102 : decode cX4_append 102 = .ok (.aload_n 0, 1) := by decide +kernel
theorem dX4_append_103 : decode cX4_append 103 = .ok (.getfield 45, 3) := by decide +kernel
theorem dX4_append_106 : decode cX4_append 106 = .ok (.iload 5, 2) := by decide +kernel
theorem dX4_append_108 : decode cX4_append 108 = .ok (.iload 4, 2) := by decide +kernel
theorem dX4_append_110 : decode cX4_append 110 = .ok (.iastore, 1) := by decide +kernel
theorem dX4_append_111 : decode cX4_append 111 = .ok (.aload_n 0, 1) := by decide +kernel
theorem dX4_append_112 : decode cX4_append 112 = .ok (.dup, 1) := by decide +kernel
theorem dX4_append_113 : decode cX4_append 113 = .ok (.getfield 22, 3) := by decide +kernel
theorem dX4_append_116 : decode cX4_append 116 = .ok (.iconst 1, 1) := by decide +kernel
theorem dX4_append_117 : decode cX4_append 117 = .ok (.iadd, 1) := by decide +kernel
theorem dX4_append_118 : decode cX4_append 118 = .ok (.putfield 22, 3) := by decide +kernel
theorem dX4_append_121 : decode cX4_append 121 = .ok (.iload 4, 2) := by decide +kernel
theorem dX4_append_123 : decode cX4_append 123 = .ok (.ireturn, 1) := by decide +kernel
theorem dX4_clear_0 : decode cX4_clear 0 = .ok (.aload_n 0, 1) := by decide +kernel
theorem dX4_clear_1 : decode cX4_clear 1 = .ok (.iload_n 1, 1) := by decide +kernel
theorem dX4_clear_2 : decode cX4_clear 2 = .ok (.putfield 15, 3) := by decide +kernel
theorem dX4_clear_5 : decode cX4_clear 5 = .ok (.aload_n 0, 1) := by decide +kernel
theorem dX4_clear_6 : decode cX4_clear 6 = .ok (.iload_n 2, 1) := by decide +kernel
theorem dX4_clear_7 : decode cX4_clear 7 = .ok (.putfield 19, 3) := by decide +kernel
theorem dX4_clear_10 : decode cX4_clear 10 = .ok (.aload_n 0, 1) := by decide +kernel
theorem dX4_clear_11 : decode cX4_clear 11 = .ok (.iconst 0, 1) := by decide +kernel
theorem dX4_clear_12 : decode cX4_clear 12 = .ok (.putfield 22, 3) := by decide +kernel
theorem dX4_clear_15 : decode cX4_clear 15 = .ok (.aload_n 0, 1) := by decide +kernel
theorem dX4_clear_16 : decode cX4_clear 16 = .ok (.iconst 0, 1) := by decide +kernel
theorem dX4_clear_17 : decode cX4_clear 17 = .ok (.putfield 25, 3) := by decide +kernel
theorem dX4_clear_20 : decode cX4_clear 20 = .ok (.aload_n 0, 1) := by decide +kernel
theorem dX4_clear_21 : decode cX4_clear 21 = .ok (.getfield 45, 3) := by decide +kernel
theorem dX4_clear_24 : decode cX4_clear 24 = .ok (.iconst (-1), 1) := by decide +kernel
theorem dX4_clear_25 : decode cX4_clear 25 = .ok (.invokestatic 51, 3) := by decide +kernel
theorem dX4_clear_28 : decode cX4_clear 28 = .ok (.return_, 1) := by decide +kernel
theorem dX4_has_0 : decode cX4_has 0 = .ok (.iload_n 1, 1) := by decide +kernel
theorem dX4_has_1 : decode cX4_has 1 = .ok (.ifCond .lt 15, 3) := by decide +kernel
theorem dX4_has_4 : decode cX4_has 4 = .ok (.iload_n 1, 1) := by decide +kernel
theorem dX4_has_5 : decode cX4_has 5 = .ok (.aload_n 0, 1) := by decide +kernel
theorem dX4_has_6 : decode cX4_has 6 = .ok (.getfield 22, 3) := by decide +kernel
theorem dX4_has_9 : decode cX4_has 9 = .ok (.if_icmp .ge 7, 3) := by decide +kernel
theorem dX4_has_12 : decode cX4_has 12 = .ok (.iconst 1, 1) := by decide +kernel
theorem dX4_has_13 : decode cX4_has 13 = .ok (.goto 4, 3) := by decide +kernel
theorem dX4_has_16 : decode cX4_has 16 = .ok (.iconst 0, 1) := by decide +kernel
theorem dX4_has_17 : decode cX4_has 17 = .ok (.ireturn, 1) := by decide +kernel
theorem dX4_init_0 : decode cX4_init 0 = .ok (.aload_n 0, 1) := by decide +kernel
theorem dX4_init_1 : decode cX4_init 1 = .ok (.invokespecial 3, 3) := by decide +kernel
theorem dX4_init_4 : decode cX4_init 4 = .ok (.aload_n 0, 1) := by decide +kernel
theorem dX4_init_5 : decode cX4_init 5 = .ok (.bipush 60, 2) := by decide +kernel
theorem dX4_init_7 : decode cX4_init 7 = .ok (.newarray .long, 2) := by decide +kernel
theorem dX4_init_9 : decode cX4_init 9 = .ok (.putfield 9, 3) := by decide +kernel
theorem dX4_init_12 : decode cX4_init 12 = .ok (.aload_n 0, 1) := by decide +kernel
theorem dX4_init_13 : decode cX4_init 13 = .ok (.iconst 0, 1) := by decide +kernel
theorem dX4_init_14 : decode cX4_init 14 = .ok (.putfield 15, 3) := by decide +kernel
theorem dX4_init_17 : decode cX4_init 17 = .ok (.aload_n 0, 1) := by decide +kernel
theorem dX4_init_18 : decode cX4_init 18 = .ok (.iconst 0, 1) := by decide +kernel
theorem dX4_init_19 : decode cX4_init 19 = .ok (.putfield 19, 3) := by decide +kernel
theorem dX4_init_22 : decode cX4_init 22 = .ok (.aload_n 0, 1) := by decide +kernel
theorem dX4_init_23 : decode cX4_init 23 = .ok (.iconst 0, 1) := by decide +kernel
theorem dX4_init_24 : decode cX4_init 24 = .ok (.putfield 22, 3) := by decide +kernel
theorem dX4_init_27 : decode cX4_init 27 = .ok (.aload_n 0, 1) := by decide +kernel
theorem dX4_init_28 : decode cX4_init 28 = .ok (.iconst 0, 1) := by decide +kernel
theorem dX4_init_29 : decode cX4_init 29 = .ok (.putfield 25, 3) := by decide +kernel
theorem dX4_init_32 : decode cX4_init 32 = .ok (.aload_n 0, 1) := by decide +kernel
theorem dX4_init_33 : decode cX4_init 33 = .ok (.iload_n 2, 1) := by decide +kernel
theorem dX4_init_34 : decode cX4_init 34 = .ok (.newarray .long, 2) := by decide +kernel
theorem dX4_init_36 : decode cX4_init 36 = .ok (.putfield 29, 3) := by decide +kernel
theorem dX4_init_39 : decode cX4_init 39 = .ok (.aload_n 0, 1) := by decide +kernel
theorem dX4_init_40 : decode cX4_init 40 = .ok (.iload_n 1, 1) := by decide +kernel
theorem dX4_init_41 : decode cX4_init 41 = .ok (.newarray .int, 2) := by decide +kernel
theorem dX4_init_43 : decode cX4_init 43 = .ok (.putfield 32, 3) := by decide +kernel
theorem dX4_init_46 : decode cX4_init 46 = .ok (.aload_n 0, 1) := by decide +kernel
theorem dX4_init_47 : decode cX4_init 47 = .ok (.iload_n 1, 1) := by decide +kernel
theorem dX4_init_48 : decode cX4_init 48 = .ok (.newarray .int, 2) := by decide +kernel
theorem dX4_init_50 : decode cX4_init 50 = .ok (.putfield 36, 3) := by decide +kernel
theorem dX4_init_53 : decode cX4_init 53 = .ok (.aload_n 0, 1) := by decide +kernel
theorem dX4_init_54 : decode cX4_init 54 = .ok (.iload_n 1, 1) := by decide +kernel
theorem dX4_init_55 : decode cX4_init 55 = .ok (.newarray .int, 2) := by decide +kernel
theorem dX4_init_57 : decode cX4_init 57 = .ok (.putfield 39, 3) := by decide +kernel
theorem dX4_init_60 : decode cX4_init 60 = .ok (.aload_n 0, 1) := by decide +kernel
theorem dX4_init_61 : decode cX4_init 61 = .ok (.iload_n 1, 1) := by decide +kernel
theorem dX4_init_62 : decode cX4_init 62 = .ok (.iconst 4, 1) := by decide +kernel
theorem dX4_init_63 : decode cX4_init 63 = .ok (.imul, 1) := by decide +kernel
theorem dX4_init_64 : decode cX4_init 64 = .ok (.newarray .int, 2) := by decide +kernel
theorem dX4_init_66 : decode cX4_init 66 = .ok (.putfield 42, 3) := by decide +kernel
theorem dX4_init_69 : decode cX4_init 69 = .ok (.aload_n 0, 1) := by decide +kernel
theorem dX4_init_70 : decode cX4_init 70 = .ok (.iload_n 3, 1) := by decide +kernel
theorem dX4_init_71 : decode cX4_init 71 = .ok (.newarray .int, 2) := by decide +kernel
theorem dX4_init_73 : decode cX4_init 73 = .ok (.putfield 45, 3) := by decide +kernel
theorem dX4_init_76 : decode cX4_init 76 = .ok (.aload_n 0, 1) := by decide +kernel
theorem dX4_init_77 : decode cX4_init 77 = .ok (.iload_n 1, 1) := by decide +kernel
theorem dX4_init_78 : decode cX4_init 78 = .ok (.newarray .int, 2) := by decide +kernel
theorem dX4_init_80 : decode cX4_init 80 = .ok (.putfield 48, 3) := by decide +kernel
theorem dX4_init_83 : decode cX4_init 83 = .ok (.return_, 1) := by decide +kernel
theorem dX4_isRow_0 : decode cX4_isRow 0 = .ok (.aload_n 0, 1) := by decide +kernel
theorem dX4_isRow_1 : decode cX4_isRow 1 = .ok (.iload_n 1, 1) := by decide +kernel
theorem dX4_isRow_2 : decode cX4_isRow 2 = .ok (.invokevirtual 65, 3) := by decide +kernel
theorem dX4_isRow_5 : decode cX4_isRow 5 = .ok (.istore_n 3, 1) := by decide +kernel
theorem dX4_isRow_6 : decode cX4_isRow 6 = .ok (.iconst 0, 1) := by decide +kernel
theorem dX4_isRow_7 : decode cX4_isRow 7 = .ok (.istore 4, 2) := by decide +kernel
theorem dX4_isRow_9 : decode cX4_isRow 9 = .ok (.iload 4, 2) := by decide +kernel
theorem dX4_isRow_11 : decode cX4_isRow 11 = .ok (.aload_n 0, 1) := by decide +kernel
theorem dX4_isRow_12 : decode cX4_isRow 12 = .ok (.getfield 15, 3) := by decide +kernel
theorem dX4_isRow_15 : decode cX4_isRow 15 = .ok (.if_icmp .ge 28, 3) := by decide +kernel
theorem dX4_isRow_18 : decode cX4_isRow 18 = .ok (.aload_n 0, 1) := by decide +kernel
theorem dX4_isRow_19 : decode cX4_isRow 19 = .ok (.getfield 29, 3) := by decide +kernel
theorem dX4_isRow_22 : decode cX4_isRow 22 = .ok (.iload_n 3, 1) := by decide +kernel
theorem dX4_isRow_23 : decode cX4_isRow 23 = .ok (.iload 4, 2) := by decide +kernel
theorem dX4_isRow_25 : decode cX4_isRow 25 = .ok (.iadd, 1) := by decide +kernel
theorem dX4_isRow_26 : decode cX4_isRow 26 = .ok (.laload, 1) := by decide +kernel
theorem dX4_isRow_27 : decode cX4_isRow 27 = .ok (.aload_n 2, 1) := by decide +kernel
theorem dX4_isRow_28 : decode cX4_isRow 28 = .ok (.iload 4, 2) := by decide +kernel
theorem dX4_isRow_30 : decode cX4_isRow 30 = .ok (.laload, 1) := by decide +kernel
theorem dX4_isRow_31 : decode cX4_isRow 31 = .ok (.lcmp, 1) := by decide +kernel
theorem dX4_isRow_32 : decode cX4_isRow 32 = .ok (.ifCond .eq 5, 3) := by decide +kernel
theorem dX4_isRow_35 : decode cX4_isRow 35 = .ok (.iconst 0, 1) := by decide +kernel
theorem dX4_isRow_36 : decode cX4_isRow 36 = .ok (.ireturn, 1) := by decide +kernel
theorem dX4_isRow_37 : decode cX4_isRow 37 = .ok (.iinc 4 1, 3) := by decide +kernel
theorem dX4_isRow_40 : decode cX4_isRow 40 = .ok (.goto (-31), 3) := by decide +kernel
theorem dX4_isRow_43 : decode cX4_isRow 43 = .ok (.iconst 1, 1) := by decide +kernel
theorem dX4_isRow_44 : decode cX4_isRow 44 = .ok (.ireturn, 1) := by decide +kernel
theorem dX4_lead_0 : decode cX4_lead 0 = .ok (.aload_n 1, 1) := by decide +kernel
theorem dX4_lead_1 : decode cX4_lead 1 = .ok (.aload_n 0, 1) := by decide +kernel
theorem dX4_lead_2 : decode cX4_lead 2 = .ok (.getfield 29, 3) := by decide +kernel
theorem dX4_lead_5 : decode cX4_lead 5 = .ok (.aload_n 0, 1) := by decide +kernel
theorem dX4_lead_6 : decode cX4_lead 6 = .ok (.iload_n 2, 1) := by decide +kernel
theorem dX4_lead_7 : decode cX4_lead 7 = .ok (.invokevirtual 65, 3) := by decide +kernel
theorem dX4_lead_10 : decode cX4_lead 10 = .ok (.iload_n 3, 1) := by decide +kernel
theorem dX4_lead_11 : decode cX4_lead 11 = .ok (.aload_n 0, 1) := by decide +kernel
theorem dX4_lead_12 : decode cX4_lead 12 = .ok (.getfield 9, 3) := by decide +kernel
theorem dX4_lead_15 : decode cX4_lead 15 = .ok (.invokevirtual 83, 3) := by decide +kernel
theorem dX4_lead_18 : decode cX4_lead 18 = .ok (.ifCond .ne 5, 3) := by decide +kernel
theorem dX4_lead_21 : decode cX4_lead 21 = .ok (.iconst (-1), 1) := by decide +kernel
theorem dX4_lead_22 : decode cX4_lead 22 = .ok (.ireturn, 1) := by decide +kernel
theorem dX4_lead_23 : decode cX4_lead 23 = .ok (.aload_n 0, 1) := by decide +kernel
theorem dX4_lead_24 : decode cX4_lead 24 = .ok (.aload_n 0, 1) := by decide +kernel
theorem dX4_lead_25 : decode cX4_lead 25 = .ok (.getfield 9, 3) := by decide +kernel
theorem dX4_lead_28 : decode cX4_lead 28 = .ok (.invokevirtual 89, 3) := by decide +kernel
theorem dX4_lead_31 : decode cX4_lead 31 = .ok (.istore 4, 2) := by decide +kernel
theorem dX4_lead_33 : decode cX4_lead 33 = .ok (.iload 4, 2) := by decide +kernel
theorem dX4_lead_35 : decode cX4_lead 35 = .ok (.ifCond .lt 8, 3) := by decide +kernel
theorem dX4_lead_38 : decode cX4_lead 38 = .ok (.iload 4, 2) := by decide +kernel
theorem dX4_lead_40 : decode cX4_lead 40 = .ok (.goto 13, 3) := by decide +kernel
theorem dX4_lead_43 : decode cX4_lead 43 = .ok (.aload_n 0, 1) := by decide +kernel
theorem dX4_lead_44 : decode cX4_lead 44 = .ok (.aload_n 0, 1) := by decide +kernel
theorem dX4_lead_45 : decode cX4_lead 45 = .ok (.getfield 9, 3) := by decide +kernel
theorem dX4_lead_48 : decode cX4_lead 48 = .ok (.iload_n 2, 1) := by decide +kernel
theorem dX4_lead_49 : decode cX4_lead 49 = .ok (.iload_n 3, 1) := by decide +kernel
theorem dX4_lead_50 : decode cX4_lead 50 = .ok (.invokevirtual 92, 3) := by decide +kernel
theorem dX4_lead_53 : decode cX4_lead 53 = .ok (.ireturn, 1) := by decide +kernel
theorem dX4_search_0 : decode cX4_search 0 = .ok (.aload_n 0, 1) := by decide +kernel
theorem dX4_search_1 : decode cX4_search 1 = .ok (.getfield 45, 3) := by decide +kernel
theorem dX4_search_4 : decode cX4_search 4 = .ok (.aload_n 0, 1) := by decide +kernel
theorem dX4_search_5 : decode cX4_search 5 = .ok (.aload_n 1, 1) := by decide +kernel
theorem dX4_search_6 : decode cX4_search 6 = .ok (.invokevirtual 57, 3) := by decide +kernel
theorem dX4_search_9 : decode cX4_search 9 = .ok (.iaload, 1) := by decide +kernel
theorem dX4_search_10 : decode cX4_search 10 = .ok (.istore_n 2, 1) := by decide +kernel
theorem dX4_search_11 : decode cX4_search 11 = .ok (.iconst 0, 1) := by decide +kernel
theorem dX4_search_12 : decode cX4_search 12 = .ok (.istore_n 3, 1) := by decide +kernel
theorem dX4_search_13 : decode cX4_search 13 = .ok (.iload_n 3, 1) := by decide +kernel
theorem dX4_search_14 : decode cX4_search 14 = .ok (.aload_n 0, 1) := by decide +kernel
theorem dX4_search_15 : decode cX4_search 15 = .ok (.getfield 22, 3) := by decide +kernel
theorem dX4_search_18 : decode cX4_search 18 = .ok (.if_icmp .ge 31, 3) := by decide +kernel
theorem dX4_search_21 : decode cX4_search 21 = .ok (.iload_n 2, 1) := by decide +kernel
theorem dX4_search_22 : decode cX4_search 22 = .ok (.ifCond .lt 27, 3) := by decide +kernel
theorem dX4_search_25 : decode cX4_search 25 = .ok (.aload_n 0, 1) := by decide +kernel
theorem dX4_search_26 : decode cX4_search 26 = .ok (.iload_n 2, 1) := by decide +kernel
theorem dX4_search_27 : decode cX4_search 27 = .ok (.aload_n 1, 1) := by decide +kernel
theorem dX4_search_28 : decode cX4_search 28 = .ok (.invokevirtual 61, 3) := by decide +kernel
theorem dX4_search_31 : decode cX4_search 31 = .ok (.ifCond .eq 5, 3) := by decide +kernel
theorem dX4_search_34 : decode cX4_search 34 = .ok (.iload_n 2, 1) := by decide +kernel
theorem dX4_search_35 : decode cX4_search 35 = .ok (.ireturn, 1) := by decide +kernel
theorem dX4_search_36 : decode cX4_search 36 = .ok (.aload_n 0, 1) := by decide +kernel
theorem dX4_search_37 : decode cX4_search 37 = .ok (.getfield 48, 3) := by decide +kernel
theorem dX4_search_40 : decode cX4_search 40 = .ok (.iload_n 2, 1) := by decide +kernel
theorem dX4_search_41 : decode cX4_search 41 = .ok (.iaload, 1) := by decide +kernel
theorem dX4_search_42 : decode cX4_search 42 = .ok (.istore_n 2, 1) := by decide +kernel
theorem dX4_search_43 : decode cX4_search 43 = .ok (.iinc 3 1, 3) := by decide +kernel
theorem dX4_search_46 : decode cX4_search 46 = .ok (.goto (-33), 3) := by decide +kernel
theorem dX4_search_49 : decode cX4_search 49 = .ok (.iconst (-1), 1) := by decide +kernel
theorem dX4_search_50 : decode cX4_search 50 = .ok (.ireturn, 1) := by decide +kernel
theorem dX4_slotOf_0 : decode cX4_slotOf 0 = .ok (.lconst 0, 1) := by decide +kernel
theorem dX4_slotOf_1 : decode cX4_slotOf 1 = .ok (.lstore_n 2, 1) := by decide +kernel
theorem dX4_slotOf_2 : decode cX4_slotOf 2 = .ok (.iconst 0, 1) := by decide +kernel
theorem dX4_slotOf_3 : decode cX4_slotOf 3 = .ok (.istore 4, 2) := by decide +kernel
theorem dX4_slotOf_5 : decode cX4_slotOf 5 = .ok (.iload 4, 2) := by decide +kernel
theorem dX4_slotOf_7 : decode cX4_slotOf 7 = .ok (.aload_n 0, 1) := by decide +kernel
theorem dX4_slotOf_8 : decode cX4_slotOf 8 = .ok (.getfield 15, 3) := by decide +kernel
theorem dX4_slotOf_11 : decode cX4_slotOf 11 = .ok (.if_icmp .ge 20, 3) := by decide +kernel
theorem dX4_slotOf_14 : decode cX4_slotOf 14 = .ok (.lload_n 2, 1) := by decide +kernel
theorem dX4_slotOf_15 : decode cX4_slotOf 15 = .ok (.ldc2_w 96, 3) := by decide +kernel
theorem dX4_slotOf_18 : decode cX4_slotOf 18 = .ok (.lmul, 1) := by decide +kernel
theorem dX4_slotOf_19 : decode cX4_slotOf 19 = .ok (.aload_n 1, 1) := by decide +kernel
theorem dX4_slotOf_20 : decode cX4_slotOf 20 = .ok (.iload 4, 2) := by decide +kernel
theorem dX4_slotOf_22 : decode cX4_slotOf 22 = .ok (.laload, 1) := by decide +kernel
theorem dX4_slotOf_23 : decode cX4_slotOf 23 = .ok (.ladd, 1) := by decide +kernel
theorem dX4_slotOf_24 : decode cX4_slotOf 24 = .ok (.lstore_n 2, 1) := by decide +kernel
theorem dX4_slotOf_25 : decode cX4_slotOf 25 = .ok (.iinc 4 1, 3) := by decide +kernel
theorem dX4_slotOf_28 : decode cX4_slotOf 28 = .ok (.goto (-23), 3) := by decide +kernel
theorem dX4_slotOf_31 : decode cX4_slotOf 31 = .ok (.lload_n 2, 1) := by decide +kernel
theorem dX4_slotOf_32 : decode cX4_slotOf 32 = .ok (.lload_n 2, 1) := by decide +kernel
theorem dX4_slotOf_33 : decode cX4_slotOf 33 = .ok (.bipush 32, 2) := by decide +kernel
theorem dX4_slotOf_35 : decode cX4_slotOf 35 = .ok (.lushr, 1) := by decide +kernel
theorem dX4_slotOf_36 : decode cX4_slotOf 36 = .ok (.lxor, 1) := by decide +kernel
theorem dX4_slotOf_37 : decode cX4_slotOf 37 = .ok (.lstore_n 2, 1) := by decide +kernel
theorem dX4_slotOf_38 : decode cX4_slotOf 38 = .ok (.lload_n 2, 1) := by decide +kernel
theorem dX4_slotOf_39 : decode cX4_slotOf 39 = .ok (.lload_n 2, 1) := by decide +kernel
theorem dX4_slotOf_40 : decode cX4_slotOf 40 = .ok (.bipush 16, 2) := by decide +kernel
theorem dX4_slotOf_42 : decode cX4_slotOf 42 = .ok (.lushr, 1) := by decide +kernel
theorem dX4_slotOf_43 : decode cX4_slotOf 43 = .ok (.lxor, 1) := by decide +kernel
theorem dX4_slotOf_44 : decode cX4_slotOf 44 = .ok (.lstore_n 2, 1) := by decide +kernel
theorem dX4_slotOf_45 : decode cX4_slotOf 45 = .ok (.lload_n 2, 1) := by decide +kernel
theorem dX4_slotOf_46 : decode cX4_slotOf 46 = .ok (.l2i, 1) := by decide +kernel
theorem dX4_slotOf_47 : decode cX4_slotOf 47 = .ok (.aload_n 0, 1) := by decide +kernel
theorem dX4_slotOf_48 : decode cX4_slotOf 48 = .ok (.getfield 45, 3) := by decide +kernel
theorem dX4_slotOf_51 : decode cX4_slotOf 51 = .ok (.arraylength, 1) := by decide +kernel
theorem dX4_slotOf_52 : decode cX4_slotOf 52 = .ok (.iconst 1, 1) := by decide +kernel
theorem dX4_slotOf_53 : decode cX4_slotOf 53 = .ok (.isub, 1) := by decide +kernel
theorem dX4_slotOf_54 : decode cX4_slotOf 54 = .ok (.iand, 1) := by decide +kernel
theorem dX4_slotOf_55 : decode cX4_slotOf 55 = .ok (.ireturn, 1) := by decide +kernel
theorem dX4_spread_0 : decode cX4_spread 0 = .ok (.aload_n 0, 1) := by decide +kernel
theorem dX4_spread_1 : decode cX4_spread 1 = .ok (.iconst 1, 1) := by decide +kernel
theorem dX4_spread_2 : decode cX4_spread 2 = .ok (.putfield 25, 3) := by decide +kernel
theorem dX4_spread_5 : decode cX4_spread 5 = .ok (.iconst 0, 1) := by decide +kernel
theorem dX4_spread_6 : decode cX4_spread 6 = .ok (.istore_n 3, 1) := by decide +kernel
theorem dX4_spread_7 : decode cX4_spread 7 = .ok (.iload_n 3, 1) := by decide +kernel
theorem dX4_spread_8 : decode cX4_spread 8 = .ok (.aload_n 0, 1) := by decide +kernel
theorem dX4_spread_9 : decode cX4_spread 9 = .ok (.getfield 19, 3) := by decide +kernel
theorem dX4_spread_12 : decode cX4_spread 12 = .ok (.if_icmp .ge 84, 3) := by decide +kernel
theorem dX4_spread_15 : decode cX4_spread 15 = .ok (.iload_n 3, 1) := by decide +kernel
theorem dX4_spread_16 : decode cX4_spread 16 = .ok (.aload_n 0, 1) := by decide +kernel
theorem dX4_spread_17 : decode cX4_spread 17 = .ok (.getfield 22, 3) := by decide +kernel
theorem dX4_spread_20 : decode cX4_spread 20 = .ok (.if_icmp .ge 76, 3) := by decide +kernel
theorem dX4_spread_23 : decode cX4_spread 23 = .ok (.iconst 0, 1) := by decide +kernel
theorem dX4_spread_24 : decode cX4_spread 24 = .ok (.istore 4, 2) := by decide +kernel
theorem dX4_spread_26 : decode cX4_spread 26 = .ok (.iload 4, 2) := by decide +kernel
theorem dX4_spread_28 : decode cX4_spread 28 = .ok (.iload_n 2, 1) := by decide +kernel
theorem dX4_spread_29 : decode cX4_spread 29 = .ok (.if_icmp .ge 42, 3) := by decide +kernel
theorem dX4_spread_32 : decode cX4_spread 32 = .ok (.aload_n 0, 1) := by decide +kernel
theorem dX4_spread_33 : decode cX4_spread 33 = .ok (.aload_n 1, 1) := by decide +kernel
theorem dX4_spread_34 : decode cX4_spread 34 = .ok (.iload_n 3, 1) := by decide +kernel
theorem dX4_spread_35 : decode cX4_spread 35 = .ok (.iload 4, 2) := by decide +kernel
theorem dX4_spread_37 : decode cX4_spread 37 = .ok (.invokevirtual 79, 3) := by decide +kernel
theorem dX4_spread_40 : decode cX4_spread 40 = .ok (.istore 5, 2) := by decide +kernel
theorem dX4_spread_42 : decode cX4_spread 42 = .ok (.aload_n 0, 1) := by decide +kernel
theorem dX4_spread_43 : decode cX4_spread 43 = .ok (.getfield 42, 3) := by decide +kernel
theorem dX4_spread_46 : decode cX4_spread 46 = .ok (.iload_n 3, 1) := by decide +kernel
theorem dX4_spread_47 : decode cX4_spread 47 = .ok (.iconst 4, 1) := by decide +kernel
theorem dX4_spread_48 : decode cX4_spread 48 = .ok (.imul, 1) := by decide +kernel
theorem dX4_spread_49 : decode cX4_spread 49 = .ok (.iload 4, 2) := by decide +kernel
theorem dX4_spread_51 : decode cX4_spread 51 = .ok (.iadd, 1) := by decide +kernel
theorem dX4_spread_52 : decode cX4_spread 52 = .ok (.iload 5, 2) := by decide +kernel
theorem dX4_spread_54 : decode cX4_spread 54 = .ok (.iastore, 1) := by decide +kernel
theorem dX4_spread_55 : decode cX4_spread 55 = .ok (.iload 5, 2) := by decide +kernel
theorem dX4_spread_57 : decode cX4_spread 57 = .ok (.ifCond .ge 8, 3) := by decide +kernel
theorem dX4_spread_60 : decode cX4_spread 60 = .ok (.aload_n 0, 1) := by decide +kernel
theorem dX4_spread_61 : decode cX4_spread 61 = .ok (.iconst 0, 1) := by decide +kernel
theorem dX4_spread_62 : decode cX4_spread 62 = .ok (.putfield 25, 3) := by decide +kernel
theorem dX4_spread_65 : decode cX4_spread 65 = .ok (.iinc 4 1, 3) := by decide +kernel
theorem dX4_spread_68 : decode cX4_spread 68 = .ok (.goto (-42), 3) := by decide +kernel
theorem dX4_spread_71 : decode cX4_spread 71 = .ok (.aload_n 0, 1) := by decide +kernel
theorem dX4_spread_72 : decode cX4_spread 72 = .ok (.getfield 25, 3) := by decide +kernel
theorem dX4_spread_75 : decode cX4_spread 75 = .ok (.ifCond .ne 15, 3) := by decide +kernel
theorem dX4_spread_78 : decode cX4_spread 78 = .ok (.aload_n 0, 1) := by decide +kernel
theorem dX4_spread_79 : decode cX4_spread 79 = .ok (.getfield 22, 3) := by decide +kernel
theorem dX4_spread_82 : decode cX4_spread 82 = .ok (.aload_n 0, 1) := by decide +kernel
theorem dX4_spread_83 : decode cX4_spread 83 = .ok (.getfield 19, 3) := by decide +kernel
theorem dX4_spread_86 : decode cX4_spread 86 = .ok (.if_icmp .ne 4, 3) := by decide +kernel
theorem dX4_spread_89 : decode cX4_spread 89 = .ok (.return_, 1) := by decide +kernel
theorem dX4_spread_90 : decode cX4_spread 90 = .ok (.iinc 3 1, 3) := by decide +kernel
theorem dX4_spread_93 : decode cX4_spread 93 = .ok (.goto (-86), 3) := by decide +kernel
theorem dX4_spread_96 : decode cX4_spread 96 = .ok (.return_, 1) := by decide +kernel
theorem dX4_start_0 : decode cX4_start 0 = .ok (.iload_n 1, 1) := by decide +kernel
theorem dX4_start_1 : decode cX4_start 1 = .ok (.aload_n 0, 1) := by decide +kernel
theorem dX4_start_2 : decode cX4_start 2 = .ok (.getfield 15, 3) := by decide +kernel
theorem dX4_start_5 : decode cX4_start 5 = .ok (.imul, 1) := by decide +kernel
theorem dX4_start_6 : decode cX4_start 6 = .ok (.ireturn, 1) := by decide +kernel
theorem dX5_append_0 : decode cX5_append 0 = .ok (.aload_n 0, 1) := by decide +kernel
theorem dX5_append_1 : decode cX5_append 1 = .ok (.invokevirtual 25, 3) := by decide +kernel
theorem dX5_append_4 : decode cX5_append 4 = .ok (.ifCond .eq 6, 3) := by decide +kernel
theorem dX5_append_7 : decode cX5_append 7 = .ok (.bipush (-2), 2) := by decide +kernel
theorem dX5_append_9 : decode cX5_append 9 = .ok (.ireturn, 1) := by decide +kernel
theorem dX5_append_10 : decode cX5_append 10 = .ok (.aload_n 1, 1) := by decide +kernel
theorem dX5_append_11 : decode cX5_append 11 = .ok (.iconst 0, 1) := by decide +kernel
theorem dX5_append_12 : decode cX5_append 12 = .ok (.aload_n 0, 1) := by decide +kernel
theorem dX5_append_13 : decode cX5_append 13 = .ok (.getfield 21, 3) := by decide +kernel
theorem dX5_append_16 : decode cX5_append 16 = .ok (.aload_n 0, 1) := by decide +kernel
theorem dX5_append_17 : decode cX5_append 17 = .ok (.getfield 15, 3) := by decide +kernel
theorem dX5_append_20 : decode cX5_append 20 = .ok (.bipush 9, 2) := by decide +kernel
theorem dX5_append_22 : decode cX5_append 22 = .ok (.imul, 1) := by decide +kernel
theorem dX5_append_23 : decode cX5_append 23 = .ok (.bipush 9, 2) := by decide +kernel
theorem dX5_append_25 : decode cX5_append 25 = .ok (.invokestatic 29, 3) := by decide +kernel
theorem dX5_append_28 : decode cX5_append 28 = .ok (.aload_n 0, 1) := by decide +kernel
theorem dX5_append_29 : decode cX5_append 29 = .ok (.dup, 1) := by decide +kernel
theorem dX5_append_30 : decode cX5_append 30 = .ok (.getfield 15, 3) := by decide +kernel
theorem dX5_append_33 : decode cX5_append 33 = .ok (.iconst 1, 1) := by decide +kernel
theorem dX5_append_34 : decode cX5_append 34 = .ok (.iadd, 1) := by decide +kernel
theorem dX5_append_35 : decode cX5_append 35 = .ok (.putfield 15, 3) := by decide +kernel
theorem dX5_append_38 : decode cX5_append 38 = .ok (.aload_n 0, 1) := by decide +kernel
theorem dX5_append_39 : decode cX5_append 39 = .ok (.getfield 15, 3) := by decide +kernel
theorem dX5_append_42 : decode cX5_append 42 = .ok (.iconst 1, 1) := by decide +kernel
theorem dX5_append_43 : decode cX5_append 43 = .ok (.isub, 1) := by decide +kernel
theorem dX5_append_44 : decode cX5_append 44 = .ok (.ireturn, 1) := by decide +kernel
theorem dX5_become_0 : decode cX5_become 0 = .ok (.aload_n 0, 1) := by decide +kernel
theorem dX5_become_1 : decode cX5_become 1 = .ok (.aload_n 1, 1) := by decide +kernel
theorem dX5_become_2 : decode cX5_become 2 = .ok (.getfield 9, 3) := by decide +kernel
theorem dX5_become_5 : decode cX5_become 5 = .ok (.putfield 9, 3) := by decide +kernel
theorem dX5_become_8 : decode cX5_become 8 = .ok (.aload_n 0, 1) := by decide +kernel
theorem dX5_become_9 : decode cX5_become 9 = .ok (.aload_n 1, 1) := by decide +kernel
theorem dX5_become_10 : decode cX5_become 10 = .ok (.getfield 15, 3) := by decide +kernel
theorem dX5_become_13 : decode cX5_become 13 = .ok (.putfield 15, 3) := by decide +kernel
theorem dX5_become_16 : decode cX5_become 16 = .ok (.aload_n 0, 1) := by decide +kernel
theorem dX5_become_17 : decode cX5_become 17 = .ok (.aload_n 1, 1) := by decide +kernel
theorem dX5_become_18 : decode cX5_become 18 = .ok (.getfield 18, 3) := by decide +kernel
theorem dX5_become_21 : decode cX5_become 21 = .ok (.putfield 18, 3) := by decide +kernel
theorem dX5_become_24 : decode cX5_become 24 = .ok (.aload_n 1, 1) := by decide +kernel
theorem dX5_become_25 : decode cX5_become 25 = .ok (.getfield 21, 3) := by decide +kernel
theorem dX5_become_28 : decode cX5_become 28 = .ok (.iconst 0, 1) := by decide +kernel
theorem dX5_become_29 : decode cX5_become 29 = .ok (.aload_n 0, 1) := by decide +kernel
theorem dX5_become_30 : decode cX5_become 30 = .ok (.getfield 21, 3) := by decide +kernel
theorem dX5_become_33 : decode cX5_become 33 = .ok (.iconst 0, 1) := by decide +kernel
theorem dX5_become_34 : decode cX5_become 34 = .ok (.aload_n 0, 1) := by decide +kernel
theorem dX5_become_35 : decode cX5_become 35 = .ok (.getfield 21, 3) := by decide +kernel
theorem dX5_become_38 : decode cX5_become 38 = .ok (.arraylength, 1) := by decide +kernel
theorem dX5_become_39 : decode cX5_become 39 = .ok (.invokestatic 29, 3) := by decide +kernel
theorem dX5_become_42 : decode cX5_become 42 = .ok (.return_, 1) := by decide +kernel
theorem dX5_cellCount_0 : decode cX5_cellCount 0 = .ok (.aload_n 0, 1) := by decide +kernel
theorem dX5_cellCount_1 : decode cX5_cellCount 1 = .ok (.getfield 9, 3) := by decide +kernel
theorem dX5_cellCount_4 : decode cX5_cellCount 4 = .ok (.aload_n 0, 1) := by decide +kernel
theorem dX5_cellCount_5 : decode cX5_cellCount 5 = .ok (.getfield 9, 3) := by decide +kernel
theorem dX5_cellCount_8 : decode cX5_cellCount 8 = .ok (.imul, 1) := by decide +kernel
theorem dX5_cellCount_9 : decode cX5_cellCount 9 = .ok (.ireturn, 1) := by decide +kernel
theorem dX5_draw_0 : decode cX5_draw 0 = .ok (.aload_n 0, 1) := by decide +kernel
theorem dX5_draw_1 : decode cX5_draw 1 = .ok (.aload_n 0, 1) := by decide +kernel
theorem dX5_draw_2 : decode cX5_draw 2 = .ok (.getfield 18, 3) := by decide +kernel
theorem dX5_draw_5 : decode cX5_draw 5 = .ok (.ldc 35, 2) := by decide +kernel
theorem dX5_draw_7 : decode cX5_draw 7 = .ok (.imul, 1) := by decide +kernel
theorem dX5_draw_8 : decode cX5_draw 8 = .ok (.sipush 12345, 3) := by decide +kernel
theorem dX5_draw_11 : decode cX5_draw 11 = .ok (.iadd, 1) := by decide +kernel
theorem dX5_draw_12 : decode cX5_draw 12 = .ok (.putfield 18, 3) := by decide +kernel
theorem dX5_draw_15 : decode cX5_draw 15 = .ok (.aload_n 0, 1) := by decide +kernel
theorem dX5_draw_16 : decode cX5_draw 16 = .ok (.getfield 18, 3) := by decide +kernel
theorem dX5_draw_19 : decode cX5_draw 19 = .ok (.bipush 16, 2) := by decide +kernel
theorem dX5_draw_21 : decode cX5_draw 21 = .ok (.iushr, 1) := by decide +kernel
theorem dX5_draw_22 : decode cX5_draw 22 = .ok (.ireturn, 1) := by decide +kernel
theorem dX5_has_0 : decode cX5_has 0 = .ok (.iload_n 1, 1) := by decide +kernel
theorem dX5_has_1 : decode cX5_has 1 = .ok (.ifCond .lt 15, 3) := by decide +kernel
theorem dX5_has_4 : decode cX5_has 4 = .ok (.iload_n 1, 1) := by decide +kernel
theorem dX5_has_5 : decode cX5_has 5 = .ok (.aload_n 0, 1) := by decide +kernel
theorem dX5_has_6 : decode cX5_has 6 = .ok (.getfield 15, 3) := by decide +kernel
theorem dX5_has_9 : decode cX5_has 9 = .ok (.if_icmp .ge 7, 3) := by decide +kernel
theorem dX5_has_12 : decode cX5_has 12 = .ok (.iconst 1, 1) := by decide +kernel
theorem dX5_has_13 : decode cX5_has 13 = .ok (.goto 4, 3) := by decide +kernel
theorem dX5_has_16 : decode cX5_has 16 = .ok (.iconst 0, 1) := by decide +kernel
theorem dX5_has_17 : decode cX5_has 17 = .ok (.ireturn, 1) := by decide +kernel
theorem dX5_init_0 : decode cX5_init 0 = .ok (.aload_n 0, 1) := by decide +kernel
theorem dX5_init_1 : decode cX5_init 1 = .ok (.invokespecial 3, 3) := by decide +kernel
theorem dX5_init_4 : decode cX5_init 4 = .ok (.aload_n 0, 1) := by decide +kernel
theorem dX5_init_5 : decode cX5_init 5 = .ok (.iconst 2, 1) := by decide +kernel
theorem dX5_init_6 : decode cX5_init 6 = .ok (.putfield 9, 3) := by decide +kernel
theorem dX5_init_9 : decode cX5_init 9 = .ok (.aload_n 0, 1) := by decide +kernel
theorem dX5_init_10 : decode cX5_init 10 = .ok (.iconst 0, 1) := by decide +kernel
theorem dX5_init_11 : decode cX5_init 11 = .ok (.putfield 15, 3) := by decide +kernel
theorem dX5_init_14 : decode cX5_init 14 = .ok (.aload_n 0, 1) := by decide +kernel
theorem dX5_init_15 : decode cX5_init 15 = .ok (.iconst 1, 1) := by decide +kernel
theorem dX5_init_16 : decode cX5_init 16 = .ok (.putfield 18, 3) := by decide +kernel
theorem dX5_init_19 : decode cX5_init 19 = .ok (.aload_n 0, 1) := by decide +kernel
theorem dX5_init_20 : decode cX5_init 20 = .ok (.bipush 36, 2) := by decide +kernel
theorem dX5_init_22 : decode cX5_init 22 = .ok (.newarray .long, 2) := by decide +kernel
theorem dX5_init_24 : decode cX5_init 24 = .ok (.putfield 21, 3) := by decide +kernel
theorem dX5_init_27 : decode cX5_init 27 = .ok (.return_, 1) := by decide +kernel
theorem dX5_isFull_0 : decode cX5_isFull 0 = .ok (.aload_n 0, 1) := by decide +kernel
theorem dX5_isFull_1 : decode cX5_isFull 1 = .ok (.getfield 15, 3) := by decide +kernel
theorem dX5_isFull_4 : decode cX5_isFull 4 = .ok (.iconst 4, 1) := by decide +kernel
theorem dX5_isFull_5 : decode cX5_isFull 5 = .ok (.if_icmp .lt 7, 3) := by decide +kernel
theorem dX5_isFull_8 : decode cX5_isFull 8 = .ok (.iconst 1, 1) := by decide +kernel
theorem dX5_isFull_9 : decode cX5_isFull 9 = .ok (.goto 4, 3) := by decide +kernel
theorem dX5_isFull_12 : decode cX5_isFull 12 = .ok (.iconst 0, 1) := by decide +kernel
theorem dX5_isFull_13 : decode cX5_isFull 13 = .ok (.ireturn, 1) := by decide +kernel
theorem dX5_isPlace_0 : decode cX5_isPlace 0 = .ok (.iload_n 1, 1) := by decide +kernel
theorem dX5_isPlace_1 : decode cX5_isPlace 1 = .ok (.ifCond .lt 27, 3) := by decide +kernel
theorem dX5_isPlace_4 : decode cX5_isPlace 4 = .ok (.iload_n 1, 1) := by decide +kernel
theorem dX5_isPlace_5 : decode cX5_isPlace 5 = .ok (.aload_n 0, 1) := by decide +kernel
theorem dX5_isPlace_6 : decode cX5_isPlace 6 = .ok (.getfield 9, 3) := by decide +kernel
theorem dX5_isPlace_9 : decode cX5_isPlace 9 = .ok (.if_icmp .ge 19, 3) := by decide +kernel
