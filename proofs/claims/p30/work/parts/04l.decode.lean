theorem dX9_pass_32 : decode cX9_pass 32 = .ok (.getfield 19, 3) := by decide +kernel
theorem dX9_pass_35 : decode cX9_pass 35 = .ok (.iconst 1, 1) := by decide +kernel
theorem dX9_pass_36 : decode cX9_pass 36 = .ok (.iadd, 1) := by decide +kernel
theorem dX9_pass_37 : decode cX9_pass 37 = .ok (.putfield 19, 3) := by decide +kernel
theorem dX9_pass_40 : decode cX9_pass 40 = .ok (.iconst 1, 1) := by decide +kernel
theorem dX9_pass_41 : decode cX9_pass 41 = .ok (.ireturn, 1) := by decide +kernel
theorem dX9_read_0 : decode cX9_read 0 = .ok (.aload_n 0, 1) := by decide +kernel
theorem dX9_read_1 : decode cX9_read 1 = .ok (.iconst 0, 1) := by decide +kernel
theorem dX9_read_2 : decode cX9_read 2 = .ok (.putfield 19, 3) := by decide +kernel
theorem dX9_read_5 : decode cX9_read 5 = .ok (.aload_n 0, 1) := by decide +kernel
theorem dX9_read_6 : decode cX9_read 6 = .ok (.iconst 0, 1) := by decide +kernel
theorem dX9_read_7 : decode cX9_read 7 = .ok (.putfield 22, 3) := by decide +kernel
theorem dX9_read_10 : decode cX9_read 10 = .ok (.aload_n 0, 1) := by decide +kernel
theorem dX9_read_11 : decode cX9_read 11 = .ok (.invokevirtual 29, 3) := by decide +kernel
theorem dX9_read_14 : decode cX9_read 14 = .ok (.aload_n 0, 1) := by decide +kernel
theorem dX9_read_15 : decode cX9_read 15 = .ok (.getfield 19, 3) := by decide +kernel
theorem dX9_read_18 : decode cX9_read 18 = .ok (.aload_n 0, 1) := by decide +kernel
theorem dX9_read_19 : decode cX9_read 19 = .ok (.getfield 15, 3) := by decide +kernel
theorem dX9_read_22 : decode cX9_read 22 = .ok (.if_icmp .ge 38, 3) := by decide +kernel
theorem dX9_read_25 : decode cX9_read 25 = .ok (.aload_n 0, 1) := by decide +kernel
theorem dX9_read_26 : decode cX9_read 26 = .ok (.getfield 22, 3) := by decide +kernel
theorem dX9_read_29 : decode cX9_read 29 = .ok (.iconst 4, 1) := by decide +kernel
theorem dX9_read_30 : decode cX9_read 30 = .ok (.if_icmp .eq 11, 3) := by decide +kernel
theorem dX9_read_33 : decode cX9_read 33 = .ok (.aload_n 0, 1) := by decide +kernel
theorem dX9_read_34 : decode cX9_read 34 = .ok (.iload_n 1, 1) := by decide +kernel
theorem dX9_read_35 : decode cX9_read 35 = .ok (.invokevirtual 32, 3) := by decide +kernel
theorem dX9_read_38 : decode cX9_read 38 = .ok (.ifCond .ne 5, 3) := by decide +kernel
theorem dX9_read_41 : decode cX9_read 41 = .ok (.iconst 0, 1) := by decide +kernel
theorem dX9_read_42 : decode cX9_read 42 = .ok (.ireturn, 1) := by decide +kernel
theorem dX9_read_43 : decode cX9_read 43 = .ok (.aload_n 0, 1) := by decide +kernel
theorem dX9_read_44 : decode cX9_read 44 = .ok (.dup, 1) := by decide +kernel
theorem dX9_read_45 : decode cX9_read 45 = .ok (.getfield 22, 3) := by decide +kernel
theorem dX9_read_48 : decode cX9_read 48 = .ok (.iconst 1, 1) := by decide +kernel
theorem dX9_read_49 : decode cX9_read 49 = .ok (.iadd, 1) := by decide +kernel
theorem dX9_read_50 : decode cX9_read 50 = .ok (.putfield 22, 3) := by decide +kernel
theorem dX9_read_53 : decode cX9_read 53 = .ok (.aload_n 0, 1) := by decide +kernel
theorem dX9_read_54 : decode cX9_read 54 = .ok (.invokevirtual 29, 3) := by decide +kernel
theorem dX9_read_57 : decode cX9_read 57 = .ok (.goto (-43), 3) := by decide +kernel
theorem dX9_read_60 : decode cX9_read 60 = .ok (.iconst 1, 1) := by decide +kernel
theorem dX9_read_61 : decode cX9_read 61 = .ok (.ireturn, 1) := by decide +kernel
theorem dX9_readMatrix_0 : decode cX9_readMatrix 0 = .ok (.iconst 0, 1) := by decide +kernel
theorem dX9_readMatrix_1 : decode cX9_readMatrix 1 = .ok (.istore_n 2, 1) := by decide +kernel
theorem dX9_readMatrix_2 : decode cX9_readMatrix 2 = .ok (.iload_n 2, 1) := by decide +kernel
theorem dX9_readMatrix_3 : decode cX9_readMatrix 3 = .ok (.iload_n 1, 1) := by decide +kernel
theorem dX9_readMatrix_4 : decode cX9_readMatrix 4 = .ok (.if_icmp .ge 59, 3) := by decide +kernel
theorem dX9_readMatrix_7 : decode cX9_readMatrix 7 = .ok (.iload_n 2, 1) := by decide +kernel
theorem dX9_readMatrix_8 : decode cX9_readMatrix 8 = .ok (.ifCond .le 14, 3) := by decide +kernel
theorem dX9_readMatrix_11 : decode cX9_readMatrix 11 = .ok (.aload_n 0, 1) := by decide +kernel
theorem dX9_readMatrix_12 : decode cX9_readMatrix 12 = .ok (.bipush 47, 2) := by decide +kernel
theorem dX9_readMatrix_14 : decode cX9_readMatrix 14 = .ok (.invokevirtual 36, 3) := by decide +kernel
theorem dX9_readMatrix_17 : decode cX9_readMatrix 17 = .ok (.ifCond .ne 5, 3) := by decide +kernel
theorem dX9_readMatrix_20 : decode cX9_readMatrix 20 = .ok (.iconst 0, 1) := by decide +kernel
theorem dX9_readMatrix_21 : decode cX9_readMatrix 21 = .ok (.ireturn, 1) := by decide +kernel
theorem dX9_readMatrix_22 : decode cX9_readMatrix 22 = .ok (.iconst 0, 1) := by decide +kernel
theorem dX9_readMatrix_23 : decode cX9_readMatrix 23 = .ok (.istore_n 3, 1) := by decide +kernel
theorem dX9_readMatrix_24 : decode cX9_readMatrix 24 = .ok (.iload_n 3, 1) := by decide +kernel
theorem dX9_readMatrix_25 : decode cX9_readMatrix 25 = .ok (.iload_n 1, 1) := by decide +kernel
theorem dX9_readMatrix_26 : decode cX9_readMatrix 26 = .ok (.if_icmp .ge 31, 3) := by decide +kernel
theorem dX9_readMatrix_29 : decode cX9_readMatrix 29 = .ok (.aload_n 0, 1) := by decide +kernel
theorem dX9_readMatrix_30 : decode cX9_readMatrix 30 = .ok (.aload_n 0, 1) := by decide +kernel
theorem dX9_readMatrix_31 : decode cX9_readMatrix 31 = .ok (.getfield 22, 3) := by decide +kernel
theorem dX9_readMatrix_34 : decode cX9_readMatrix 34 = .ok (.bipush 9, 2) := by decide +kernel
theorem dX9_readMatrix_36 : decode cX9_readMatrix 36 = .ok (.imul, 1) := by decide +kernel
theorem dX9_readMatrix_37 : decode cX9_readMatrix 37 = .ok (.iload_n 2, 1) := by decide +kernel
theorem dX9_readMatrix_38 : decode cX9_readMatrix 38 = .ok (.iload_n 1, 1) := by decide +kernel
theorem dX9_readMatrix_39 : decode cX9_readMatrix 39 = .ok (.imul, 1) := by decide +kernel
theorem dX9_readMatrix_40 : decode cX9_readMatrix 40 = .ok (.iadd, 1) := by decide +kernel
theorem dX9_readMatrix_41 : decode cX9_readMatrix 41 = .ok (.iload_n 3, 1) := by decide +kernel
theorem dX9_readMatrix_42 : decode cX9_readMatrix 42 = .ok (.iadd, 1) := by decide +kernel
theorem dX9_readMatrix_43 : decode cX9_readMatrix 43 = .ok (.invokevirtual 40, 3) := by decide +kernel
theorem dX9_readMatrix_46 : decode cX9_readMatrix 46 = .ok (.ifCond .ne 5, 3) := by decide +kernel
theorem dX9_readMatrix_49 : decode cX9_readMatrix 49 = .ok (.iconst 0, 1) := by decide +kernel
theorem dX9_readMatrix_50 : decode cX9_readMatrix 50 = .ok (.ireturn, 1) := by decide +kernel
theorem dX9_readMatrix_51 : decode cX9_readMatrix 51 = .ok (.iinc 3 1, 3) := by decide +kernel
theorem dX9_readMatrix_54 : decode cX9_readMatrix 54 = .ok (.goto (-30), 3) := by decide +kernel
theorem dX9_readMatrix_57 : decode cX9_readMatrix 57 = .ok (.iinc 2 1, 3) := by decide +kernel
theorem dX9_readMatrix_60 : decode cX9_readMatrix 60 = .ok (.goto (-58), 3) := by decide +kernel
theorem dX9_readMatrix_63 : decode cX9_readMatrix 63 = .ok (.aload_n 0, 1) := by decide +kernel
theorem dX9_readMatrix_64 : decode cX9_readMatrix 64 = .ok (.invokevirtual 29, 3) := by decide +kernel
theorem dX9_readMatrix_67 : decode cX9_readMatrix 67 = .ok (.aload_n 0, 1) := by decide +kernel
theorem dX9_readMatrix_68 : decode cX9_readMatrix 68 = .ok (.getfield 25, 3) := by decide +kernel
theorem dX9_readMatrix_71 : decode cX9_readMatrix 71 = .ok (.aload_n 0, 1) := by decide +kernel
theorem dX9_readMatrix_72 : decode cX9_readMatrix 72 = .ok (.getfield 22, 3) := by decide +kernel
theorem dX9_readMatrix_75 : decode cX9_readMatrix 75 = .ok (.bipush 9, 2) := by decide +kernel
theorem dX9_readMatrix_77 : decode cX9_readMatrix 77 = .ok (.imul, 1) := by decide +kernel
theorem dX9_readMatrix_78 : decode cX9_readMatrix 78 = .ok (.iload_n 1, 1) := by decide +kernel
theorem dX9_readMatrix_79 : decode cX9_readMatrix 79 = .ok (.invokestatic 43, 3) := by decide +kernel
theorem dX9_readMatrix_82 : decode cX9_readMatrix 82 = .ok (.ifCond .eq 16, 3) := by decide +kernel
theorem dX9_readMatrix_85 : decode cX9_readMatrix 85 = .ok (.aload_n 0, 1) := by decide +kernel
theorem dX9_readMatrix_86 : decode cX9_readMatrix 86 = .ok (.bipush 59, 2) := by decide +kernel
theorem dX9_readMatrix_88 : decode cX9_readMatrix 88 = .ok (.invokevirtual 36, 3) := by decide +kernel
theorem dX9_readMatrix_91 : decode cX9_readMatrix 91 = .ok (.ifCond .eq 7, 3) := by decide +kernel
theorem dX9_readMatrix_94 : decode cX9_readMatrix 94 = .ok (.iconst 1, 1) := by decide +kernel
theorem dX9_readMatrix_95 : decode cX9_readMatrix 95 = .ok (.goto 4, 3) := by decide +kernel
theorem dX9_readMatrix_98 : decode cX9_readMatrix 98 = .ok (.iconst 0, 1) := by decide +kernel
theorem dX9_readMatrix_99 : decode cX9_readMatrix 99 = .ok (.ireturn, 1) := by decide +kernel
theorem dX9_readNumber_0 : decode cX9_readNumber 0 = .ok (.aload_n 0, 1) := by decide +kernel
theorem dX9_readNumber_1 : decode cX9_readNumber 1 = .ok (.bipush 45, 2) := by decide +kernel
theorem dX9_readNumber_3 : decode cX9_readNumber 3 = .ok (.invokevirtual 36, 3) := by decide +kernel
theorem dX9_readNumber_6 : decode cX9_readNumber 6 = .ok (.istore_n 2, 1) := by decide +kernel
theorem dX9_readNumber_7 : decode cX9_readNumber 7 = .ok (.aload_n 0, 1) := by decide +kernel
theorem dX9_readNumber_8 : decode cX9_readNumber 8 = .ok (.invokevirtual 49, 3) := by decide +kernel
theorem dX9_readNumber_11 : decode cX9_readNumber 11 = .ok (.ifCond .ne 5, 3) := by decide +kernel
theorem dX9_readNumber_14 : decode cX9_readNumber 14 = .ok (.iconst 0, 1) := by decide +kernel
theorem dX9_readNumber_15 : decode cX9_readNumber 15 = .ok (.ireturn, 1) := by decide +kernel
theorem dX9_readNumber_16 : decode cX9_readNumber 16 = .ok (.aload_n 0, 1) := by decide +kernel
theorem dX9_readNumber_17 : decode cX9_readNumber 17 = .ok (.getfield 9, 3) := by decide +kernel
theorem dX9_readNumber_20 : decode cX9_readNumber 20 = .ok (.aload_n 0, 1) := by decide +kernel
theorem dX9_readNumber_21 : decode cX9_readNumber 21 = .ok (.getfield 19, 3) := by decide +kernel
theorem dX9_readNumber_24 : decode cX9_readNumber 24 = .ok (.baload, 1) := by decide +kernel
theorem dX9_readNumber_25 : decode cX9_readNumber 25 = .ok (.bipush 48, 2) := by decide +kernel
theorem dX9_readNumber_27 : decode cX9_readNumber 27 = .ok (.isub, 1) := by decide +kernel
theorem dX9_readNumber_28 : decode cX9_readNumber 28 = .ok (.istore_n 3, 1) := by decide +kernel
theorem dX9_readNumber_29 : decode cX9_readNumber 29 = .ok (.aload_n 0, 1) := by decide +kernel
theorem dX9_readNumber_30 : decode cX9_readNumber 30 = .ok (.dup, 1) := by decide +kernel
theorem dX9_readNumber_31 : decode cX9_readNumber 31 = .ok (.getfield 19, 3) := by decide +kernel
theorem dX9_readNumber_34 : decode cX9_readNumber 34 = .ok (.iconst 1, 1) := by decide +kernel
theorem dX9_readNumber_35 : decode cX9_readNumber 35 = .ok (.iadd, 1) := by decide +kernel
theorem dX9_readNumber_36 : decode cX9_readNumber 36 = .ok (.putfield 19, 3) := by decide +kernel
theorem dX9_readNumber_39 : decode cX9_readNumber 39 = .ok (.aload_n 0, 1) := by decide +kernel
theorem dX9_readNumber_40 : decode cX9_readNumber 40 = .ok (.invokevirtual 49, 3) := by decide +kernel
theorem dX9_readNumber_43 : decode cX9_readNumber 43 = .ok (.ifCond .eq 31, 3) := by decide +kernel
theorem dX9_readNumber_46 : decode cX9_readNumber 46 = .ok (.iload_n 3, 1) := by decide +kernel
theorem dX9_readNumber_47 : decode cX9_readNumber 47 = .ok (.bipush 10, 2) := by decide +kernel
theorem dX9_readNumber_49 : decode cX9_readNumber 49 = .ok (.imul, 1) := by decide +kernel
theorem dX9_readNumber_50 : decode cX9_readNumber 50 = .ok (.aload_n 0, 1) := by decide +kernel
theorem dX9_readNumber_51 : decode cX9_readNumber 51 = .ok (.getfield 9, 3) := by decide +kernel
theorem dX9_readNumber_54 : decode cX9_readNumber 54 = .ok (.aload_n 0, 1) := by decide +kernel
theorem dX9_readNumber_55 : decode cX9_readNumber 55 = .ok (.getfield 19, 3) := by decide +kernel
theorem dX9_readNumber_58 : decode cX9_readNumber 58 = .ok (.baload, 1) := by decide +kernel
theorem dX9_readNumber_59 : decode cX9_readNumber 59 = .ok (.iadd, 1) := by decide +kernel
theorem dX9_readNumber_60 : decode cX9_readNumber 60 = .ok (.bipush 48, 2) := by decide +kernel
theorem dX9_readNumber_62 : decode cX9_readNumber 62 = .ok (.isub, 1) := by decide +kernel
theorem dX9_readNumber_63 : decode cX9_readNumber 63 = .ok (.istore_n 3, 1) := by decide +kernel
theorem dX9_readNumber_64 : decode cX9_readNumber 64 = .ok (.aload_n 0, 1) := by decide +kernel
theorem dX9_readNumber_65 : decode cX9_readNumber 65 = .ok (.dup, 1) := by decide +kernel
theorem dX9_readNumber_66 : decode cX9_readNumber 66 = .ok (.getfield 19, 3) := by decide +kernel
theorem dX9_readNumber_69 : decode cX9_readNumber 69 = .ok (.iconst 1, 1) := by decide +kernel
theorem dX9_readNumber_70 : decode cX9_readNumber 70 = .ok (.iadd, 1) := by decide +kernel
theorem dX9_readNumber_71 : decode cX9_readNumber 71 = .ok (.putfield 19, 3) := by decide +kernel
theorem dX9_readNumber_74 : decode cX9_readNumber 74 = .ok (.aload_n 0, 1) := by decide +kernel
theorem dX9_readNumber_75 : decode cX9_readNumber 75 = .ok (.getfield 25, 3) := by decide +kernel
theorem dX9_readNumber_78 : decode cX9_readNumber 78 = .ok (.iload_n 1, 1) := by decide +kernel
theorem dX9_readNumber_79 : decode cX9_readNumber 79 = .ok (.iload_n 2, 1) := by decide +kernel
theorem dX9_readNumber_80 : decode cX9_readNumber 80 = .ok (.ifCond .eq 9, 3) := by decide +kernel
theorem dX9_readNumber_83 : decode cX9_readNumber 83 = .ok (.iload_n 3, 1) := by decide +kernel
theorem dX9_readNumber_84 : decode cX9_readNumber 84 = .ok (.ineg, 1) := by decide +kernel
theorem dX9_readNumber_85 : decode cX9_readNumber 85 = .ok (.i2l, 1) := by decide +kernel
theorem dX9_readNumber_86 : decode cX9_readNumber 86 = .ok (.goto 5, 3) := by decide +kernel
theorem dX9_readNumber_89 : decode cX9_readNumber 89 = .ok (.iload_n 3, 1) := by decide +kernel
theorem dX9_readNumber_90 : decode cX9_readNumber 90 = .ok (.i2l, 1) := by decide +kernel
theorem dX9_readNumber_91 : decode cX9_readNumber 91 = .ok (.lastore, 1) := by decide +kernel
theorem dX9_readNumber_92 : decode cX9_readNumber 92 = .ok (.iconst 1, 1) := by decide +kernel
theorem dX9_readNumber_93 : decode cX9_readNumber 93 = .ok (.ireturn, 1) := by decide +kernel
theorem dX9_receive_0 : decode cX9_receive 0 = .ok (.iconst 0, 1) := by decide +kernel
theorem dX9_receive_1 : decode cX9_receive 1 = .ok (.istore 4, 2) := by decide +kernel
theorem dX9_receive_3 : decode cX9_receive 3 = .ok (.iload 4, 2) := by decide +kernel
theorem dX9_receive_5 : decode cX9_receive 5 = .ok (.iload_n 3, 1) := by decide +kernel
theorem dX9_receive_6 : decode cX9_receive 6 = .ok (.if_icmp .ge 46, 3) := by decide +kernel
theorem dX9_receive_9 : decode cX9_receive 9 = .ok (.aload_n 0, 1) := by decide +kernel
theorem dX9_receive_10 : decode cX9_receive 10 = .ok (.getfield 15, 3) := by decide +kernel
theorem dX9_receive_13 : decode cX9_receive 13 = .ok (.bipush 120, 2) := by decide +kernel
theorem dX9_receive_15 : decode cX9_receive 15 = .ok (.if_icmp .ge 37, 3) := by decide +kernel
theorem dX9_receive_18 : decode cX9_receive 18 = .ok (.aload_n 0, 1) := by decide +kernel
theorem dX9_receive_19 : decode cX9_receive 19 = .ok (.getfield 9, 3) := by decide +kernel
theorem dX9_receive_22 : decode cX9_receive 22 = .ok (.aload_n 0, 1) := by decide +kernel
theorem dX9_receive_23 : decode cX9_receive 23 = .ok (.getfield 15, 3) := by decide +kernel
theorem dX9_receive_26 : decode cX9_receive 26 = .ok (.lload_n 1, 1) := by decide +kernel
theorem dX9_receive_27 : decode cX9_receive 27 = .ok (.bipush 8, 2) := by decide +kernel
theorem dX9_receive_29 : decode cX9_receive 29 = .ok (.iload 4, 2) := by decide +kernel
theorem dX9_receive_31 : decode cX9_receive 31 = .ok (.imul, 1) := by decide +kernel
theorem dX9_receive_32 : decode cX9_receive 32 = .ok (.lushr, 1) := by decide +kernel
theorem dX9_receive_33 : decode cX9_receive 33 = .ok (.l2i, 1) := by decide +kernel
theorem dX9_receive_34 : decode cX9_receive 34 = .ok (.i2b, 1) := by decide +kernel
theorem dX9_receive_35 : decode cX9_receive 35 = .ok (.bastore, 1) := by decide +kernel
theorem dX9_receive_36 : decode cX9_receive 36 = .ok (.aload_n 0, 1) := by decide +kernel
theorem dX9_receive_37 : decode cX9_receive 37 = .ok (.dup, 1) := by decide +kernel
theorem dX9_receive_38 : decode cX9_receive 38 = .ok (.getfield 15, 3) := by decide +kernel
theorem dX9_receive_41 : decode cX9_receive 41 = .ok (.iconst 1, 1) := by decide +kernel
theorem dX9_receive_42 : decode cX9_receive 42 = .ok (.iadd, 1) := by decide +kernel
theorem dX9_receive_43 : decode cX9_receive 43 = .ok (.putfield 15, 3) := by decide +kernel
theorem dX9_receive_46 : decode cX9_receive 46 = .ok (.iinc 4 1, 3) := by decide +kernel
theorem dX9_receive_49 : decode cX9_receive 49 = .ok (.goto (-46), 3) := by decide +kernel
theorem dX9_receive_52 : decode cX9_receive 52 = .ok (.return_, 1) := by decide +kernel
theorem dX9_skipBlanks_0 : decode cX9_skipBlanks 0 = .ok (.aload_n 0, 1) := by decide +kernel
theorem dX9_skipBlanks_1 : decode cX9_skipBlanks 1 = .ok (.getfield 19, 3) := by decide +kernel
theorem dX9_skipBlanks_4 : decode cX9_skipBlanks 4 = .ok (.aload_n 0, 1) := by decide +kernel
theorem dX9_skipBlanks_5 : decode cX9_skipBlanks 5 = .ok (.getfield 15, 3) := by decide +kernel
theorem dX9_skipBlanks_8 : decode cX9_skipBlanks 8 = .ok (.if_icmp .ge 30, 3) := by decide +kernel
theorem dX9_skipBlanks_11 : decode cX9_skipBlanks 11 = .ok (.aload_n 0, 1) := by decide +kernel
theorem dX9_skipBlanks_12 : decode cX9_skipBlanks 12 = .ok (.getfield 9, 3) := by decide +kernel
theorem dX9_skipBlanks_15 : decode cX9_skipBlanks 15 = .ok (.aload_n 0, 1) := by decide +kernel
theorem dX9_skipBlanks_16 : decode cX9_skipBlanks 16 = .ok (.getfield 19, 3) := by decide +kernel
theorem dX9_skipBlanks_19 : decode cX9_skipBlanks 19 = .ok (.baload, 1) := by decide +kernel
theorem dX9_skipBlanks_20 : decode cX9_skipBlanks 20 = .ok (.bipush 32, 2) := by decide +kernel
theorem dX9_skipBlanks_22 : decode cX9_skipBlanks 22 = .ok (.if_icmp .ne 16, 3) := by decide +kernel
theorem dX9_skipBlanks_25 : decode cX9_skipBlanks 25 = .ok (.aload_n 0, 1) := by decide +kernel
theorem dX9_skipBlanks_26 : decode cX9_skipBlanks 26 = .ok (.dup, 1) := by decide +kernel
theorem dX9_skipBlanks_27 : decode cX9_skipBlanks 27 = .ok (.getfield 19, 3) := by decide +kernel
theorem dX9_skipBlanks_30 : decode cX9_skipBlanks 30 = .ok (.iconst 1, 1) := by decide +kernel
theorem dX9_skipBlanks_31 : decode cX9_skipBlanks 31 = .ok (.iadd, 1) := by decide +kernel
theorem dX9_skipBlanks_32 : decode cX9_skipBlanks 32 = .ok (.putfield 19, 3) := by decide +kernel
theorem dX9_skipBlanks_35 : decode cX9_skipBlanks 35 = .ok (.goto (-35), 3) := by decide +kernel
theorem dX9_skipBlanks_38 : decode cX9_skipBlanks 38 = .ok (.return_, 1) := by decide +kernel
