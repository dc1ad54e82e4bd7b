theorem dX5_isPlace_12 : decode cX5_isPlace 12 = .ok (.iload_n 2, 1) := by decide +kernel
theorem dX5_isPlace_13 : decode cX5_isPlace 13 = .ok (.ifCond .lt 15, 3) := by decide +kernel
theorem dX5_isPlace_16 : decode cX5_isPlace 16 = .ok (.iload_n 2, 1) := by decide +kernel
theorem dX5_isPlace_17 : decode cX5_isPlace 17 = .ok (.aload_n 0, 1) := by decide +kernel
theorem dX5_isPlace_18 : decode cX5_isPlace 18 = .ok (.getfield 9, 3) := by decide +kernel
theorem dX5_isPlace_21 : decode cX5_isPlace 21 = .ok (.if_icmp .ge 7, 3) := by decide +kernel
theorem dX5_isPlace_24 : decode cX5_isPlace 24 = .ok (.iconst 1, 1) := by decide +kernel
theorem dX5_isPlace_25 : decode cX5_isPlace 25 = .ok (.goto 4, 3) := by decide +kernel
theorem dX5_isPlace_28 : decode cX5_isPlace 28 = .ok (.iconst 0, 1) := by decide +kernel
theorem dX5_isPlace_29 : decode cX5_isPlace 29 = .ok (.ireturn, 1) := by decide +kernel
theorem dX6_become_0 : decode cX6_become 0 = .ok (.aload_n 0, 1) := by decide +kernel
theorem dX6_become_1 : decode cX6_become 1 = .ok (.iload_n 1, 1) := by decide +kernel
theorem dX6_become_2 : decode cX6_become 2 = .ok (.putfield 9, 3) := by decide +kernel
theorem dX6_become_5 : decode cX6_become 5 = .ok (.aload_n 0, 1) := by decide +kernel
theorem dX6_become_6 : decode cX6_become 6 = .ok (.iload_n 2, 1) := by decide +kernel
theorem dX6_become_7 : decode cX6_become 7 = .ok (.putfield 15, 3) := by decide +kernel
theorem dX6_become_10 : decode cX6_become 10 = .ok (.aload_n 0, 1) := by decide +kernel
theorem dX6_become_11 : decode cX6_become 11 = .ok (.getfield 18, 3) := by decide +kernel
theorem dX6_become_14 : decode cX6_become 14 = .ok (.lconst 0, 1) := by decide +kernel
theorem dX6_become_15 : decode cX6_become 15 = .ok (.invokestatic 22, 3) := by decide +kernel
theorem dX6_become_18 : decode cX6_become 18 = .ok (.return_, 1) := by decide +kernel
theorem dX6_init_0 : decode cX6_init 0 = .ok (.aload_n 0, 1) := by decide +kernel
theorem dX6_init_1 : decode cX6_init 1 = .ok (.invokespecial 3, 3) := by decide +kernel
theorem dX6_init_4 : decode cX6_init 4 = .ok (.aload_n 0, 1) := by decide +kernel
theorem dX6_init_5 : decode cX6_init 5 = .ok (.iconst (-1), 1) := by decide +kernel
theorem dX6_init_6 : decode cX6_init 6 = .ok (.putfield 9, 3) := by decide +kernel
theorem dX6_init_9 : decode cX6_init 9 = .ok (.aload_n 0, 1) := by decide +kernel
theorem dX6_init_10 : decode cX6_init 10 = .ok (.iconst 0, 1) := by decide +kernel
theorem dX6_init_11 : decode cX6_init 11 = .ok (.putfield 15, 3) := by decide +kernel
theorem dX6_init_14 : decode cX6_init 14 = .ok (.aload_n 0, 1) := by decide +kernel
theorem dX6_init_15 : decode cX6_init 15 = .ok (.bipush 40, 2) := by decide +kernel
theorem dX6_init_17 : decode cX6_init 17 = .ok (.newarray .long, 2) := by decide +kernel
theorem dX6_init_19 : decode cX6_init 19 = .ok (.putfield 18, 3) := by decide +kernel
theorem dX6_init_22 : decode cX6_init 22 = .ok (.return_, 1) := by decide +kernel
theorem dX6_isMissing_0 : decode cX6_isMissing 0 = .ok (.aload_n 0, 1) := by decide +kernel
theorem dX6_isMissing_1 : decode cX6_isMissing 1 = .ok (.getfield 9, 3) := by decide +kernel
theorem dX6_isMissing_4 : decode cX6_isMissing 4 = .ok (.iconst (-1), 1) := by decide +kernel
theorem dX6_isMissing_5 : decode cX6_isMissing 5 = .ok (.if_icmp .ne 7, 3) := by decide +kernel
theorem dX6_isMissing_8 : decode cX6_isMissing 8 = .ok (.iconst 1, 1) := by decide +kernel
theorem dX6_isMissing_9 : decode cX6_isMissing 9 = .ok (.goto 4, 3) := by decide +kernel
theorem dX6_isMissing_12 : decode cX6_isMissing 12 = .ok (.iconst 0, 1) := by decide +kernel
theorem dX6_isMissing_13 : decode cX6_isMissing 13 = .ok (.ireturn, 1) := by decide +kernel
theorem dX6_isOutside_0 : decode cX6_isOutside 0 = .ok (.iload_n 2, 1) := by decide +kernel
theorem dX6_isOutside_1 : decode cX6_isOutside 1 = .ok (.ifCond .lt 21, 3) := by decide +kernel
theorem dX6_isOutside_4 : decode cX6_isOutside 4 = .ok (.iload_n 1, 1) := by decide +kernel
theorem dX6_isOutside_5 : decode cX6_isOutside 5 = .ok (.ifCond .lt 17, 3) := by decide +kernel
theorem dX6_isOutside_8 : decode cX6_isOutside 8 = .ok (.iload_n 1, 1) := by decide +kernel
theorem dX6_isOutside_9 : decode cX6_isOutside 9 = .ok (.i2l, 1) := by decide +kernel
theorem dX6_isOutside_10 : decode cX6_isOutside 10 = .ok (.iload_n 2, 1) := by decide +kernel
theorem dX6_isOutside_11 : decode cX6_isOutside 11 = .ok (.i2l, 1) := by decide +kernel
theorem dX6_isOutside_12 : decode cX6_isOutside 12 = .ok (.ladd, 1) := by decide +kernel
theorem dX6_isOutside_13 : decode cX6_isOutside 13 = .ok (.aload_n 0, 1) := by decide +kernel
theorem dX6_isOutside_14 : decode cX6_isOutside 14 = .ok (.getfield 15, 3) := by decide +kernel
theorem dX6_isOutside_17 : decode cX6_isOutside 17 = .ok (.i2l, 1) := by decide +kernel
theorem dX6_isOutside_18 : decode cX6_isOutside 18 = .ok (.lcmp, 1) := by decide +kernel
theorem dX6_isOutside_19 : decode cX6_isOutside 19 = .ok (.ifCond .le 7, 3) := by decide +kernel
theorem dX6_isOutside_22 : decode cX6_isOutside 22 = .ok (.iconst 1, 1) := by decide +kernel
theorem dX6_isOutside_23 : decode cX6_isOutside 23 = .ok (.goto 4, 3) := by decide +kernel
theorem dX6_isOutside_26 : decode cX6_isOutside 26 = .ok (.iconst 0, 1) := by decide +kernel
theorem dX6_isOutside_27 : decode cX6_isOutside 27 = .ok (.ireturn, 1) := by decide +kernel
theorem dX6_write_0 : decode cX6_write 0 = .ok (.aload_n 0, 1) := by decide +kernel
theorem dX6_write_1 : decode cX6_write 1 = .ok (.getfield 9, 3) := by decide +kernel
theorem dX6_write_4 : decode cX6_write 4 = .ok (.ifCond .ne 15, 3) := by decide +kernel
theorem dX6_write_7 : decode cX6_write 7 = .ok (.aload_n 0, 1) := by decide +kernel
theorem dX6_write_8 : decode cX6_write 8 = .ok (.getfield 18, 3) := by decide +kernel
theorem dX6_write_11 : decode cX6_write 11 = .ok (.iload_n 1, 1) := by decide +kernel
theorem dX6_write_12 : decode cX6_write 12 = .ok (.lload_n 2, 1) := by decide +kernel
theorem dX6_write_13 : decode cX6_write 13 = .ok (.l2i, 1) := by decide +kernel
theorem dX6_write_14 : decode cX6_write 14 = .ok (.i2l, 1) := by decide +kernel
theorem dX6_write_15 : decode cX6_write 15 = .ok (.lastore, 1) := by decide +kernel
theorem dX6_write_16 : decode cX6_write 16 = .ok (.goto 31, 3) := by decide +kernel
theorem dX6_write_19 : decode cX6_write 19 = .ok (.aload_n 0, 1) := by decide +kernel
theorem dX6_write_20 : decode cX6_write 20 = .ok (.getfield 9, 3) := by decide +kernel
theorem dX6_write_23 : decode cX6_write 23 = .ok (.iconst 2, 1) := by decide +kernel
theorem dX6_write_24 : decode cX6_write 24 = .ok (.if_icmp .ne 16, 3) := by decide +kernel
theorem dX6_write_27 : decode cX6_write 27 = .ok (.aload_n 0, 1) := by decide +kernel
theorem dX6_write_28 : decode cX6_write 28 = .ok (.getfield 18, 3) := by decide +kernel
theorem dX6_write_31 : decode cX6_write 31 = .ok (.iload_n 1, 1) := by decide +kernel
theorem dX6_write_32 : decode cX6_write 32 = .ok (.lload_n 2, 1) := by decide +kernel
theorem dX6_write_33 : decode cX6_write 33 = .ok (.l2i, 1) := by decide +kernel
theorem dX6_write_34 : decode cX6_write 34 = .ok (.i2s, 1) := by decide +kernel
theorem dX6_write_35 : decode cX6_write 35 = .ok (.i2l, 1) := by decide +kernel
theorem dX6_write_36 : decode cX6_write 36 = .ok (.lastore, 1) := by decide +kernel
theorem dX6_write_37 : decode cX6_write 37 = .ok (.goto 10, 3) := by decide +kernel
theorem dX6_write_40 : decode cX6_write 40 = .ok (.aload_n 0, 1) := by decide +kernel
theorem dX6_write_41 : decode cX6_write 41 = .ok (.getfield 18, 3) := by decide +kernel
theorem dX6_write_44 : decode cX6_write 44 = .ok (.iload_n 1, 1) := by decide +kernel
theorem dX6_write_45 : decode cX6_write 45 = .ok (.lload_n 2, 1) := by decide +kernel
theorem dX6_write_46 : decode cX6_write 46 = .ok (.lastore, 1) := by decide +kernel
theorem dX6_write_47 : decode cX6_write 47 = .ok (.return_, 1) := by decide +kernel
theorem dX7_addUp_0 : decode cX7_addUp 0 = .ok (.lconst 0, 1) := by decide +kernel
theorem dX7_addUp_1 : decode cX7_addUp 1 = .ok (.lstore 7, 2) := by decide +kernel
theorem dX7_addUp_3 : decode cX7_addUp 3 = .ok (.iconst 0, 1) := by decide +kernel
theorem dX7_addUp_4 : decode cX7_addUp 4 = .ok (.istore 9, 2) := by decide +kernel
theorem dX7_addUp_6 : decode cX7_addUp 6 = .ok (.iload 9, 2) := by decide +kernel
theorem dX7_addUp_8 : decode cX7_addUp 8 = .ok (.iload 6, 2) := by decide +kernel
theorem dX7_addUp_10 : decode cX7_addUp 10 = .ok (.if_icmp .ge 33, 3) := by decide +kernel
theorem dX7_addUp_13 : decode cX7_addUp 13 = .ok (.lload 7, 2) := by decide +kernel
theorem dX7_addUp_15 : decode cX7_addUp 15 = .ok (.aload_n 0, 1) := by decide +kernel
theorem dX7_addUp_16 : decode cX7_addUp 16 = .ok (.iload_n 1, 1) := by decide +kernel
theorem dX7_addUp_17 : decode cX7_addUp 17 = .ok (.iload 9, 2) := by decide +kernel
theorem dX7_addUp_19 : decode cX7_addUp 19 = .ok (.iload_n 2, 1) := by decide +kernel
theorem dX7_addUp_20 : decode cX7_addUp 20 = .ok (.imul, 1) := by decide +kernel
theorem dX7_addUp_21 : decode cX7_addUp 21 = .ok (.iadd, 1) := by decide +kernel
theorem dX7_addUp_22 : decode cX7_addUp 22 = .ok (.laload, 1) := by decide +kernel
theorem dX7_addUp_23 : decode cX7_addUp 23 = .ok (.aload_n 3, 1) := by decide +kernel
theorem dX7_addUp_24 : decode cX7_addUp 24 = .ok (.iload 4, 2) := by decide +kernel
theorem dX7_addUp_26 : decode cX7_addUp 26 = .ok (.iload 9, 2) := by decide +kernel
theorem dX7_addUp_28 : decode cX7_addUp 28 = .ok (.iload 5, 2) := by decide +kernel
theorem dX7_addUp_30 : decode cX7_addUp 30 = .ok (.imul, 1) := by decide +kernel
theorem dX7_addUp_31 : decode cX7_addUp 31 = .ok (.iadd, 1) := by decide +kernel
theorem dX7_addUp_32 : decode cX7_addUp 32 = .ok (.laload, 1) := by decide +kernel
theorem dX7_addUp_33 : decode cX7_addUp 33 = .ok (.lmul, 1) := by decide +kernel
theorem dX7_addUp_34 : decode cX7_addUp 34 = .ok (.ladd, 1) := by decide +kernel
theorem dX7_addUp_35 : decode cX7_addUp 35 = .ok (.lstore 7, 2) := by decide +kernel
theorem dX7_addUp_37 : decode cX7_addUp 37 = .ok (.iinc 9 1, 3) := by decide +kernel
theorem dX7_addUp_40 : decode cX7_addUp 40 = .ok (.goto (-34), 3) := by decide +kernel
theorem dX7_addUp_43 : decode cX7_addUp 43 = .ok (.lload 7, 2) := by decide +kernel
theorem dX7_addUp_45 : decode cX7_addUp 45 = .ok (.lreturn, 1) := by decide +kernel
theorem dX7_areAlike_0 : decode cX7_areAlike 0 = .ok (.iconst 0, 1) := by decide +kernel
theorem dX7_areAlike_1 : decode cX7_areAlike 1 = .ok (.istore_n 3, 1) := by decide +kernel
theorem dX7_areAlike_2 : decode cX7_areAlike 2 = .ok (.iload_n 3, 1) := by decide +kernel
theorem dX7_areAlike_3 : decode cX7_areAlike 3 = .ok (.iload_n 2, 1) := by decide +kernel
theorem dX7_areAlike_4 : decode cX7_areAlike 4 = .ok (.if_icmp .ge 21, 3) := by decide +kernel
theorem dX7_areAlike_7 : decode cX7_areAlike 7 = .ok (.aload_n 0, 1) := by decide +kernel
theorem dX7_areAlike_8 : decode cX7_areAlike 8 = .ok (.iload_n 3, 1) := by decide +kernel
theorem dX7_areAlike_9 : decode cX7_areAlike 9 = .ok (.laload, 1) := by decide +kernel
theorem dX7_areAlike_10 : decode cX7_areAlike 10 = .ok (.aload_n 1, 1) := by decide +kernel
theorem dX7_areAlike_11 : decode cX7_areAlike 11 = .ok (.iload_n 3, 1) := by decide +kernel
theorem dX7_areAlike_12 : decode cX7_areAlike 12 = .ok (.laload, 1) := by decide +kernel
theorem dX7_areAlike_13 : decode cX7_areAlike 13 = .ok (.lcmp, 1) := by decide +kernel
theorem dX7_areAlike_14 : decode cX7_areAlike 14 = .ok (.ifCond .eq 5, 3) := by decide +kernel
theorem dX7_areAlike_17 : decode cX7_areAlike 17 = .ok (.iconst 0, 1) := by decide +kernel
theorem dX7_areAlike_18 : decode cX7_areAlike 18 = .ok (.ireturn, 1) := by decide +kernel
theorem dX7_areAlike_19 : decode cX7_areAlike 19 = .ok (.iinc 3 1, 3) := by decide +kernel
theorem dX7_areAlike_22 : decode cX7_areAlike 22 = .ok (.goto (-20), 3) := by decide +kernel
theorem dX7_areAlike_25 : decode cX7_areAlike 25 = .ok (.iconst 1, 1) := by decide +kernel
theorem dX7_areAlike_26 : decode cX7_areAlike 26 = .ok (.ireturn, 1) := by decide +kernel
theorem dX7_becomeOne_0 : decode cX7_becomeOne 0 = .ok (.aload_n 0, 1) := by decide +kernel
theorem dX7_becomeOne_1 : decode cX7_becomeOne 1 = .ok (.lconst 0, 1) := by decide +kernel
theorem dX7_becomeOne_2 : decode cX7_becomeOne 2 = .ok (.invokestatic 7, 3) := by decide +kernel
theorem dX7_becomeOne_5 : decode cX7_becomeOne 5 = .ok (.iconst 0, 1) := by decide +kernel
theorem dX7_becomeOne_6 : decode cX7_becomeOne 6 = .ok (.istore_n 2, 1) := by decide +kernel
theorem dX7_becomeOne_7 : decode cX7_becomeOne 7 = .ok (.iload_n 2, 1) := by decide +kernel
theorem dX7_becomeOne_8 : decode cX7_becomeOne 8 = .ok (.iload_n 1, 1) := by decide +kernel
theorem dX7_becomeOne_9 : decode cX7_becomeOne 9 = .ok (.if_icmp .ge 17, 3) := by decide +kernel
theorem dX7_becomeOne_12 : decode cX7_becomeOne 12 = .ok (.aload_n 0, 1) := by decide +kernel
theorem dX7_becomeOne_13 : decode cX7_becomeOne 13 = .ok (.iload_n 2, 1) := by decide +kernel
theorem dX7_becomeOne_14 : decode cX7_becomeOne 14 = .ok (.iload_n 1, 1) := by decide +kernel
theorem dX7_becomeOne_15 : decode cX7_becomeOne 15 = .ok (.imul, 1) := by decide +kernel
theorem dX7_becomeOne_16 : decode cX7_becomeOne 16 = .ok (.iload_n 2, 1) := by decide +kernel
theorem dX7_becomeOne_17 : decode cX7_becomeOne 17 = .ok (.iadd, 1) := by decide +kernel
theorem dX7_becomeOne_18 : decode cX7_becomeOne 18 = .ok (.lconst 1, 1) := by decide +kernel
theorem dX7_becomeOne_19 : decode cX7_becomeOne 19 = .ok (.lastore, 1) := by decide +kernel
theorem dX7_becomeOne_20 : decode cX7_becomeOne 20 = .ok (.iinc 2 1, 3) := by decide +kernel
theorem dX7_becomeOne_23 : decode cX7_becomeOne 23 = .ok (.goto (-16), 3) := by decide +kernel
theorem dX7_becomeOne_26 : decode cX7_becomeOne 26 = .ok (.return_, 1) := by decide +kernel
theorem dX7_cofactor_0 : decode cX7_cofactor 0 = .ok (.iload_n 2, 1) := by decide +kernel
theorem dX7_cofactor_1 : decode cX7_cofactor 1 = .ok (.iconst 1, 1) := by decide +kernel
theorem dX7_cofactor_2 : decode cX7_cofactor 2 = .ok (.if_icmp .ne 5, 3) := by decide +kernel
theorem dX7_cofactor_5 : decode cX7_cofactor 5 = .ok (.lconst 1, 1) := by decide +kernel
theorem dX7_cofactor_6 : decode cX7_cofactor 6 = .ok (.lreturn, 1) := by decide +kernel
theorem dX7_cofactor_7 : decode cX7_cofactor 7 = .ok (.iload_n 2, 1) := by decide +kernel
theorem dX7_cofactor_8 : decode cX7_cofactor 8 = .ok (.iconst 2, 1) := by decide +kernel
theorem dX7_cofactor_9 : decode cX7_cofactor 9 = .ok (.if_icmp .ne 34, 3) := by decide +kernel
theorem dX7_cofactor_12 : decode cX7_cofactor 12 = .ok (.aload_n 0, 1) := by decide +kernel
theorem dX7_cofactor_13 : decode cX7_cofactor 13 = .ok (.iload_n 1, 1) := by decide +kernel
theorem dX7_cofactor_14 : decode cX7_cofactor 14 = .ok (.iconst 1, 1) := by decide +kernel
theorem dX7_cofactor_15 : decode cX7_cofactor 15 = .ok (.iload_n 3, 1) := by decide +kernel
theorem dX7_cofactor_16 : decode cX7_cofactor 16 = .ok (.isub, 1) := by decide +kernel
theorem dX7_cofactor_17 : decode cX7_cofactor 17 = .ok (.iconst 2, 1) := by decide +kernel
theorem dX7_cofactor_18 : decode cX7_cofactor 18 = .ok (.imul, 1) := by decide +kernel
theorem dX7_cofactor_19 : decode cX7_cofactor 19 = .ok (.iadd, 1) := by decide +kernel
theorem dX7_cofactor_20 : decode cX7_cofactor 20 = .ok (.iconst 1, 1) := by decide +kernel
theorem dX7_cofactor_21 : decode cX7_cofactor 21 = .ok (.iadd, 1) := by decide +kernel
theorem dX7_cofactor_22 : decode cX7_cofactor 22 = .ok (.iload 4, 2) := by decide +kernel
theorem dX7_cofactor_24 : decode cX7_cofactor 24 = .ok (.isub, 1) := by decide +kernel
theorem dX7_cofactor_25 : decode cX7_cofactor 25 = .ok (.laload, 1) := by decide +kernel
theorem dX7_cofactor_26 : decode cX7_cofactor 26 = .ok (.lstore 5, 2) := by decide +kernel
theorem dX7_cofactor_28 : decode cX7_cofactor 28 = .ok (.iload_n 3, 1) := by decide +kernel
theorem dX7_cofactor_29 : decode cX7_cofactor 29 = .ok (.iload 4, 2) := by decide +kernel
theorem dX7_cofactor_31 : decode cX7_cofactor 31 = .ok (.if_icmp .ne 8, 3) := by decide +kernel
theorem dX7_cofactor_34 : decode cX7_cofactor 34 = .ok (.lload 5, 2) := by decide +kernel
theorem dX7_cofactor_36 : decode cX7_cofactor 36 = .ok (.goto 6, 3) := by decide +kernel
theorem dX7_cofactor_39 : decode cX7_cofactor 39 = .ok (.lload 5, 2) := by decide +kernel
theorem dX7_cofactor_41 : decode cX7_cofactor 41 = .ok (.lneg, 1) := by decide +kernel
theorem dX7_cofactor_42 : decode cX7_cofactor 42 = .ok (.lreturn, 1) := by decide +kernel
theorem dX7_cofactor_43 : decode cX7_cofactor 43 = .ok (.iload_n 1, 1) := by decide +kernel
theorem dX7_cofactor_44 : decode cX7_cofactor 44 = .ok (.iload_n 3, 1) := by decide +kernel
theorem dX7_cofactor_45 : decode cX7_cofactor 45 = .ok (.iconst 1, 1) := by decide +kernel
theorem dX7_cofactor_46 : decode cX7_cofactor 46 = .ok (.iadd, 1) := by decide +kernel
theorem dX7_cofactor_47 : decode cX7_cofactor 47 = .ok (.iconst 3, 1) := by decide +kernel
theorem dX7_cofactor_48 : decode cX7_cofactor 48 = .ok (.irem, 1) := by decide +kernel
theorem dX7_cofactor_49 : decode cX7_cofactor 49 = .ok (.iconst 3, 1) := by decide +kernel
theorem dX7_cofactor_50 : decode cX7_cofactor 50 = .ok (.imul, 1) := by decide +kernel
theorem dX7_cofactor_51 : decode cX7_cofactor 51 = .ok (.iadd, 1) := by decide +kernel
theorem dX7_cofactor_52 : decode cX7_cofactor 52 = .ok (.istore 5, 2) := by decide +kernel
theorem dX7_cofactor_54 : decode cX7_cofactor 54 = .ok (.iload_n 1, 1) := by decide +kernel
theorem dX7_cofactor_55 : decode cX7_cofactor 55 = .ok (.iload_n 3, 1) := by decide +kernel
theorem dX7_cofactor_56 : decode cX7_cofactor 56 = .ok (.iconst 2, 1) := by decide +kernel
theorem dX7_cofactor_57 : decode cX7_cofactor 57 = .ok (.iadd, 1) := by decide +kernel
theorem dX7_cofactor_58 : decode cX7_cofactor 58 = .ok (.iconst 3, 1) := by decide +kernel
theorem dX7_cofactor_59 : decode cX7_cofactor 59 = .ok (.irem, 1) := by decide +kernel
theorem dX7_cofactor_60 : decode cX7_cofactor 60 = .ok (.iconst 3, 1) := by decide +kernel
theorem dX7_cofactor_61 : decode cX7_cofactor 61 = .ok (.imul, 1) := by decide +kernel
theorem dX7_cofactor_62 : decode cX7_cofactor 62 = .ok (.iadd, 1) := by decide +kernel
theorem dX7_cofactor_63 : decode cX7_cofactor 63 = .ok (.istore 6, 2) := by decide +kernel
theorem dX7_cofactor_65 : decode cX7_cofactor 65 = .ok (.iload 4, 2) := by decide +kernel
theorem dX7_cofactor_67 : decode cX7_cofactor 67 = .ok (.iconst 1, 1) := by decide +kernel
theorem dX7_cofactor_68 : decode cX7_cofactor 68 = .ok (.iadd, 1) := by decide +kernel
theorem dX7_cofactor_69 : decode cX7_cofactor 69 = .ok (.iconst 3, 1) := by decide +kernel
theorem dX7_cofactor_70 : decode cX7_cofactor 70 = .ok (.irem, 1) := by decide +kernel
theorem dX7_cofactor_71 : decode cX7_cofactor 71 = .ok (.istore 7, 2) := by decide +kernel
theorem dX7_cofactor_73 : decode cX7_cofactor 73 = .ok (.iload 4, 2) := by decide +kernel
theorem dX7_cofactor_75 : decode cX7_cofactor 75 = .ok (.iconst 2, 1) := by decide +kernel
theorem dX7_cofactor_76 : decode cX7_cofactor 76 = .ok (.iadd, 1) := by decide +kernel
theorem dX7_cofactor_77 : decode cX7_cofactor 77 = .ok (.iconst 3, 1) := by decide +kernel
theorem dX7_cofactor_78 : decode cX7_cofactor 78 = .ok (.irem, 1) := by decide +kernel
theorem dX7_cofactor_79 : decode cX7_cofactor 79 = .ok (.istore 8, 2) := by decide +kernel
theorem dX7_cofactor_81 : decode cX7_cofactor 81 = .ok (.aload_n 0, 1) := by decide +kernel
theorem dX7_cofactor_82 : decode cX7_cofactor 82 = .ok (.iload 5, 2) := by decide +kernel
theorem dX7_cofactor_84 : decode cX7_cofactor 84 = .ok (.iload 7, 2) := by decide +kernel
theorem dX7_cofactor_86 : decode cX7_cofactor 86 = .ok (.iadd, 1) := by decide +kernel
theorem dX7_cofactor_87 : decode cX7_cofactor 87 = .ok (.laload, 1) := by decide +kernel
theorem dX7_cofactor_88 : decode cX7_cofactor 88 = .ok (.aload_n 0, 1) := by decide +kernel
theorem dX7_cofactor_89 : decode cX7_cofactor 89 = .ok (.iload 6, 2) := by decide +kernel
theorem dX7_cofactor_91 : decode cX7_cofactor 91 = .ok (.iload 8, 2) := by decide +kernel
theorem dX7_cofactor_93 : decode cX7_cofactor 93 = .ok (.iadd, 1) := by decide +kernel
theorem dX7_cofactor_94 : decode cX7_cofactor 94 = .ok (.laload, 1) := by decide +kernel
theorem dX7_cofactor_95 : decode cX7_cofactor 95 = .ok (.lmul, 1) := by decide +kernel
theorem dX7_cofactor_96 : decode cX7_cofactor 96 = .ok (.aload_n 0, 1) := by decide +kernel
theorem dX7_cofactor_97 : decode cX7_cofactor 97 = .ok (.iload 5, 2) := by decide +kernel
theorem dX7_cofactor_99 : decode cX7_cofactor 99 = .ok (.iload 8, 2) := by decide +kernel
theorem dX7_cofactor_101 : decode cX7_cofactor 101 = .ok (.iadd, 1) := by decide +kernel
theorem dX7_cofactor_102 : decode cX7_cofactor 102 = .ok (.laload, 1) := by decide +kernel
theorem dX7_cofactor_103 : decode cX7_cofactor 103 = .ok (.aload_n 0, 1) := by decide +kernel
theorem dX7_cofactor_104 : decode cX7_cofactor 104 = .ok (.iload 6, 2) := by decide +kernel
theorem dX7_cofactor_106 : decode cX7_cofactor 106 = .ok (.iload 7, 2) := by decide +kernel
theorem dX7_cofactor_108 : decode cX7_cofactor 108 = .ok (.iadd, 1) := by decide +kernel
theorem dX7_cofactor_109 : decode cX7_cofactor 109 = .ok (.laload, 1) := by decide +kernel
theorem dX7_cofactor_110 : decode cX7_cofactor 110 = .ok (.lmul, 1) := by decide +kernel
theorem dX7_cofactor_111 : decode cX7_cofactor 111 = .ok (.lsub, 1) := by decide +kernel
theorem dX7_cofactor_112 : decode cX7_cofactor 112 = .ok (.lreturn, 1) := by decide +kernel
theorem dX7_commonDivisor_0 : decode cX7_commonDivisor 0 = .ok (.lconst 0, 1) := by decide +kernel
theorem dX7_commonDivisor_1 : decode cX7_commonDivisor 1 = .ok (.lstore_n 2, 1) := by decide +kernel
theorem dX7_commonDivisor_2 : decode cX7_commonDivisor 2 = .ok (.iconst 0, 1) := by decide +kernel
theorem dX7_commonDivisor_3 : decode cX7_commonDivisor 3 = .ok (.istore 4, 2) := by decide +kernel
theorem dX7_commonDivisor_5 : decode cX7_commonDivisor 5 = .ok (.iload 4, 2) := by decide +kernel
theorem dX7_commonDivisor_7 : decode cX7_commonDivisor 7 = .ok (.iload_n 1, 1) := by decide +kernel
theorem dX7_commonDivisor_8 : decode cX7_commonDivisor 8 = .ok (.if_icmp .ge 52, 3) := by decide +kernel
theorem dX7_commonDivisor_11 : decode cX7_commonDivisor 11 = .ok (.aload_n 0, 1) := by decide +kernel
theorem dX7_commonDivisor_12 : decode cX7_commonDivisor 12 = .ok (.iload 4, 2) := by decide +kernel
theorem dX7_commonDivisor_14 : decode cX7_commonDivisor 14 = .ok (.laload, 1) := by decide +kernel
theorem dX7_commonDivisor_15 : decode cX7_commonDivisor 15 = .ok (.lstore 5, 2) := by decide +kernel
theorem dX7_commonDivisor_17 : decode cX7_commonDivisor 17 = .ok (.iconst 0, 1) := by decide +kernel
theorem dX7_commonDivisor_18 : decode cX7_commonDivisor 18 = .ok (.istore 7, 2) := by decide +kernel
theorem dX7_commonDivisor_20 : decode cX7_commonDivisor 20 = .ok (.iload 7, 2) := by decide +kernel
theorem dX7_commonDivisor_22 : decode cX7_commonDivisor 22 = .ok (.sipush 200, 3) := by decide +kernel
theorem dX7_commonDivisor_25 : decode cX7_commonDivisor 25 = .ok (.if_icmp .ge 29, 3) := by decide +kernel
theorem dX7_commonDivisor_28 : decode cX7_commonDivisor 28 = .ok (.lload 5, 2) := by decide +kernel
theorem dX7_commonDivisor_30 : decode cX7_commonDivisor 30 = .ok (.lconst 0, 1) := by decide +kernel
theorem dX7_commonDivisor_31 : decode cX7_commonDivisor 31 = .ok (.lcmp, 1) := by decide +kernel
theorem dX7_commonDivisor_32 : decode cX7_commonDivisor 32 = .ok (.ifCond .eq 22, 3) := by decide +kernel
theorem dX7_commonDivisor_35 : decode cX7_commonDivisor 35 = .ok (.lload_n 2, 1) := by decide +kernel
theorem dX7_commonDivisor_36 : decode cX7_commonDivisor 36 = .ok (.lload 5, 2) := by decide +kernel
theorem dX7_commonDivisor_38 : decode cX7_commonDivisor 38 = .ok (.lrem, 1) := by decide +kernel
theorem dX7_commonDivisor_39 : decode cX7_commonDivisor 39 = .ok (.lstore 8, 2) := by decide +kernel
theorem dX7_commonDivisor_41 : decode cX7_commonDivisor 41 = .ok (.lload 5, 2) := by decide +kernel
theorem dX7_commonDivisor_43 : decode cX7_commonDivisor 43 = .ok (.lstore_n 2, 1) := by decide +kernel
theorem dX7_commonDivisor_44 : decode cX7_commonDivisor 44 = .ok (.lload 8, 2) := by decide +kernel
theorem dX7_commonDivisor_46 : decode cX7_commonDivisor 46 = .ok (.lstore 5, 2) := by decide +kernel
theorem dX7_commonDivisor_48 : decode cX7_commonDivisor 48 = .ok (.iinc 7 1, 3) := by decide +kernel
theorem dX7_commonDivisor_51 : decode cX7_commonDivisor 51 = .ok (.goto (-31), 3) := by decide +kernel
theorem dX7_commonDivisor_54 : decode cX7_commonDivisor 54 = .ok (.iinc 4 1, 3) := by decide +kernel
theorem dX7_commonDivisor_57 : decode cX7_commonDivisor 57 = .ok (.goto (-52), 3) := by decide +kernel
theorem dX7_commonDivisor_60 : decode cX7_commonDivisor 60 = .ok (.lload_n 2, 1) := by decide +kernel
theorem dX7_commonDivisor_61 : decode cX7_commonDivisor 61 = .ok (.invokestatic 35, 3) := by decide +kernel
theorem dX7_commonDivisor_64 : decode cX7_commonDivisor 64 = .ok (.lreturn, 1) := by decide +kernel
theorem dX7_determinant_0 : decode cX7_determinant 0 = .ok (.iload_n 3, 1) := by decide +kernel
theorem dX7_determinant_1 : decode cX7_determinant 1 = .ok (.iconst 1, 1) := by decide +kernel
theorem dX7_determinant_2 : decode cX7_determinant 2 = .ok (.if_icmp .ne 7, 3) := by decide +kernel
theorem dX7_determinant_5 : decode cX7_determinant 5 = .ok (.aload_n 0, 1) := by decide +kernel
theorem dX7_determinant_6 : decode cX7_determinant 6 = .ok (.iload_n 1, 1) := by decide +kernel
theorem dX7_determinant_7 : decode cX7_determinant 7 = .ok (.laload, 1) := by decide +kernel
theorem dX7_determinant_8 : decode cX7_determinant 8 = .ok (.lreturn, 1) := by decide +kernel
theorem dX7_determinant_9 : decode cX7_determinant 9 = .ok (.iload_n 3, 1) := by decide +kernel
theorem dX7_determinant_10 : decode cX7_determinant 10 = .ok (.iconst 2, 1) := by decide +kernel
theorem dX7_determinant_11 : decode cX7_determinant 11 = .ok (.if_icmp .ne 27, 3) := by decide +kernel
theorem dX7_determinant_14 : decode cX7_determinant 14 = .ok (.aload_n 0, 1) := by decide +kernel
theorem dX7_determinant_15 : decode cX7_determinant 15 = .ok (.iload_n 1, 1) := by decide +kernel
theorem dX7_determinant_16 : decode cX7_determinant 16 = .ok (.laload, 1) := by decide +kernel
theorem dX7_determinant_17 : decode cX7_determinant 17 = .ok (.aload_n 0, 1) := by decide +kernel
theorem dX7_determinant_18 : decode cX7_determinant 18 = .ok (.iload_n 1, 1) := by decide +kernel
theorem dX7_determinant_19 : decode cX7_determinant 19 = .ok (.iload_n 2, 1) := by decide +kernel
theorem dX7_determinant_20 : decode cX7_determinant 20 = .ok (.iadd, 1) := by decide +kernel
theorem dX7_determinant_21 : decode cX7_determinant 21 = .ok (.iconst 1, 1) := by decide +kernel
theorem dX7_determinant_22 : decode cX7_determinant 22 = .ok (.iadd, 1) := by decide +kernel
theorem dX7_determinant_23 : decode cX7_determinant 23 = .ok (.laload, 1) := by decide +kernel
theorem dX7_determinant_24 : decode cX7_determinant 24 = .ok (.lmul, 1) := by decide +kernel
theorem dX7_determinant_25 : decode cX7_determinant 25 = .ok (.aload_n 0, 1) := by decide +kernel
theorem dX7_determinant_26 : decode cX7_determinant 26 = .ok (.iload_n 1, 1) := by decide +kernel
theorem dX7_determinant_27 : decode cX7_determinant 27 = .ok (.iconst 1, 1) := by decide +kernel
theorem dX7_determinant_28 : decode cX7_determinant 28 = .ok (.iadd, 1) := by decide +kernel
theorem dX7_determinant_29 : decode cX7_determinant 29 = .ok (.laload, 1) := by decide +kernel
theorem dX7_determinant_30 : decode cX7_determinant 30 = .ok (.aload_n 0, 1) := by decide +kernel
theorem dX7_determinant_31 : decode cX7_determinant 31 = .ok (.iload_n 1, 1) := by decide +kernel
theorem dX7_determinant_32 : decode cX7_determinant 32 = .ok (.iload_n 2, 1) := by decide +kernel
theorem dX7_determinant_33 : decode cX7_determinant 33 = .ok (.iadd, 1) := by decide +kernel
theorem dX7_determinant_34 : decode cX7_determinant 34 = .ok (.laload, 1) := by decide +kernel
theorem dX7_determinant_35 : decode cX7_determinant 35 = .ok (.lmul, 1) := by decide +kernel
theorem dX7_determinant_36 : decode cX7_determinant 36 = .ok (.lsub, 1) := by decide +kernel
theorem dX7_determinant_37 : decode cX7_determinant 37 = .ok (.lreturn, 1) := by decide +kernel
theorem dX7_determinant_38 : decode cX7_determinant 38 = .ok (.lconst 0, 1) := by decide +kernel
theorem dX7_determinant_39 : decode cX7_determinant 39 = .ok (.lstore 4, 2) := by decide +kernel
theorem dX7_determinant_41 : decode cX7_determinant 41 = .ok (.iconst 0, 1) := by decide +kernel
theorem dX7_determinant_42 : decode cX7_determinant 42 = .ok (.istore 6, 2) := by decide +kernel
theorem dX7_determinant_44 : decode cX7_determinant 44 = .ok (.iload 6, 2) := by decide +kernel
theorem dX7_determinant_46 : decode cX7_determinant 46 = .ok (.iconst 3, 1) := by decide +kernel
theorem dX7_determinant_47 : decode cX7_determinant 47 = .ok (.if_icmp .ge 30, 3) := by decide +kernel
theorem dX7_determinant_50 : decode cX7_determinant 50 = .ok (.lload 4, 2) := by decide +kernel
theorem dX7_determinant_52 : decode cX7_determinant 52 = .ok (.aload_n 0, 1) := by decide +kernel
theorem dX7_determinant_53 : decode cX7_determinant 53 = .ok (.iload_n 1, 1) := by decide +kernel
theorem dX7_determinant_54 : decode cX7_determinant 54 = .ok (.iload 6, 2) := by decide +kernel
theorem dX7_determinant_56 : decode cX7_determinant 56 = .ok (.iadd, 1) := by decide +kernel
theorem dX7_determinant_57 : decode cX7_determinant 57 = .ok (.laload, 1) := by decide +kernel
theorem dX7_determinant_58 : decode cX7_determinant 58 = .ok (.aload_n 0, 1) := by decide +kernel
theorem dX7_determinant_59 : decode cX7_determinant 59 = .ok (.iload_n 1, 1) := by decide +kernel
theorem dX7_determinant_60 : decode cX7_determinant 60 = .ok (.iconst 3, 1) := by decide +kernel
theorem dX7_determinant_61 : decode cX7_determinant 61 = .ok (.iconst 0, 1) := by decide +kernel
theorem dX7_determinant_62 : decode cX7_determinant 62 = .ok (.iload 6, 2) := by decide +kernel
theorem dX7_determinant_64 : decode cX7_determinant 64 = .ok (.invokestatic 23, 3) := by decide +kernel
theorem dX7_determinant_67 : decode cX7_determinant 67 = .ok (.lmul, 1) := by decide +kernel
theorem dX7_determinant_68 : decode cX7_determinant 68 = .ok (.ladd, 1) := by decide +kernel
theorem dX7_determinant_69 : decode cX7_determinant 69 = .ok (.lstore 4, 2) := by decide +kernel
theorem dX7_determinant_71 : decode cX7_determinant 71 = .ok (.iinc 6 1, 3) := by decide +kernel
theorem dX7_determinant_74 : decode cX7_determinant 74 = .ok (.goto (-30), 3) := by decide +kernel
theorem dX7_determinant_77 : decode cX7_determinant 77 = .ok (.lload 4, 2) := by decide +kernel
theorem dX7_determinant_79 : decode cX7_determinant 79 = .ok (.lreturn, 1) := by decide +kernel
theorem dX7_hasWholeInverse_0 : decode cX7_hasWholeInverse 0 = .ok (.aload_n 0, 1) := by decide +kernel
theorem dX7_hasWholeInverse_1 : decode cX7_hasWholeInverse 1 = .ok (.iload_n 1, 1) := by decide +kernel
theorem dX7_hasWholeInverse_2 : decode cX7_hasWholeInverse 2 = .ok (.iload_n 2, 1) := by decide +kernel
theorem dX7_hasWholeInverse_3 : decode cX7_hasWholeInverse 3 = .ok (.iload_n 2, 1) := by decide +kernel
theorem dX7_hasWholeInverse_4 : decode cX7_hasWholeInverse 4 = .ok (.invokestatic 19, 3) := by decide +kernel
theorem dX7_hasWholeInverse_7 : decode cX7_hasWholeInverse 7 = .ok (.lstore_n 3, 1) := by decide +kernel
theorem dX7_hasWholeInverse_8 : decode cX7_hasWholeInverse 8 = .ok (.lload_n 3, 1) := by decide +kernel
theorem dX7_hasWholeInverse_9 : decode cX7_hasWholeInverse 9 = .ok (.lconst 1, 1) := by decide +kernel
theorem dX7_hasWholeInverse_10 : decode cX7_hasWholeInverse 10 = .ok (.lcmp, 1) := by decide +kernel
theorem dX7_hasWholeInverse_11 : decode cX7_hasWholeInverse 11 = .ok (.ifCond .eq 11, 3) := by decide +kernel
theorem dX7_hasWholeInverse_14 : decode cX7_hasWholeInverse 14 = .ok (.lload_n 3, 1) := by decide +kernel
theorem dX7_hasWholeInverse_15 : decode cX7_hasWholeInverse 15 = .ok (.ldc2_w 27, 3) := by decide +kernel
theorem dX7_hasWholeInverse_18 : decode cX7_hasWholeInverse 18 = .ok (.lcmp, 1) := by decide +kernel
theorem dX7_hasWholeInverse_19 : decode cX7_hasWholeInverse 19 = .ok (.ifCond .ne 7, 3) := by decide +kernel
theorem dX7_hasWholeInverse_22 : decode cX7_hasWholeInverse 22 = .ok (.iconst 1, 1) := by decide +kernel
theorem dX7_hasWholeInverse_23 : decode cX7_hasWholeInverse 23 = .ok (.goto 4, 3) := by decide +kernel
theorem dX7_hasWholeInverse_26 : decode cX7_hasWholeInverse 26 = .ok (.iconst 0, 1) := by decide +kernel
theorem dX7_hasWholeInverse_27 : decode cX7_hasWholeInverse 27 = .ok (.ireturn, 1) := by decide +kernel
theorem dX7_invert_0 : decode cX7_invert 0 = .ok (.aload_n 0, 1) := by decide +kernel
theorem dX7_invert_1 : decode cX7_invert 1 = .ok (.iload_n 1, 1) := by decide +kernel
theorem dX7_invert_2 : decode cX7_invert 2 = .ok (.iload_n 3, 1) := by decide +kernel
theorem dX7_invert_3 : decode cX7_invert 3 = .ok (.iload_n 3, 1) := by decide +kernel
theorem dX7_invert_4 : decode cX7_invert 4 = .ok (.invokestatic 19, 3) := by decide +kernel
theorem dX7_invert_7 : decode cX7_invert 7 = .ok (.lstore 4, 2) := by decide +kernel
theorem dX7_invert_9 : decode cX7_invert 9 = .ok (.iconst 0, 1) := by decide +kernel
theorem dX7_invert_10 : decode cX7_invert 10 = .ok (.istore 6, 2) := by decide +kernel
theorem dX7_invert_12 : decode cX7_invert 12 = .ok (.iload 6, 2) := by decide +kernel
theorem dX7_invert_14 : decode cX7_invert 14 = .ok (.iload_n 3, 1) := by decide +kernel
theorem dX7_invert_15 : decode cX7_invert 15 = .ok (.if_icmp .ge 46, 3) := by decide +kernel
theorem dX7_invert_18 : decode cX7_invert 18 = .ok (.iconst 0, 1) := by decide +kernel
theorem dX7_invert_19 : decode cX7_invert 19 = .ok (.istore 7, 2) := by decide +kernel
theorem dX7_invert_21 : decode cX7_invert 21 = .ok (.iload 7, 2) := by decide +kernel
theorem dX7_invert_23 : decode cX7_invert 23 = .ok (.iload_n 3, 1) := by decide +kernel
theorem dX7_invert_24 : decode cX7_invert 24 = .ok (.if_icmp .ge 31, 3) := by decide +kernel
theorem dX7_invert_27 : decode cX7_invert 27 = .ok (.aload_n 2, 1) := by decide +kernel
theorem dX7_invert_28 : decode cX7_invert 28 = .ok (.iload 7, 2) := by decide +kernel
theorem dX7_invert_30 : decode cX7_invert 30 = .ok (.iload_n 3, 1) := by decide +kernel
theorem dX7_invert_31 : decode cX7_invert 31 = .ok (.imul, 1) := by decide +kernel
theorem dX7_invert_32 : decode cX7_invert 32 = .ok (.iload 6, 2) := by decide +kernel
theorem dX7_invert_34 : decode cX7_invert 34 = .ok (.iadd, 1) := by decide +kernel
theorem dX7_invert_35 : decode cX7_invert 35 = .ok (.lload 4, 2) := by decide +kernel
theorem dX7_invert_37 : decode cX7_invert 37 = .ok (.aload_n 0, 1) := by decide +kernel
theorem dX7_invert_38 : decode cX7_invert 38 = .ok (.iload_n 1, 1) := by decide +kernel
theorem dX7_invert_39 : decode cX7_invert 39 = .ok (.iload_n 3, 1) := by decide +kernel
theorem dX7_invert_40 : decode cX7_invert 40 = .ok (.iload 6, 2) := by decide +kernel
theorem dX7_invert_42 : decode cX7_invert 42 = .ok (.iload 7, 2) := by decide +kernel
theorem dX7_invert_44 : decode cX7_invert 44 = .ok (.invokestatic 23, 3) := by decide +kernel
theorem dX7_invert_47 : decode cX7_invert 47 = .ok (.lmul, 1) := by decide +kernel
theorem dX7_invert_48 : decode cX7_invert 48 = .ok (.lastore, 1) := by decide +kernel
theorem dX7_invert_49 : decode cX7_invert 49 = .ok (.iinc 7 1, 3) := by decide +kernel
theorem dX7_invert_52 : decode cX7_invert 52 = .ok (.goto (-31), 3) := by decide +kernel
theorem dX7_invert_55 : decode cX7_invert 55 = .ok (.iinc 6 1, 3) := by decide +kernel
theorem dX7_invert_58 : decode cX7_invert 58 = .ok (.goto (-46), 3) := by decide +kernel
theorem dX7_invert_61 : decode cX7_invert 61 = .ok (.return_, 1) := by decide +kernel
theorem dX7_isOne_0 : decode cX7_isOne 0 = .ok (.iconst 0, 1) := by decide +kernel
theorem dX7_isOne_1 : decode cX7_isOne 1 = .ok (.istore_n 2, 1) := by decide +kernel
theorem dX7_isOne_2 : decode cX7_isOne 2 = .ok (.iload_n 2, 1) := by decide +kernel
theorem dX7_isOne_3 : decode cX7_isOne 3 = .ok (.iload_n 1, 1) := by decide +kernel
theorem dX7_isOne_4 : decode cX7_isOne 4 = .ok (.if_icmp .ge 46, 3) := by decide +kernel
theorem dX7_isOne_7 : decode cX7_isOne 7 = .ok (.iconst 0, 1) := by decide +kernel
theorem dX7_isOne_8 : decode cX7_isOne 8 = .ok (.istore_n 3, 1) := by decide +kernel
theorem dX7_isOne_9 : decode cX7_isOne 9 = .ok (.iload_n 3, 1) := by decide +kernel
theorem dX7_isOne_10 : decode cX7_isOne 10 = .ok (.iload_n 1, 1) := by decide +kernel
theorem dX7_isOne_11 : decode cX7_isOne 11 = .ok (.if_icmp .ge 33, 3) := by decide +kernel
theorem dX7_isOne_14 : decode cX7_isOne 14 = .ok (.aload_n 0, 1) := by decide +kernel
theorem dX7_isOne_15 : decode cX7_isOne 15 = .ok (.iload_n 2, 1) := by decide +kernel
theorem dX7_isOne_16 : decode cX7_isOne 16 = .ok (.iload_n 1, 1) := by decide +kernel
theorem dX7_isOne_17 : decode cX7_isOne 17 = .ok (.imul, 1) := by decide +kernel
theorem dX7_isOne_18 : decode cX7_isOne 18 = .ok (.iload_n 3, 1) := by decide +kernel
theorem dX7_isOne_19 : decode cX7_isOne 19 = .ok (.iadd, 1) := by decide +kernel
theorem dX7_isOne_20 : decode cX7_isOne 20 = .ok (.laload, 1) := by decide +kernel
theorem dX7_isOne_21 : decode cX7_isOne 21 = .ok (.iload_n 2, 1) := by decide +kernel
theorem dX7_isOne_22 : decode cX7_isOne 22 = .ok (.iload_n 3, 1) := by decide +kernel
theorem dX7_isOne_23 : decode cX7_isOne 23 = .ok (.if_icmp .ne 7, 3) := by decide +kernel
theorem dX7_isOne_26 : decode cX7_isOne 26 = .ok (.iconst 1, 1) := by decide +kernel
theorem dX7_isOne_27 : decode cX7_isOne 27 = .ok (.goto 4, 3) := by decide +kernel
theorem dX7_isOne_30 : decode cX7_isOne 30 = .ok (.iconst 0, 1) := by decide +kernel
theorem dX7_isOne_31 : decode cX7_isOne 31 = .ok (.i2l, 1) := by decide +kernel
theorem dX7_isOne_32 : decode cX7_isOne 32 = .ok (.lcmp, 1) := by decide +kernel
theorem dX7_isOne_33 : decode cX7_isOne 33 = .ok (.ifCond .eq 5, 3) := by decide +kernel
theorem dX7_isOne_36 : decode cX7_isOne 36 = .ok (.iconst 0, 1) := by decide +kernel
theorem dX7_isOne_37 : decode cX7_isOne 37 = .ok (.ireturn, 1) := by decide +kernel
theorem dX7_isOne_38 : decode cX7_isOne 38 = .ok (.iinc 3 1, 3) := by decide +kernel
theorem dX7_isOne_41 : decode cX7_isOne 41 = .ok (.goto (-32), 3) := by decide +kernel
theorem dX7_isOne_44 : decode cX7_isOne 44 = .ok (.iinc 2 1, 3) := by decide +kernel
theorem dX7_isOne_47 : decode cX7_isOne 47 = .ok (.goto (-45), 3) := by decide +kernel
theorem dX7_isOne_50 : decode cX7_isOne 50 = .ok (.iconst 1, 1) := by decide +kernel
theorem dX7_isOne_51 : decode cX7_isOne 51 = .ok (.ireturn, 1) := by decide +kernel
theorem dX7_isWithin_0 : decode cX7_isWithin 0 = .ok (.iconst 0, 1) := by decide +kernel
theorem dX7_isWithin_1 : decode cX7_isWithin 1 = .ok (.istore 4, 2) := by decide +kernel
theorem dX7_isWithin_3 : decode cX7_isWithin 3 = .ok (.iload 4, 2) := by decide +kernel
theorem dX7_isWithin_5 : decode cX7_isWithin 5 = .ok (.iload_n 1, 1) := by decide +kernel
theorem dX7_isWithin_6 : decode cX7_isWithin 6 = .ok (.if_icmp .ge 30, 3) := by decide +kernel
theorem dX7_isWithin_9 : decode cX7_isWithin 9 = .ok (.aload_n 0, 1) := by decide +kernel
theorem dX7_isWithin_10 : decode cX7_isWithin 10 = .ok (.iload 4, 2) := by decide +kernel
theorem dX7_isWithin_12 : decode cX7_isWithin 12 = .ok (.laload, 1) := by decide +kernel
theorem dX7_isWithin_13 : decode cX7_isWithin 13 = .ok (.lload_n 2, 1) := by decide +kernel
theorem dX7_isWithin_14 : decode cX7_isWithin 14 = .ok (.lneg, 1) := by decide +kernel
theorem dX7_isWithin_15 : decode cX7_isWithin 15 = .ok (.lcmp, 1) := by decide +kernel
theorem dX7_isWithin_16 : decode cX7_isWithin 16 = .ok (.ifCond .lt 12, 3) := by decide +kernel
theorem dX7_isWithin_19 : decode cX7_isWithin 19 = .ok (.aload_n 0, 1) := by decide +kernel
theorem dX7_isWithin_20 : decode cX7_isWithin 20 = .ok (.iload 4, 2) := by decide +kernel
theorem dX7_isWithin_22 : decode cX7_isWithin 22 = .ok (.laload, 1) := by decide +kernel
theorem dX7_isWithin_23 : decode cX7_isWithin 23 = .ok (.lload_n 2, 1) := by decide +kernel
theorem dX7_isWithin_24 : decode cX7_isWithin 24 = .ok (.lcmp, 1) := by decide +kernel
theorem dX7_isWithin_25 : decode cX7_isWithin 25 = .ok (.ifCond .le 5, 3) := by decide +kernel
theorem dX7_isWithin_28 : decode cX7_isWithin 28 = .ok (.iconst 0, 1) := by decide +kernel
theorem dX7_isWithin_29 : decode cX7_isWithin 29 = .ok (.ireturn, 1) := by decide +kernel
theorem dX7_isWithin_30 : decode cX7_isWithin 30 = .ok (.iinc 4 1, 3) := by decide +kernel
theorem dX7_isWithin_33 : decode cX7_isWithin 33 = .ok (.goto (-30), 3) := by decide +kernel
theorem dX7_isWithin_36 : decode cX7_isWithin 36 = .ok (.iconst 1, 1) := by decide +kernel
theorem dX7_isWithin_37 : decode cX7_isWithin 37 = .ok (.ireturn, 1) := by decide +kernel
theorem dX7_move_0 : decode cX7_move 0 = .ok (.iconst 0, 1) := by decide +kernel
theorem dX7_move_1 : decode cX7_move 1 = .ok (.istore 6, 2) := by decide +kernel
theorem dX7_move_3 : decode cX7_move 3 = .ok (.iload 6, 2) := by decide +kernel
theorem dX7_move_5 : decode cX7_move 5 = .ok (.iload 5, 2) := by decide +kernel
theorem dX7_move_7 : decode cX7_move 7 = .ok (.if_icmp .ge 31, 3) := by decide +kernel
theorem dX7_move_10 : decode cX7_move 10 = .ok (.aload 4, 2) := by decide +kernel
theorem dX7_move_12 : decode cX7_move 12 = .ok (.iload 6, 2) := by decide +kernel
theorem dX7_move_14 : decode cX7_move 14 = .ok (.aload_n 0, 1) := by decide +kernel
theorem dX7_move_15 : decode cX7_move 15 = .ok (.iload_n 1, 1) := by decide +kernel
theorem dX7_move_16 : decode cX7_move 16 = .ok (.iload 6, 2) := by decide +kernel
theorem dX7_move_18 : decode cX7_move 18 = .ok (.iload 5, 2) := by decide +kernel
theorem dX7_move_20 : decode cX7_move 20 = .ok (.imul, 1) := by decide +kernel
theorem dX7_move_21 : decode cX7_move 21 = .ok (.iadd, 1) := by decide +kernel
theorem dX7_move_22 : decode cX7_move 22 = .ok (.iconst 1, 1) := by decide +kernel
theorem dX7_move_23 : decode cX7_move 23 = .ok (.aload_n 2, 1) := by decide +kernel
theorem dX7_move_24 : decode cX7_move 24 = .ok (.iload_n 3, 1) := by decide +kernel
theorem dX7_move_25 : decode cX7_move 25 = .ok (.iconst 1, 1) := by decide +kernel
theorem dX7_move_26 : decode cX7_move 26 = .ok (.iload 5, 2) := by decide +kernel
theorem dX7_move_28 : decode cX7_move 28 = .ok (.invokestatic 13, 3) := by decide +kernel
theorem dX7_move_31 : decode cX7_move 31 = .ok (.lastore, 1) := by decide +kernel
theorem dX7_move_32 : decode cX7_move 32 = .ok (.iinc 6 1, 3) := by decide +kernel
theorem dX7_move_35 : decode cX7_move 35 = .ok (.goto (-32), 3) := by decide +kernel
theorem dX7_move_38 : decode cX7_move 38 = .ok (.return_, 1) := by decide +kernel
theorem dX7_multiply_0 : decode cX7_multiply 0 = .ok (.iconst 0, 1) := by decide +kernel
theorem dX7_multiply_1 : decode cX7_multiply 1 = .ok (.istore 6, 2) := by decide +kernel
theorem dX7_multiply_3 : decode cX7_multiply 3 = .ok (.iload 6, 2) := by decide +kernel
theorem dX7_multiply_5 : decode cX7_multiply 5 = .ok (.iload 5, 2) := by decide +kernel
theorem dX7_multiply_7 : decode cX7_multiply 7 = .ok (.if_icmp .ge 57, 3) := by decide +kernel
theorem dX7_multiply_10 : decode cX7_multiply 10 = .ok (.iconst 0, 1) := by decide +kernel
theorem dX7_multiply_11 : decode cX7_multiply 11 = .ok (.istore 7, 2) := by decide +kernel
theorem dX7_multiply_13 : decode cX7_multiply 13 = .ok (.iload 7, 2) := by decide +kernel
theorem dX7_multiply_15 : decode cX7_multiply 15 = .ok (.iload 5, 2) := by decide +kernel
theorem dX7_multiply_17 : decode cX7_multiply 17 = .ok (.if_icmp .ge 41, 3) := by decide +kernel
theorem dX7_multiply_20 : decode cX7_multiply 20 = .ok (.aload 4, 2) := by decide +kernel
theorem dX7_multiply_22 : decode cX7_multiply 22 = .ok (.iload 6, 2) := by decide +kernel
theorem dX7_multiply_24 : decode cX7_multiply 24 = .ok (.iload 5, 2) := by decide +kernel
theorem dX7_multiply_26 : decode cX7_multiply 26 = .ok (.imul, 1) := by decide +kernel
theorem dX7_multiply_27 : decode cX7_multiply 27 = .ok (.iload 7, 2) := by decide +kernel
theorem dX7_multiply_29 : decode cX7_multiply 29 = .ok (.iadd, 1) := by decide +kernel
theorem dX7_multiply_30 : decode cX7_multiply 30 = .ok (.aload_n 0, 1) := by decide +kernel
theorem dX7_multiply_31 : decode cX7_multiply 31 = .ok (.iload_n 1, 1) := by decide +kernel
theorem dX7_multiply_32 : decode cX7_multiply 32 = .ok (.iload 6, 2) := by decide +kernel
theorem dX7_multiply_34 : decode cX7_multiply 34 = .ok (.iload 5, 2) := by decide +kernel
theorem dX7_multiply_36 : decode cX7_multiply 36 = .ok (.imul, 1) := by decide +kernel
theorem dX7_multiply_37 : decode cX7_multiply 37 = .ok (.iadd, 1) := by decide +kernel
theorem dX7_multiply_38 : decode cX7_multiply 38 = .ok (.iconst 1, 1) := by decide +kernel
theorem dX7_multiply_39 : decode cX7_multiply 39 = .ok (.aload_n 2, 1) := by decide +kernel
theorem dX7_multiply_40 : decode cX7_multiply 40 = .ok (.iload_n 3, 1) := by decide +kernel
theorem dX7_multiply_41 : decode cX7_multiply 41 = .ok (.iload 7, 2) := by decide +kernel
theorem dX7_multiply_43 : decode cX7_multiply 43 = .ok (.iadd, 1) := by decide +kernel
theorem dX7_multiply_44 : decode cX7_multiply 44 = .ok (.iload 5, 2) := by decide +kernel
theorem dX7_multiply_46 : decode cX7_multiply 46 = .ok (.iload 5, 2) := by decide +kernel
theorem dX7_multiply_48 : decode cX7_multiply 48 = .ok (.invokestatic 13, 3) := by decide +kernel
theorem dX7_multiply_51 : decode cX7_multiply 51 = .ok (.lastore, 1) := by decide +kernel
theorem dX7_multiply_52 : decode cX7_multiply 52 = .ok (.iinc 7 1, 3) := by decide +kernel
theorem dX7_multiply_55 : decode cX7_multiply 55 = .ok (.goto (-42), 3) := by decide +kernel
theorem dX7_multiply_58 : decode cX7_multiply 58 = .ok (.iinc 6 1, 3) := by decide +kernel
theorem dX7_multiply_61 : decode cX7_multiply 61 = .ok (.goto (-58), 3) := by decide +kernel
theorem dX7_multiply_64 : decode cX7_multiply 64 = .ok (.return_, 1) := by decide +kernel
theorem dX7_multiplyTurned_0 : decode cX7_multiplyTurned 0 = .ok (.iconst 0, 1) := by decide +kernel
theorem dX7_multiplyTurned_1 : decode cX7_multiplyTurned 1 = .ok (.istore 6, 2) := by decide +kernel
theorem dX7_multiplyTurned_3 : decode cX7_multiplyTurned 3 = .ok (.iload 6, 2) := by decide +kernel
theorem dX7_multiplyTurned_5 : decode cX7_multiplyTurned 5 = .ok (.iload 5, 2) := by decide +kernel
theorem dX7_multiplyTurned_7 : decode cX7_multiplyTurned 7 = .ok (.if_icmp .ge 55, 3) := by decide +kernel
theorem dX7_multiplyTurned_10 : decode cX7_multiplyTurned 10 = .ok (.iconst 0, 1) := by decide +kernel
theorem dX7_multiplyTurned_11 : decode cX7_multiplyTurned 11 = .ok (.istore 7, 2) := by decide +kernel
theorem dX7_multiplyTurned_13 : decode cX7_multiplyTurned 13 = .ok (.iload 7, 2) := by decide +kernel
theorem dX7_multiplyTurned_15 : decode cX7_multiplyTurned 15 = .ok (.iload 5, 2) := by decide +kernel
theorem dX7_multiplyTurned_17 : decode cX7_multiplyTurned 17 = .ok (.if_icmp .ge 39, 3) := by decide +kernel
theorem dX7_multiplyTurned_20 : decode cX7_multiplyTurned 20 = .ok (.aload 4, 2) := by decide +kernel
theorem dX7_multiplyTurned_22 : decode cX7_multiplyTurned 22 = .ok (.iload 6, 2) := by decide +kernel
theorem dX7_multiplyTurned_24 : decode cX7_multiplyTurned 24 = .ok (.iload 5, 2) := by decide +kernel
theorem dX7_multiplyTurned_26 : decode cX7_multiplyTurned 26 = .ok (.imul, 1) := by decide +kernel
theorem dX7_multiplyTurned_27 : decode cX7_multiplyTurned 27 = .ok (.iload 7, 2) := by decide +kernel
theorem dX7_multiplyTurned_29 : decode cX7_multiplyTurned 29 = .ok (.iadd, 1) := by decide +kernel
theorem dX7_multiplyTurned_30 : decode cX7_multiplyTurned 30 = .ok (.aload_n 0, 1) := by decide +kernel
theorem dX7_multiplyTurned_31 : decode cX7_multiplyTurned 31 = .ok (.iload_n 1, 1) := by decide +kernel
theorem dX7_multiplyTurned_32 : decode cX7_multiplyTurned 32 = .ok (.iload 6, 2) := by decide +kernel
theorem dX7_multiplyTurned_34 : decode cX7_multiplyTurned 34 = .ok (.iadd, 1) := by decide +kernel
theorem dX7_multiplyTurned_35 : decode cX7_multiplyTurned 35 = .ok (.iload 5, 2) := by decide +kernel
theorem dX7_multiplyTurned_37 : decode cX7_multiplyTurned 37 = .ok (.aload_n 2, 1) := by decide +kernel
theorem dX7_multiplyTurned_38 : decode cX7_multiplyTurned 38 = .ok (.iload_n 3, 1) := by decide +kernel
theorem dX7_multiplyTurned_39 : decode cX7_multiplyTurned 39 = .ok (.iload 7, 2) := by decide +kernel
theorem dX7_multiplyTurned_41 : decode cX7_multiplyTurned 41 = .ok (.iadd, 1) := by decide +kernel
theorem dX7_multiplyTurned_42 : decode cX7_multiplyTurned 42 = .ok (.iload 5, 2) := by decide +kernel
theorem dX7_multiplyTurned_44 : decode cX7_multiplyTurned 44 = .ok (.iload 5, 2) := by decide +kernel
theorem dX7_multiplyTurned_46 : decode cX7_multiplyTurned 46 = .ok (.invokestatic 13, 3) := by decide +kernel
theorem dX7_multiplyTurned_49 : decode cX7_multiplyTurned 49 = .ok (.lastore, 1) := by decide +kernel
theorem dX7_multiplyTurned_50 : decode cX7_multiplyTurned 50 = .ok (.iinc 7 1, 3) := by decide +kernel
theorem dX7_multiplyTurned_53 : decode cX7_multiplyTurned 53 = .ok (.goto (-40), 3) := by decide +kernel
theorem dX7_multiplyTurned_56 : decode cX7_multiplyTurned 56 = .ok (.iinc 6 1, 3) := by decide +kernel
theorem dX7_multiplyTurned_59 : decode cX7_multiplyTurned 59 = .ok (.goto (-56), 3) := by decide +kernel
theorem dX7_multiplyTurned_62 : decode cX7_multiplyTurned 62 = .ok (.return_, 1) := by decide +kernel
theorem dX7_negate_0 : decode cX7_negate 0 = .ok (.iconst 0, 1) := by decide +kernel
theorem dX7_negate_1 : decode cX7_negate 1 = .ok (.istore 4, 2) := by decide +kernel
theorem dX7_negate_3 : decode cX7_negate 3 = .ok (.iload 4, 2) := by decide +kernel
theorem dX7_negate_5 : decode cX7_negate 5 = .ok (.iload_n 3, 1) := by decide +kernel
theorem dX7_negate_6 : decode cX7_negate 6 = .ok (.iload_n 3, 1) := by decide +kernel
theorem dX7_negate_7 : decode cX7_negate 7 = .ok (.imul, 1) := by decide +kernel
theorem dX7_negate_8 : decode cX7_negate 8 = .ok (.if_icmp .ge 20, 3) := by decide +kernel
theorem dX7_negate_11 : decode cX7_negate 11 = .ok (.aload_n 2, 1) := by decide +kernel
theorem dX7_negate_12 : decode cX7_negate 12 = .ok (.iload 4, 2) := by decide +kernel
theorem dX7_negate_14 : decode cX7_negate 14 = .ok (.aload_n 0, 1) := by decide +kernel
theorem dX7_negate_15 : decode cX7_negate 15 = .ok (.iload_n 1, 1) := by decide +kernel
theorem dX7_negate_16 : decode cX7_negate 16 = .ok (.iload 4, 2) := by decide +kernel
theorem dX7_negate_18 : decode cX7_negate 18 = .ok (.iadd, 1) := by decide +kernel
theorem dX7_negate_19 : decode cX7_negate 19 = .ok (.laload, 1) := by decide +kernel
theorem dX7_negate_20 : decode cX7_negate 20 = .ok (.lneg, 1) := by decide +kernel
theorem dX7_negate_21 : decode cX7_negate 21 = .ok (.lastore, 1) := by decide +kernel
theorem dX7_negate_22 : decode cX7_negate 22 = .ok (.iinc 4 1, 3) := by decide +kernel
theorem dX7_negate_25 : decode cX7_negate 25 = .ok (.goto (-22), 3) := by decide +kernel
theorem dX7_negate_28 : decode cX7_negate 28 = .ok (.return_, 1) := by decide +kernel
theorem dX7_reduce_0 : decode cX7_reduce 0 = .ok (.iload_n 2, 1) := by decide +kernel
theorem dX7_reduce_1 : decode cX7_reduce 1 = .ok (.ifCond .gt 4, 3) := by decide +kernel
theorem dX7_reduce_4 : decode cX7_reduce 4 = .ok (.return_, 1) := by decide +kernel
theorem dX7_reduce_5 : decode cX7_reduce 5 = .ok (.iconst 0, 1) := by decide +kernel
theorem dX7_reduce_6 : decode cX7_reduce 6 = .ok (.istore_n 3, 1) := by decide +kernel
theorem dX7_reduce_7 : decode cX7_reduce 7 = .ok (.iload_n 3, 1) := by decide +kernel
theorem dX7_reduce_8 : decode cX7_reduce 8 = .ok (.iload_n 1, 1) := by decide +kernel
theorem dX7_reduce_9 : decode cX7_reduce 9 = .ok (.if_icmp .ge 20, 3) := by decide +kernel
theorem dX7_reduce_12 : decode cX7_reduce 12 = .ok (.aload_n 0, 1) := by decide +kernel
theorem dX7_reduce_13 : decode cX7_reduce 13 = .ok (.iload_n 3, 1) := by decide +kernel
theorem dX7_reduce_14 : decode cX7_reduce 14 = .ok (.aload_n 0, 1) := by decide +kernel
theorem dX7_reduce_15 : decode cX7_reduce 15 = .ok (.iload_n 3, 1) := by decide +kernel
theorem dX7_reduce_16 : decode cX7_reduce 16 = .ok (.laload, 1) := by decide +kernel
theorem dX7_reduce_17 : decode cX7_reduce 17 = .ok (.iload_n 2, 1) := by decide +kernel
theorem dX7_reduce_18 : decode cX7_reduce 18 = .ok (.i2l, 1) := by decide +kernel
theorem dX7_reduce_19 : decode cX7_reduce 19 = .ok (.invokestatic 29, 3) := by decide +kernel
theorem dX7_reduce_22 : decode cX7_reduce 22 = .ok (.lastore, 1) := by decide +kernel
theorem dX7_reduce_23 : decode cX7_reduce 23 = .ok (.iinc 3 1, 3) := by decide +kernel
theorem dX7_reduce_26 : decode cX7_reduce 26 = .ok (.goto (-19), 3) := by decide +kernel
theorem dX7_reduce_29 : decode cX7_reduce 29 = .ok (.return_, 1) := by decide +kernel
theorem dX7_trace_0 : decode cX7_trace 0 = .ok (.lconst 0, 1) := by decide +kernel
theorem dX7_trace_1 : decode cX7_trace 1 = .ok (.lstore_n 3, 1) := by decide +kernel
theorem dX7_trace_2 : decode cX7_trace 2 = .ok (.iconst 0, 1) := by decide +kernel
theorem dX7_trace_3 : decode cX7_trace 3 = .ok (.istore 5, 2) := by decide +kernel
theorem dX7_trace_5 : decode cX7_trace 5 = .ok (.iload 5, 2) := by decide +kernel
theorem dX7_trace_7 : decode cX7_trace 7 = .ok (.iload_n 2, 1) := by decide +kernel
theorem dX7_trace_8 : decode cX7_trace 8 = .ok (.if_icmp .ge 23, 3) := by decide +kernel
theorem dX7_trace_11 : decode cX7_trace 11 = .ok (.lload_n 3, 1) := by decide +kernel
theorem dX7_trace_12 : decode cX7_trace 12 = .ok (.aload_n 0, 1) := by decide +kernel
theorem dX7_trace_13 : decode cX7_trace 13 = .ok (.iload_n 1, 1) := by decide +kernel
theorem dX7_trace_14 : decode cX7_trace 14 = .ok (.iload 5, 2) := by decide +kernel
theorem dX7_trace_16 : decode cX7_trace 16 = .ok (.iload_n 2, 1) := by decide +kernel
theorem dX7_trace_17 : decode cX7_trace 17 = .ok (.imul, 1) := by decide +kernel
theorem dX7_trace_18 : decode cX7_trace 18 = .ok (.iadd, 1) := by decide +kernel
theorem dX7_trace_19 : decode cX7_trace 19 = .ok (.iload 5, 2) := by decide +kernel
theorem dX7_trace_21 : decode cX7_trace 21 = .ok (.iadd, 1) := by decide +kernel
theorem dX7_trace_22 : decode cX7_trace 22 = .ok (.laload, 1) := by decide +kernel
theorem dX7_trace_23 : decode cX7_trace 23 = .ok (.ladd, 1) := by decide +kernel
theorem dX7_trace_24 : decode cX7_trace 24 = .ok (.lstore_n 3, 1) := by decide +kernel
theorem dX7_trace_25 : decode cX7_trace 25 = .ok (.iinc 5 1, 3) := by decide +kernel
theorem dX7_trace_28 : decode cX7_trace 28 = .ok (.goto (-23), 3) := by decide +kernel
theorem dX7_trace_31 : decode cX7_trace 31 = .ok (.lload_n 3, 1) := by decide +kernel
theorem dX7_trace_32 : decode cX7_trace 32 = .ok (.lreturn, 1) := by decide +kernel
theorem dX7_turn_0 : decode cX7_turn 0 = .ok (.iconst 0, 1) := by decide +kernel
theorem dX7_turn_1 : decode cX7_turn 1 = .ok (.istore 4, 2) := by decide +kernel
theorem dX7_turn_3 : decode cX7_turn 3 = .ok (.iload 4, 2) := by decide +kernel
theorem dX7_turn_5 : decode cX7_turn 5 = .ok (.iload_n 3, 1) := by decide +kernel
theorem dX7_turn_6 : decode cX7_turn 6 = .ok (.if_icmp .ge 44, 3) := by decide +kernel
theorem dX7_turn_9 : decode cX7_turn 9 = .ok (.iconst 0, 1) := by decide +kernel
theorem dX7_turn_10 : decode cX7_turn 10 = .ok (.istore 5, 2) := by decide +kernel
theorem dX7_turn_12 : decode cX7_turn 12 = .ok (.iload 5, 2) := by decide +kernel
theorem dX7_turn_14 : decode cX7_turn 14 = .ok (.iload_n 3, 1) := by decide +kernel
theorem dX7_turn_15 : decode cX7_turn 15 = .ok (.if_icmp .ge 29, 3) := by decide +kernel
theorem dX7_turn_18 : decode cX7_turn 18 = .ok (.aload_n 2, 1) := by decide +kernel
theorem dX7_turn_19 : decode cX7_turn 19 = .ok (.iload 4, 2) := by decide +kernel
theorem dX7_turn_21 : decode cX7_turn 21 = .ok (.iload_n 3, 1) := by decide +kernel
theorem dX7_turn_22 : decode cX7_turn 22 = .ok (.imul, 1) := by decide +kernel
theorem dX7_turn_23 : decode cX7_turn 23 = .ok (.iload 5, 2) := by decide +kernel
theorem dX7_turn_25 : decode cX7_turn 25 = .ok (.iadd, 1) := by decide +kernel
theorem dX7_turn_26 : decode cX7_turn 26 = .ok (.aload_n 0, 1) := by decide +kernel
theorem dX7_turn_27 : decode cX7_turn 27 = .ok (.iload_n 1, 1) := by decide +kernel
theorem dX7_turn_28 : decode cX7_turn 28 = .ok (.iload 5, 2) := by decide +kernel
theorem dX7_turn_30 : decode cX7_turn 30 = .ok (.iload_n 3, 1) := by decide +kernel
theorem dX7_turn_31 : decode cX7_turn 31 = .ok (.imul, 1) := by decide +kernel
theorem dX7_turn_32 : decode cX7_turn 32 = .ok (.iadd, 1) := by decide +kernel
theorem dX7_turn_33 : decode cX7_turn 33 = .ok (.iload 4, 2) := by decide +kernel
theorem dX7_turn_35 : decode cX7_turn 35 = .ok (.iadd, 1) := by decide +kernel
theorem dX7_turn_36 : decode cX7_turn 36 = .ok (.laload, 1) := by decide +kernel
theorem dX7_turn_37 : decode cX7_turn 37 = .ok (.lastore, 1) := by decide +kernel
theorem dX7_turn_38 : decode cX7_turn 38 = .ok (.iinc 5 1, 3) := by decide +kernel
theorem dX7_turn_41 : decode cX7_turn 41 = .ok (.goto (-29), 3) := by decide +kernel
theorem dX7_turn_44 : decode cX7_turn 44 = .ok (.iinc 4 1, 3) := by decide +kernel
theorem dX7_turn_47 : decode cX7_turn 47 = .ok (.goto (-44), 3) := by decide +kernel
theorem dX7_turn_50 : decode cX7_turn 50 = .ok (.return_, 1) := by decide +kernel
theorem dX8_init_0 : decode cX8_init 0 = .ok (.aload_n 0, 1) := by decide +kernel
theorem dX8_init_1 : decode cX8_init 1 = .ok (.invokespecial 1, 3) := by decide +kernel
theorem dX8_init_4 : decode cX8_init 4 = .ok (.return_, 1) := by decide +kernel
theorem dX9_init_0 : decode cX9_init 0 = .ok (.aload_n 0, 1) := by decide +kernel
theorem dX9_init_1 : decode cX9_init 1 = .ok (.invokespecial 3, 3) := by decide +kernel
theorem dX9_init_4 : decode cX9_init 4 = .ok (.aload_n 0, 1) := by decide +kernel
theorem dX9_init_5 : decode cX9_init 5 = .ok (.bipush 120, 2) := by decide +kernel
theorem dX9_init_7 : decode cX9_init 7 = .ok (.newarray .byte, 2) := by decide +kernel
theorem dX9_init_9 : decode cX9_init 9 = .ok (.putfield 9, 3) := by decide +kernel
theorem dX9_init_12 : decode cX9_init 12 = .ok (.aload_n 0, 1) := by decide +kernel
theorem dX9_init_13 : decode cX9_init 13 = .ok (.iconst 0, 1) := by decide +kernel
theorem dX9_init_14 : decode cX9_init 14 = .ok (.putfield 15, 3) := by decide +kernel
theorem dX9_init_17 : decode cX9_init 17 = .ok (.aload_n 0, 1) := by decide +kernel
theorem dX9_init_18 : decode cX9_init 18 = .ok (.iconst 0, 1) := by decide +kernel
theorem dX9_init_19 : decode cX9_init 19 = .ok (.putfield 19, 3) := by decide +kernel
theorem dX9_init_22 : decode cX9_init 22 = .ok (.aload_n 0, 1) := by decide +kernel
theorem dX9_init_23 : decode cX9_init 23 = .ok (.iconst 0, 1) := by decide +kernel
theorem dX9_init_24 : decode cX9_init 24 = .ok (.putfield 22, 3) := by decide +kernel
theorem dX9_init_27 : decode cX9_init 27 = .ok (.aload_n 0, 1) := by decide +kernel
theorem dX9_init_28 : decode cX9_init 28 = .ok (.bipush 36, 2) := by decide +kernel
theorem dX9_init_30 : decode cX9_init 30 = .ok (.newarray .long, 2) := by decide +kernel
theorem dX9_init_32 : decode cX9_init 32 = .ok (.putfield 25, 3) := by decide +kernel
theorem dX9_init_35 : decode cX9_init 35 = .ok (.return_, 1) := by decide +kernel
theorem dX9_isDigit_0 : decode cX9_isDigit 0 = .ok (.aload_n 0, 1) := by decide +kernel
theorem dX9_isDigit_1 : decode cX9_isDigit 1 = .ok (.getfield 19, 3) := by decide +kernel
theorem dX9_isDigit_4 : decode cX9_isDigit 4 = .ok (.aload_n 0, 1) := by decide +kernel
theorem dX9_isDigit_5 : decode cX9_isDigit 5 = .ok (.getfield 15, 3) := by decide +kernel
theorem dX9_isDigit_8 : decode cX9_isDigit 8 = .ok (.if_icmp .ge 35, 3) := by decide +kernel
theorem dX9_isDigit_11 : decode cX9_isDigit 11 = .ok (.aload_n 0, 1) := by decide +kernel
theorem dX9_isDigit_12 : decode cX9_isDigit 12 = .ok (.getfield 9, 3) := by decide +kernel
theorem dX9_isDigit_15 : decode cX9_isDigit 15 = .ok (.aload_n 0, 1) := by decide +kernel
theorem dX9_isDigit_16 : decode cX9_isDigit 16 = .ok (.getfield 19, 3) := by decide +kernel
theorem dX9_isDigit_19 : decode cX9_isDigit 19 = .ok (.baload, 1) := by decide +kernel
theorem dX9_isDigit_20 : decode cX9_isDigit 20 = .ok (.bipush 48, 2) := by decide +kernel
theorem dX9_isDigit_22 : decode cX9_isDigit 22 = .ok (.if_icmp .lt 21, 3) := by decide +kernel
theorem dX9_isDigit_25 : decode cX9_isDigit 25 = .ok (.aload_n 0, 1) := by decide +kernel
theorem dX9_isDigit_26 : decode cX9_isDigit 26 = .ok (.getfield 9, 3) := by decide +kernel
theorem dX9_isDigit_29 : decode cX9_isDigit 29 = .ok (.aload_n 0, 1) := by decide +kernel
theorem dX9_isDigit_30 : decode cX9_isDigit 30 = .ok (.getfield 19, 3) := by decide +kernel
theorem dX9_isDigit_33 : decode cX9_isDigit 33 = .ok (.baload, 1) := by decide +kernel
theorem dX9_isDigit_34 : decode cX9_isDigit 34 = .ok (.bipush 57, 2) := by decide +kernel
theorem dX9_isDigit_36 : decode cX9_isDigit 36 = .ok (.if_icmp .gt 7, 3) := by decide +kernel
theorem dX9_isDigit_39 : decode cX9_isDigit 39 = .ok (.iconst 1, 1) := by decide +kernel
theorem dX9_isDigit_40 : decode cX9_isDigit 40 = .ok (.goto 4, 3) := by decide +kernel
theorem dX9_isDigit_43 : decode cX9_isDigit 43 = .ok (.iconst 0, 1) := by decide +kernel
theorem dX9_isDigit_44 : decode cX9_isDigit 44 = .ok (.ireturn, 1) := by decide +kernel
theorem dX9_pass_0 : decode cX9_pass 0 = .ok (.aload_n 0, 1) := by decide +kernel
theorem dX9_pass_1 : decode cX9_pass 1 = .ok (.invokevirtual 29, 3) := by decide +kernel
theorem dX9_pass_4 : decode cX9_pass 4 = .ok (.aload_n 0, 1) := by decide +kernel
theorem dX9_pass_5 : decode cX9_pass 5 = .ok (.getfield 19, 3) := by decide +kernel
theorem dX9_pass_8 : decode cX9_pass 8 = .ok (.aload_n 0, 1) := by decide +kernel
theorem dX9_pass_9 : decode cX9_pass 9 = .ok (.getfield 15, 3) := by decide +kernel
theorem dX9_pass_12 : decode cX9_pass 12 = .ok (.if_icmp .ge 16, 3) := by decide +kernel
theorem dX9_pass_15 : decode cX9_pass 15 = .ok (.aload_n 0, 1) := by decide +kernel
theorem dX9_pass_16 : decode cX9_pass 16 = .ok (.getfield 9, 3) := by decide +kernel
theorem dX9_pass_19 : decode cX9_pass 19 = .ok (.aload_n 0, 1) := by decide +kernel
theorem dX9_pass_20 : decode cX9_pass 20 = .ok (.getfield 19, 3) := by decide +kernel
theorem dX9_pass_23 : decode cX9_pass 23 = .ok (.baload, 1) := by decide +kernel
theorem dX9_pass_24 : decode cX9_pass 24 = .ok (.iload_n 1, 1) := by decide +kernel
theorem dX9_pass_25 : decode cX9_pass 25 = .ok (.if_icmp .eq 5, 3) := by decide +kernel
theorem dX9_pass_28 : decode cX9_pass 28 = .ok (.iconst 0, 1) := by decide +kernel
theorem dX9_pass_29 : decode cX9_pass 29 = .ok (.ireturn, 1) := by decide +kernel
theorem dX9_pass_30 : decode cX9_pass 30 = .ok (.aload_n 0, 1) := by decide +kernel
theorem dX9_pass_31 : decode cX9_pass 31 = .ok (.dup, 1) := by decide +kernel
