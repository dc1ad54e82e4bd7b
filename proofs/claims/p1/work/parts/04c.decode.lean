theorem dX10_text_39 : decode cX10_text 39 = .ok (.getfield 10, 3) := by decide +kernel
theorem dX10_text_42 : decode cX10_text 42 = .ok (.aload_n 0, 1) := by decide +kernel
theorem dX10_text_43 : decode cX10_text 43 = .ok (.getfield 26, 3) := by decide +kernel
theorem dX10_text_46 : decode cX10_text 46 = .ok (.getfield 185, 3) := by decide +kernel
theorem dX10_text_49 : decode cX10_text 49 = .ok (.putfield 101, 3) := by decide +kernel
theorem dX10_text_52 : decode cX10_text 52 = .ok (.aload_n 0, 1) := by decide +kernel
theorem dX10_text_53 : decode cX10_text 53 = .ok (.getfield 26, 3) := by decide +kernel
theorem dX10_text_56 : decode cX10_text 56 = .ok (.getfield 188, 3) := by decide +kernel
theorem dX10_text_59 : decode cX10_text 59 = .ok (.iconst 0, 1) := by decide +kernel
theorem dX10_text_60 : decode cX10_text 60 = .ok (.aload_n 0, 1) := by decide +kernel
theorem dX10_text_61 : decode cX10_text 61 = .ok (.getfield 10, 3) := by decide +kernel
theorem dX10_text_64 : decode cX10_text 64 = .ok (.getfield 145, 3) := by decide +kernel
theorem dX10_text_67 : decode cX10_text 67 = .ok (.iconst 0, 1) := by decide +kernel
theorem dX10_text_68 : decode cX10_text 68 = .ok (.aload_n 0, 1) := by decide +kernel
theorem dX10_text_69 : decode cX10_text 69 = .ok (.getfield 26, 3) := by decide +kernel
theorem dX10_text_72 : decode cX10_text 72 = .ok (.getfield 185, 3) := by decide +kernel
theorem dX10_text_75 : decode cX10_text 75 = .ok (.bipush 9, 2) := by decide +kernel
theorem dX10_text_77 : decode cX10_text 77 = .ok (.imul, 1) := by decide +kernel
theorem dX10_text_78 : decode cX10_text 78 = .ok (.invokestatic 189, 3) := by decide +kernel
theorem dX10_text_81 : decode cX10_text 81 = .ok (.aload_n 0, 1) := by decide +kernel
theorem dX10_text_82 : decode cX10_text 82 = .ok (.invokevirtual 104, 3) := by decide +kernel
theorem dX10_text_85 : decode cX10_text 85 = .ok (.aload_n 0, 1) := by decide +kernel
theorem dX10_text_86 : decode cX10_text 86 = .ok (.getfield 10, 3) := by decide +kernel
theorem dX10_text_89 : decode cX10_text 89 = .ok (.getfield 101, 3) := by decide +kernel
theorem dX10_text_92 : decode cX10_text 92 = .ok (.ireturn, 1) := by decide +kernel
theorem dX10_unit_0 : decode cX10_unit 0 = .ok (.aload_n 0, 1) := by decide +kernel
theorem dX10_unit_1 : decode cX10_unit 1 = .ok (.getfield 10, 3) := by decide +kernel
theorem dX10_unit_4 : decode cX10_unit 4 = .ok (.iload_n 1, 1) := by decide +kernel
theorem dX10_unit_5 : decode cX10_unit 5 = .ok (.iload_n 2, 1) := by decide +kernel
theorem dX10_unit_6 : decode cX10_unit 6 = .ok (.invokevirtual 107, 3) := by decide +kernel
theorem dX10_unit_9 : decode cX10_unit 9 = .ok (.ifCond .eq 20, 3) := by decide +kernel
theorem dX10_unit_12 : decode cX10_unit 12 = .ok (.iload_n 1, 1) := by decide +kernel
theorem dX10_unit_13 : decode cX10_unit 13 = .ok (.iload_n 2, 1) := by decide +kernel
theorem dX10_unit_14 : decode cX10_unit 14 = .ok (.if_icmp .ne 7, 3) := by decide +kernel
theorem dX10_unit_17 : decode cX10_unit 17 = .ok (.iconst 1, 1) := by decide +kernel
theorem dX10_unit_18 : decode cX10_unit 18 = .ok (.goto 4, 3) := by decide +kernel
theorem dX10_unit_21 : decode cX10_unit 21 = .ok (.iconst 0, 1) := by decide +kernel
theorem dX10_unit_22 : decode cX10_unit 22 = .ok (.iload_n 3, 1) := by decide +kernel
theorem dX10_unit_23 : decode cX10_unit 23 = .ok (.invokestatic 111, 3) := by decide +kernel
theorem dX10_unit_26 : decode cX10_unit 26 = .ok (.ifCond .ne 5, 3) := by decide +kernel
theorem dX10_unit_29 : decode cX10_unit 29 = .ok (.iconst (-1), 1) := by decide +kernel
theorem dX10_unit_30 : decode cX10_unit 30 = .ok (.ireturn, 1) := by decide +kernel
theorem dX10_unit_31 : decode cX10_unit 31 = .ok (.aload_n 0, 1) := by decide +kernel
theorem dX10_unit_32 : decode cX10_unit 32 = .ok (.getfield 10, 3) := by decide +kernel
theorem dX10_unit_35 : decode cX10_unit 35 = .ok (.invokevirtual 115, 3) := by decide +kernel
theorem dX10_unit_38 : decode cX10_unit 38 = .ok (.ifCond .eq 6, 3) := by decide +kernel
theorem dX10_unit_44 : decode cX10_unit 44 = .ok (.aload_n 0, 1) := by decide +kernel
theorem dX10_unit_45 : decode cX10_unit 45 = .ok (.iload_n 1, 1) := by decide +kernel
theorem dX10_unit_46 : decode cX10_unit 46 = .ok (.iload_n 2, 1) := by decide +kernel
theorem dX10_unit_47 : decode cX10_unit 47 = .ok (.iload_n 3, 1) := by decide +kernel
theorem dX10_unit_48 : decode cX10_unit 48 = .ok (.invokevirtual 119, 3) := by decide +kernel
theorem dX10_unit_51 : decode cX10_unit 51 = .ok (.ireturn, 1) := by decide +kernel
theorem dX10_whole_0 : decode cX10_whole 0 = .ok (.aload_n 0, 1) := by decide +kernel
theorem dX10_whole_1 : decode cX10_whole 1 = .ok (.invokevirtual 195, 3) := by decide +kernel
theorem dX10_whole_4 : decode cX10_whole 4 = .ok (.aload_n 0, 1) := by decide +kernel
theorem dX10_whole_5 : decode cX10_whole 5 = .ok (.getfield 41, 3) := by decide +kernel
theorem dX10_whole_8 : decode cX10_whole 8 = .ok (.getfield 199, 3) := by decide +kernel
theorem dX10_whole_11 : decode cX10_whole 11 = .ok (.ifCond .eq 7, 3) := by decide +kernel
theorem dX10_whole_14 : decode cX10_whole 14 = .ok (.iconst 1, 1) := by decide +kernel
theorem dX10_whole_15 : decode cX10_whole 15 = .ok (.goto 4, 3) := by decide +kernel
theorem dX10_whole_19 : decode cX10_whole 19 = .ok (.ireturn, 1) := by decide +kernel
theorem dX10_witness_0 : decode cX10_witness 0 = .ok (.aload_n 0, 1) := by decide +kernel
theorem dX10_witness_1 : decode cX10_witness 1 = .ok (.invokevirtual 195, 3) := by decide +kernel
theorem dX10_witness_4 : decode cX10_witness 4 = .ok (.iconst 0, 1) := by decide +kernel
theorem dX10_witness_5 : decode cX10_witness 5 = .ok (.istore_n 1, 1) := by decide +kernel
theorem dX10_witness_6 : decode cX10_witness 6 = .ok (.iload_n 1, 1) := by decide +kernel
theorem dX10_witness_7 : decode cX10_witness 7 = .ok (.aload_n 0, 1) := by decide +kernel
theorem dX10_witness_8 : decode cX10_witness 8 = .ok (.getfield 41, 3) := by decide +kernel
theorem dX10_witness_11 : decode cX10_witness 11 = .ok (.getfield 198, 3) := by decide +kernel
theorem dX10_witness_14 : decode cX10_witness 14 = .ok (.if_icmp .ge 35, 3) := by decide +kernel
theorem dX10_witness_17 : decode cX10_witness 17 = .ok (.aload_n 0, 1) := by decide +kernel
theorem dX10_witness_18 : decode cX10_witness 18 = .ok (.aload_n 0, 1) := by decide +kernel
theorem dX10_witness_19 : decode cX10_witness 19 = .ok (.getfield 41, 3) := by decide +kernel
theorem dX10_witness_22 : decode cX10_witness 22 = .ok (.getfield 207, 3) := by decide +kernel
theorem dX10_witness_25 : decode cX10_witness 25 = .ok (.aload_n 0, 1) := by decide +kernel
theorem dX10_witness_26 : decode cX10_witness 26 = .ok (.getfield 41, 3) := by decide +kernel
theorem dX10_witness_29 : decode cX10_witness 29 = .ok (.iload_n 1, 1) := by decide +kernel
theorem dX10_witness_30 : decode cX10_witness 30 = .ok (.invokevirtual 208, 3) := by decide +kernel
theorem dX10_witness_33 : decode cX10_witness 33 = .ok (.invokevirtual 156, 3) := by decide +kernel
theorem dX10_witness_36 : decode cX10_witness 36 = .ok (.bipush (-3), 2) := by decide +kernel
theorem dX10_witness_38 : decode cX10_witness 38 = .ok (.if_icmp .ne 5, 3) := by decide +kernel
theorem dX10_witness_43 : decode cX10_witness 43 = .ok (.iinc 1 1, 3) := by decide +kernel
theorem dX10_witness_46 : decode cX10_witness 46 = .ok (.goto (-40), 3) := by decide +kernel
theorem dX10_witness_49 : decode cX10_witness 49 = .ok (.bipush (-3), 2) := by decide +kernel
theorem dX10_witness_51 : decode cX10_witness 51 = .ok (.ireturn, 1) := by decide +kernel
theorem dX11_about_0 : decode cX11_about 0 = .ok (.aload_n 0, 1) := by decide +kernel
theorem dX11_about_1 : decode cX11_about 1 = .ok (.invokevirtual 219, 3) := by decide +kernel
theorem dX11_about_4 : decode cX11_about 4 = .ok (.iload_n 1, 1) := by decide +kernel
theorem dX11_about_5 : decode cX11_about 5 = .ok (.i2l, 1) := by decide +kernel
theorem dX11_about_6 : decode cX11_about 6 = .ok (.lconst 0, 1) := by decide +kernel
theorem dX11_about_7 : decode cX11_about 7 = .ok (.aload_n 0, 1) := by decide +kernel
theorem dX11_about_8 : decode cX11_about 8 = .ok (.getfield 202, 3) := by decide +kernel
theorem dX11_about_11 : decode cX11_about 11 = .ok (.iconst 1, 1) := by decide +kernel
theorem dX11_about_12 : decode cX11_about 12 = .ok (.isub, 1) := by decide +kernel
theorem dX11_about_13 : decode cX11_about 13 = .ok (.i2l, 1) := by decide +kernel
theorem dX11_about_14 : decode cX11_about 14 = .ok (.invokestatic 81, 3) := by decide +kernel
theorem dX11_about_17 : decode cX11_about 17 = .ok (.ifCond .ne 5, 3) := by decide +kernel
theorem dX11_about_20 : decode cX11_about 20 = .ok (.iconst (-1), 1) := by decide +kernel
theorem dX11_about_21 : decode cX11_about 21 = .ok (.ireturn, 1) := by decide +kernel
theorem dX11_about_22 : decode cX11_about 22 = .ok (.iload_n 2, 1) := by decide +kernel
theorem dX11_about_23 : decode cX11_about 23 = .ok (.tableswitch 56 0 3 #[29, 36, 43, 50], 29) := by decide +kernel
theorem dX11_about_52 : decode cX11_about 52 = .ok (.aload_n 0, 1) := by decide +kernel
theorem dX11_about_53 : decode cX11_about 53 = .ok (.getfield 48, 3) := by decide +kernel
theorem dX11_about_56 : decode cX11_about 56 = .ok (.iload_n 1, 1) := by decide +kernel
theorem dX11_about_57 : decode cX11_about 57 = .ok (.iaload, 1) := by decide +kernel
theorem dX11_about_58 : decode cX11_about 58 = .ok (.ireturn, 1) := by decide +kernel
theorem dX11_about_59 : decode cX11_about 59 = .ok (.aload_n 0, 1) := by decide +kernel
theorem dX11_about_60 : decode cX11_about 60 = .ok (.getfield 51, 3) := by decide +kernel
theorem dX11_about_63 : decode cX11_about 63 = .ok (.iload_n 1, 1) := by decide +kernel
theorem dX11_about_64 : decode cX11_about 64 = .ok (.iaload, 1) := by decide +kernel
theorem dX11_about_65 : decode cX11_about 65 = .ok (.ireturn, 1) := by decide +kernel
theorem dX11_about_66 : decode cX11_about 66 = .ok (.aload_n 0, 1) := by decide +kernel
theorem dX11_about_67 : decode cX11_about 67 = .ok (.getfield 54, 3) := by decide +kernel
theorem dX11_about_70 : decode cX11_about 70 = .ok (.iload_n 1, 1) := by decide +kernel
theorem dX11_about_71 : decode cX11_about 71 = .ok (.iaload, 1) := by decide +kernel
theorem dX11_about_72 : decode cX11_about 72 = .ok (.ireturn, 1) := by decide +kernel
theorem dX11_about_73 : decode cX11_about 73 = .ok (.aload_n 0, 1) := by decide +kernel
theorem dX11_about_74 : decode cX11_about 74 = .ok (.iload_n 1, 1) := by decide +kernel
theorem dX11_about_75 : decode cX11_about 75 = .ok (.invokevirtual 226, 3) := by decide +kernel
theorem dX11_about_78 : decode cX11_about 78 = .ok (.ireturn, 1) := by decide +kernel
theorem dX11_about_79 : decode cX11_about 79 = .ok (.iconst (-1), 1) := by decide +kernel
theorem dX11_about_80 : decode cX11_about 80 = .ok (.ireturn, 1) := by decide +kernel
theorem dX11_again_0 : decode cX11_again 0 = .ok (.aload_n 0, 1) := by decide +kernel
theorem dX11_again_1 : decode cX11_again 1 = .ok (.getfield 306, 3) := by decide +kernel
theorem dX11_again_4 : decode cX11_again 4 = .ok (.ifCond .ne 6, 3) := by decide +kernel
theorem dX11_again_7 : decode cX11_again 7 = .ok (.bipush (-3), 2) := by decide +kernel
theorem dX11_again_9 : decode cX11_again 9 = .ok (.ireturn, 1) := by decide +kernel
theorem dX11_at_0 : decode cX11_at 0 = .ok (.aload_n 0, 1) := by decide +kernel
theorem dX11_at_1 : decode cX11_at 1 = .ok (.iload_n 1, 1) := by decide +kernel
theorem dX11_at_2 : decode cX11_at 2 = .ok (.invokevirtual 122, 3) := by decide +kernel
theorem dX11_at_5 : decode cX11_at 5 = .ok (.ifCond .eq 41, 3) := by decide +kernel
theorem dX11_at_46 : decode cX11_at 46 = .ok (.iconst (-1), 1) := by decide +kernel
theorem dX11_at_47 : decode cX11_at 47 = .ok (.ireturn, 1) := by decide +kernel
theorem dX11_character_0 : decode cX11_character 0 = .ok (.aload_n 0, 1) := by decide +kernel
theorem dX11_character_1 : decode cX11_character 1 = .ok (.iload_n 1, 1) := by decide +kernel
theorem dX11_character_2 : decode cX11_character 2 = .ok (.invokevirtual 122, 3) := by decide +kernel
theorem dX11_character_5 : decode cX11_character 5 = .ok (.ifCond .eq 17, 3) := by decide +kernel
theorem dX11_character_22 : decode cX11_character 22 = .ok (.iconst (-1), 1) := by decide +kernel
theorem dX11_character_23 : decode cX11_character 23 = .ok (.ireturn, 1) := by decide +kernel
theorem dX11_clears_0 : decode cX11_clears 0 = .ok (.iconst 0, 1) := by decide +kernel
theorem dX11_clears_1 : decode cX11_clears 1 = .ok (.istore_n 2, 1) := by decide +kernel
theorem dX11_clears_2 : decode cX11_clears 2 = .ok (.iload_n 2, 1) := by decide +kernel
theorem dX11_clears_3 : decode cX11_clears 3 = .ok (.bipush 9, 2) := by decide +kernel
theorem dX11_clears_5 : decode cX11_clears 5 = .ok (.if_icmp .ge 13, 3) := by decide +kernel
theorem dX11_clears_8 : decode cX11_clears 8 = .ok (.aload_n 1, 1) := by decide +kernel
theorem dX11_clears_9 : decode cX11_clears 9 = .ok (.iload_n 2, 1) := by decide +kernel
theorem dX11_clears_10 : decode cX11_clears 10 = .ok (.lconst 0, 1) := by decide +kernel
theorem dX11_clears_11 : decode cX11_clears 11 = .ok (.lastore, 1) := by decide +kernel
theorem dX11_clears_12 : decode cX11_clears 12 = .ok (.iinc 2 1, 3) := by decide +kernel
theorem dX11_clears_15 : decode cX11_clears 15 = .ok (.goto (-13), 3) := by decide +kernel
theorem dX11_clears_18 : decode cX11_clears 18 = .ok (.return_, 1) := by decide +kernel
theorem dX11_comes_0 : decode cX11_comes 0 = .ok (.iconst 0, 1) := by decide +kernel
theorem dX11_comes_1 : decode cX11_comes 1 = .ok (.istore_n 1, 1) := by decide +kernel
theorem dX11_comes_2 : decode cX11_comes 2 = .ok (.iload_n 1, 1) := by decide +kernel
theorem dX11_comes_3 : decode cX11_comes 3 = .ok (.bipush 9, 2) := by decide +kernel
theorem dX11_comes_5 : decode cX11_comes 5 = .ok (.if_icmp .ge 30, 3) := by decide +kernel
theorem dX11_comes_8 : decode cX11_comes 8 = .ok (.aload_n 0, 1) := by decide +kernel
theorem dX11_comes_9 : decode cX11_comes 9 = .ok (.getfield 16, 3) := by decide +kernel
theorem dX11_comes_12 : decode cX11_comes 12 = .ok (.bipush 9, 2) := by decide +kernel
theorem dX11_comes_14 : decode cX11_comes 14 = .ok (.aload_n 0, 1) := by decide +kernel
theorem dX11_comes_15 : decode cX11_comes 15 = .ok (.getfield 85, 3) := by decide +kernel
theorem dX11_comes_18 : decode cX11_comes 18 = .ok (.imul, 1) := by decide +kernel
theorem dX11_comes_19 : decode cX11_comes 19 = .ok (.iload_n 1, 1) := by decide +kernel
theorem dX11_comes_20 : decode cX11_comes 20 = .ok (.iadd, 1) := by decide +kernel
theorem dX11_comes_21 : decode cX11_comes 21 = .ok (.aload_n 0, 1) := by decide +kernel
theorem dX11_comes_22 : decode cX11_comes 22 = .ok (.getfield 23, 3) := by decide +kernel
theorem dX11_comes_25 : decode cX11_comes 25 = .ok (.iload_n 1, 1) := by decide +kernel
theorem dX11_comes_26 : decode cX11_comes 26 = .ok (.laload, 1) := by decide +kernel
theorem dX11_comes_27 : decode cX11_comes 27 = .ok (.l2i, 1) := by decide +kernel
theorem dX11_comes_28 : decode cX11_comes 28 = .ok (.iastore, 1) := by decide +kernel
theorem dX11_comes_29 : decode cX11_comes 29 = .ok (.iinc 1 1, 3) := by decide +kernel
theorem dX11_comes_32 : decode cX11_comes 32 = .ok (.goto (-30), 3) := by decide +kernel
theorem dX11_comes_35 : decode cX11_comes 35 = .ok (.aload_n 0, 1) := by decide +kernel
theorem dX11_comes_36 : decode cX11_comes 36 = .ok (.dup, 1) := by decide +kernel
theorem dX11_comes_37 : decode cX11_comes 37 = .ok (.getfield 85, 3) := by decide +kernel
theorem dX11_comes_40 : decode cX11_comes 40 = .ok (.iconst 1, 1) := by decide +kernel
theorem dX11_comes_41 : decode cX11_comes 41 = .ok (.iadd, 1) := by decide +kernel
theorem dX11_comes_42 : decode cX11_comes 42 = .ok (.putfield 85, 3) := by decide +kernel
theorem dX11_comes_45 : decode cX11_comes 45 = .ok (.aload_n 0, 1) := by decide +kernel
theorem dX11_comes_46 : decode cX11_comes 46 = .ok (.iconst 0, 1) := by decide +kernel
theorem dX11_comes_47 : decode cX11_comes 47 = .ok (.putfield 98, 3) := by decide +kernel
theorem dX11_comes_50 : decode cX11_comes 50 = .ok (.aload_n 0, 1) := by decide +kernel
theorem dX11_comes_51 : decode cX11_comes 51 = .ok (.iconst 0, 1) := by decide +kernel
theorem dX11_comes_52 : decode cX11_comes 52 = .ok (.putfield 102, 3) := by decide +kernel
theorem dX11_comes_55 : decode cX11_comes 55 = .ok (.aload_n 0, 1) := by decide +kernel
theorem dX11_comes_56 : decode cX11_comes 56 = .ok (.getfield 85, 3) := by decide +kernel
theorem dX11_comes_59 : decode cX11_comes 59 = .ok (.iconst 1, 1) := by decide +kernel
theorem dX11_comes_60 : decode cX11_comes 60 = .ok (.isub, 1) := by decide +kernel
theorem dX11_comes_61 : decode cX11_comes 61 = .ok (.ireturn, 1) := by decide +kernel
theorem dX11_common_0 : decode cX11_common 0 = .ok (.lload_n 0, 1) := by decide +kernel
theorem dX11_common_1 : decode cX11_common 1 = .ok (.lconst 0, 1) := by decide +kernel
theorem dX11_common_2 : decode cX11_common 2 = .ok (.lcmp, 1) := by decide +kernel
theorem dX11_common_3 : decode cX11_common 3 = .ok (.ifCond .ge 8, 3) := by decide +kernel
theorem dX11_common_11 : decode cX11_common 11 = .ok (.lload_n 0, 1) := by decide +kernel
theorem dX11_common_12 : decode cX11_common 12 = .ok (.lstore 4, 2) := by decide +kernel
theorem dX11_common_14 : decode cX11_common 14 = .ok (.lload_n 2, 1) := by decide +kernel
theorem dX11_common_15 : decode cX11_common 15 = .ok (.lconst 0, 1) := by decide +kernel
theorem dX11_common_16 : decode cX11_common 16 = .ok (.lcmp, 1) := by decide +kernel
theorem dX11_common_17 : decode cX11_common 17 = .ok (.ifCond .ge 8, 3) := by decide +kernel
theorem dX11_common_25 : decode cX11_common 25 = .ok (.lload_n 2, 1) := by decide +kernel
theorem dX11_common_26 : decode cX11_common 26 = .ok (.lstore 6, 2) := by decide +kernel
theorem dX11_common_28 : decode cX11_common 28 = .ok (.lload 6, 2) := by decide +kernel
theorem dX11_common_30 : decode cX11_common 30 = .ok (.lconst 0, 1) := by decide +kernel
theorem dX11_common_31 : decode cX11_common 31 = .ok (.lcmp, 1) := by decide +kernel
theorem dX11_common_32 : decode cX11_common 32 = .ok (.ifCond .eq 21, 3) := by decide +kernel
theorem dX11_common_35 : decode cX11_common 35 = .ok (.lload 4, 2) := by decide +kernel
theorem dX11_common_37 : decode cX11_common 37 = .ok (.lload 6, 2) := by decide +kernel
theorem dX11_common_39 : decode cX11_common 39 = .ok (.lrem, 1) := by decide +kernel
theorem dX11_common_40 : decode cX11_common 40 = .ok (.lstore 8, 2) := by decide +kernel
theorem dX11_common_42 : decode cX11_common 42 = .ok (.lload 6, 2) := by decide +kernel
theorem dX11_common_44 : decode cX11_common 44 = .ok (.lstore 4, 2) := by decide +kernel
theorem dX11_common_46 : decode cX11_common 46 = .ok (.lload 8, 2) := by decide +kernel
theorem dX11_common_48 : decode cX11_common 48 = .ok (.lstore 6, 2) := by decide +kernel
theorem dX11_common_50 : decode cX11_common 50 = .ok (.goto (-22), 3) := by decide +kernel
theorem dX11_common_53 : decode cX11_common 53 = .ok (.lload 4, 2) := by decide +kernel
theorem dX11_common_55 : decode cX11_common 55 = .ok (.lreturn, 1) := by decide +kernel
theorem dX11_copy_0 : decode cX11_copy 0 = .ok (.iload_n 1, 1) := by decide +kernel
theorem dX11_copy_1 : decode cX11_copy 1 = .ok (.invokestatic 237, 3) := by decide +kernel
theorem dX11_copy_4 : decode cX11_copy 4 = .ok (.ifCond .eq 10, 3) := by decide +kernel
theorem dX11_copy_7 : decode cX11_copy 7 = .ok (.iload_n 3, 1) := by decide +kernel
theorem dX11_copy_8 : decode cX11_copy 8 = .ok (.invokestatic 237, 3) := by decide +kernel
theorem dX11_copy_11 : decode cX11_copy 11 = .ok (.ifCond .ne 5, 3) := by decide +kernel
theorem dX11_copy_14 : decode cX11_copy 14 = .ok (.iconst (-1), 1) := by decide +kernel
theorem dX11_copy_15 : decode cX11_copy 15 = .ok (.ireturn, 1) := by decide +kernel
theorem dX11_copy_16 : decode cX11_copy 16 = .ok (.aload_n 0, 1) := by decide +kernel
theorem dX11_copy_17 : decode cX11_copy 17 = .ok (.getfield 69, 3) := by decide +kernel
theorem dX11_copy_20 : decode cX11_copy 20 = .ok (.iload_n 1, 1) := by decide +kernel
theorem dX11_copy_21 : decode cX11_copy 21 = .ok (.iaload, 1) := by decide +kernel
theorem dX11_copy_22 : decode cX11_copy 22 = .ok (.ifCond .lt 12, 3) := by decide +kernel
theorem dX11_copy_34 : decode cX11_copy 34 = .ok (.bipush (-11), 2) := by decide +kernel
theorem dX11_copy_36 : decode cX11_copy 36 = .ok (.ireturn, 1) := by decide +kernel
theorem dX11_drawn_0 : decode cX11_drawn 0 = .ok (.aload_n 0, 1) := by decide +kernel
theorem dX11_drawn_1 : decode cX11_drawn 1 = .ok (.aload_n 0, 1) := by decide +kernel
theorem dX11_drawn_2 : decode cX11_drawn 2 = .ok (.getfield 13, 3) := by decide +kernel
theorem dX11_drawn_5 : decode cX11_drawn 5 = .ok (.ldc_w 283, 3) := by decide +kernel
theorem dX11_drawn_8 : decode cX11_drawn 8 = .ok (.imul, 1) := by decide +kernel
theorem dX11_drawn_9 : decode cX11_drawn 9 = .ok (.sipush 12345, 3) := by decide +kernel
theorem dX11_drawn_12 : decode cX11_drawn 12 = .ok (.iadd, 1) := by decide +kernel
theorem dX11_drawn_13 : decode cX11_drawn 13 = .ok (.putfield 13, 3) := by decide +kernel
theorem dX11_drawn_16 : decode cX11_drawn 16 = .ok (.aload_n 0, 1) := by decide +kernel
theorem dX11_drawn_17 : decode cX11_drawn 17 = .ok (.getfield 13, 3) := by decide +kernel
theorem dX11_drawn_20 : decode cX11_drawn 20 = .ok (.bipush 16, 2) := by decide +kernel
theorem dX11_drawn_22 : decode cX11_drawn 22 = .ok (.iushr, 1) := by decide +kernel
theorem dX11_drawn_23 : decode cX11_drawn 23 = .ok (.iload_n 1, 1) := by decide +kernel
theorem dX11_drawn_24 : decode cX11_drawn 24 = .ok (.irem, 1) := by decide +kernel
theorem dX11_drawn_25 : decode cX11_drawn 25 = .ok (.ireturn, 1) := by decide +kernel
theorem dX11_drop_0 : decode cX11_drop 0 = .ok (.aload_n 0, 1) := by decide +kernel
theorem dX11_drop_1 : decode cX11_drop 1 = .ok (.getfield 85, 3) := by decide +kernel
theorem dX11_drop_4 : decode cX11_drop 4 = .ok (.ifCond .ne 6, 3) := by decide +kernel
theorem dX11_drop_7 : decode cX11_drop 7 = .ok (.bipush (-3), 2) := by decide +kernel
theorem dX11_drop_9 : decode cX11_drop 9 = .ok (.ireturn, 1) := by decide +kernel
theorem dX11_element_0 : decode cX11_element 0 = .ok (.aload_n 0, 1) := by decide +kernel
theorem dX11_element_1 : decode cX11_element 1 = .ok (.invokevirtual 219, 3) := by decide +kernel
theorem dX11_element_4 : decode cX11_element 4 = .ok (.iload_n 1, 1) := by decide +kernel
theorem dX11_element_5 : decode cX11_element 5 = .ok (.i2l, 1) := by decide +kernel
theorem dX11_element_6 : decode cX11_element 6 = .ok (.lconst 0, 1) := by decide +kernel
theorem dX11_element_7 : decode cX11_element 7 = .ok (.aload_n 0, 1) := by decide +kernel
theorem dX11_element_8 : decode cX11_element 8 = .ok (.getfield 202, 3) := by decide +kernel
theorem dX11_element_11 : decode cX11_element 11 = .ok (.iconst 1, 1) := by decide +kernel
theorem dX11_element_12 : decode cX11_element 12 = .ok (.isub, 1) := by decide +kernel
theorem dX11_element_13 : decode cX11_element 13 = .ok (.i2l, 1) := by decide +kernel
theorem dX11_element_14 : decode cX11_element 14 = .ok (.invokestatic 81, 3) := by decide +kernel
theorem dX11_element_17 : decode cX11_element 17 = .ok (.ifCond .eq 37, 3) := by decide +kernel
theorem dX11_element_20 : decode cX11_element 20 = .ok (.aload_n 0, 1) := by decide +kernel
theorem dX11_element_21 : decode cX11_element 21 = .ok (.iload_n 2, 1) := by decide +kernel
theorem dX11_element_22 : decode cX11_element 22 = .ok (.invokevirtual 110, 3) := by decide +kernel
theorem dX11_element_25 : decode cX11_element 25 = .ok (.ifCond .eq 29, 3) := by decide +kernel
theorem dX11_element_28 : decode cX11_element 28 = .ok (.aload_n 0, 1) := by decide +kernel
theorem dX11_element_29 : decode cX11_element 29 = .ok (.iload_n 3, 1) := by decide +kernel
theorem dX11_element_30 : decode cX11_element 30 = .ok (.invokevirtual 110, 3) := by decide +kernel
theorem dX11_element_33 : decode cX11_element 33 = .ok (.ifCond .eq 21, 3) := by decide +kernel
theorem dX11_element_36 : decode cX11_element 36 = .ok (.aload_n 0, 1) := by decide +kernel
theorem dX11_element_37 : decode cX11_element 37 = .ok (.getfield 45, 3) := by decide +kernel
theorem dX11_element_40 : decode cX11_element 40 = .ok (.bipush 9, 2) := by decide +kernel
theorem dX11_element_42 : decode cX11_element 42 = .ok (.iload_n 1, 1) := by decide +kernel
theorem dX11_element_43 : decode cX11_element 43 = .ok (.imul, 1) := by decide +kernel
theorem dX11_element_44 : decode cX11_element 44 = .ok (.iconst 3, 1) := by decide +kernel
theorem dX11_element_45 : decode cX11_element 45 = .ok (.iload_n 2, 1) := by decide +kernel
theorem dX11_element_46 : decode cX11_element 46 = .ok (.imul, 1) := by decide +kernel
theorem dX11_element_47 : decode cX11_element 47 = .ok (.iadd, 1) := by decide +kernel
theorem dX11_element_48 : decode cX11_element 48 = .ok (.iload_n 3, 1) := by decide +kernel
theorem dX11_element_49 : decode cX11_element 49 = .ok (.iadd, 1) := by decide +kernel
theorem dX11_element_50 : decode cX11_element 50 = .ok (.laload, 1) := by decide +kernel
theorem dX11_element_51 : decode cX11_element 51 = .ok (.goto 7, 3) := by decide +kernel
theorem dX11_element_54 : decode cX11_element 54 = .ok (.iconst (-1), 1) := by decide +kernel
theorem dX11_element_55 : decode cX11_element 55 = .ok (.invokestatic 222, 3) := by decide +kernel
theorem dX11_element_58 : decode cX11_element 58 = .ok (.lreturn, 1) := by decide +kernel
theorem dX11_factor_0 : decode cX11_factor 0 = .ok (.aload_n 0, 1) := by decide +kernel
theorem dX11_factor_1 : decode cX11_factor 1 = .ok (.iload_n 1, 1) := by decide +kernel
theorem dX11_factor_2 : decode cX11_factor 2 = .ok (.invokevirtual 122, 3) := by decide +kernel
theorem dX11_factor_5 : decode cX11_factor 5 = .ok (.ifCond .eq 19, 3) := by decide +kernel
theorem dX11_factor_24 : decode cX11_factor 24 = .ok (.iconst (-1), 1) := by decide +kernel
theorem dX11_factor_25 : decode cX11_factor 25 = .ok (.ireturn, 1) := by decide +kernel
theorem dX11_faithful_0 : decode cX11_faithful 0 = .ok (.iload_n 1, 1) := by decide +kernel
theorem dX11_faithful_1 : decode cX11_faithful 1 = .ok (.invokestatic 250, 3) := by decide +kernel
theorem dX11_faithful_4 : decode cX11_faithful 4 = .ok (.ifCond .ne 5, 3) := by decide +kernel
theorem dX11_faithful_7 : decode cX11_faithful 7 = .ok (.iconst (-1), 1) := by decide +kernel
theorem dX11_faithful_8 : decode cX11_faithful 8 = .ok (.ireturn, 1) := by decide +kernel
theorem dX11_faithful_9 : decode cX11_faithful 9 = .ok (.aload_n 0, 1) := by decide +kernel
theorem dX11_faithful_10 : decode cX11_faithful 10 = .ok (.invokevirtual 219, 3) := by decide +kernel
theorem dX11_faithful_13 : decode cX11_faithful 13 = .ok (.iconst 1, 1) := by decide +kernel
theorem dX11_faithful_14 : decode cX11_faithful 14 = .ok (.istore_n 2, 1) := by decide +kernel
theorem dX11_faithful_15 : decode cX11_faithful 15 = .ok (.iconst 0, 1) := by decide +kernel
theorem dX11_faithful_16 : decode cX11_faithful 16 = .ok (.istore_n 3, 1) := by decide +kernel
theorem dX11_faithful_17 : decode cX11_faithful 17 = .ok (.iload_n 3, 1) := by decide +kernel
theorem dX11_faithful_18 : decode cX11_faithful 18 = .ok (.aload_n 0, 1) := by decide +kernel
theorem dX11_faithful_19 : decode cX11_faithful 19 = .ok (.getfield 202, 3) := by decide +kernel
theorem dX11_faithful_22 : decode cX11_faithful 22 = .ok (.if_icmp .ge 74, 3) := by decide +kernel
theorem dX11_faithful_25 : decode cX11_faithful 25 = .ok (.aload_n 0, 1) := by decide +kernel
theorem dX11_faithful_26 : decode cX11_faithful 26 = .ok (.iload_n 3, 1) := by decide +kernel
theorem dX11_faithful_27 : decode cX11_faithful 27 = .ok (.aload_n 0, 1) := by decide +kernel
theorem dX11_faithful_28 : decode cX11_faithful 28 = .ok (.getfield 27, 3) := by decide +kernel
theorem dX11_faithful_31 : decode cX11_faithful 31 = .ok (.invokevirtual 209, 3) := by decide +kernel
theorem dX11_faithful_34 : decode cX11_faithful 34 = .ok (.aload_n 0, 1) := by decide +kernel
theorem dX11_faithful_35 : decode cX11_faithful 35 = .ok (.getfield 57, 3) := by decide +kernel
theorem dX11_faithful_38 : decode cX11_faithful 38 = .ok (.iload_n 3, 1) := by decide +kernel
theorem dX11_faithful_39 : decode cX11_faithful 39 = .ok (.aload_n 0, 1) := by decide +kernel
theorem dX11_faithful_40 : decode cX11_faithful 40 = .ok (.aload_n 0, 1) := by decide +kernel
theorem dX11_faithful_41 : decode cX11_faithful 41 = .ok (.getfield 27, 3) := by decide +kernel
theorem dX11_faithful_44 : decode cX11_faithful 44 = .ok (.iload_n 1, 1) := by decide +kernel
theorem dX11_faithful_45 : decode cX11_faithful 45 = .ok (.invokevirtual 253, 3) := by decide +kernel
theorem dX11_faithful_48 : decode cX11_faithful 48 = .ok (.iastore, 1) := by decide +kernel
theorem dX11_faithful_49 : decode cX11_faithful 49 = .ok (.iconst 0, 1) := by decide +kernel
theorem dX11_faithful_50 : decode cX11_faithful 50 = .ok (.istore 4, 2) := by decide +kernel
theorem dX11_faithful_52 : decode cX11_faithful 52 = .ok (.iload 4, 2) := by decide +kernel
theorem dX11_faithful_54 : decode cX11_faithful 54 = .ok (.iload_n 3, 1) := by decide +kernel
theorem dX11_faithful_55 : decode cX11_faithful 55 = .ok (.if_icmp .ge 35, 3) := by decide +kernel
theorem dX11_faithful_90 : decode cX11_faithful 90 = .ok (.iinc 3 1, 3) := by decide +kernel
theorem dX11_faithful_93 : decode cX11_faithful 93 = .ok (.goto (-76), 3) := by decide +kernel
theorem dX11_faithful_96 : decode cX11_faithful 96 = .ok (.iload_n 2, 1) := by decide +kernel
theorem dX11_faithful_97 : decode cX11_faithful 97 = .ok (.ifCond .eq 7, 3) := by decide +kernel
theorem dX11_faithful_100 : decode cX11_faithful 100 = .ok (.iconst 1, 1) := by decide +kernel
theorem dX11_faithful_101 : decode cX11_faithful 101 = .ok (.goto 4, 3) := by decide +kernel
theorem dX11_faithful_105 : decode cX11_faithful 105 = .ok (.ireturn, 1) := by decide +kernel
theorem dX11_far_0 : decode cX11_far 0 = .ok (.ldc2_w 88, 3) := by decide +kernel
theorem dX11_far_3 : decode cX11_far 3 = .ok (.iload_n 0, 1) := by decide +kernel
theorem dX11_far_4 : decode cX11_far 4 = .ok (.i2l, 1) := by decide +kernel
theorem dX11_far_5 : decode cX11_far 5 = .ok (.ladd, 1) := by decide +kernel
theorem dX11_far_6 : decode cX11_far 6 = .ok (.lreturn, 1) := by decide +kernel
theorem dX11_feed_0 : decode cX11_feed 0 = .ok (.iload_n 3, 1) := by decide +kernel
theorem dX11_feed_1 : decode cX11_feed 1 = .ok (.i2l, 1) := by decide +kernel
theorem dX11_feed_2 : decode cX11_feed 2 = .ok (.lconst 1, 1) := by decide +kernel
theorem dX11_feed_3 : decode cX11_feed 3 = .ok (.ldc2_w 169, 3) := by decide +kernel
theorem dX11_feed_6 : decode cX11_feed 6 = .ok (.invokestatic 81, 3) := by decide +kernel
theorem dX11_feed_9 : decode cX11_feed 9 = .ok (.ifCond .ne 5, 3) := by decide +kernel
theorem dX11_feed_12 : decode cX11_feed 12 = .ok (.iconst (-1), 1) := by decide +kernel
theorem dX11_feed_13 : decode cX11_feed 13 = .ok (.ireturn, 1) := by decide +kernel
theorem dX11_feed_14 : decode cX11_feed 14 = .ok (.aload_n 0, 1) := by decide +kernel
theorem dX11_feed_15 : decode cX11_feed 15 = .ok (.getfield 171, 3) := by decide +kernel
theorem dX11_feed_18 : decode cX11_feed 18 = .ok (.iload_n 3, 1) := by decide +kernel
theorem dX11_feed_19 : decode cX11_feed 19 = .ok (.iadd, 1) := by decide +kernel
theorem dX11_feed_20 : decode cX11_feed 20 = .ok (.bipush 120, 2) := by decide +kernel
theorem dX11_feed_22 : decode cX11_feed 22 = .ok (.if_icmp .le 6, 3) := by decide +kernel
theorem dX11_feed_28 : decode cX11_feed 28 = .ok (.iconst 0, 1) := by decide +kernel
theorem dX11_feed_29 : decode cX11_feed 29 = .ok (.istore 4, 2) := by decide +kernel
theorem dX11_feed_31 : decode cX11_feed 31 = .ok (.iload 4, 2) := by decide +kernel
theorem dX11_feed_33 : decode cX11_feed 33 = .ok (.iload_n 3, 1) := by decide +kernel
theorem dX11_feed_34 : decode cX11_feed 34 = .ok (.if_icmp .ge 40, 3) := by decide +kernel
theorem dX11_feed_37 : decode cX11_feed 37 = .ok (.aload_n 0, 1) := by decide +kernel
theorem dX11_feed_38 : decode cX11_feed 38 = .ok (.getfield 39, 3) := by decide +kernel
theorem dX11_feed_41 : decode cX11_feed 41 = .ok (.aload_n 0, 1) := by decide +kernel
theorem dX11_feed_42 : decode cX11_feed 42 = .ok (.getfield 171, 3) := by decide +kernel
theorem dX11_feed_45 : decode cX11_feed 45 = .ok (.lload_n 1, 1) := by decide +kernel
theorem dX11_feed_46 : decode cX11_feed 46 = .ok (.bipush 8, 2) := by decide +kernel
theorem dX11_feed_48 : decode cX11_feed 48 = .ok (.iload 4, 2) := by decide +kernel
theorem dX11_feed_50 : decode cX11_feed 50 = .ok (.imul, 1) := by decide +kernel
theorem dX11_feed_51 : decode cX11_feed 51 = .ok (.lshr, 1) := by decide +kernel
theorem dX11_feed_52 : decode cX11_feed 52 = .ok (.ldc2_w 174, 3) := by decide +kernel
theorem dX11_feed_55 : decode cX11_feed 55 = .ok (.land, 1) := by decide +kernel
theorem dX11_feed_56 : decode cX11_feed 56 = .ok (.l2i, 1) := by decide +kernel
theorem dX11_feed_57 : decode cX11_feed 57 = .ok (.iastore, 1) := by decide +kernel
theorem dX11_feed_58 : decode cX11_feed 58 = .ok (.aload_n 0, 1) := by decide +kernel
theorem dX11_feed_59 : decode cX11_feed 59 = .ok (.dup, 1) := by decide +kernel
theorem dX11_feed_60 : decode cX11_feed 60 = .ok (.getfield 171, 3) := by decide +kernel
theorem dX11_feed_63 : decode cX11_feed 63 = .ok (.iconst 1, 1) := by decide +kernel
theorem dX11_feed_64 : decode cX11_feed 64 = .ok (.iadd, 1) := by decide +kernel
theorem dX11_feed_65 : decode cX11_feed 65 = .ok (.putfield 171, 3) := by decide +kernel
theorem dX11_feed_68 : decode cX11_feed 68 = .ok (.iinc 4 1, 3) := by decide +kernel
theorem dX11_feed_71 : decode cX11_feed 71 = .ok (.goto (-40), 3) := by decide +kernel
theorem dX11_feed_74 : decode cX11_feed 74 = .ok (.aload_n 0, 1) := by decide +kernel
theorem dX11_feed_75 : decode cX11_feed 75 = .ok (.getfield 171, 3) := by decide +kernel
theorem dX11_feed_78 : decode cX11_feed 78 = .ok (.ireturn, 1) := by decide +kernel
theorem dX11_findForm_0 : decode cX11_findForm 0 = .ok (.aload_n 0, 1) := by decide +kernel
theorem dX11_findForm_1 : decode cX11_findForm 1 = .ok (.aload_n 0, 1) := by decide +kernel
theorem dX11_findForm_2 : decode cX11_findForm 2 = .ok (.getfield 27, 3) := by decide +kernel
theorem dX11_findForm_5 : decode cX11_findForm 5 = .ok (.invokevirtual 90, 3) := by decide +kernel
theorem dX11_findForm_8 : decode cX11_findForm 8 = .ok (.iconst 1, 1) := by decide +kernel
theorem dX11_findForm_9 : decode cX11_findForm 9 = .ok (.istore_n 1, 1) := by decide +kernel
theorem dX11_findForm_10 : decode cX11_findForm 10 = .ok (.iconst 0, 1) := by decide +kernel
theorem dX11_findForm_11 : decode cX11_findForm 11 = .ok (.istore_n 2, 1) := by decide +kernel
theorem dX11_findForm_12 : decode cX11_findForm 12 = .ok (.iload_n 2, 1) := by decide +kernel
theorem dX11_findForm_13 : decode cX11_findForm 13 = .ok (.aload_n 0, 1) := by decide +kernel
theorem dX11_findForm_14 : decode cX11_findForm 14 = .ok (.getfield 202, 3) := by decide +kernel
theorem dX11_findForm_17 : decode cX11_findForm 17 = .ok (.if_icmp .ge 204, 3) := by decide +kernel
theorem dX11_findForm_20 : decode cX11_findForm 20 = .ok (.aload_n 0, 1) := by decide +kernel
theorem dX11_findForm_21 : decode cX11_findForm 21 = .ok (.iload_n 2, 1) := by decide +kernel
theorem dX11_findForm_22 : decode cX11_findForm 22 = .ok (.aload_n 0, 1) := by decide +kernel
theorem dX11_findForm_23 : decode cX11_findForm 23 = .ok (.getfield 30, 3) := by decide +kernel
theorem dX11_findForm_26 : decode cX11_findForm 26 = .ok (.invokevirtual 209, 3) := by decide +kernel
theorem dX11_findForm_29 : decode cX11_findForm 29 = .ok (.iconst 0, 1) := by decide +kernel
theorem dX11_findForm_30 : decode cX11_findForm 30 = .ok (.istore_n 3, 1) := by decide +kernel
theorem dX11_findForm_31 : decode cX11_findForm 31 = .ok (.iload_n 3, 1) := by decide +kernel
theorem dX11_findForm_32 : decode cX11_findForm 32 = .ok (.aload_n 0, 1) := by decide +kernel
theorem dX11_findForm_33 : decode cX11_findForm 33 = .ok (.getfield 7, 3) := by decide +kernel
theorem dX11_findForm_36 : decode cX11_findForm 36 = .ok (.if_icmp .ge 179, 3) := by decide +kernel
theorem dX11_findForm_39 : decode cX11_findForm 39 = .ok (.iconst 0, 1) := by decide +kernel
theorem dX11_findForm_40 : decode cX11_findForm 40 = .ok (.istore 4, 2) := by decide +kernel
theorem dX11_findForm_42 : decode cX11_findForm 42 = .ok (.iload 4, 2) := by decide +kernel
theorem dX11_findForm_44 : decode cX11_findForm 44 = .ok (.aload_n 0, 1) := by decide +kernel
theorem dX11_findForm_45 : decode cX11_findForm 45 = .ok (.getfield 7, 3) := by decide +kernel
theorem dX11_findForm_48 : decode cX11_findForm 48 = .ok (.if_icmp .ge 161, 3) := by decide +kernel
theorem dX11_findForm_51 : decode cX11_findForm 51 = .ok (.lconst 0, 1) := by decide +kernel
theorem dX11_findForm_52 : decode cX11_findForm 52 = .ok (.lstore 5, 2) := by decide +kernel
theorem dX11_findForm_54 : decode cX11_findForm 54 = .ok (.iconst 0, 1) := by decide +kernel
theorem dX11_findForm_55 : decode cX11_findForm 55 = .ok (.istore 7, 2) := by decide +kernel
theorem dX11_findForm_57 : decode cX11_findForm 57 = .ok (.iload 7, 2) := by decide +kernel
theorem dX11_findForm_59 : decode cX11_findForm 59 = .ok (.aload_n 0, 1) := by decide +kernel
theorem dX11_findForm_60 : decode cX11_findForm 60 = .ok (.getfield 7, 3) := by decide +kernel
theorem dX11_findForm_63 : decode cX11_findForm 63 = .ok (.if_icmp .ge 38, 3) := by decide +kernel
theorem dX11_findForm_66 : decode cX11_findForm 66 = .ok (.lload 5, 2) := by decide +kernel
theorem dX11_findForm_68 : decode cX11_findForm 68 = .ok (.aload_n 0, 1) := by decide +kernel
theorem dX11_findForm_69 : decode cX11_findForm 69 = .ok (.getfield 30, 3) := by decide +kernel
theorem dX11_findForm_72 : decode cX11_findForm 72 = .ok (.iconst 3, 1) := by decide +kernel
theorem dX11_findForm_73 : decode cX11_findForm 73 = .ok (.iload 7, 2) := by decide +kernel
theorem dX11_findForm_75 : decode cX11_findForm 75 = .ok (.imul, 1) := by decide +kernel
theorem dX11_findForm_76 : decode cX11_findForm 76 = .ok (.iload_n 3, 1) := by decide +kernel
theorem dX11_findForm_77 : decode cX11_findForm 77 = .ok (.iadd, 1) := by decide +kernel
theorem dX11_findForm_78 : decode cX11_findForm 78 = .ok (.laload, 1) := by decide +kernel
theorem dX11_findForm_79 : decode cX11_findForm 79 = .ok (.aload_n 0, 1) := by decide +kernel
theorem dX11_findForm_80 : decode cX11_findForm 80 = .ok (.getfield 30, 3) := by decide +kernel
theorem dX11_findForm_83 : decode cX11_findForm 83 = .ok (.iconst 3, 1) := by decide +kernel
theorem dX11_findForm_84 : decode cX11_findForm 84 = .ok (.iload 7, 2) := by decide +kernel
theorem dX11_findForm_86 : decode cX11_findForm 86 = .ok (.imul, 1) := by decide +kernel
theorem dX11_findForm_87 : decode cX11_findForm 87 = .ok (.iload 4, 2) := by decide +kernel
theorem dX11_findForm_89 : decode cX11_findForm 89 = .ok (.iadd, 1) := by decide +kernel
theorem dX11_findForm_90 : decode cX11_findForm 90 = .ok (.laload, 1) := by decide +kernel
theorem dX11_findForm_91 : decode cX11_findForm 91 = .ok (.lmul, 1) := by decide +kernel
theorem dX11_findForm_92 : decode cX11_findForm 92 = .ok (.ladd, 1) := by decide +kernel
theorem dX11_findForm_93 : decode cX11_findForm 93 = .ok (.lstore 5, 2) := by decide +kernel
theorem dX11_findForm_95 : decode cX11_findForm 95 = .ok (.iinc 7 1, 3) := by decide +kernel
theorem dX11_findForm_98 : decode cX11_findForm 98 = .ok (.goto (-41), 3) := by decide +kernel
theorem dX11_findForm_101 : decode cX11_findForm 101 = .ok (.aload_n 0, 1) := by decide +kernel
theorem dX11_findForm_102 : decode cX11_findForm 102 = .ok (.getfield 27, 3) := by decide +kernel
theorem dX11_findForm_105 : decode cX11_findForm 105 = .ok (.iconst 3, 1) := by decide +kernel
theorem dX11_findForm_106 : decode cX11_findForm 106 = .ok (.iload_n 3, 1) := by decide +kernel
theorem dX11_findForm_107 : decode cX11_findForm 107 = .ok (.imul, 1) := by decide +kernel
theorem dX11_findForm_108 : decode cX11_findForm 108 = .ok (.iload 4, 2) := by decide +kernel
theorem dX11_findForm_110 : decode cX11_findForm 110 = .ok (.iadd, 1) := by decide +kernel
theorem dX11_findForm_111 : decode cX11_findForm 111 = .ok (.laload, 1) := by decide +kernel
theorem dX11_findForm_112 : decode cX11_findForm 112 = .ok (.lload 5, 2) := by decide +kernel
theorem dX11_findForm_114 : decode cX11_findForm 114 = .ok (.ladd, 1) := by decide +kernel
theorem dX11_findForm_115 : decode cX11_findForm 115 = .ok (.lstore 7, 2) := by decide +kernel
theorem dX11_findForm_117 : decode cX11_findForm 117 = .ok (.iload_n 1, 1) := by decide +kernel
theorem dX11_findForm_118 : decode cX11_findForm 118 = .ok (.ifCond .eq 70, 3) := by decide +kernel
theorem dX11_findForm_121 : decode cX11_findForm 121 = .ok (.aload_n 0, 1) := by decide +kernel
theorem dX11_findForm_122 : decode cX11_findForm 122 = .ok (.getfield 27, 3) := by decide +kernel
theorem dX11_findForm_125 : decode cX11_findForm 125 = .ok (.iconst 3, 1) := by decide +kernel
theorem dX11_findForm_126 : decode cX11_findForm 126 = .ok (.iload_n 3, 1) := by decide +kernel
theorem dX11_findForm_127 : decode cX11_findForm 127 = .ok (.imul, 1) := by decide +kernel
theorem dX11_findForm_128 : decode cX11_findForm 128 = .ok (.iload 4, 2) := by decide +kernel
theorem dX11_findForm_130 : decode cX11_findForm 130 = .ok (.iadd, 1) := by decide +kernel
theorem dX11_findForm_131 : decode cX11_findForm 131 = .ok (.laload, 1) := by decide +kernel
theorem dX11_findForm_132 : decode cX11_findForm 132 = .ok (.lconst 0, 1) := by decide +kernel
theorem dX11_findForm_133 : decode cX11_findForm 133 = .ok (.lcmp, 1) := by decide +kernel
theorem dX11_findForm_134 : decode cX11_findForm 134 = .ok (.ifCond .lt 7, 3) := by decide +kernel
theorem dX11_findForm_137 : decode cX11_findForm 137 = .ok (.iconst 1, 1) := by decide +kernel
theorem dX11_findForm_138 : decode cX11_findForm 138 = .ok (.goto 4, 3) := by decide +kernel
theorem dX11_findForm_142 : decode cX11_findForm 142 = .ok (.lload 5, 2) := by decide +kernel
theorem dX11_findForm_144 : decode cX11_findForm 144 = .ok (.lconst 0, 1) := by decide +kernel
theorem dX11_findForm_145 : decode cX11_findForm 145 = .ok (.lcmp, 1) := by decide +kernel
theorem dX11_findForm_146 : decode cX11_findForm 146 = .ok (.ifCond .lt 7, 3) := by decide +kernel
theorem dX11_findForm_149 : decode cX11_findForm 149 = .ok (.iconst 1, 1) := by decide +kernel
theorem dX11_findForm_150 : decode cX11_findForm 150 = .ok (.goto 4, 3) := by decide +kernel
theorem dX11_findForm_154 : decode cX11_findForm 154 = .ok (.if_icmp .ne 30, 3) := by decide +kernel
theorem dX11_findForm_157 : decode cX11_findForm 157 = .ok (.lload 7, 2) := by decide +kernel
theorem dX11_findForm_159 : decode cX11_findForm 159 = .ok (.lconst 0, 1) := by decide +kernel
theorem dX11_findForm_160 : decode cX11_findForm 160 = .ok (.lcmp, 1) := by decide +kernel
theorem dX11_findForm_161 : decode cX11_findForm 161 = .ok (.ifCond .lt 7, 3) := by decide +kernel
theorem dX11_findForm_164 : decode cX11_findForm 164 = .ok (.iconst 1, 1) := by decide +kernel
theorem dX11_findForm_165 : decode cX11_findForm 165 = .ok (.goto 4, 3) := by decide +kernel
theorem dX11_findForm_169 : decode cX11_findForm 169 = .ok (.lload 5, 2) := by decide +kernel
theorem dX11_findForm_171 : decode cX11_findForm 171 = .ok (.lconst 0, 1) := by decide +kernel
theorem dX11_findForm_172 : decode cX11_findForm 172 = .ok (.lcmp, 1) := by decide +kernel
theorem dX11_findForm_173 : decode cX11_findForm 173 = .ok (.ifCond .lt 7, 3) := by decide +kernel
theorem dX11_findForm_176 : decode cX11_findForm 176 = .ok (.iconst 1, 1) := by decide +kernel
theorem dX11_findForm_177 : decode cX11_findForm 177 = .ok (.goto 4, 3) := by decide +kernel
theorem dX11_findForm_181 : decode cX11_findForm 181 = .ok (.if_icmp .ne 7, 3) := by decide +kernel
theorem dX11_findForm_184 : decode cX11_findForm 184 = .ok (.iconst 1, 1) := by decide +kernel
theorem dX11_findForm_185 : decode cX11_findForm 185 = .ok (.goto 4, 3) := by decide +kernel
theorem dX11_findForm_189 : decode cX11_findForm 189 = .ok (.istore_n 1, 1) := by decide +kernel
theorem dX11_findForm_190 : decode cX11_findForm 190 = .ok (.aload_n 0, 1) := by decide +kernel
theorem dX11_findForm_191 : decode cX11_findForm 191 = .ok (.getfield 27, 3) := by decide +kernel
theorem dX11_findForm_194 : decode cX11_findForm 194 = .ok (.iconst 3, 1) := by decide +kernel
theorem dX11_findForm_195 : decode cX11_findForm 195 = .ok (.iload_n 3, 1) := by decide +kernel
theorem dX11_findForm_196 : decode cX11_findForm 196 = .ok (.imul, 1) := by decide +kernel
theorem dX11_findForm_197 : decode cX11_findForm 197 = .ok (.iload 4, 2) := by decide +kernel
theorem dX11_findForm_199 : decode cX11_findForm 199 = .ok (.iadd, 1) := by decide +kernel
theorem dX11_findForm_200 : decode cX11_findForm 200 = .ok (.lload 7, 2) := by decide +kernel
theorem dX11_findForm_202 : decode cX11_findForm 202 = .ok (.lastore, 1) := by decide +kernel
theorem dX11_findForm_203 : decode cX11_findForm 203 = .ok (.iinc 4 1, 3) := by decide +kernel
theorem dX11_findForm_206 : decode cX11_findForm 206 = .ok (.goto (-164), 3) := by decide +kernel
theorem dX11_findForm_209 : decode cX11_findForm 209 = .ok (.iinc 3 1, 3) := by decide +kernel
theorem dX11_findForm_212 : decode cX11_findForm 212 = .ok (.goto (-181), 3) := by decide +kernel
theorem dX11_findForm_215 : decode cX11_findForm 215 = .ok (.iinc 2 1, 3) := by decide +kernel
theorem dX11_findForm_218 : decode cX11_findForm 218 = .ok (.goto (-206), 3) := by decide +kernel
theorem dX11_findForm_221 : decode cX11_findForm 221 = .ok (.iload_n 1, 1) := by decide +kernel
theorem dX11_findForm_222 : decode cX11_findForm 222 = .ok (.ireturn, 1) := by decide +kernel
theorem dX11_findList_0 : decode cX11_findList 0 = .ok (.aload_n 0, 1) := by decide +kernel
theorem dX11_findList_1 : decode cX11_findList 1 = .ok (.getfield 98, 3) := by decide +kernel
theorem dX11_findList_4 : decode cX11_findList 4 = .ok (.ifCond .eq 4, 3) := by decide +kernel
theorem dX11_findList_8 : decode cX11_findList 8 = .ok (.aload_n 0, 1) := by decide +kernel
theorem dX11_findList_9 : decode cX11_findList 9 = .ok (.iconst 0, 1) := by decide +kernel
theorem dX11_findList_10 : decode cX11_findList 10 = .ok (.putfield 202, 3) := by decide +kernel
theorem dX11_findList_13 : decode cX11_findList 13 = .ok (.aload_n 0, 1) := by decide +kernel
theorem dX11_findList_14 : decode cX11_findList 14 = .ok (.aload_n 0, 1) := by decide +kernel
theorem dX11_findList_15 : decode cX11_findList 15 = .ok (.getfield 27, 3) := by decide +kernel
theorem dX11_findList_18 : decode cX11_findList 18 = .ok (.invokevirtual 107, 3) := by decide +kernel
theorem dX11_findList_21 : decode cX11_findList 21 = .ok (.aload_n 0, 1) := by decide +kernel
theorem dX11_findList_22 : decode cX11_findList 22 = .ok (.aload_n 0, 1) := by decide +kernel
theorem dX11_findList_23 : decode cX11_findList 23 = .ok (.getfield 27, 3) := by decide +kernel
theorem dX11_findList_26 : decode cX11_findList 26 = .ok (.bipush (-3), 2) := by decide +kernel
theorem dX11_findList_28 : decode cX11_findList 28 = .ok (.bipush (-3), 2) := by decide +kernel
theorem dX11_findList_30 : decode cX11_findList 30 = .ok (.invokevirtual 205, 3) := by decide +kernel
theorem dX11_findList_33 : decode cX11_findList 33 = .ok (.iconst 0, 1) := by decide +kernel
theorem dX11_findList_34 : decode cX11_findList 34 = .ok (.istore_n 1, 1) := by decide +kernel
theorem dX11_findList_35 : decode cX11_findList 35 = .ok (.iload_n 1, 1) := by decide +kernel
theorem dX11_findList_36 : decode cX11_findList 36 = .ok (.aload_n 0, 1) := by decide +kernel
theorem dX11_findList_37 : decode cX11_findList 37 = .ok (.getfield 202, 3) := by decide +kernel
theorem dX11_findList_40 : decode cX11_findList 40 = .ok (.if_icmp .ge 100, 3) := by decide +kernel
theorem dX11_findList_43 : decode cX11_findList 43 = .ok (.iconst 0, 1) := by decide +kernel
theorem dX11_findList_44 : decode cX11_findList 44 = .ok (.istore_n 2, 1) := by decide +kernel
theorem dX11_findList_45 : decode cX11_findList 45 = .ok (.iload_n 2, 1) := by decide +kernel
theorem dX11_findList_46 : decode cX11_findList 46 = .ok (.aload_n 0, 1) := by decide +kernel
theorem dX11_findList_47 : decode cX11_findList 47 = .ok (.getfield 85, 3) := by decide +kernel
theorem dX11_findList_50 : decode cX11_findList 50 = .ok (.if_icmp .ge 84, 3) := by decide +kernel
theorem dX11_findList_134 : decode cX11_findList 134 = .ok (.iinc 1 1, 3) := by decide +kernel
theorem dX11_findList_137 : decode cX11_findList 137 = .ok (.goto (-102), 3) := by decide +kernel
theorem dX11_findList_140 : decode cX11_findList 140 = .ok (.aload_n 0, 1) := by decide +kernel
theorem dX11_findList_141 : decode cX11_findList 141 = .ok (.iconst 1, 1) := by decide +kernel
theorem dX11_findList_142 : decode cX11_findList 142 = .ok (.putfield 216, 3) := by decide +kernel
theorem dX11_findList_145 : decode cX11_findList 145 = .ok (.iconst 0, 1) := by decide +kernel
theorem dX11_findList_146 : decode cX11_findList 146 = .ok (.istore_n 1, 1) := by decide +kernel
theorem dX11_findList_147 : decode cX11_findList 147 = .ok (.iload_n 1, 1) := by decide +kernel
theorem dX11_findList_148 : decode cX11_findList 148 = .ok (.aload_n 0, 1) := by decide +kernel
theorem dX11_findList_149 : decode cX11_findList 149 = .ok (.getfield 202, 3) := by decide +kernel
theorem dX11_findList_152 : decode cX11_findList 152 = .ok (.if_icmp .ge 86, 3) := by decide +kernel
theorem dX11_findList_155 : decode cX11_findList 155 = .ok (.iconst 0, 1) := by decide +kernel
theorem dX11_findList_156 : decode cX11_findList 156 = .ok (.istore_n 2, 1) := by decide +kernel
theorem dX11_findList_157 : decode cX11_findList 157 = .ok (.iload_n 2, 1) := by decide +kernel
theorem dX11_findList_158 : decode cX11_findList 158 = .ok (.aload_n 0, 1) := by decide +kernel
theorem dX11_findList_159 : decode cX11_findList 159 = .ok (.getfield 85, 3) := by decide +kernel
theorem dX11_findList_162 : decode cX11_findList 162 = .ok (.if_icmp .ge 70, 3) := by decide +kernel
theorem dX11_findList_232 : decode cX11_findList 232 = .ok (.iinc 1 1, 3) := by decide +kernel
theorem dX11_findList_235 : decode cX11_findList 235 = .ok (.goto (-88), 3) := by decide +kernel
theorem dX11_findList_238 : decode cX11_findList 238 = .ok (.aload_n 0, 1) := by decide +kernel
theorem dX11_findList_239 : decode cX11_findList 239 = .ok (.iconst 1, 1) := by decide +kernel
theorem dX11_findList_240 : decode cX11_findList 240 = .ok (.putfield 98, 3) := by decide +kernel
theorem dX11_findList_243 : decode cX11_findList 243 = .ok (.return_, 1) := by decide +kernel
theorem dX11_first_0 : decode cX11_first 0 = .ok (.aload_n 0, 1) := by decide +kernel
theorem dX11_first_1 : decode cX11_first 1 = .ok (.aload_n 1, 1) := by decide +kernel
theorem dX11_first_2 : decode cX11_first 2 = .ok (.invokevirtual 90, 3) := by decide +kernel
theorem dX11_first_5 : decode cX11_first 5 = .ok (.iconst 0, 1) := by decide +kernel
theorem dX11_first_6 : decode cX11_first 6 = .ok (.istore_n 2, 1) := by decide +kernel
theorem dX11_first_7 : decode cX11_first 7 = .ok (.iload_n 2, 1) := by decide +kernel
theorem dX11_first_8 : decode cX11_first 8 = .ok (.aload_n 0, 1) := by decide +kernel
theorem dX11_first_9 : decode cX11_first 9 = .ok (.getfield 7, 3) := by decide +kernel
theorem dX11_first_12 : decode cX11_first 12 = .ok (.if_icmp .ge 15, 3) := by decide +kernel
theorem dX11_first_15 : decode cX11_first 15 = .ok (.aload_n 1, 1) := by decide +kernel
theorem dX11_first_16 : decode cX11_first 16 = .ok (.iconst 4, 1) := by decide +kernel
theorem dX11_first_17 : decode cX11_first 17 = .ok (.iload_n 2, 1) := by decide +kernel
theorem dX11_first_18 : decode cX11_first 18 = .ok (.imul, 1) := by decide +kernel
theorem dX11_first_19 : decode cX11_first 19 = .ok (.lconst 1, 1) := by decide +kernel
theorem dX11_first_20 : decode cX11_first 20 = .ok (.lastore, 1) := by decide +kernel
theorem dX11_first_21 : decode cX11_first 21 = .ok (.iinc 2 1, 3) := by decide +kernel
theorem dX11_first_24 : decode cX11_first 24 = .ok (.goto (-17), 3) := by decide +kernel
theorem dX11_first_27 : decode cX11_first 27 = .ok (.return_, 1) := by decide +kernel
theorem dX11_form_0 : decode cX11_form 0 = .ok (.aload_n 0, 1) := by decide +kernel
theorem dX11_form_1 : decode cX11_form 1 = .ok (.iload_n 1, 1) := by decide +kernel
theorem dX11_form_2 : decode cX11_form 2 = .ok (.invokevirtual 110, 3) := by decide +kernel
theorem dX11_form_5 : decode cX11_form 5 = .ok (.ifCond .eq 11, 3) := by decide +kernel
theorem dX11_form_8 : decode cX11_form 8 = .ok (.aload_n 0, 1) := by decide +kernel
theorem dX11_form_9 : decode cX11_form 9 = .ok (.iload_n 2, 1) := by decide +kernel
theorem dX11_form_10 : decode cX11_form 10 = .ok (.invokevirtual 110, 3) := by decide +kernel
theorem dX11_form_13 : decode cX11_form 13 = .ok (.ifCond .ne 8, 3) := by decide +kernel
theorem dX11_form_16 : decode cX11_form 16 = .ok (.iconst (-1), 1) := by decide +kernel
theorem dX11_form_17 : decode cX11_form 17 = .ok (.invokestatic 222, 3) := by decide +kernel
theorem dX11_form_20 : decode cX11_form 20 = .ok (.lreturn, 1) := by decide +kernel
theorem dX11_form_21 : decode cX11_form 21 = .ok (.aload_n 0, 1) := by decide +kernel
theorem dX11_form_22 : decode cX11_form 22 = .ok (.invokevirtual 219, 3) := by decide +kernel
theorem dX11_form_25 : decode cX11_form 25 = .ok (.aload_n 0, 1) := by decide +kernel
theorem dX11_form_26 : decode cX11_form 26 = .ok (.getfield 216, 3) := by decide +kernel
theorem dX11_form_29 : decode cX11_form 29 = .ok (.ifCond .ne 9, 3) := by decide +kernel
theorem dX11_form_38 : decode cX11_form 38 = .ok (.aload_n 0, 1) := by decide +kernel
theorem dX11_form_39 : decode cX11_form 39 = .ok (.invokevirtual 230, 3) := by decide +kernel
theorem dX11_form_42 : decode cX11_form 42 = .ok (.ifCond .ne 9, 3) := by decide +kernel
theorem dX11_form_51 : decode cX11_form 51 = .ok (.lconst 0, 1) := by decide +kernel
theorem dX11_form_52 : decode cX11_form 52 = .ok (.lstore_n 3, 1) := by decide +kernel
theorem dX11_form_53 : decode cX11_form 53 = .ok (.iconst 0, 1) := by decide +kernel
theorem dX11_form_54 : decode cX11_form 54 = .ok (.istore 5, 2) := by decide +kernel
theorem dX11_form_56 : decode cX11_form 56 = .ok (.iload 5, 2) := by decide +kernel
theorem dX11_form_58 : decode cX11_form 58 = .ok (.bipush 9, 2) := by decide +kernel
theorem dX11_form_60 : decode cX11_form 60 = .ok (.if_icmp .ge 21, 3) := by decide +kernel
theorem dX11_form_63 : decode cX11_form 63 = .ok (.lload_n 3, 1) := by decide +kernel
theorem dX11_form_64 : decode cX11_form 64 = .ok (.aload_n 0, 1) := by decide +kernel
theorem dX11_form_65 : decode cX11_form 65 = .ok (.getfield 27, 3) := by decide +kernel
theorem dX11_form_68 : decode cX11_form 68 = .ok (.iload 5, 2) := by decide +kernel
theorem dX11_form_70 : decode cX11_form 70 = .ok (.laload, 1) := by decide +kernel
theorem dX11_form_71 : decode cX11_form 71 = .ok (.invokestatic 233, 3) := by decide +kernel
theorem dX11_form_74 : decode cX11_form 74 = .ok (.lstore_n 3, 1) := by decide +kernel
theorem dX11_form_75 : decode cX11_form 75 = .ok (.iinc 5 1, 3) := by decide +kernel
theorem dX11_form_78 : decode cX11_form 78 = .ok (.goto (-22), 3) := by decide +kernel
theorem dX11_form_81 : decode cX11_form 81 = .ok (.aload_n 0, 1) := by decide +kernel
theorem dX11_form_82 : decode cX11_form 82 = .ok (.getfield 27, 3) := by decide +kernel
theorem dX11_form_85 : decode cX11_form 85 = .ok (.iconst 3, 1) := by decide +kernel
theorem dX11_form_86 : decode cX11_form 86 = .ok (.iload_n 1, 1) := by decide +kernel
theorem dX11_form_87 : decode cX11_form 87 = .ok (.imul, 1) := by decide +kernel
theorem dX11_form_88 : decode cX11_form 88 = .ok (.iload_n 2, 1) := by decide +kernel
theorem dX11_form_89 : decode cX11_form 89 = .ok (.iadd, 1) := by decide +kernel
theorem dX11_form_90 : decode cX11_form 90 = .ok (.laload, 1) := by decide +kernel
theorem dX11_form_91 : decode cX11_form 91 = .ok (.lload_n 3, 1) := by decide +kernel
theorem dX11_form_92 : decode cX11_form 92 = .ok (.ldiv, 1) := by decide +kernel
theorem dX11_form_93 : decode cX11_form 93 = .ok (.lreturn, 1) := by decide +kernel
theorem dX11_found_0 : decode cX11_found 0 = .ok (.iconst 0, 1) := by decide +kernel
theorem dX11_found_1 : decode cX11_found 1 = .ok (.istore_n 2, 1) := by decide +kernel
theorem dX11_found_2 : decode cX11_found 2 = .ok (.iload_n 1, 1) := by decide +kernel
theorem dX11_found_3 : decode cX11_found 3 = .ok (.ifCond .lt 7, 3) := by decide +kernel
theorem dX11_found_6 : decode cX11_found 6 = .ok (.iconst 1, 1) := by decide +kernel
theorem dX11_found_7 : decode cX11_found 7 = .ok (.goto 4, 3) := by decide +kernel
theorem dX11_found_10 : decode cX11_found 10 = .ok (.iconst 0, 1) := by decide +kernel
theorem dX11_found_11 : decode cX11_found 11 = .ok (.istore_n 3, 1) := by decide +kernel
theorem dX11_found_12 : decode cX11_found 12 = .ok (.iload_n 1, 1) := by decide +kernel
theorem dX11_found_13 : decode cX11_found 13 = .ok (.istore 4, 2) := by decide +kernel
theorem dX11_found_15 : decode cX11_found 15 = .ok (.iload 4, 2) := by decide +kernel
theorem dX11_found_17 : decode cX11_found 17 = .ok (.ifCond .le 44, 3) := by decide +kernel
theorem dX11_found_20 : decode cX11_found 20 = .ok (.iload_n 3, 1) := by decide +kernel
theorem dX11_found_21 : decode cX11_found 21 = .ok (.ifCond .eq 25, 3) := by decide +kernel
theorem dX11_found_24 : decode cX11_found 24 = .ok (.iload 4, 2) := by decide +kernel
theorem dX11_found_26 : decode cX11_found 26 = .ok (.bipush 10, 2) := by decide +kernel
theorem dX11_found_28 : decode cX11_found 28 = .ok (.irem, 1) := by decide +kernel
theorem dX11_found_29 : decode cX11_found 29 = .ok (.i2l, 1) := by decide +kernel
theorem dX11_found_30 : decode cX11_found 30 = .ok (.lconst 1, 1) := by decide +kernel
theorem dX11_found_31 : decode cX11_found 31 = .ok (.aload_n 0, 1) := by decide +kernel
theorem dX11_found_32 : decode cX11_found 32 = .ok (.getfield 85, 3) := by decide +kernel
theorem dX11_found_35 : decode cX11_found 35 = .ok (.i2l, 1) := by decide +kernel
theorem dX11_found_36 : decode cX11_found 36 = .ok (.invokestatic 81, 3) := by decide +kernel
theorem dX11_found_39 : decode cX11_found 39 = .ok (.ifCond .eq 7, 3) := by decide +kernel
theorem dX11_found_46 : decode cX11_found 46 = .ok (.iconst 0, 1) := by decide +kernel
theorem dX11_found_47 : decode cX11_found 47 = .ok (.istore_n 3, 1) := by decide +kernel
theorem dX11_found_48 : decode cX11_found 48 = .ok (.iinc 2 1, 3) := by decide +kernel
