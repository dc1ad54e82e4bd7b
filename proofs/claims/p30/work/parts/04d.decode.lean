theorem dX10_text_75 : decode cX10_text 75 = .ok (.bipush 9, 2) := by decide +kernel
theorem dX10_text_77 : decode cX10_text 77 = .ok (.imul, 1) := by decide +kernel
theorem dX10_text_78 : decode cX10_text 78 = .ok (.invokestatic 189, 3) := by decide +kernel
theorem dX10_text_81 : decode cX10_text 81 = .ok (.aload_n 0, 1) := by decide +kernel
theorem dX10_text_82 : decode cX10_text 82 = .ok (.invokevirtual 104, 3) := by decide +kernel
theorem dX10_text_85 : decode cX10_text 85 = .ok (.aload_n 0, 1) := by decide +kernel
theorem dX10_text_86 : decode cX10_text 86 = .ok (.getfield 10, 3) := by decide +kernel
theorem dX10_text_89 : decode cX10_text 89 = .ok (.getfield 101, 3) := by decide +kernel
theorem dX10_text_92 : decode cX10_text 92 = .ok (.ireturn, 1) := by decide +kernel
theorem dX10_unit_0 : decode cX10_unit 0 = .ok (.aload_n 0, 1) := by decide +kernel
theorem dX10_unit_1 : decode cX10_unit 1 = .ok (.getfield 10, 3) := by decide +kernel
theorem dX10_unit_4 : decode cX10_unit 4 = .ok (.iload_n 1, 1) := by decide +kernel
theorem dX10_unit_5 : decode cX10_unit 5 = .ok (.iload_n 2, 1) := by decide +kernel
theorem dX10_unit_6 : decode cX10_unit 6 = .ok (.invokevirtual 107, 3) := by decide +kernel
theorem dX10_unit_9 : decode cX10_unit 9 = .ok (.ifCond .eq 20, 3) := by decide +kernel
theorem dX10_unit_12 : decode cX10_unit 12 = .ok (.iload_n 1, 1) := by decide +kernel
theorem dX10_unit_13 : decode cX10_unit 13 = .ok (.iload_n 2, 1) := by decide +kernel
theorem dX10_unit_14 : decode cX10_unit 14 = .ok (.if_icmp .ne 7, 3) := by decide +kernel
theorem dX10_unit_17 : decode cX10_unit 17 = .ok (.iconst 1, 1) := by decide +kernel
theorem dX10_unit_18 : decode cX10_unit 18 = .ok (.goto 4, 3) := by decide +kernel
theorem dX10_unit_21 : decode cX10_unit 21 = .ok (.iconst 0, 1) := by decide +kernel
theorem dX10_unit_22 : decode cX10_unit 22 = .ok (.iload_n 3, 1) := by decide +kernel
theorem dX10_unit_23 : decode cX10_unit 23 = .ok (.invokestatic 111, 3) := by decide +kernel
theorem dX10_unit_26 : decode cX10_unit 26 = .ok (.ifCond .ne 5, 3) := by decide +kernel
theorem dX10_unit_29 : decode cX10_unit 29 = .ok (.iconst (-1), 1) := by decide +kernel
theorem dX10_unit_30 : decode cX10_unit 30 = .ok (.ireturn, 1) := by decide +kernel
theorem dX10_unit_31 : decode cX10_unit 31 = .ok (.aload_n 0, 1) := by decide +kernel
theorem dX10_unit_32 : decode cX10_unit 32 = .ok (.getfield 10, 3) := by decide +kernel
theorem dX10_unit_35 : decode cX10_unit 35 = .ok (.invokevirtual 115, 3) := by decide +kernel
theorem dX10_unit_38 : decode cX10_unit 38 = .ok (.ifCond .eq 6, 3) := by decide +kernel
theorem dX10_unit_41 : decode cX10_unit 41 = .ok (.bipush (-2), 2) := by decide +kernel
theorem dX10_unit_43 : decode cX10_unit 43 = .ok (.ireturn, 1) := by decide +kernel
theorem dX10_unit_44 : decode cX10_unit 44 = .ok (.aload_n 0, 1) := by decide +kernel
theorem dX10_unit_45 : decode cX10_unit 45 = .ok (.iload_n 1, 1) := by decide +kernel
theorem dX10_unit_46 : decode cX10_unit 46 = .ok (.iload_n 2, 1) := by decide +kernel
theorem dX10_unit_47 : decode cX10_unit 47 = .ok (.iload_n 3, 1) := by decide +kernel
theorem dX10_unit_48 : decode cX10_unit 48 = .ok (.invokevirtual 119, 3) := by decide +kernel
theorem dX10_unit_51 : decode cX10_unit 51 = .ok (.ireturn, 1) := by decide +kernel
theorem dX10_whole_0 : decode cX10_whole 0 = .ok (.aload_n 0, 1) := by decide +kernel
theorem dX10_whole_1 : decode cX10_whole 1 = .ok (.invokevirtual 195, 3) := by decide +kernel
theorem dX10_whole_4 : decode cX10_whole 4 = .ok (.aload_n 0, 1) := by decide +kernel
theorem dX10_whole_5 : decode cX10_whole 5 = .ok (.getfield 41, 3) := by decide +kernel
theorem dX10_whole_8 : decode cX10_whole 8 = .ok (.getfield 199, 3) := by decide +kernel
theorem dX10_whole_11 : decode cX10_whole 11 = .ok (.ifCond .eq 7, 3) := by decide +kernel
theorem dX10_whole_14 : decode cX10_whole 14 = .ok (.iconst 1, 1) := by decide +kernel
theorem dX10_whole_15 : decode cX10_whole 15 = .ok (.goto 4, 3) := by decide +kernel
theorem dX10_whole_18 : decode cX10_whole 18 = .ok (.iconst 0, 1) := by decide +kernel
theorem dX10_whole_19 : decode cX10_whole 19 = .ok (.ireturn, 1) := by decide +kernel
theorem dX10_witness_0 : decode cX10_witness 0 = .ok (.aload_n 0, 1) := by decide +kernel
theorem dX10_witness_1 : decode cX10_witness 1 = .ok (.invokevirtual 195, 3) := by decide +kernel
theorem dX10_witness_4 : decode cX10_witness 4 = .ok (.iconst 0, 1) := by decide +kernel
theorem dX10_witness_5 : decode cX10_witness 5 = .ok (.istore_n 1, 1) := by decide +kernel
theorem dX10_witness_6 : decode cX10_witness 6 = .ok (.iload_n 1, 1) := by decide +kernel
theorem dX10_witness_7 : decode cX10_witness 7 = .ok (.aload_n 0, 1) := by decide +kernel
theorem dX10_witness_8 : decode cX10_witness 8 = .ok (.getfield 41, 3) := by decide +kernel
theorem dX10_witness_11 : decode cX10_witness 11 = .ok (.getfield 198, 3) := by decide +kernel
theorem dX10_witness_14 : decode cX10_witness 14 = .ok (.if_icmp .ge 35, 3) := by decide +kernel
theorem dX10_witness_17 : decode cX10_witness 17 = .ok (.aload_n 0, 1) := by decide +kernel
theorem dX10_witness_18 : decode cX10_witness 18 = .ok (.aload_n 0, 1) := by decide +kernel
theorem dX10_witness_19 : decode cX10_witness 19 = .ok (.getfield 41, 3) := by decide +kernel
theorem dX10_witness_22 : decode cX10_witness 22 = .ok (.getfield 207, 3) := by decide +kernel
theorem dX10_witness_25 : decode cX10_witness 25 = .ok (.aload_n 0, 1) := by decide +kernel
theorem dX10_witness_26 : decode cX10_witness 26 = .ok (.getfield 41, 3) := by decide +kernel
theorem dX10_witness_29 : decode cX10_witness 29 = .ok (.iload_n 1, 1) := by decide +kernel
theorem dX10_witness_30 : decode cX10_witness 30 = .ok (.invokevirtual 208, 3) := by decide +kernel
theorem dX10_witness_33 : decode cX10_witness 33 = .ok (.invokevirtual 156, 3) := by decide +kernel
theorem dX10_witness_36 : decode cX10_witness 36 = .ok (.bipush (-3), 2) := by decide +kernel
theorem dX10_witness_38 : decode cX10_witness 38 = .ok (.if_icmp .ne 5, 3) := by decide +kernel
theorem dX10_witness_41 : decode cX10_witness 41 = .ok (.iload_n 1, 1) := by decide +kernel
theorem dX10_witness_42 : decode cX10_witness 42 = .ok (.ireturn, 1) := by decide +kernel
theorem dX10_witness_43 : decode cX10_witness 43 = .ok (.iinc 1 1, 3) := by decide +kernel
theorem dX10_witness_46 : decode cX10_witness 46 = .ok (.goto (-40), 3) := by decide +kernel
theorem dX10_witness_49 : decode cX10_witness 49 = .ok (.bipush (-3), 2) := by decide +kernel
theorem dX10_witness_51 : decode cX10_witness 51 = .ok (.ireturn, 1) := by decide +kernel
theorem dX11_about_0 : decode cX11_about 0 = .ok (.aload_n 0, 1) := by decide +kernel
theorem dX11_about_1 : decode cX11_about 1 = .ok (.invokevirtual 219, 3) := by decide +kernel
theorem dX11_about_4 : decode cX11_about 4 = .ok (.iload_n 1, 1) := by decide +kernel
theorem dX11_about_5 : decode cX11_about 5 = .ok (.i2l, 1) := by decide +kernel
theorem dX11_about_6 : decode cX11_about 6 = .ok (.lconst 0, 1) := by decide +kernel
theorem dX11_about_7 : decode cX11_about 7 = .ok (.aload_n 0, 1) := by decide +kernel
theorem dX11_about_8 : decode cX11_about 8 = .ok (.getfield 202, 3) := by decide +kernel
theorem dX11_about_11 : decode cX11_about 11 = .ok (.iconst 1, 1) := by decide +kernel
theorem dX11_about_12 : decode cX11_about 12 = .ok (.isub, 1) := by decide +kernel
theorem dX11_about_13 : decode cX11_about 13 = .ok (.i2l, 1) := by decide +kernel
theorem dX11_about_14 : decode cX11_about 14 = .ok (.invokestatic 81, 3) := by decide +kernel
theorem dX11_about_17 : decode cX11_about 17 = .ok (.ifCond .ne 5, 3) := by decide +kernel
theorem dX11_about_20 : decode cX11_about 20 = .ok (.iconst (-1), 1) := by decide +kernel
theorem dX11_about_21 : decode cX11_about 21 = .ok (.ireturn, 1) := by decide +kernel
theorem dX11_about_22 : decode cX11_about 22 = .ok (.iload_n 2, 1) := by decide +kernel
theorem dX11_about_23 : decode cX11_about 23 = .ok (.tableswitch 56 0 3 #[29, 36, 43, 50], 29) := by decide +kernel
theorem dX11_about_52 : decode cX11_about 52 = .ok (.aload_n 0, 1) := by decide +kernel
theorem dX11_about_53 : decode cX11_about 53 = .ok (.getfield 48, 3) := by decide +kernel
theorem dX11_about_56 : decode cX11_about 56 = .ok (.iload_n 1, 1) := by decide +kernel
theorem dX11_about_57 : decode cX11_about 57 = .ok (.iaload, 1) := by decide +kernel
theorem dX11_about_58 : decode cX11_about 58 = .ok (.ireturn, 1) := by decide +kernel
theorem dX11_about_59 : decode cX11_about 59 = .ok (.aload_n 0, 1) := by decide +kernel
theorem dX11_about_60 : decode cX11_about 60 = .ok (.getfield 51, 3) := by decide +kernel
theorem dX11_about_63 : decode cX11_about 63 = .ok (.iload_n 1, 1) := by decide +kernel
theorem dX11_about_64 : decode cX11_about 64 = .ok (.iaload, 1) := by decide +kernel
theorem dX11_about_65 : decode cX11_about 65 = .ok (.ireturn, 1) := by decide +kernel
theorem dX11_about_66 : decode cX11_about 66 = .ok (.aload_n 0, 1) := by decide +kernel
theorem dX11_about_67 : decode cX11_about 67 = .ok (.getfield 54, 3) := by decide +kernel
theorem dX11_about_70 : decode cX11_about 70 = .ok (.iload_n 1, 1) := by decide +kernel
theorem dX11_about_71 : decode cX11_about 71 = .ok (.iaload, 1) := by decide +kernel
theorem dX11_about_72 : decode cX11_about 72 = .ok (.ireturn, 1) := by decide +kernel
theorem dX11_about_73 : decode cX11_about 73 = .ok (.aload_n 0, 1) := by decide +kernel
theorem dX11_about_74 : decode cX11_about 74 = .ok (.iload_n 1, 1) := by decide +kernel
theorem dX11_about_75 : decode cX11_about 75 = .ok (.invokevirtual 226, 3) := by decide +kernel
theorem dX11_about_78 : decode cX11_about 78 = .ok (.ireturn, 1) := by decide +kernel
theorem dX11_about_79 : decode cX11_about 79 = .ok (.iconst (-1), 1) := by decide +kernel
theorem dX11_about_80 : decode cX11_about 80 = .ok (.ireturn, 1) := by decide +kernel
theorem dX11_again_0 : decode cX11_again 0 = .ok (.aload_n 0, 1) := by decide +kernel
theorem dX11_again_1 : decode cX11_again 1 = .ok (.getfield 306, 3) := by decide +kernel
theorem dX11_again_4 : decode cX11_again 4 = .ok (.ifCond .ne 6, 3) := by decide +kernel
theorem dX11_again_7 : decode cX11_again 7 = .ok (.bipush (-3), 2) := by decide +kernel
theorem dX11_again_9 : decode cX11_again 9 = .ok (.ireturn, 1) := by decide +kernel
theorem dX11_again_10 : decode cX11_again 10 = .ok (.iconst 0, 1) := by decide +kernel
theorem dX11_again_11 : decode cX11_again 11 = .ok (.istore_n 1, 1) := by decide +kernel
theorem dX11_again_12 : decode cX11_again 12 = .ok (.iload_n 1, 1) := by decide +kernel
theorem dX11_again_13 : decode cX11_again 13 = .ok (.bipush 36, 2) := by decide +kernel
theorem dX11_again_15 : decode cX11_again 15 = .ok (.if_icmp .ge 21, 3) := by decide +kernel
theorem dX11_again_18 : decode cX11_again 18 = .ok (.aload_n 0, 1) := by decide +kernel
theorem dX11_again_19 : decode cX11_again 19 = .ok (.getfield 16, 3) := by decide +kernel
theorem dX11_again_22 : decode cX11_again 22 = .ok (.iload_n 1, 1) := by decide +kernel
theorem dX11_again_23 : decode cX11_again 23 = .ok (.aload_n 0, 1) := by decide +kernel
theorem dX11_again_24 : decode cX11_again 24 = .ok (.getfield 20, 3) := by decide +kernel
theorem dX11_again_27 : decode cX11_again 27 = .ok (.iload_n 1, 1) := by decide +kernel
theorem dX11_again_28 : decode cX11_again 28 = .ok (.iaload, 1) := by decide +kernel
theorem dX11_again_29 : decode cX11_again 29 = .ok (.iastore, 1) := by decide +kernel
theorem dX11_again_30 : decode cX11_again 30 = .ok (.iinc 1 1, 3) := by decide +kernel
theorem dX11_again_33 : decode cX11_again 33 = .ok (.goto (-21), 3) := by decide +kernel
theorem dX11_again_36 : decode cX11_again 36 = .ok (.aload_n 0, 1) := by decide +kernel
theorem dX11_again_37 : decode cX11_again 37 = .ok (.aload_n 0, 1) := by decide +kernel
theorem dX11_again_38 : decode cX11_again 38 = .ok (.getfield 297, 3) := by decide +kernel
theorem dX11_again_41 : decode cX11_again 41 = .ok (.putfield 7, 3) := by decide +kernel
theorem dX11_again_44 : decode cX11_again 44 = .ok (.aload_n 0, 1) := by decide +kernel
theorem dX11_again_45 : decode cX11_again 45 = .ok (.aload_n 0, 1) := by decide +kernel
theorem dX11_again_46 : decode cX11_again 46 = .ok (.getfield 300, 3) := by decide +kernel
theorem dX11_again_49 : decode cX11_again 49 = .ok (.putfield 85, 3) := by decide +kernel
theorem dX11_again_52 : decode cX11_again 52 = .ok (.aload_n 0, 1) := by decide +kernel
theorem dX11_again_53 : decode cX11_again 53 = .ok (.aload_n 0, 1) := by decide +kernel
theorem dX11_again_54 : decode cX11_again 54 = .ok (.getfield 303, 3) := by decide +kernel
theorem dX11_again_57 : decode cX11_again 57 = .ok (.putfield 13, 3) := by decide +kernel
theorem dX11_again_60 : decode cX11_again 60 = .ok (.aload_n 0, 1) := by decide +kernel
theorem dX11_again_61 : decode cX11_again 61 = .ok (.iconst 0, 1) := by decide +kernel
theorem dX11_again_62 : decode cX11_again 62 = .ok (.putfield 98, 3) := by decide +kernel
theorem dX11_again_65 : decode cX11_again 65 = .ok (.aload_n 0, 1) := by decide +kernel
theorem dX11_again_66 : decode cX11_again 66 = .ok (.iconst 0, 1) := by decide +kernel
theorem dX11_again_67 : decode cX11_again 67 = .ok (.putfield 102, 3) := by decide +kernel
theorem dX11_again_70 : decode cX11_again 70 = .ok (.aload_n 0, 1) := by decide +kernel
theorem dX11_again_71 : decode cX11_again 71 = .ok (.getfield 85, 3) := by decide +kernel
theorem dX11_again_74 : decode cX11_again 74 = .ok (.ireturn, 1) := by decide +kernel
theorem dX11_at_0 : decode cX11_at 0 = .ok (.aload_n 0, 1) := by decide +kernel
theorem dX11_at_1 : decode cX11_at 1 = .ok (.iload_n 1, 1) := by decide +kernel
theorem dX11_at_2 : decode cX11_at 2 = .ok (.invokevirtual 122, 3) := by decide +kernel
theorem dX11_at_5 : decode cX11_at 5 = .ok (.ifCond .eq 41, 3) := by decide +kernel
theorem dX11_at_8 : decode cX11_at 8 = .ok (.aload_n 0, 1) := by decide +kernel
theorem dX11_at_9 : decode cX11_at 9 = .ok (.iload_n 2, 1) := by decide +kernel
theorem dX11_at_10 : decode cX11_at 10 = .ok (.invokevirtual 110, 3) := by decide +kernel
theorem dX11_at_13 : decode cX11_at 13 = .ok (.ifCond .eq 33, 3) := by decide +kernel
theorem dX11_at_16 : decode cX11_at 16 = .ok (.aload_n 0, 1) := by decide +kernel
theorem dX11_at_17 : decode cX11_at 17 = .ok (.iload_n 3, 1) := by decide +kernel
theorem dX11_at_18 : decode cX11_at 18 = .ok (.invokevirtual 110, 3) := by decide +kernel
theorem dX11_at_21 : decode cX11_at 21 = .ok (.ifCond .eq 25, 3) := by decide +kernel
theorem dX11_at_24 : decode cX11_at 24 = .ok (.sipush 1000, 3) := by decide +kernel
theorem dX11_at_27 : decode cX11_at 27 = .ok (.aload_n 0, 1) := by decide +kernel
theorem dX11_at_28 : decode cX11_at 28 = .ok (.getfield 16, 3) := by decide +kernel
theorem dX11_at_31 : decode cX11_at 31 = .ok (.bipush 9, 2) := by decide +kernel
theorem dX11_at_33 : decode cX11_at 33 = .ok (.iload_n 1, 1) := by decide +kernel
theorem dX11_at_34 : decode cX11_at 34 = .ok (.imul, 1) := by decide +kernel
theorem dX11_at_35 : decode cX11_at 35 = .ok (.iconst 3, 1) := by decide +kernel
theorem dX11_at_36 : decode cX11_at 36 = .ok (.iload_n 2, 1) := by decide +kernel
theorem dX11_at_37 : decode cX11_at 37 = .ok (.imul, 1) := by decide +kernel
theorem dX11_at_38 : decode cX11_at 38 = .ok (.iadd, 1) := by decide +kernel
theorem dX11_at_39 : decode cX11_at 39 = .ok (.iload_n 3, 1) := by decide +kernel
theorem dX11_at_40 : decode cX11_at 40 = .ok (.iadd, 1) := by decide +kernel
theorem dX11_at_41 : decode cX11_at 41 = .ok (.iaload, 1) := by decide +kernel
theorem dX11_at_42 : decode cX11_at 42 = .ok (.iadd, 1) := by decide +kernel
theorem dX11_at_43 : decode cX11_at 43 = .ok (.goto 4, 3) := by decide +kernel
theorem dX11_at_46 : decode cX11_at 46 = .ok (.iconst (-1), 1) := by decide +kernel
theorem dX11_at_47 : decode cX11_at 47 = .ok (.ireturn, 1) := by decide +kernel
theorem dX11_character_0 : decode cX11_character 0 = .ok (.aload_n 0, 1) := by decide +kernel
theorem dX11_character_1 : decode cX11_character 1 = .ok (.iload_n 1, 1) := by decide +kernel
theorem dX11_character_2 : decode cX11_character 2 = .ok (.invokevirtual 122, 3) := by decide +kernel
theorem dX11_character_5 : decode cX11_character 5 = .ok (.ifCond .eq 17, 3) := by decide +kernel
theorem dX11_character_8 : decode cX11_character 8 = .ok (.iload_n 2, 1) := by decide +kernel
theorem dX11_character_9 : decode cX11_character 9 = .ok (.i2l, 1) := by decide +kernel
theorem dX11_character_10 : decode cX11_character 10 = .ok (.lconst 0, 1) := by decide +kernel
theorem dX11_character_11 : decode cX11_character 11 = .ok (.aload_n 0, 1) := by decide +kernel
theorem dX11_character_12 : decode cX11_character 12 = .ok (.getfield 7, 3) := by decide +kernel
theorem dX11_character_15 : decode cX11_character 15 = .ok (.i2l, 1) := by decide +kernel
theorem dX11_character_16 : decode cX11_character 16 = .ok (.invokestatic 81, 3) := by decide +kernel
theorem dX11_character_19 : decode cX11_character 19 = .ok (.ifCond .ne 5, 3) := by decide +kernel
theorem dX11_character_22 : decode cX11_character 22 = .ok (.iconst (-1), 1) := by decide +kernel
theorem dX11_character_23 : decode cX11_character 23 = .ok (.ireturn, 1) := by decide +kernel
theorem dX11_character_24 : decode cX11_character 24 = .ok (.aload_n 0, 1) := by decide +kernel
theorem dX11_character_25 : decode cX11_character 25 = .ok (.iload_n 1, 1) := by decide +kernel
theorem dX11_character_26 : decode cX11_character 26 = .ok (.invokevirtual 160, 3) := by decide +kernel
theorem dX11_character_29 : decode cX11_character 29 = .ok (.ldc 164, 2) := by decide +kernel
theorem dX11_character_31 : decode cX11_character 31 = .ok (.aload_n 0, 1) := by decide +kernel
theorem dX11_character_32 : decode cX11_character 32 = .ok (.getfield 36, 3) := by decide +kernel
theorem dX11_character_35 : decode cX11_character 35 = .ok (.iload_n 2, 1) := by decide +kernel
theorem dX11_character_36 : decode cX11_character 36 = .ok (.laload, 1) := by decide +kernel
theorem dX11_character_37 : decode cX11_character 37 = .ok (.l2i, 1) := by decide +kernel
theorem dX11_character_38 : decode cX11_character 38 = .ok (.iadd, 1) := by decide +kernel
theorem dX11_character_39 : decode cX11_character 39 = .ok (.ireturn, 1) := by decide +kernel
theorem dX11_clears_0 : decode cX11_clears 0 = .ok (.iconst 0, 1) := by decide +kernel
theorem dX11_clears_1 : decode cX11_clears 1 = .ok (.istore_n 2, 1) := by decide +kernel
theorem dX11_clears_2 : decode cX11_clears 2 = .ok (.iload_n 2, 1) := by decide +kernel
theorem dX11_clears_3 : decode cX11_clears 3 = .ok (.bipush 9, 2) := by decide +kernel
theorem dX11_clears_5 : decode cX11_clears 5 = .ok (.if_icmp .ge 13, 3) := by decide +kernel
theorem dX11_clears_8 : decode cX11_clears 8 = .ok (.aload_n 1, 1) := by decide +kernel
theorem dX11_clears_9 : decode cX11_clears 9 = .ok (.iload_n 2, 1) := by decide +kernel
theorem dX11_clears_10 : decode cX11_clears 10 = .ok (.lconst 0, 1) := by decide +kernel
theorem dX11_clears_11 : decode cX11_clears 11 = .ok (.lastore, 1) := by decide +kernel
theorem dX11_clears_12 : decode cX11_clears 12 = .ok (.iinc 2 1, 3) := by decide +kernel
theorem dX11_clears_15 : decode cX11_clears 15 = .ok (.goto (-13), 3) := by decide +kernel
theorem dX11_clears_18 : decode cX11_clears 18 = .ok (.return_, 1) := by decide +kernel
theorem dX11_comes_0 : decode cX11_comes 0 = .ok (.iconst 0, 1) := by decide +kernel
theorem dX11_comes_1 : decode cX11_comes 1 = .ok (.istore_n 1, 1) := by decide +kernel
theorem dX11_comes_2 : decode cX11_comes 2 = .ok (.iload_n 1, 1) := by decide +kernel
theorem dX11_comes_3 : decode cX11_comes 3 = .ok (.bipush 9, 2) := by decide +kernel
theorem dX11_comes_5 : decode cX11_comes 5 = .ok (.if_icmp .ge 30, 3) := by decide +kernel
theorem dX11_comes_8 : decode cX11_comes 8 = .ok (.aload_n 0, 1) := by decide +kernel
theorem dX11_comes_9 : decode cX11_comes 9 = .ok (.getfield 16, 3) := by decide +kernel
theorem dX11_comes_12 : decode cX11_comes 12 = .ok (.bipush 9, 2) := by decide +kernel
theorem dX11_comes_14 : decode cX11_comes 14 = .ok (.aload_n 0, 1) := by decide +kernel
theorem dX11_comes_15 : decode cX11_comes 15 = .ok (.getfield 85, 3) := by decide +kernel
theorem dX11_comes_18 : decode cX11_comes 18 = .ok (.imul, 1) := by decide +kernel
theorem dX11_comes_19 : decode cX11_comes 19 = .ok (.iload_n 1, 1) := by decide +kernel
theorem dX11_comes_20 : decode cX11_comes 20 = .ok (.iadd, 1) := by decide +kernel
theorem dX11_comes_21 : decode cX11_comes 21 = .ok (.aload_n 0, 1) := by decide +kernel
theorem dX11_comes_22 : decode cX11_comes 22 = .ok (.getfield 23, 3) := by decide +kernel
theorem dX11_comes_25 : decode cX11_comes 25 = .ok (.iload_n 1, 1) := by decide +kernel
theorem dX11_comes_26 : decode cX11_comes 26 = .ok (.laload, 1) := by decide +kernel
theorem dX11_comes_27 : decode cX11_comes 27 = .ok (.l2i, 1) := by decide +kernel
theorem dX11_comes_28 : decode cX11_comes 28 = .ok (.iastore, 1) := by decide +kernel
theorem dX11_comes_29 : decode cX11_comes 29 = .ok (.iinc 1 1, 3) := by decide +kernel
theorem dX11_comes_32 : decode cX11_comes 32 = .ok (.goto (-30), 3) := by decide +kernel
theorem dX11_comes_35 : decode cX11_comes 35 = .ok (.aload_n 0, 1) := by decide +kernel
theorem dX11_comes_36 : decode cX11_comes 36 = .ok (.dup, 1) := by decide +kernel
theorem dX11_comes_37 : decode cX11_comes 37 = .ok (.getfield 85, 3) := by decide +kernel
theorem dX11_comes_40 : decode cX11_comes 40 = .ok (.iconst 1, 1) := by decide +kernel
theorem dX11_comes_41 : decode cX11_comes 41 = .ok (.iadd, 1) := by decide +kernel
theorem dX11_comes_42 : decode cX11_comes 42 = .ok (.putfield 85, 3) := by decide +kernel
theorem dX11_comes_45 : decode cX11_comes 45 = .ok (.aload_n 0, 1) := by decide +kernel
theorem dX11_comes_46 : decode cX11_comes 46 = .ok (.iconst 0, 1) := by decide +kernel
theorem dX11_comes_47 : decode cX11_comes 47 = .ok (.putfield 98, 3) := by decide +kernel
theorem dX11_comes_50 : decode cX11_comes 50 = .ok (.aload_n 0, 1) := by decide +kernel
theorem dX11_comes_51 : decode cX11_comes 51 = .ok (.iconst 0, 1) := by decide +kernel
theorem dX11_comes_52 : decode cX11_comes 52 = .ok (.putfield 102, 3) := by decide +kernel
theorem dX11_comes_55 : decode cX11_comes 55 = .ok (.aload_n 0, 1) := by decide +kernel
theorem dX11_comes_56 : decode cX11_comes 56 = .ok (.getfield 85, 3) := by decide +kernel
theorem dX11_comes_59 : decode cX11_comes 59 = .ok (.iconst 1, 1) := by decide +kernel
theorem dX11_comes_60 : decode cX11_comes 60 = .ok (.isub, 1) := by decide +kernel
theorem dX11_comes_61 : decode cX11_comes 61 = .ok (.ireturn, 1) := by decide +kernel
theorem dX11_common_0 : decode cX11_common 0 = .ok (.lload_n 0, 1) := by decide +kernel
theorem dX11_common_1 : decode cX11_common 1 = .ok (.lconst 0, 1) := by decide +kernel
theorem dX11_common_2 : decode cX11_common 2 = .ok (.lcmp, 1) := by decide +kernel
theorem dX11_common_3 : decode cX11_common 3 = .ok (.ifCond .ge 8, 3) := by decide +kernel
theorem dX11_common_6 : decode cX11_common 6 = .ok (.lload_n 0, 1) := by decide +kernel
theorem dX11_common_7 : decode cX11_common 7 = .ok (.lneg, 1) := by decide +kernel
theorem dX11_common_8 : decode cX11_common 8 = .ok (.goto 4, 3) := by decide +kernel
theorem dX11_common_11 : decode cX11_common 11 = .ok (.lload_n 0, 1) := by decide +kernel
theorem dX11_common_12 : decode cX11_common 12 = .ok (.lstore 4, 2) := by decide +kernel
theorem dX11_common_14 : decode cX11_common 14 = .ok (.lload_n 2, 1) := by decide +kernel
theorem dX11_common_15 : decode cX11_common 15 = .ok (.lconst 0, 1) := by decide +kernel
theorem dX11_common_16 : decode cX11_common 16 = .ok (.lcmp, 1) := by decide +kernel
theorem dX11_common_17 : decode cX11_common 17 = .ok (.ifCond .ge 8, 3) := by decide +kernel
theorem dX11_common_20 : decode cX11_common 20 = .ok (.lload_n 2, 1) := by decide +kernel
theorem dX11_common_21 : decode cX11_common 21 = .ok (.lneg, 1) := by decide +kernel
theorem dX11_common_22 : decode cX11_common 22 = .ok (.goto 4, 3) := by decide +kernel
theorem dX11_common_25 : decode cX11_common 25 = .ok (.lload_n 2, 1) := by decide +kernel
theorem dX11_common_26 : decode cX11_common 26 = .ok (.lstore 6, 2) := by decide +kernel
theorem dX11_common_28 : decode cX11_common 28 = .ok (.lload 6, 2) := by decide +kernel
theorem dX11_common_30 : decode cX11_common 30 = .ok (.lconst 0, 1) := by decide +kernel
theorem dX11_common_31 : decode cX11_common 31 = .ok (.lcmp, 1) := by decide +kernel
theorem dX11_common_32 : decode cX11_common 32 = .ok (.ifCond .eq 21, 3) := by decide +kernel
theorem dX11_common_35 : decode cX11_common 35 = .ok (.lload 4, 2) := by decide +kernel
theorem dX11_common_37 : decode cX11_common 37 = .ok (.lload 6, 2) := by decide +kernel
theorem dX11_common_39 : decode cX11_common 39 = .ok (.lrem, 1) := by decide +kernel
theorem dX11_common_40 : decode cX11_common 40 = .ok (.lstore 8, 2) := by decide +kernel
theorem dX11_common_42 : decode cX11_common 42 = .ok (.lload 6, 2) := by decide +kernel
theorem dX11_common_44 : decode cX11_common 44 = .ok (.lstore 4, 2) := by decide +kernel
theorem dX11_common_46 : decode cX11_common 46 = .ok (.lload 8, 2) := by decide +kernel
theorem dX11_common_48 : decode cX11_common 48 = .ok (.lstore 6, 2) := by decide +kernel
theorem dX11_common_50 : decode cX11_common 50 = .ok (.goto (-22), 3) := by decide +kernel
theorem dX11_common_53 : decode cX11_common 53 = .ok (.lload 4, 2) := by decide +kernel
theorem dX11_common_55 : decode cX11_common 55 = .ok (.lreturn, 1) := by decide +kernel
theorem dX11_copy_0 : decode cX11_copy 0 = .ok (.iload_n 1, 1) := by decide +kernel
theorem dX11_copy_1 : decode cX11_copy 1 = .ok (.invokestatic 237, 3) := by decide +kernel
theorem dX11_copy_4 : decode cX11_copy 4 = .ok (.ifCond .eq 10, 3) := by decide +kernel
theorem dX11_copy_7 : decode cX11_copy 7 = .ok (.iload_n 3, 1) := by decide +kernel
theorem dX11_copy_8 : decode cX11_copy 8 = .ok (.invokestatic 237, 3) := by decide +kernel
theorem dX11_copy_11 : decode cX11_copy 11 = .ok (.ifCond .ne 5, 3) := by decide +kernel
theorem dX11_copy_14 : decode cX11_copy 14 = .ok (.iconst (-1), 1) := by decide +kernel
theorem dX11_copy_15 : decode cX11_copy 15 = .ok (.ireturn, 1) := by decide +kernel
theorem dX11_copy_16 : decode cX11_copy 16 = .ok (.aload_n 0, 1) := by decide +kernel
theorem dX11_copy_17 : decode cX11_copy 17 = .ok (.getfield 69, 3) := by decide +kernel
theorem dX11_copy_20 : decode cX11_copy 20 = .ok (.iload_n 1, 1) := by decide +kernel
theorem dX11_copy_21 : decode cX11_copy 21 = .ok (.iaload, 1) := by decide +kernel
theorem dX11_copy_22 : decode cX11_copy 22 = .ok (.ifCond .lt 12, 3) := by decide +kernel
theorem dX11_copy_25 : decode cX11_copy 25 = .ok (.aload_n 0, 1) := by decide +kernel
theorem dX11_copy_26 : decode cX11_copy 26 = .ok (.getfield 69, 3) := by decide +kernel
theorem dX11_copy_29 : decode cX11_copy 29 = .ok (.iload_n 3, 1) := by decide +kernel
theorem dX11_copy_30 : decode cX11_copy 30 = .ok (.iaload, 1) := by decide +kernel
theorem dX11_copy_31 : decode cX11_copy 31 = .ok (.ifCond .ge 6, 3) := by decide +kernel
theorem dX11_copy_34 : decode cX11_copy 34 = .ok (.bipush (-11), 2) := by decide +kernel
theorem dX11_copy_36 : decode cX11_copy 36 = .ok (.ireturn, 1) := by decide +kernel
theorem dX11_copy_37 : decode cX11_copy 37 = .ok (.aload_n 0, 1) := by decide +kernel
theorem dX11_copy_38 : decode cX11_copy 38 = .ok (.getfield 69, 3) := by decide +kernel
theorem dX11_copy_41 : decode cX11_copy 41 = .ok (.iload_n 1, 1) := by decide +kernel
theorem dX11_copy_42 : decode cX11_copy 42 = .ok (.iaload, 1) := by decide +kernel
theorem dX11_copy_43 : decode cX11_copy 43 = .ok (.aload_n 0, 1) := by decide +kernel
theorem dX11_copy_44 : decode cX11_copy 44 = .ok (.getfield 69, 3) := by decide +kernel
theorem dX11_copy_47 : decode cX11_copy 47 = .ok (.iload_n 3, 1) := by decide +kernel
theorem dX11_copy_48 : decode cX11_copy 48 = .ok (.iaload, 1) := by decide +kernel
theorem dX11_copy_49 : decode cX11_copy 49 = .ok (.if_icmp .eq 6, 3) := by decide +kernel
theorem dX11_copy_52 : decode cX11_copy 52 = .ok (.bipush (-13), 2) := by decide +kernel
theorem dX11_copy_54 : decode cX11_copy 54 = .ok (.ireturn, 1) := by decide +kernel
theorem dX11_copy_55 : decode cX11_copy 55 = .ok (.aload_n 0, 1) := by decide +kernel
theorem dX11_copy_56 : decode cX11_copy 56 = .ok (.iload_n 1, 1) := by decide +kernel
theorem dX11_copy_57 : decode cX11_copy 57 = .ok (.iload_n 2, 1) := by decide +kernel
theorem dX11_copy_58 : decode cX11_copy 58 = .ok (.iload 5, 2) := by decide +kernel
theorem dX11_copy_60 : decode cX11_copy 60 = .ok (.invokevirtual 240, 3) := by decide +kernel
theorem dX11_copy_63 : decode cX11_copy 63 = .ok (.ifCond .ne 15, 3) := by decide +kernel
theorem dX11_copy_66 : decode cX11_copy 66 = .ok (.aload_n 0, 1) := by decide +kernel
theorem dX11_copy_67 : decode cX11_copy 67 = .ok (.iload_n 3, 1) := by decide +kernel
theorem dX11_copy_68 : decode cX11_copy 68 = .ok (.iload 4, 2) := by decide +kernel
theorem dX11_copy_70 : decode cX11_copy 70 = .ok (.iload 5, 2) := by decide +kernel
theorem dX11_copy_72 : decode cX11_copy 72 = .ok (.invokevirtual 240, 3) := by decide +kernel
theorem dX11_copy_75 : decode cX11_copy 75 = .ok (.ifCond .eq 6, 3) := by decide +kernel
theorem dX11_copy_78 : decode cX11_copy 78 = .ok (.bipush (-12), 2) := by decide +kernel
theorem dX11_copy_80 : decode cX11_copy 80 = .ok (.ireturn, 1) := by decide +kernel
theorem dX11_copy_81 : decode cX11_copy 81 = .ok (.iconst 0, 1) := by decide +kernel
theorem dX11_copy_82 : decode cX11_copy 82 = .ok (.istore 6, 2) := by decide +kernel
theorem dX11_copy_84 : decode cX11_copy 84 = .ok (.iload 6, 2) := by decide +kernel
theorem dX11_copy_86 : decode cX11_copy 86 = .ok (.iload 5, 2) := by decide +kernel
theorem dX11_copy_88 : decode cX11_copy 88 = .ok (.if_icmp .ge 30, 3) := by decide +kernel
theorem dX11_copy_91 : decode cX11_copy 91 = .ok (.aload_n 0, 1) := by decide +kernel
theorem dX11_copy_92 : decode cX11_copy 92 = .ok (.getfield 78, 3) := by decide +kernel
theorem dX11_copy_95 : decode cX11_copy 95 = .ok (.iload 6, 2) := by decide +kernel
theorem dX11_copy_97 : decode cX11_copy 97 = .ok (.aload_n 0, 1) := by decide +kernel
theorem dX11_copy_98 : decode cX11_copy 98 = .ok (.getfield 75, 3) := by decide +kernel
theorem dX11_copy_101 : decode cX11_copy 101 = .ok (.bipush 40, 2) := by decide +kernel
theorem dX11_copy_103 : decode cX11_copy 103 = .ok (.iload_n 1, 1) := by decide +kernel
theorem dX11_copy_104 : decode cX11_copy 104 = .ok (.imul, 1) := by decide +kernel
theorem dX11_copy_105 : decode cX11_copy 105 = .ok (.iload_n 2, 1) := by decide +kernel
theorem dX11_copy_106 : decode cX11_copy 106 = .ok (.iadd, 1) := by decide +kernel
theorem dX11_copy_107 : decode cX11_copy 107 = .ok (.iload 6, 2) := by decide +kernel
theorem dX11_copy_109 : decode cX11_copy 109 = .ok (.iadd, 1) := by decide +kernel
theorem dX11_copy_110 : decode cX11_copy 110 = .ok (.laload, 1) := by decide +kernel
theorem dX11_copy_111 : decode cX11_copy 111 = .ok (.lastore, 1) := by decide +kernel
theorem dX11_copy_112 : decode cX11_copy 112 = .ok (.iinc 6 1, 3) := by decide +kernel
theorem dX11_copy_115 : decode cX11_copy 115 = .ok (.goto (-31), 3) := by decide +kernel
theorem dX11_copy_118 : decode cX11_copy 118 = .ok (.iconst 0, 1) := by decide +kernel
theorem dX11_copy_119 : decode cX11_copy 119 = .ok (.istore 6, 2) := by decide +kernel
theorem dX11_copy_121 : decode cX11_copy 121 = .ok (.iload 6, 2) := by decide +kernel
theorem dX11_copy_123 : decode cX11_copy 123 = .ok (.iload 5, 2) := by decide +kernel
theorem dX11_copy_125 : decode cX11_copy 125 = .ok (.if_icmp .ge 31, 3) := by decide +kernel
theorem dX11_copy_128 : decode cX11_copy 128 = .ok (.aload_n 0, 1) := by decide +kernel
theorem dX11_copy_129 : decode cX11_copy 129 = .ok (.getfield 75, 3) := by decide +kernel
theorem dX11_copy_132 : decode cX11_copy 132 = .ok (.bipush 40, 2) := by decide +kernel
theorem dX11_copy_134 : decode cX11_copy 134 = .ok (.iload_n 3, 1) := by decide +kernel
theorem dX11_copy_135 : decode cX11_copy 135 = .ok (.imul, 1) := by decide +kernel
theorem dX11_copy_136 : decode cX11_copy 136 = .ok (.iload 4, 2) := by decide +kernel
theorem dX11_copy_138 : decode cX11_copy 138 = .ok (.iadd, 1) := by decide +kernel
theorem dX11_copy_139 : decode cX11_copy 139 = .ok (.iload 6, 2) := by decide +kernel
theorem dX11_copy_141 : decode cX11_copy 141 = .ok (.iadd, 1) := by decide +kernel
theorem dX11_copy_142 : decode cX11_copy 142 = .ok (.aload_n 0, 1) := by decide +kernel
theorem dX11_copy_143 : decode cX11_copy 143 = .ok (.getfield 78, 3) := by decide +kernel
theorem dX11_copy_146 : decode cX11_copy 146 = .ok (.iload 6, 2) := by decide +kernel
theorem dX11_copy_148 : decode cX11_copy 148 = .ok (.laload, 1) := by decide +kernel
theorem dX11_copy_149 : decode cX11_copy 149 = .ok (.lastore, 1) := by decide +kernel
theorem dX11_copy_150 : decode cX11_copy 150 = .ok (.iinc 6 1, 3) := by decide +kernel
theorem dX11_copy_153 : decode cX11_copy 153 = .ok (.goto (-32), 3) := by decide +kernel
theorem dX11_copy_156 : decode cX11_copy 156 = .ok (.iload 5, 2) := by decide +kernel
theorem dX11_copy_158 : decode cX11_copy 158 = .ok (.ireturn, 1) := by decide +kernel
theorem dX11_cut_0 : decode cX11_cut 0 = .ok (.iload_n 0, 1) := by decide +kernel
theorem dX11_cut_1 : decode cX11_cut 1 = .ok (.ifCond .ne 9, 3) := by decide +kernel
theorem dX11_cut_4 : decode cX11_cut 4 = .ok (.lload_n 1, 1) := by decide +kernel
theorem dX11_cut_5 : decode cX11_cut 5 = .ok (.l2i, 1) := by decide +kernel
theorem dX11_cut_6 : decode cX11_cut 6 = .ok (.i2l, 1) := by decide +kernel
theorem dX11_cut_7 : decode cX11_cut 7 = .ok (.goto 16, 3) := by decide +kernel
theorem dX11_cut_10 : decode cX11_cut 10 = .ok (.iload_n 0, 1) := by decide +kernel
theorem dX11_cut_11 : decode cX11_cut 11 = .ok (.iconst 2, 1) := by decide +kernel
theorem dX11_cut_12 : decode cX11_cut 12 = .ok (.if_icmp .ne 10, 3) := by decide +kernel
theorem dX11_cut_15 : decode cX11_cut 15 = .ok (.lload_n 1, 1) := by decide +kernel
theorem dX11_cut_16 : decode cX11_cut 16 = .ok (.l2i, 1) := by decide +kernel
theorem dX11_cut_17 : decode cX11_cut 17 = .ok (.i2s, 1) := by decide +kernel
theorem dX11_cut_18 : decode cX11_cut 18 = .ok (.i2l, 1) := by decide +kernel
theorem dX11_cut_19 : decode cX11_cut 19 = .ok (.goto 4, 3) := by decide +kernel
theorem dX11_cut_22 : decode cX11_cut 22 = .ok (.lload_n 1, 1) := by decide +kernel
theorem dX11_cut_23 : decode cX11_cut 23 = .ok (.lreturn, 1) := by decide +kernel
theorem dX11_det_0 : decode cX11_det 0 = .ok (.aload_n 0, 1) := by decide +kernel
theorem dX11_det_1 : decode cX11_det 1 = .ok (.getfield 7, 3) := by decide +kernel
theorem dX11_det_4 : decode cX11_det 4 = .ok (.iconst 1, 1) := by decide +kernel
theorem dX11_det_5 : decode cX11_det 5 = .ok (.if_icmp .ne 7, 3) := by decide +kernel
theorem dX11_det_8 : decode cX11_det 8 = .ok (.aload_n 1, 1) := by decide +kernel
theorem dX11_det_9 : decode cX11_det 9 = .ok (.iconst 0, 1) := by decide +kernel
theorem dX11_det_10 : decode cX11_det 10 = .ok (.laload, 1) := by decide +kernel
theorem dX11_det_11 : decode cX11_det 11 = .ok (.lreturn, 1) := by decide +kernel
theorem dX11_det_12 : decode cX11_det 12 = .ok (.aload_n 0, 1) := by decide +kernel
theorem dX11_det_13 : decode cX11_det 13 = .ok (.getfield 7, 3) := by decide +kernel
theorem dX11_det_16 : decode cX11_det 16 = .ok (.iconst 2, 1) := by decide +kernel
theorem dX11_det_17 : decode cX11_det 17 = .ok (.if_icmp .ne 19, 3) := by decide +kernel
theorem dX11_det_20 : decode cX11_det 20 = .ok (.aload_n 1, 1) := by decide +kernel
theorem dX11_det_21 : decode cX11_det 21 = .ok (.iconst 0, 1) := by decide +kernel
theorem dX11_det_22 : decode cX11_det 22 = .ok (.laload, 1) := by decide +kernel
theorem dX11_det_23 : decode cX11_det 23 = .ok (.aload_n 1, 1) := by decide +kernel
theorem dX11_det_24 : decode cX11_det 24 = .ok (.iconst 4, 1) := by decide +kernel
theorem dX11_det_25 : decode cX11_det 25 = .ok (.laload, 1) := by decide +kernel
theorem dX11_det_26 : decode cX11_det 26 = .ok (.lmul, 1) := by decide +kernel
theorem dX11_det_27 : decode cX11_det 27 = .ok (.aload_n 1, 1) := by decide +kernel
theorem dX11_det_28 : decode cX11_det 28 = .ok (.iconst 1, 1) := by decide +kernel
theorem dX11_det_29 : decode cX11_det 29 = .ok (.laload, 1) := by decide +kernel
theorem dX11_det_30 : decode cX11_det 30 = .ok (.aload_n 1, 1) := by decide +kernel
theorem dX11_det_31 : decode cX11_det 31 = .ok (.iconst 3, 1) := by decide +kernel
theorem dX11_det_32 : decode cX11_det 32 = .ok (.laload, 1) := by decide +kernel
theorem dX11_det_33 : decode cX11_det 33 = .ok (.lmul, 1) := by decide +kernel
theorem dX11_det_34 : decode cX11_det 34 = .ok (.lsub, 1) := by decide +kernel
theorem dX11_det_35 : decode cX11_det 35 = .ok (.lreturn, 1) := by decide +kernel
theorem dX11_det_36 : decode cX11_det 36 = .ok (.aload_n 1, 1) := by decide +kernel
theorem dX11_det_37 : decode cX11_det 37 = .ok (.iconst 0, 1) := by decide +kernel
theorem dX11_det_38 : decode cX11_det 38 = .ok (.laload, 1) := by decide +kernel
theorem dX11_det_39 : decode cX11_det 39 = .ok (.aload_n 1, 1) := by decide +kernel
theorem dX11_det_40 : decode cX11_det 40 = .ok (.iconst 4, 1) := by decide +kernel
theorem dX11_det_41 : decode cX11_det 41 = .ok (.laload, 1) := by decide +kernel
theorem dX11_det_42 : decode cX11_det 42 = .ok (.aload_n 1, 1) := by decide +kernel
theorem dX11_det_43 : decode cX11_det 43 = .ok (.bipush 8, 2) := by decide +kernel
theorem dX11_det_45 : decode cX11_det 45 = .ok (.laload, 1) := by decide +kernel
theorem dX11_det_46 : decode cX11_det 46 = .ok (.lmul, 1) := by decide +kernel
theorem dX11_det_47 : decode cX11_det 47 = .ok (.aload_n 1, 1) := by decide +kernel
theorem dX11_det_48 : decode cX11_det 48 = .ok (.iconst 5, 1) := by decide +kernel
theorem dX11_det_49 : decode cX11_det 49 = .ok (.laload, 1) := by decide +kernel
theorem dX11_det_50 : decode cX11_det 50 = .ok (.aload_n 1, 1) := by decide +kernel
theorem dX11_det_51 : decode cX11_det 51 = .ok (.bipush 7, 2) := by decide +kernel
theorem dX11_det_53 : decode cX11_det 53 = .ok (.laload, 1) := by decide +kernel
theorem dX11_det_54 : decode cX11_det 54 = .ok (.lmul, 1) := by decide +kernel
theorem dX11_det_55 : decode cX11_det 55 = .ok (.lsub, 1) := by decide +kernel
theorem dX11_det_56 : decode cX11_det 56 = .ok (.lmul, 1) := by decide +kernel
theorem dX11_det_57 : decode cX11_det 57 = .ok (.aload_n 1, 1) := by decide +kernel
theorem dX11_det_58 : decode cX11_det 58 = .ok (.iconst 1, 1) := by decide +kernel
theorem dX11_det_59 : decode cX11_det 59 = .ok (.laload, 1) := by decide +kernel
theorem dX11_det_60 : decode cX11_det 60 = .ok (.aload_n 1, 1) := by decide +kernel
theorem dX11_det_61 : decode cX11_det 61 = .ok (.iconst 3, 1) := by decide +kernel
theorem dX11_det_62 : decode cX11_det 62 = .ok (.laload, 1) := by decide +kernel
theorem dX11_det_63 : decode cX11_det 63 = .ok (.aload_n 1, 1) := by decide +kernel
theorem dX11_det_64 : decode cX11_det 64 = .ok (.bipush 8, 2) := by decide +kernel
theorem dX11_det_66 : decode cX11_det 66 = .ok (.laload, 1) := by decide +kernel
theorem dX11_det_67 : decode cX11_det 67 = .ok (.lmul, 1) := by decide +kernel
theorem dX11_det_68 : decode cX11_det 68 = .ok (.aload_n 1, 1) := by decide +kernel
theorem dX11_det_69 : decode cX11_det 69 = .ok (.iconst 5, 1) := by decide +kernel
theorem dX11_det_70 : decode cX11_det 70 = .ok (.laload, 1) := by decide +kernel
theorem dX11_det_71 : decode cX11_det 71 = .ok (.aload_n 1, 1) := by decide +kernel
theorem dX11_det_72 : decode cX11_det 72 = .ok (.bipush 6, 2) := by decide +kernel
theorem dX11_det_74 : decode cX11_det 74 = .ok (.laload, 1) := by decide +kernel
theorem dX11_det_75 : decode cX11_det 75 = .ok (.lmul, 1) := by decide +kernel
theorem dX11_det_76 : decode cX11_det 76 = .ok (.lsub, 1) := by decide +kernel
theorem dX11_det_77 : decode cX11_det 77 = .ok (.lmul, 1) := by decide +kernel
theorem dX11_det_78 : decode cX11_det 78 = .ok (.lsub, 1) := by decide +kernel
theorem dX11_det_79 : decode cX11_det 79 = .ok (.aload_n 1, 1) := by decide +kernel
theorem dX11_det_80 : decode cX11_det 80 = .ok (.iconst 2, 1) := by decide +kernel
theorem dX11_det_81 : decode cX11_det 81 = .ok (.laload, 1) := by decide +kernel
theorem dX11_det_82 : decode cX11_det 82 = .ok (.aload_n 1, 1) := by decide +kernel
theorem dX11_det_83 : decode cX11_det 83 = .ok (.iconst 3, 1) := by decide +kernel
theorem dX11_det_84 : decode cX11_det 84 = .ok (.laload, 1) := by decide +kernel
theorem dX11_det_85 : decode cX11_det 85 = .ok (.aload_n 1, 1) := by decide +kernel
theorem dX11_det_86 : decode cX11_det 86 = .ok (.bipush 7, 2) := by decide +kernel
theorem dX11_det_88 : decode cX11_det 88 = .ok (.laload, 1) := by decide +kernel
theorem dX11_det_89 : decode cX11_det 89 = .ok (.lmul, 1) := by decide +kernel
theorem dX11_det_90 : decode cX11_det 90 = .ok (.aload_n 1, 1) := by decide +kernel
theorem dX11_det_91 : decode cX11_det 91 = .ok (.iconst 4, 1) := by decide +kernel
theorem dX11_det_92 : decode cX11_det 92 = .ok (.laload, 1) := by decide +kernel
theorem dX11_det_93 : decode cX11_det 93 = .ok (.aload_n 1, 1) := by decide +kernel
theorem dX11_det_94 : decode cX11_det 94 = .ok (.bipush 6, 2) := by decide +kernel
theorem dX11_det_96 : decode cX11_det 96 = .ok (.laload, 1) := by decide +kernel
theorem dX11_det_97 : decode cX11_det 97 = .ok (.lmul, 1) := by decide +kernel
theorem dX11_det_98 : decode cX11_det 98 = .ok (.lsub, 1) := by decide +kernel
theorem dX11_det_99 : decode cX11_det 99 = .ok (.lmul, 1) := by decide +kernel
theorem dX11_det_100 : decode cX11_det 100 = .ok (.ladd, 1) := by decide +kernel
theorem dX11_det_101 : decode cX11_det 101 = .ok (.lreturn, 1) := by decide +kernel
theorem dX11_drawn_0 : decode cX11_drawn 0 = .ok (.aload_n 0, 1) := by decide +kernel
theorem dX11_drawn_1 : decode cX11_drawn 1 = .ok (.aload_n 0, 1) := by decide +kernel
theorem dX11_drawn_2 : decode cX11_drawn 2 = .ok (.getfield 13, 3) := by decide +kernel
theorem dX11_drawn_5 : decode cX11_drawn 5 = .ok (.ldc_w 283, 3) := by decide +kernel
theorem dX11_drawn_8 : decode cX11_drawn 8 = .ok (.imul, 1) := by decide +kernel
theorem dX11_drawn_9 : decode cX11_drawn 9 = .ok (.sipush 12345, 3) := by decide +kernel
theorem dX11_drawn_12 : decode cX11_drawn 12 = .ok (.iadd, 1) := by decide +kernel
theorem dX11_drawn_13 : decode cX11_drawn 13 = .ok (.putfield 13, 3) := by decide +kernel
theorem dX11_drawn_16 : decode cX11_drawn 16 = .ok (.aload_n 0, 1) := by decide +kernel
theorem dX11_drawn_17 : decode cX11_drawn 17 = .ok (.getfield 13, 3) := by decide +kernel
theorem dX11_drawn_20 : decode cX11_drawn 20 = .ok (.bipush 16, 2) := by decide +kernel
theorem dX11_drawn_22 : decode cX11_drawn 22 = .ok (.iushr, 1) := by decide +kernel
theorem dX11_drawn_23 : decode cX11_drawn 23 = .ok (.iload_n 1, 1) := by decide +kernel
theorem dX11_drawn_24 : decode cX11_drawn 24 = .ok (.irem, 1) := by decide +kernel
theorem dX11_drawn_25 : decode cX11_drawn 25 = .ok (.ireturn, 1) := by decide +kernel
theorem dX11_drop_0 : decode cX11_drop 0 = .ok (.aload_n 0, 1) := by decide +kernel
theorem dX11_drop_1 : decode cX11_drop 1 = .ok (.getfield 85, 3) := by decide +kernel
theorem dX11_drop_4 : decode cX11_drop 4 = .ok (.ifCond .ne 6, 3) := by decide +kernel
theorem dX11_drop_7 : decode cX11_drop 7 = .ok (.bipush (-3), 2) := by decide +kernel
theorem dX11_drop_9 : decode cX11_drop 9 = .ok (.ireturn, 1) := by decide +kernel
theorem dX11_drop_10 : decode cX11_drop 10 = .ok (.aload_n 0, 1) := by decide +kernel
theorem dX11_drop_11 : decode cX11_drop 11 = .ok (.dup, 1) := by decide +kernel
theorem dX11_drop_12 : decode cX11_drop 12 = .ok (.getfield 85, 3) := by decide +kernel
theorem dX11_drop_15 : decode cX11_drop 15 = .ok (.iconst 1, 1) := by decide +kernel
theorem dX11_drop_16 : decode cX11_drop 16 = .ok (.isub, 1) := by decide +kernel
theorem dX11_drop_17 : decode cX11_drop 17 = .ok (.putfield 85, 3) := by decide +kernel
theorem dX11_drop_20 : decode cX11_drop 20 = .ok (.aload_n 0, 1) := by decide +kernel
theorem dX11_drop_21 : decode cX11_drop 21 = .ok (.iconst 0, 1) := by decide +kernel
theorem dX11_drop_22 : decode cX11_drop 22 = .ok (.putfield 98, 3) := by decide +kernel
theorem dX11_drop_25 : decode cX11_drop 25 = .ok (.aload_n 0, 1) := by decide +kernel
theorem dX11_drop_26 : decode cX11_drop 26 = .ok (.iconst 0, 1) := by decide +kernel
theorem dX11_drop_27 : decode cX11_drop 27 = .ok (.putfield 102, 3) := by decide +kernel
theorem dX11_drop_30 : decode cX11_drop 30 = .ok (.aload_n 0, 1) := by decide +kernel
theorem dX11_drop_31 : decode cX11_drop 31 = .ok (.getfield 85, 3) := by decide +kernel
theorem dX11_drop_34 : decode cX11_drop 34 = .ok (.ireturn, 1) := by decide +kernel
theorem dX11_element_0 : decode cX11_element 0 = .ok (.aload_n 0, 1) := by decide +kernel
theorem dX11_element_1 : decode cX11_element 1 = .ok (.invokevirtual 219, 3) := by decide +kernel
theorem dX11_element_4 : decode cX11_element 4 = .ok (.iload_n 1, 1) := by decide +kernel
theorem dX11_element_5 : decode cX11_element 5 = .ok (.i2l, 1) := by decide +kernel
theorem dX11_element_6 : decode cX11_element 6 = .ok (.lconst 0, 1) := by decide +kernel
theorem dX11_element_7 : decode cX11_element 7 = .ok (.aload_n 0, 1) := by decide +kernel
theorem dX11_element_8 : decode cX11_element 8 = .ok (.getfield 202, 3) := by decide +kernel
theorem dX11_element_11 : decode cX11_element 11 = .ok (.iconst 1, 1) := by decide +kernel
theorem dX11_element_12 : decode cX11_element 12 = .ok (.isub, 1) := by decide +kernel
theorem dX11_element_13 : decode cX11_element 13 = .ok (.i2l, 1) := by decide +kernel
theorem dX11_element_14 : decode cX11_element 14 = .ok (.invokestatic 81, 3) := by decide +kernel
theorem dX11_element_17 : decode cX11_element 17 = .ok (.ifCond .eq 37, 3) := by decide +kernel
theorem dX11_element_20 : decode cX11_element 20 = .ok (.aload_n 0, 1) := by decide +kernel
theorem dX11_element_21 : decode cX11_element 21 = .ok (.iload_n 2, 1) := by decide +kernel
theorem dX11_element_22 : decode cX11_element 22 = .ok (.invokevirtual 110, 3) := by decide +kernel
theorem dX11_element_25 : decode cX11_element 25 = .ok (.ifCond .eq 29, 3) := by decide +kernel
theorem dX11_element_28 : decode cX11_element 28 = .ok (.aload_n 0, 1) := by decide +kernel
theorem dX11_element_29 : decode cX11_element 29 = .ok (.iload_n 3, 1) := by decide +kernel
theorem dX11_element_30 : decode cX11_element 30 = .ok (.invokevirtual 110, 3) := by decide +kernel
theorem dX11_element_33 : decode cX11_element 33 = .ok (.ifCond .eq 21, 3) := by decide +kernel
theorem dX11_element_36 : decode cX11_element 36 = .ok (.aload_n 0, 1) := by decide +kernel
theorem dX11_element_37 : decode cX11_element 37 = .ok (.getfield 45, 3) := by decide +kernel
theorem dX11_element_40 : decode cX11_element 40 = .ok (.bipush 9, 2) := by decide +kernel
theorem dX11_element_42 : decode cX11_element 42 = .ok (.iload_n 1, 1) := by decide +kernel
theorem dX11_element_43 : decode cX11_element 43 = .ok (.imul, 1) := by decide +kernel
theorem dX11_element_44 : decode cX11_element 44 = .ok (.iconst 3, 1) := by decide +kernel
theorem dX11_element_45 : decode cX11_element 45 = .ok (.iload_n 2, 1) := by decide +kernel
theorem dX11_element_46 : decode cX11_element 46 = .ok (.imul, 1) := by decide +kernel
theorem dX11_element_47 : decode cX11_element 47 = .ok (.iadd, 1) := by decide +kernel
theorem dX11_element_48 : decode cX11_element 48 = .ok (.iload_n 3, 1) := by decide +kernel
theorem dX11_element_49 : decode cX11_element 49 = .ok (.iadd, 1) := by decide +kernel
theorem dX11_element_50 : decode cX11_element 50 = .ok (.laload, 1) := by decide +kernel
theorem dX11_element_51 : decode cX11_element 51 = .ok (.goto 7, 3) := by decide +kernel
theorem dX11_element_54 : decode cX11_element 54 = .ok (.iconst (-1), 1) := by decide +kernel
theorem dX11_element_55 : decode cX11_element 55 = .ok (.invokestatic 222, 3) := by decide +kernel
theorem dX11_element_58 : decode cX11_element 58 = .ok (.lreturn, 1) := by decide +kernel
theorem dX11_factor_0 : decode cX11_factor 0 = .ok (.aload_n 0, 1) := by decide +kernel
theorem dX11_factor_1 : decode cX11_factor 1 = .ok (.iload_n 1, 1) := by decide +kernel
theorem dX11_factor_2 : decode cX11_factor 2 = .ok (.invokevirtual 122, 3) := by decide +kernel
theorem dX11_factor_5 : decode cX11_factor 5 = .ok (.ifCond .eq 19, 3) := by decide +kernel
theorem dX11_factor_8 : decode cX11_factor 8 = .ok (.iload_n 2, 1) := by decide +kernel
theorem dX11_factor_9 : decode cX11_factor 9 = .ok (.iconst 1, 1) := by decide +kernel
theorem dX11_factor_10 : decode cX11_factor 10 = .ok (.if_icmp .lt 14, 3) := by decide +kernel
theorem dX11_factor_13 : decode cX11_factor 13 = .ok (.iload_n 2, 1) := by decide +kernel
theorem dX11_factor_14 : decode cX11_factor 14 = .ok (.iconst 5, 1) := by decide +kernel
theorem dX11_factor_15 : decode cX11_factor 15 = .ok (.if_icmp .eq 9, 3) := by decide +kernel
theorem dX11_factor_18 : decode cX11_factor 18 = .ok (.iload_n 2, 1) := by decide +kernel
theorem dX11_factor_19 : decode cX11_factor 19 = .ok (.bipush 6, 2) := by decide +kernel
theorem dX11_factor_21 : decode cX11_factor 21 = .ok (.if_icmp .le 5, 3) := by decide +kernel
theorem dX11_factor_24 : decode cX11_factor 24 = .ok (.iconst (-1), 1) := by decide +kernel
theorem dX11_factor_25 : decode cX11_factor 25 = .ok (.ireturn, 1) := by decide +kernel
theorem dX11_factor_26 : decode cX11_factor 26 = .ok (.aload_n 0, 1) := by decide +kernel
theorem dX11_factor_27 : decode cX11_factor 27 = .ok (.iload_n 1, 1) := by decide +kernel
theorem dX11_factor_28 : decode cX11_factor 28 = .ok (.invokevirtual 160, 3) := by decide +kernel
theorem dX11_factor_31 : decode cX11_factor 31 = .ok (.iconst 0, 1) := by decide +kernel
theorem dX11_factor_32 : decode cX11_factor 32 = .ok (.istore_n 3, 1) := by decide +kernel
theorem dX11_factor_33 : decode cX11_factor 33 = .ok (.iload_n 2, 1) := by decide +kernel
theorem dX11_factor_34 : decode cX11_factor 34 = .ok (.iconst 3, 1) := by decide +kernel
theorem dX11_factor_35 : decode cX11_factor 35 = .ok (.if_icmp .ge 7, 3) := by decide +kernel
theorem dX11_factor_38 : decode cX11_factor 38 = .ok (.iconst 1, 1) := by decide +kernel
theorem dX11_factor_39 : decode cX11_factor 39 = .ok (.goto 4, 3) := by decide +kernel
theorem dX11_factor_42 : decode cX11_factor 42 = .ok (.iconst 2, 1) := by decide +kernel
theorem dX11_factor_43 : decode cX11_factor 43 = .ok (.istore 4, 2) := by decide +kernel
theorem dX11_factor_45 : decode cX11_factor 45 = .ok (.aload_n 0, 1) := by decide +kernel
theorem dX11_factor_46 : decode cX11_factor 46 = .ok (.iload 4, 2) := by decide +kernel
theorem dX11_factor_48 : decode cX11_factor 48 = .ok (.iload_n 2, 1) := by decide +kernel
theorem dX11_factor_49 : decode cX11_factor 49 = .ok (.iconst 1, 1) := by decide +kernel
theorem dX11_factor_50 : decode cX11_factor 50 = .ok (.if_icmp .ne 7, 3) := by decide +kernel
theorem dX11_factor_53 : decode cX11_factor 53 = .ok (.iconst (-1), 1) := by decide +kernel
theorem dX11_factor_54 : decode cX11_factor 54 = .ok (.goto 4, 3) := by decide +kernel
theorem dX11_factor_57 : decode cX11_factor 57 = .ok (.iconst 1, 1) := by decide +kernel
theorem dX11_factor_58 : decode cX11_factor 58 = .ok (.iload_n 2, 1) := by decide +kernel
theorem dX11_factor_59 : decode cX11_factor 59 = .ok (.iconst 3, 1) := by decide +kernel
theorem dX11_factor_60 : decode cX11_factor 60 = .ok (.if_icmp .ne 7, 3) := by decide +kernel
theorem dX11_factor_63 : decode cX11_factor 63 = .ok (.iconst 1, 1) := by decide +kernel
theorem dX11_factor_64 : decode cX11_factor 64 = .ok (.goto 14, 3) := by decide +kernel
theorem dX11_factor_67 : decode cX11_factor 67 = .ok (.iload_n 2, 1) := by decide +kernel
theorem dX11_factor_68 : decode cX11_factor 68 = .ok (.bipush 6, 2) := by decide +kernel
theorem dX11_factor_70 : decode cX11_factor 70 = .ok (.if_icmp .ne 7, 3) := by decide +kernel
theorem dX11_factor_73 : decode cX11_factor 73 = .ok (.iconst (-1), 1) := by decide +kernel
theorem dX11_factor_74 : decode cX11_factor 74 = .ok (.goto 4, 3) := by decide +kernel
theorem dX11_factor_77 : decode cX11_factor 77 = .ok (.iconst 0, 1) := by decide +kernel
theorem dX11_factor_78 : decode cX11_factor 78 = .ok (.invokevirtual 165, 3) := by decide +kernel
theorem dX11_factor_81 : decode cX11_factor 81 = .ok (.ifCond .eq 9, 3) := by decide +kernel
theorem dX11_factor_84 : decode cX11_factor 84 = .ok (.iinc 3 1, 3) := by decide +kernel
theorem dX11_factor_87 : decode cX11_factor 87 = .ok (.goto (-42), 3) := by decide +kernel
theorem dX11_factor_90 : decode cX11_factor 90 = .ok (.iload_n 3, 1) := by decide +kernel
theorem dX11_factor_91 : decode cX11_factor 91 = .ok (.ireturn, 1) := by decide +kernel
theorem dX11_faithful_0 : decode cX11_faithful 0 = .ok (.iload_n 1, 1) := by decide +kernel
theorem dX11_faithful_1 : decode cX11_faithful 1 = .ok (.invokestatic 250, 3) := by decide +kernel
theorem dX11_faithful_4 : decode cX11_faithful 4 = .ok (.ifCond .ne 5, 3) := by decide +kernel
theorem dX11_faithful_7 : decode cX11_faithful 7 = .ok (.iconst (-1), 1) := by decide +kernel
theorem dX11_faithful_8 : decode cX11_faithful 8 = .ok (.ireturn, 1) := by decide +kernel
theorem dX11_faithful_9 : decode cX11_faithful 9 = .ok (.aload_n 0, 1) := by decide +kernel
theorem dX11_faithful_10 : decode cX11_faithful 10 = .ok (.invokevirtual 219, 3) := by decide +kernel
theorem dX11_faithful_13 : decode cX11_faithful 13 = .ok (.iconst 1, 1) := by decide +kernel
theorem dX11_faithful_14 : decode cX11_faithful 14 = .ok (.istore_n 2, 1) := by decide +kernel
theorem dX11_faithful_15 : decode cX11_faithful 15 = .ok (.iconst 0, 1) := by decide +kernel
theorem dX11_faithful_16 : decode cX11_faithful 16 = .ok (.istore_n 3, 1) := by decide +kernel
theorem dX11_faithful_17 : decode cX11_faithful 17 = .ok (.iload_n 3, 1) := by decide +kernel
theorem dX11_faithful_18 : decode cX11_faithful 18 = .ok (.aload_n 0, 1) := by decide +kernel
theorem dX11_faithful_19 : decode cX11_faithful 19 = .ok (.getfield 202, 3) := by decide +kernel
theorem dX11_faithful_22 : decode cX11_faithful 22 = .ok (.if_icmp .ge 74, 3) := by decide +kernel
theorem dX11_faithful_25 : decode cX11_faithful 25 = .ok (.aload_n 0, 1) := by decide +kernel
theorem dX11_faithful_26 : decode cX11_faithful 26 = .ok (.iload_n 3, 1) := by decide +kernel
theorem dX11_faithful_27 : decode cX11_faithful 27 = .ok (.aload_n 0, 1) := by decide +kernel
theorem dX11_faithful_28 : decode cX11_faithful 28 = .ok (.getfield 27, 3) := by decide +kernel
theorem dX11_faithful_31 : decode cX11_faithful 31 = .ok (.invokevirtual 209, 3) := by decide +kernel
theorem dX11_faithful_34 : decode cX11_faithful 34 = .ok (.aload_n 0, 1) := by decide +kernel
theorem dX11_faithful_35 : decode cX11_faithful 35 = .ok (.getfield 57, 3) := by decide +kernel
theorem dX11_faithful_38 : decode cX11_faithful 38 = .ok (.iload_n 3, 1) := by decide +kernel
theorem dX11_faithful_39 : decode cX11_faithful 39 = .ok (.aload_n 0, 1) := by decide +kernel
theorem dX11_faithful_40 : decode cX11_faithful 40 = .ok (.aload_n 0, 1) := by decide +kernel
theorem dX11_faithful_41 : decode cX11_faithful 41 = .ok (.getfield 27, 3) := by decide +kernel
theorem dX11_faithful_44 : decode cX11_faithful 44 = .ok (.iload_n 1, 1) := by decide +kernel
theorem dX11_faithful_45 : decode cX11_faithful 45 = .ok (.invokevirtual 253, 3) := by decide +kernel
theorem dX11_faithful_48 : decode cX11_faithful 48 = .ok (.iastore, 1) := by decide +kernel
theorem dX11_faithful_49 : decode cX11_faithful 49 = .ok (.iconst 0, 1) := by decide +kernel
theorem dX11_faithful_50 : decode cX11_faithful 50 = .ok (.istore 4, 2) := by decide +kernel
theorem dX11_faithful_52 : decode cX11_faithful 52 = .ok (.iload 4, 2) := by decide +kernel
theorem dX11_faithful_54 : decode cX11_faithful 54 = .ok (.iload_n 3, 1) := by decide +kernel
theorem dX11_faithful_55 : decode cX11_faithful 55 = .ok (.if_icmp .ge 35, 3) := by decide +kernel
theorem dX11_faithful_58 : decode cX11_faithful 58 = .ok (.iload_n 2, 1) := by decide +kernel
theorem dX11_faithful_59 : decode cX11_faithful 59 = .ok (.ifCond .eq 23, 3) := by decide +kernel
theorem dX11_faithful_62 : decode cX11_faithful 62 = .ok (.aload_n 0, 1) := by decide +kernel
theorem dX11_faithful_63 : decode cX11_faithful 63 = .ok (.getfield 57, 3) := by decide +kernel
theorem dX11_faithful_66 : decode cX11_faithful 66 = .ok (.iload 4, 2) := by decide +kernel
theorem dX11_faithful_68 : decode cX11_faithful 68 = .ok (.iaload, 1) := by decide +kernel
theorem dX11_faithful_69 : decode cX11_faithful 69 = .ok (.aload_n 0, 1) := by decide +kernel
theorem dX11_faithful_70 : decode cX11_faithful 70 = .ok (.getfield 57, 3) := by decide +kernel
theorem dX11_faithful_73 : decode cX11_faithful 73 = .ok (.iload_n 3, 1) := by decide +kernel
theorem dX11_faithful_74 : decode cX11_faithful 74 = .ok (.iaload, 1) := by decide +kernel
theorem dX11_faithful_75 : decode cX11_faithful 75 = .ok (.if_icmp .eq 7, 3) := by decide +kernel
theorem dX11_faithful_78 : decode cX11_faithful 78 = .ok (.iconst 1, 1) := by decide +kernel
theorem dX11_faithful_79 : decode cX11_faithful 79 = .ok (.goto 4, 3) := by decide +kernel
theorem dX11_faithful_82 : decode cX11_faithful 82 = .ok (.iconst 0, 1) := by decide +kernel
theorem dX11_faithful_83 : decode cX11_faithful 83 = .ok (.istore_n 2, 1) := by decide +kernel
theorem dX11_faithful_84 : decode cX11_faithful 84 = .ok (.iinc 4 1, 3) := by decide +kernel
theorem dX11_faithful_87 : decode cX11_faithful 87 = .ok (.goto (-35), 3) := by decide +kernel
theorem dX11_faithful_90 : decode cX11_faithful 90 = .ok (.iinc 3 1, 3) := by decide +kernel
theorem dX11_faithful_93 : decode cX11_faithful 93 = .ok (.goto (-76), 3) := by decide +kernel
theorem dX11_faithful_96 : decode cX11_faithful 96 = .ok (.iload_n 2, 1) := by decide +kernel
theorem dX11_faithful_97 : decode cX11_faithful 97 = .ok (.ifCond .eq 7, 3) := by decide +kernel
theorem dX11_faithful_100 : decode cX11_faithful 100 = .ok (.iconst 1, 1) := by decide +kernel
theorem dX11_faithful_101 : decode cX11_faithful 101 = .ok (.goto 4, 3) := by decide +kernel
theorem dX11_faithful_104 : decode cX11_faithful 104 = .ok (.iconst 0, 1) := by decide +kernel
theorem dX11_faithful_105 : decode cX11_faithful 105 = .ok (.ireturn, 1) := by decide +kernel
theorem dX11_far_0 : decode cX11_far 0 = .ok (.ldc2_w 88, 3) := by decide +kernel
theorem dX11_far_3 : decode cX11_far 3 = .ok (.iload_n 0, 1) := by decide +kernel
theorem dX11_far_4 : decode cX11_far 4 = .ok (.i2l, 1) := by decide +kernel
theorem dX11_far_5 : decode cX11_far 5 = .ok (.ladd, 1) := by decide +kernel
theorem dX11_far_6 : decode cX11_far 6 = .ok (.lreturn, 1) := by decide +kernel
theorem dX11_feed_0 : decode cX11_feed 0 = .ok (.iload_n 3, 1) := by decide +kernel
theorem dX11_feed_1 : decode cX11_feed 1 = .ok (.i2l, 1) := by decide +kernel
theorem dX11_feed_2 : decode cX11_feed 2 = .ok (.lconst 1, 1) := by decide +kernel
theorem dX11_feed_3 : decode cX11_feed 3 = .ok (.ldc2_w 169, 3) := by decide +kernel
theorem dX11_feed_6 : decode cX11_feed 6 = .ok (.invokestatic 81, 3) := by decide +kernel
theorem dX11_feed_9 : decode cX11_feed 9 = .ok (.ifCond .ne 5, 3) := by decide +kernel
theorem dX11_feed_12 : decode cX11_feed 12 = .ok (.iconst (-1), 1) := by decide +kernel
theorem dX11_feed_13 : decode cX11_feed 13 = .ok (.ireturn, 1) := by decide +kernel
theorem dX11_feed_14 : decode cX11_feed 14 = .ok (.aload_n 0, 1) := by decide +kernel
theorem dX11_feed_15 : decode cX11_feed 15 = .ok (.getfield 171, 3) := by decide +kernel
theorem dX11_feed_18 : decode cX11_feed 18 = .ok (.iload_n 3, 1) := by decide +kernel
theorem dX11_feed_19 : decode cX11_feed 19 = .ok (.iadd, 1) := by decide +kernel
theorem dX11_feed_20 : decode cX11_feed 20 = .ok (.bipush 120, 2) := by decide +kernel
theorem dX11_feed_22 : decode cX11_feed 22 = .ok (.if_icmp .le 6, 3) := by decide +kernel
theorem dX11_feed_25 : decode cX11_feed 25 = .ok (.bipush (-2), 2) := by decide +kernel
theorem dX11_feed_27 : decode cX11_feed 27 = .ok (.ireturn, 1) := by decide +kernel
theorem dX11_feed_28 : decode cX11_feed 28 = .ok (.iconst 0, 1) := by decide +kernel
theorem dX11_feed_29 : decode cX11_feed 29 = .ok (.istore 4, 2) := by decide +kernel
theorem dX11_feed_31 : decode cX11_feed 31 = .ok (.iload 4, 2) := by decide +kernel
theorem dX11_feed_33 : decode cX11_feed 33 = .ok (.iload_n 3, 1) := by decide +kernel
theorem dX11_feed_34 : decode cX11_feed 34 = .ok (.if_icmp .ge 40, 3) := by decide +kernel
theorem dX11_feed_37 : decode cX11_feed 37 = .ok (.aload_n 0, 1) := by decide +kernel
theorem dX11_feed_38 : decode cX11_feed 38 = .ok (.getfield 39, 3) := by decide +kernel
theorem dX11_feed_41 : decode cX11_feed 41 = .ok (.aload_n 0, 1) := by decide +kernel
theorem dX11_feed_42 : decode cX11_feed 42 = .ok (.getfield 171, 3) := by decide +kernel
theorem dX11_feed_45 : decode cX11_feed 45 = .ok (.lload_n 1, 1) := by decide +kernel
theorem dX11_feed_46 : decode cX11_feed 46 = .ok (.bipush 8, 2) := by decide +kernel
theorem dX11_feed_48 : decode cX11_feed 48 = .ok (.iload 4, 2) := by decide +kernel
theorem dX11_feed_50 : decode cX11_feed 50 = .ok (.imul, 1) := by decide +kernel
theorem dX11_feed_51 : decode cX11_feed 51 = .ok (.lshr, 1) := by decide +kernel
theorem dX11_feed_52 : decode cX11_feed 52 = .ok (.ldc2_w 174, 3) := by decide +kernel
