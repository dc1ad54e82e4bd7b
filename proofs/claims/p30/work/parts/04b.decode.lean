theorem dX10_form_18 : decode cX10_form 18 = .ok (.invokevirtual 195, 3) := by decide +kernel
theorem dX10_form_21 : decode cX10_form 21 = .ok (.aload_n 0, 1) := by decide +kernel
theorem dX10_form_22 : decode cX10_form 22 = .ok (.getfield 41, 3) := by decide +kernel
theorem dX10_form_25 : decode cX10_form 25 = .ok (.getfield 199, 3) := by decide +kernel
theorem dX10_form_28 : decode cX10_form 28 = .ok (.ifCond .ne 9, 3) := by decide +kernel
theorem dX10_form_31 : decode cX10_form 31 = .ok (.bipush (-3), 2) := by decide +kernel
theorem dX10_form_33 : decode cX10_form 33 = .ok (.invokestatic 203, 3) := by decide +kernel
theorem dX10_form_36 : decode cX10_form 36 = .ok (.lreturn, 1) := by decide +kernel
theorem dX10_form_37 : decode cX10_form 37 = .ok (.aload_n 0, 1) := by decide +kernel
theorem dX10_form_38 : decode cX10_form 38 = .ok (.invokevirtual 234, 3) := by decide +kernel
theorem dX10_form_41 : decode cX10_form 41 = .ok (.ifCond .ne 9, 3) := by decide +kernel
theorem dX10_form_44 : decode cX10_form 44 = .ok (.bipush (-16), 2) := by decide +kernel
theorem dX10_form_46 : decode cX10_form 46 = .ok (.invokestatic 203, 3) := by decide +kernel
theorem dX10_form_49 : decode cX10_form 49 = .ok (.lreturn, 1) := by decide +kernel
theorem dX10_form_50 : decode cX10_form 50 = .ok (.aload_n 0, 1) := by decide +kernel
theorem dX10_form_51 : decode cX10_form 51 = .ok (.getfield 90, 3) := by decide +kernel
theorem dX10_form_54 : decode cX10_form 54 = .ok (.aload_n 0, 1) := by decide +kernel
theorem dX10_form_55 : decode cX10_form 55 = .ok (.getfield 10, 3) := by decide +kernel
theorem dX10_form_58 : decode cX10_form 58 = .ok (.invokevirtual 130, 3) := by decide +kernel
theorem dX10_form_61 : decode cX10_form 61 = .ok (.invokestatic 237, 3) := by decide +kernel
theorem dX10_form_64 : decode cX10_form 64 = .ok (.lstore_n 3, 1) := by decide +kernel
theorem dX10_form_65 : decode cX10_form 65 = .ok (.aload_n 0, 1) := by decide +kernel
theorem dX10_form_66 : decode cX10_form 66 = .ok (.getfield 90, 3) := by decide +kernel
theorem dX10_form_69 : decode cX10_form 69 = .ok (.iload_n 1, 1) := by decide +kernel
theorem dX10_form_70 : decode cX10_form 70 = .ok (.aload_n 0, 1) := by decide +kernel
theorem dX10_form_71 : decode cX10_form 71 = .ok (.getfield 10, 3) := by decide +kernel
theorem dX10_form_74 : decode cX10_form 74 = .ok (.getfield 98, 3) := by decide +kernel
theorem dX10_form_77 : decode cX10_form 77 = .ok (.imul, 1) := by decide +kernel
theorem dX10_form_78 : decode cX10_form 78 = .ok (.iload_n 2, 1) := by decide +kernel
theorem dX10_form_79 : decode cX10_form 79 = .ok (.iadd, 1) := by decide +kernel
theorem dX10_form_80 : decode cX10_form 80 = .ok (.laload, 1) := by decide +kernel
theorem dX10_form_81 : decode cX10_form 81 = .ok (.lconst 1, 1) := by decide +kernel
theorem dX10_form_82 : decode cX10_form 82 = .ok (.lload_n 3, 1) := by decide +kernel
theorem dX10_form_83 : decode cX10_form 83 = .ok (.invokestatic 241, 3) := by decide +kernel
theorem dX10_form_86 : decode cX10_form 86 = .ok (.ldiv, 1) := by decide +kernel
theorem dX10_form_87 : decode cX10_form 87 = .ok (.lreturn, 1) := by decide +kernel
theorem dX10_found_0 : decode cX10_found 0 = .ok (.aload_n 0, 1) := by decide +kernel
theorem dX10_found_1 : decode cX10_found 1 = .ok (.iload_n 1, 1) := by decide +kernel
theorem dX10_found_2 : decode cX10_found 2 = .ok (.invokevirtual 221, 3) := by decide +kernel
theorem dX10_found_5 : decode cX10_found 5 = .ok (.ifCond .ne 5, 3) := by decide +kernel
theorem dX10_found_8 : decode cX10_found 8 = .ok (.iconst (-1), 1) := by decide +kernel
theorem dX10_found_9 : decode cX10_found 9 = .ok (.ireturn, 1) := by decide +kernel
theorem dX10_found_10 : decode cX10_found 10 = .ok (.aload_n 0, 1) := by decide +kernel
theorem dX10_found_11 : decode cX10_found 11 = .ok (.invokevirtual 195, 3) := by decide +kernel
theorem dX10_found_14 : decode cX10_found 14 = .ok (.aload_n 0, 1) := by decide +kernel
theorem dX10_found_15 : decode cX10_found 15 = .ok (.iload_n 1, 1) := by decide +kernel
theorem dX10_found_16 : decode cX10_found 16 = .ok (.invokevirtual 224, 3) := by decide +kernel
theorem dX10_found_19 : decode cX10_found 19 = .ok (.ifCond .ne 6, 3) := by decide +kernel
theorem dX10_found_22 : decode cX10_found 22 = .ok (.bipush (-16), 2) := by decide +kernel
theorem dX10_found_24 : decode cX10_found 24 = .ok (.ireturn, 1) := by decide +kernel
theorem dX10_found_25 : decode cX10_found 25 = .ok (.aload_n 0, 1) := by decide +kernel
theorem dX10_found_26 : decode cX10_found 26 = .ok (.getfield 41, 3) := by decide +kernel
theorem dX10_found_29 : decode cX10_found 29 = .ok (.aload_n 0, 1) := by decide +kernel
theorem dX10_found_30 : decode cX10_found 30 = .ok (.getfield 90, 3) := by decide +kernel
theorem dX10_found_33 : decode cX10_found 33 = .ok (.invokevirtual 227, 3) := by decide +kernel
theorem dX10_found_36 : decode cX10_found 36 = .ok (.istore_n 2, 1) := by decide +kernel
theorem dX10_found_37 : decode cX10_found 37 = .ok (.iload_n 2, 1) := by decide +kernel
theorem dX10_found_38 : decode cX10_found 38 = .ok (.ifCond .ge 8, 3) := by decide +kernel
theorem dX10_found_41 : decode cX10_found 41 = .ok (.bipush (-3), 2) := by decide +kernel
theorem dX10_found_43 : decode cX10_found 43 = .ok (.goto 4, 3) := by decide +kernel
theorem dX10_found_46 : decode cX10_found 46 = .ok (.iload_n 2, 1) := by decide +kernel
theorem dX10_found_47 : decode cX10_found 47 = .ok (.ireturn, 1) := by decide +kernel
theorem dX10_image_0 : decode cX10_image 0 = .ok (.iload_n 1, 1) := by decide +kernel
theorem dX10_image_1 : decode cX10_image 1 = .ok (.invokestatic 259, 3) := by decide +kernel
theorem dX10_image_4 : decode cX10_image 4 = .ok (.ifCond .ne 5, 3) := by decide +kernel
theorem dX10_image_7 : decode cX10_image 7 = .ok (.iconst (-1), 1) := by decide +kernel
theorem dX10_image_8 : decode cX10_image 8 = .ok (.ireturn, 1) := by decide +kernel
theorem dX10_image_9 : decode cX10_image 9 = .ok (.aload_n 0, 1) := by decide +kernel
theorem dX10_image_10 : decode cX10_image 10 = .ok (.getfield 57, 3) := by decide +kernel
theorem dX10_image_13 : decode cX10_image 13 = .ok (.iload_n 1, 1) := by decide +kernel
theorem dX10_image_14 : decode cX10_image 14 = .ok (.iaload, 1) := by decide +kernel
theorem dX10_image_15 : decode cX10_image 15 = .ok (.ifCond .ne 14, 3) := by decide +kernel
theorem dX10_image_18 : decode cX10_image 18 = .ok (.aload_n 0, 1) := by decide +kernel
theorem dX10_image_19 : decode cX10_image 19 = .ok (.getfield 57, 3) := by decide +kernel
theorem dX10_image_22 : decode cX10_image 22 = .ok (.iload_n 1, 1) := by decide +kernel
theorem dX10_image_23 : decode cX10_image 23 = .ok (.aload_n 0, 1) := by decide +kernel
theorem dX10_image_24 : decode cX10_image 24 = .ok (.iload_n 1, 1) := by decide +kernel
theorem dX10_image_25 : decode cX10_image 25 = .ok (.invokevirtual 262, 3) := by decide +kernel
theorem dX10_image_28 : decode cX10_image 28 = .ok (.iastore, 1) := by decide +kernel
theorem dX10_image_29 : decode cX10_image 29 = .ok (.aload_n 0, 1) := by decide +kernel
theorem dX10_image_30 : decode cX10_image 30 = .ok (.getfield 57, 3) := by decide +kernel
theorem dX10_image_33 : decode cX10_image 33 = .ok (.iload_n 1, 1) := by decide +kernel
theorem dX10_image_34 : decode cX10_image 34 = .ok (.iaload, 1) := by decide +kernel
theorem dX10_image_35 : decode cX10_image 35 = .ok (.ireturn, 1) := by decide +kernel
theorem dX10_init_0 : decode cX10_init 0 = .ok (.aload_n 0, 1) := by decide +kernel
theorem dX10_init_1 : decode cX10_init 1 = .ok (.invokespecial 1, 3) := by decide +kernel
theorem dX10_init_4 : decode cX10_init 4 = .ok (.aload_n 0, 1) := by decide +kernel
theorem dX10_init_5 : decode cX10_init 5 = .ok (.new 7, 3) := by decide +kernel
theorem dX10_init_8 : decode cX10_init 8 = .ok (.dup, 1) := by decide +kernel
theorem dX10_init_9 : decode cX10_init 9 = .ok (.invokespecial 9, 3) := by decide +kernel
theorem dX10_init_12 : decode cX10_init 12 = .ok (.putfield 10, 3) := by decide +kernel
theorem dX10_init_15 : decode cX10_init 15 = .ok (.aload_n 0, 1) := by decide +kernel
theorem dX10_init_16 : decode cX10_init 16 = .ok (.new 7, 3) := by decide +kernel
theorem dX10_init_19 : decode cX10_init 19 = .ok (.dup, 1) := by decide +kernel
theorem dX10_init_20 : decode cX10_init 20 = .ok (.invokespecial 9, 3) := by decide +kernel
theorem dX10_init_23 : decode cX10_init 23 = .ok (.putfield 16, 3) := by decide +kernel
theorem dX10_init_26 : decode cX10_init 26 = .ok (.aload_n 0, 1) := by decide +kernel
theorem dX10_init_27 : decode cX10_init 27 = .ok (.iconst 0, 1) := by decide +kernel
theorem dX10_init_28 : decode cX10_init 28 = .ok (.putfield 19, 3) := by decide +kernel
theorem dX10_init_31 : decode cX10_init 31 = .ok (.aload_n 0, 1) := by decide +kernel
theorem dX10_init_32 : decode cX10_init 32 = .ok (.new 23, 3) := by decide +kernel
theorem dX10_init_35 : decode cX10_init 35 = .ok (.dup, 1) := by decide +kernel
theorem dX10_init_36 : decode cX10_init 36 = .ok (.invokespecial 25, 3) := by decide +kernel
theorem dX10_init_39 : decode cX10_init 39 = .ok (.putfield 26, 3) := by decide +kernel
theorem dX10_init_42 : decode cX10_init 42 = .ok (.aload_n 0, 1) := by decide +kernel
theorem dX10_init_43 : decode cX10_init 43 = .ok (.iconst 4, 1) := by decide +kernel
theorem dX10_init_44 : decode cX10_init 44 = .ok (.anewarray 30, 3) := by decide +kernel
theorem dX10_init_47 : decode cX10_init 47 = .ok (.putfield 32, 3) := by decide +kernel
theorem dX10_init_50 : decode cX10_init 50 = .ok (.aload_n 0, 1) := by decide +kernel
theorem dX10_init_51 : decode cX10_init 51 = .ok (.new 36, 3) := by decide +kernel
theorem dX10_init_54 : decode cX10_init 54 = .ok (.dup, 1) := by decide +kernel
theorem dX10_init_55 : decode cX10_init 55 = .ok (.bipush 100, 2) := by decide +kernel
theorem dX10_init_57 : decode cX10_init 57 = .ok (.sipush 900, 3) := by decide +kernel
theorem dX10_init_60 : decode cX10_init 60 = .ok (.sipush 256, 3) := by decide +kernel
theorem dX10_init_63 : decode cX10_init 63 = .ok (.invokespecial 38, 3) := by decide +kernel
theorem dX10_init_66 : decode cX10_init 66 = .ok (.putfield 41, 3) := by decide +kernel
theorem dX10_init_69 : decode cX10_init 69 = .ok (.aload_n 0, 1) := by decide +kernel
theorem dX10_init_70 : decode cX10_init 70 = .ok (.iconst 0, 1) := by decide +kernel
theorem dX10_init_71 : decode cX10_init 71 = .ok (.putfield 45, 3) := by decide +kernel
theorem dX10_init_74 : decode cX10_init 74 = .ok (.aload_n 0, 1) := by decide +kernel
theorem dX10_init_75 : decode cX10_init 75 = .ok (.new 36, 3) := by decide +kernel
theorem dX10_init_78 : decode cX10_init 78 = .ok (.dup, 1) := by decide +kernel
theorem dX10_init_79 : decode cX10_init 79 = .ok (.bipush 60, 2) := by decide +kernel
theorem dX10_init_81 : decode cX10_init 81 = .ok (.sipush 180, 3) := by decide +kernel
theorem dX10_init_84 : decode cX10_init 84 = .ok (.sipush 128, 3) := by decide +kernel
theorem dX10_init_87 : decode cX10_init 87 = .ok (.invokespecial 38, 3) := by decide +kernel
theorem dX10_init_90 : decode cX10_init 90 = .ok (.putfield 48, 3) := by decide +kernel
theorem dX10_init_93 : decode cX10_init 93 = .ok (.aload_n 0, 1) := by decide +kernel
theorem dX10_init_94 : decode cX10_init 94 = .ok (.iconst 0, 1) := by decide +kernel
theorem dX10_init_95 : decode cX10_init 95 = .ok (.putfield 51, 3) := by decide +kernel
theorem dX10_init_98 : decode cX10_init 98 = .ok (.aload_n 0, 1) := by decide +kernel
theorem dX10_init_99 : decode cX10_init 99 = .ok (.aconst_null, 1) := by decide +kernel
theorem dX10_init_100 : decode cX10_init 100 = .ok (.putfield 54, 3) := by decide +kernel
theorem dX10_init_103 : decode cX10_init 103 = .ok (.aload_n 0, 1) := by decide +kernel
theorem dX10_init_104 : decode cX10_init 104 = .ok (.bipush 8, 2) := by decide +kernel
theorem dX10_init_106 : decode cX10_init 106 = .ok (.newarray .int, 2) := by decide +kernel
theorem dX10_init_108 : decode cX10_init 108 = .ok (.putfield 57, 3) := by decide +kernel
theorem dX10_init_111 : decode cX10_init 111 = .ok (.aload_n 0, 1) := by decide +kernel
theorem dX10_init_112 : decode cX10_init 112 = .ok (.iconst 0, 1) := by decide +kernel
theorem dX10_init_113 : decode cX10_init 113 = .ok (.putfield 61, 3) := by decide +kernel
theorem dX10_init_116 : decode cX10_init 116 = .ok (.aload_n 0, 1) := by decide +kernel
theorem dX10_init_117 : decode cX10_init 117 = .ok (.new 65, 3) := by decide +kernel
theorem dX10_init_120 : decode cX10_init 120 = .ok (.dup, 1) := by decide +kernel
theorem dX10_init_121 : decode cX10_init 121 = .ok (.aload_n 0, 1) := by decide +kernel
theorem dX10_init_122 : decode cX10_init 122 = .ok (.getfield 10, 3) := by decide +kernel
theorem dX10_init_125 : decode cX10_init 125 = .ok (.invokespecial 67, 3) := by decide +kernel
theorem dX10_init_128 : decode cX10_init 128 = .ok (.putfield 70, 3) := by decide +kernel
theorem dX10_init_131 : decode cX10_init 131 = .ok (.aload_n 0, 1) := by decide +kernel
theorem dX10_init_132 : decode cX10_init 132 = .ok (.new 74, 3) := by decide +kernel
theorem dX10_init_135 : decode cX10_init 135 = .ok (.dup, 1) := by decide +kernel
theorem dX10_init_136 : decode cX10_init 136 = .ok (.aload_n 0, 1) := by decide +kernel
theorem dX10_init_137 : decode cX10_init 137 = .ok (.getfield 10, 3) := by decide +kernel
theorem dX10_init_140 : decode cX10_init 140 = .ok (.invokespecial 76, 3) := by decide +kernel
theorem dX10_init_143 : decode cX10_init 143 = .ok (.putfield 77, 3) := by decide +kernel
theorem dX10_init_146 : decode cX10_init 146 = .ok (.aload_n 0, 1) := by decide +kernel
theorem dX10_init_147 : decode cX10_init 147 = .ok (.new 81, 3) := by decide +kernel
theorem dX10_init_150 : decode cX10_init 150 = .ok (.dup, 1) := by decide +kernel
theorem dX10_init_151 : decode cX10_init 151 = .ok (.aload_n 0, 1) := by decide +kernel
theorem dX10_init_152 : decode cX10_init 152 = .ok (.getfield 48, 3) := by decide +kernel
theorem dX10_init_155 : decode cX10_init 155 = .ok (.invokespecial 83, 3) := by decide +kernel
theorem dX10_init_158 : decode cX10_init 158 = .ok (.putfield 86, 3) := by decide +kernel
theorem dX10_init_161 : decode cX10_init 161 = .ok (.aload_n 0, 1) := by decide +kernel
theorem dX10_init_162 : decode cX10_init 162 = .ok (.bipush 9, 2) := by decide +kernel
theorem dX10_init_164 : decode cX10_init 164 = .ok (.newarray .long, 2) := by decide +kernel
theorem dX10_init_166 : decode cX10_init 166 = .ok (.putfield 90, 3) := by decide +kernel
theorem dX10_init_169 : decode cX10_init 169 = .ok (.aload_n 0, 1) := by decide +kernel
theorem dX10_init_170 : decode cX10_init 170 = .ok (.bipush 9, 2) := by decide +kernel
theorem dX10_init_172 : decode cX10_init 172 = .ok (.newarray .long, 2) := by decide +kernel
theorem dX10_init_174 : decode cX10_init 174 = .ok (.putfield 94, 3) := by decide +kernel
theorem dX10_init_177 : decode cX10_init 177 = .ok (.iconst 0, 1) := by decide +kernel
theorem dX10_init_178 : decode cX10_init 178 = .ok (.istore_n 1, 1) := by decide +kernel
theorem dX10_init_179 : decode cX10_init 179 = .ok (.iload_n 1, 1) := by decide +kernel
theorem dX10_init_180 : decode cX10_init 180 = .ok (.iconst 4, 1) := by decide +kernel
theorem dX10_init_181 : decode cX10_init 181 = .ok (.if_icmp .ge 22, 3) := by decide +kernel
theorem dX10_init_184 : decode cX10_init 184 = .ok (.aload_n 0, 1) := by decide +kernel
theorem dX10_init_185 : decode cX10_init 185 = .ok (.getfield 32, 3) := by decide +kernel
theorem dX10_init_188 : decode cX10_init 188 = .ok (.iload_n 1, 1) := by decide +kernel
theorem dX10_init_189 : decode cX10_init 189 = .ok (.new 30, 3) := by decide +kernel
theorem dX10_init_192 : decode cX10_init 192 = .ok (.dup, 1) := by decide +kernel
theorem dX10_init_193 : decode cX10_init 193 = .ok (.invokespecial 97, 3) := by decide +kernel
theorem dX10_init_196 : decode cX10_init 196 = .ok (.aastore, 1) := by decide +kernel
theorem dX10_init_197 : decode cX10_init 197 = .ok (.iinc 1 1, 3) := by decide +kernel
theorem dX10_init_200 : decode cX10_init 200 = .ok (.goto (-21), 3) := by decide +kernel
theorem dX10_init_203 : decode cX10_init 203 = .ok (.return_, 1) := by decide +kernel
theorem dX10_isInMiddle_0 : decode cX10_isInMiddle 0 = .ok (.aload_n 0, 1) := by decide +kernel
theorem dX10_isInMiddle_1 : decode cX10_isInMiddle 1 = .ok (.getfield 41, 3) := by decide +kernel
theorem dX10_isInMiddle_4 : decode cX10_isInMiddle 4 = .ok (.iload_n 1, 1) := by decide +kernel
theorem dX10_isInMiddle_5 : decode cX10_isInMiddle 5 = .ok (.invokevirtual 208, 3) := by decide +kernel
theorem dX10_isInMiddle_8 : decode cX10_isInMiddle 8 = .ok (.istore_n 2, 1) := by decide +kernel
theorem dX10_isInMiddle_9 : decode cX10_isInMiddle 9 = .ok (.iconst 0, 1) := by decide +kernel
theorem dX10_isInMiddle_10 : decode cX10_isInMiddle 10 = .ok (.istore_n 3, 1) := by decide +kernel
theorem dX10_isInMiddle_11 : decode cX10_isInMiddle 11 = .ok (.iload_n 3, 1) := by decide +kernel
theorem dX10_isInMiddle_12 : decode cX10_isInMiddle 12 = .ok (.aload_n 0, 1) := by decide +kernel
theorem dX10_isInMiddle_13 : decode cX10_isInMiddle 13 = .ok (.getfield 10, 3) := by decide +kernel
theorem dX10_isInMiddle_16 : decode cX10_isInMiddle 16 = .ok (.getfield 101, 3) := by decide +kernel
theorem dX10_isInMiddle_19 : decode cX10_isInMiddle 19 = .ok (.if_icmp .ge 98, 3) := by decide +kernel
theorem dX10_isInMiddle_22 : decode cX10_isInMiddle 22 = .ok (.aload_n 0, 1) := by decide +kernel
theorem dX10_isInMiddle_23 : decode cX10_isInMiddle 23 = .ok (.getfield 41, 3) := by decide +kernel
theorem dX10_isInMiddle_26 : decode cX10_isInMiddle 26 = .ok (.getfield 207, 3) := by decide +kernel
theorem dX10_isInMiddle_29 : decode cX10_isInMiddle 29 = .ok (.iload_n 2, 1) := by decide +kernel
theorem dX10_isInMiddle_30 : decode cX10_isInMiddle 30 = .ok (.aload_n 0, 1) := by decide +kernel
theorem dX10_isInMiddle_31 : decode cX10_isInMiddle 31 = .ok (.getfield 10, 3) := by decide +kernel
theorem dX10_isInMiddle_34 : decode cX10_isInMiddle 34 = .ok (.getfield 145, 3) := by decide +kernel
theorem dX10_isInMiddle_37 : decode cX10_isInMiddle 37 = .ok (.iload_n 3, 1) := by decide +kernel
theorem dX10_isInMiddle_38 : decode cX10_isInMiddle 38 = .ok (.bipush 9, 2) := by decide +kernel
theorem dX10_isInMiddle_40 : decode cX10_isInMiddle 40 = .ok (.imul, 1) := by decide +kernel
theorem dX10_isInMiddle_41 : decode cX10_isInMiddle 41 = .ok (.aload_n 0, 1) := by decide +kernel
theorem dX10_isInMiddle_42 : decode cX10_isInMiddle 42 = .ok (.getfield 90, 3) := by decide +kernel
theorem dX10_isInMiddle_45 : decode cX10_isInMiddle 45 = .ok (.aload_n 0, 1) := by decide +kernel
theorem dX10_isInMiddle_46 : decode cX10_isInMiddle 46 = .ok (.getfield 10, 3) := by decide +kernel
theorem dX10_isInMiddle_49 : decode cX10_isInMiddle 49 = .ok (.getfield 98, 3) := by decide +kernel
theorem dX10_isInMiddle_52 : decode cX10_isInMiddle 52 = .ok (.invokestatic 345, 3) := by decide +kernel
theorem dX10_isInMiddle_55 : decode cX10_isInMiddle 55 = .ok (.aload_n 0, 1) := by decide +kernel
theorem dX10_isInMiddle_56 : decode cX10_isInMiddle 56 = .ok (.getfield 10, 3) := by decide +kernel
theorem dX10_isInMiddle_59 : decode cX10_isInMiddle 59 = .ok (.getfield 145, 3) := by decide +kernel
theorem dX10_isInMiddle_62 : decode cX10_isInMiddle 62 = .ok (.iload_n 3, 1) := by decide +kernel
theorem dX10_isInMiddle_63 : decode cX10_isInMiddle 63 = .ok (.bipush 9, 2) := by decide +kernel
theorem dX10_isInMiddle_65 : decode cX10_isInMiddle 65 = .ok (.imul, 1) := by decide +kernel
theorem dX10_isInMiddle_66 : decode cX10_isInMiddle 66 = .ok (.aload_n 0, 1) := by decide +kernel
theorem dX10_isInMiddle_67 : decode cX10_isInMiddle 67 = .ok (.getfield 41, 3) := by decide +kernel
theorem dX10_isInMiddle_70 : decode cX10_isInMiddle 70 = .ok (.getfield 207, 3) := by decide +kernel
theorem dX10_isInMiddle_73 : decode cX10_isInMiddle 73 = .ok (.iload_n 2, 1) := by decide +kernel
theorem dX10_isInMiddle_74 : decode cX10_isInMiddle 74 = .ok (.aload_n 0, 1) := by decide +kernel
theorem dX10_isInMiddle_75 : decode cX10_isInMiddle 75 = .ok (.getfield 94, 3) := by decide +kernel
theorem dX10_isInMiddle_78 : decode cX10_isInMiddle 78 = .ok (.aload_n 0, 1) := by decide +kernel
theorem dX10_isInMiddle_79 : decode cX10_isInMiddle 79 = .ok (.getfield 10, 3) := by decide +kernel
theorem dX10_isInMiddle_82 : decode cX10_isInMiddle 82 = .ok (.getfield 98, 3) := by decide +kernel
theorem dX10_isInMiddle_85 : decode cX10_isInMiddle 85 = .ok (.invokestatic 345, 3) := by decide +kernel
theorem dX10_isInMiddle_88 : decode cX10_isInMiddle 88 = .ok (.aload_n 0, 1) := by decide +kernel
theorem dX10_isInMiddle_89 : decode cX10_isInMiddle 89 = .ok (.getfield 90, 3) := by decide +kernel
theorem dX10_isInMiddle_92 : decode cX10_isInMiddle 92 = .ok (.aload_n 0, 1) := by decide +kernel
theorem dX10_isInMiddle_93 : decode cX10_isInMiddle 93 = .ok (.getfield 94, 3) := by decide +kernel
theorem dX10_isInMiddle_96 : decode cX10_isInMiddle 96 = .ok (.aload_n 0, 1) := by decide +kernel
theorem dX10_isInMiddle_97 : decode cX10_isInMiddle 97 = .ok (.getfield 10, 3) := by decide +kernel
theorem dX10_isInMiddle_100 : decode cX10_isInMiddle 100 = .ok (.invokevirtual 130, 3) := by decide +kernel
theorem dX10_isInMiddle_103 : decode cX10_isInMiddle 103 = .ok (.invokestatic 293, 3) := by decide +kernel
theorem dX10_isInMiddle_106 : decode cX10_isInMiddle 106 = .ok (.ifCond .ne 5, 3) := by decide +kernel
theorem dX10_isInMiddle_109 : decode cX10_isInMiddle 109 = .ok (.iconst 0, 1) := by decide +kernel
theorem dX10_isInMiddle_110 : decode cX10_isInMiddle 110 = .ok (.ireturn, 1) := by decide +kernel
theorem dX10_isInMiddle_111 : decode cX10_isInMiddle 111 = .ok (.iinc 3 1, 3) := by decide +kernel
theorem dX10_isInMiddle_114 : decode cX10_isInMiddle 114 = .ok (.goto (-103), 3) := by decide +kernel
theorem dX10_isInMiddle_117 : decode cX10_isInMiddle 117 = .ok (.iconst 1, 1) := by decide +kernel
theorem dX10_isInMiddle_118 : decode cX10_isInMiddle 118 = .ok (.ireturn, 1) := by decide +kernel
theorem dX10_isOfStart_0 : decode cX10_isOfStart 0 = .ok (.iload_n 0, 1) := by decide +kernel
theorem dX10_isOfStart_1 : decode cX10_isOfStart 1 = .ok (.sipush (-1000), 3) := by decide +kernel
theorem dX10_isOfStart_4 : decode cX10_isOfStart 4 = .ok (.if_icmp .lt 14, 3) := by decide +kernel
theorem dX10_isOfStart_7 : decode cX10_isOfStart 7 = .ok (.iload_n 0, 1) := by decide +kernel
theorem dX10_isOfStart_8 : decode cX10_isOfStart 8 = .ok (.sipush 1000, 3) := by decide +kernel
theorem dX10_isOfStart_11 : decode cX10_isOfStart 11 = .ok (.if_icmp .gt 7, 3) := by decide +kernel
theorem dX10_isOfStart_14 : decode cX10_isOfStart 14 = .ok (.iconst 1, 1) := by decide +kernel
theorem dX10_isOfStart_15 : decode cX10_isOfStart 15 = .ok (.goto 4, 3) := by decide +kernel
theorem dX10_isOfStart_18 : decode cX10_isOfStart 18 = .ok (.iconst 0, 1) := by decide +kernel
theorem dX10_isOfStart_19 : decode cX10_isOfStart 19 = .ok (.ireturn, 1) := by decide +kernel
theorem dX10_isPositiveForm_0 : decode cX10_isPositiveForm 0 = .ok (.aload_n 0, 1) := by decide +kernel
theorem dX10_isPositiveForm_1 : decode cX10_isPositiveForm 1 = .ok (.getfield 90, 3) := by decide +kernel
theorem dX10_isPositiveForm_4 : decode cX10_isPositiveForm 4 = .ok (.iconst 0, 1) := by decide +kernel
theorem dX10_isPositiveForm_5 : decode cX10_isPositiveForm 5 = .ok (.aload_n 0, 1) := by decide +kernel
theorem dX10_isPositiveForm_6 : decode cX10_isPositiveForm 6 = .ok (.getfield 94, 3) := by decide +kernel
theorem dX10_isPositiveForm_9 : decode cX10_isPositiveForm 9 = .ok (.aload_n 0, 1) := by decide +kernel
theorem dX10_isPositiveForm_10 : decode cX10_isPositiveForm 10 = .ok (.getfield 10, 3) := by decide +kernel
theorem dX10_isPositiveForm_13 : decode cX10_isPositiveForm 13 = .ok (.getfield 98, 3) := by decide +kernel
theorem dX10_isPositiveForm_16 : decode cX10_isPositiveForm 16 = .ok (.invokestatic 352, 3) := by decide +kernel
theorem dX10_isPositiveForm_19 : decode cX10_isPositiveForm 19 = .ok (.aload_n 0, 1) := by decide +kernel
theorem dX10_isPositiveForm_20 : decode cX10_isPositiveForm 20 = .ok (.getfield 90, 3) := by decide +kernel
theorem dX10_isPositiveForm_23 : decode cX10_isPositiveForm 23 = .ok (.aload_n 0, 1) := by decide +kernel
theorem dX10_isPositiveForm_24 : decode cX10_isPositiveForm 24 = .ok (.getfield 94, 3) := by decide +kernel
theorem dX10_isPositiveForm_27 : decode cX10_isPositiveForm 27 = .ok (.aload_n 0, 1) := by decide +kernel
theorem dX10_isPositiveForm_28 : decode cX10_isPositiveForm 28 = .ok (.getfield 10, 3) := by decide +kernel
theorem dX10_isPositiveForm_31 : decode cX10_isPositiveForm 31 = .ok (.invokevirtual 130, 3) := by decide +kernel
theorem dX10_isPositiveForm_34 : decode cX10_isPositiveForm 34 = .ok (.invokestatic 293, 3) := by decide +kernel
theorem dX10_isPositiveForm_37 : decode cX10_isPositiveForm 37 = .ok (.ifCond .ne 5, 3) := by decide +kernel
theorem dX10_isPositiveForm_40 : decode cX10_isPositiveForm 40 = .ok (.iconst 0, 1) := by decide +kernel
theorem dX10_isPositiveForm_41 : decode cX10_isPositiveForm 41 = .ok (.ireturn, 1) := by decide +kernel
theorem dX10_isPositiveForm_42 : decode cX10_isPositiveForm 42 = .ok (.iconst 1, 1) := by decide +kernel
theorem dX10_isPositiveForm_43 : decode cX10_isPositiveForm 43 = .ok (.istore_n 1, 1) := by decide +kernel
theorem dX10_isPositiveForm_44 : decode cX10_isPositiveForm 44 = .ok (.iload_n 1, 1) := by decide +kernel
theorem dX10_isPositiveForm_45 : decode cX10_isPositiveForm 45 = .ok (.aload_n 0, 1) := by decide +kernel
theorem dX10_isPositiveForm_46 : decode cX10_isPositiveForm 46 = .ok (.getfield 10, 3) := by decide +kernel
theorem dX10_isPositiveForm_49 : decode cX10_isPositiveForm 49 = .ok (.getfield 98, 3) := by decide +kernel
theorem dX10_isPositiveForm_52 : decode cX10_isPositiveForm 52 = .ok (.if_icmp .gt 32, 3) := by decide +kernel
theorem dX10_isPositiveForm_55 : decode cX10_isPositiveForm 55 = .ok (.aload_n 0, 1) := by decide +kernel
theorem dX10_isPositiveForm_56 : decode cX10_isPositiveForm 56 = .ok (.getfield 90, 3) := by decide +kernel
theorem dX10_isPositiveForm_59 : decode cX10_isPositiveForm 59 = .ok (.iconst 0, 1) := by decide +kernel
theorem dX10_isPositiveForm_60 : decode cX10_isPositiveForm 60 = .ok (.aload_n 0, 1) := by decide +kernel
theorem dX10_isPositiveForm_61 : decode cX10_isPositiveForm 61 = .ok (.getfield 10, 3) := by decide +kernel
theorem dX10_isPositiveForm_64 : decode cX10_isPositiveForm 64 = .ok (.getfield 98, 3) := by decide +kernel
theorem dX10_isPositiveForm_67 : decode cX10_isPositiveForm 67 = .ok (.iload_n 1, 1) := by decide +kernel
theorem dX10_isPositiveForm_68 : decode cX10_isPositiveForm 68 = .ok (.invokestatic 148, 3) := by decide +kernel
theorem dX10_isPositiveForm_71 : decode cX10_isPositiveForm 71 = .ok (.lconst 0, 1) := by decide +kernel
theorem dX10_isPositiveForm_72 : decode cX10_isPositiveForm 72 = .ok (.lcmp, 1) := by decide +kernel
theorem dX10_isPositiveForm_73 : decode cX10_isPositiveForm 73 = .ok (.ifCond .gt 5, 3) := by decide +kernel
theorem dX10_isPositiveForm_76 : decode cX10_isPositiveForm 76 = .ok (.iconst 0, 1) := by decide +kernel
theorem dX10_isPositiveForm_77 : decode cX10_isPositiveForm 77 = .ok (.ireturn, 1) := by decide +kernel
theorem dX10_isPositiveForm_78 : decode cX10_isPositiveForm 78 = .ok (.iinc 1 1, 3) := by decide +kernel
theorem dX10_isPositiveForm_81 : decode cX10_isPositiveForm 81 = .ok (.goto (-37), 3) := by decide +kernel
theorem dX10_isPositiveForm_84 : decode cX10_isPositiveForm 84 = .ok (.iconst 1, 1) := by decide +kernel
theorem dX10_isPositiveForm_85 : decode cX10_isPositiveForm 85 = .ok (.ireturn, 1) := by decide +kernel
theorem dX10_isPrimeTaken_0 : decode cX10_isPrimeTaken 0 = .ok (.iload_n 0, 1) := by decide +kernel
theorem dX10_isPrimeTaken_1 : decode cX10_isPrimeTaken 1 = .ok (.iconst 2, 1) := by decide +kernel
theorem dX10_isPrimeTaken_2 : decode cX10_isPrimeTaken 2 = .ok (.if_icmp .eq 19, 3) := by decide +kernel
theorem dX10_isPrimeTaken_5 : decode cX10_isPrimeTaken 5 = .ok (.iload_n 0, 1) := by decide +kernel
theorem dX10_isPrimeTaken_6 : decode cX10_isPrimeTaken 6 = .ok (.iconst 3, 1) := by decide +kernel
theorem dX10_isPrimeTaken_7 : decode cX10_isPrimeTaken 7 = .ok (.if_icmp .eq 14, 3) := by decide +kernel
theorem dX10_isPrimeTaken_10 : decode cX10_isPrimeTaken 10 = .ok (.iload_n 0, 1) := by decide +kernel
theorem dX10_isPrimeTaken_11 : decode cX10_isPrimeTaken 11 = .ok (.iconst 5, 1) := by decide +kernel
theorem dX10_isPrimeTaken_12 : decode cX10_isPrimeTaken 12 = .ok (.if_icmp .eq 9, 3) := by decide +kernel
theorem dX10_isPrimeTaken_15 : decode cX10_isPrimeTaken 15 = .ok (.iload_n 0, 1) := by decide +kernel
theorem dX10_isPrimeTaken_16 : decode cX10_isPrimeTaken 16 = .ok (.bipush 7, 2) := by decide +kernel
theorem dX10_isPrimeTaken_18 : decode cX10_isPrimeTaken 18 = .ok (.if_icmp .ne 7, 3) := by decide +kernel
theorem dX10_isPrimeTaken_21 : decode cX10_isPrimeTaken 21 = .ok (.iconst 1, 1) := by decide +kernel
theorem dX10_isPrimeTaken_22 : decode cX10_isPrimeTaken 22 = .ok (.goto 4, 3) := by decide +kernel
theorem dX10_isPrimeTaken_25 : decode cX10_isPrimeTaken 25 = .ok (.iconst 0, 1) := by decide +kernel
theorem dX10_isPrimeTaken_26 : decode cX10_isPrimeTaken 26 = .ok (.ireturn, 1) := by decide +kernel
theorem dX10_isSheet_0 : decode cX10_isSheet 0 = .ok (.iload_n 0, 1) := by decide +kernel
theorem dX10_isSheet_1 : decode cX10_isSheet 1 = .ok (.ifCond .lt 12, 3) := by decide +kernel
theorem dX10_isSheet_4 : decode cX10_isSheet 4 = .ok (.iload_n 0, 1) := by decide +kernel
theorem dX10_isSheet_5 : decode cX10_isSheet 5 = .ok (.iconst 4, 1) := by decide +kernel
theorem dX10_isSheet_6 : decode cX10_isSheet 6 = .ok (.if_icmp .ge 7, 3) := by decide +kernel
theorem dX10_isSheet_9 : decode cX10_isSheet 9 = .ok (.iconst 1, 1) := by decide +kernel
theorem dX10_isSheet_10 : decode cX10_isSheet 10 = .ok (.goto 4, 3) := by decide +kernel
theorem dX10_isSheet_13 : decode cX10_isSheet 13 = .ok (.iconst 0, 1) := by decide +kernel
theorem dX10_isSheet_14 : decode cX10_isSheet 14 = .ok (.ireturn, 1) := by decide +kernel
theorem dX10_isSort_0 : decode cX10_isSort 0 = .ok (.iload_n 0, 1) := by decide +kernel
theorem dX10_isSort_1 : decode cX10_isSort 1 = .ok (.ifCond .lt 12, 3) := by decide +kernel
theorem dX10_isSort_4 : decode cX10_isSort 4 = .ok (.iload_n 0, 1) := by decide +kernel
theorem dX10_isSort_5 : decode cX10_isSort 5 = .ok (.iconst 2, 1) := by decide +kernel
theorem dX10_isSort_6 : decode cX10_isSort 6 = .ok (.if_icmp .gt 7, 3) := by decide +kernel
theorem dX10_isSort_9 : decode cX10_isSort 9 = .ok (.iconst 1, 1) := by decide +kernel
theorem dX10_isSort_10 : decode cX10_isSort 10 = .ok (.goto 4, 3) := by decide +kernel
theorem dX10_isSort_13 : decode cX10_isSort 13 = .ok (.iconst 0, 1) := by decide +kernel
theorem dX10_isSort_14 : decode cX10_isSort 14 = .ok (.ireturn, 1) := by decide +kernel
theorem dX10_isStart_0 : decode cX10_isStart 0 = .ok (.iload_n 0, 1) := by decide +kernel
theorem dX10_isStart_1 : decode cX10_isStart 1 = .ok (.invokestatic 383, 3) := by decide +kernel
theorem dX10_isStart_4 : decode cX10_isStart 4 = .ok (.ifCond .eq 21, 3) := by decide +kernel
theorem dX10_isStart_7 : decode cX10_isStart 7 = .ok (.iload_n 1, 1) := by decide +kernel
theorem dX10_isStart_8 : decode cX10_isStart 8 = .ok (.invokestatic 383, 3) := by decide +kernel
theorem dX10_isStart_11 : decode cX10_isStart 11 = .ok (.ifCond .eq 14, 3) := by decide +kernel
theorem dX10_isStart_14 : decode cX10_isStart 14 = .ok (.iload_n 2, 1) := by decide +kernel
theorem dX10_isStart_15 : decode cX10_isStart 15 = .ok (.invokestatic 383, 3) := by decide +kernel
theorem dX10_isStart_18 : decode cX10_isStart 18 = .ok (.ifCond .eq 7, 3) := by decide +kernel
theorem dX10_isStart_21 : decode cX10_isStart 21 = .ok (.iconst 1, 1) := by decide +kernel
theorem dX10_isStart_22 : decode cX10_isStart 22 = .ok (.goto 4, 3) := by decide +kernel
theorem dX10_isStart_25 : decode cX10_isStart 25 = .ok (.iconst 0, 1) := by decide +kernel
theorem dX10_isStart_26 : decode cX10_isStart 26 = .ok (.ireturn, 1) := by decide +kernel
theorem dX10_item_0 : decode cX10_item 0 = .ok (.iload_n 1, 1) := by decide +kernel
theorem dX10_item_1 : decode cX10_item 1 = .ok (.invokestatic 303, 3) := by decide +kernel
theorem dX10_item_4 : decode cX10_item 4 = .ok (.ifCond .eq 10, 3) := by decide +kernel
theorem dX10_item_7 : decode cX10_item 7 = .ok (.iload_n 2, 1) := by decide +kernel
theorem dX10_item_8 : decode cX10_item 8 = .ok (.invokestatic 306, 3) := by decide +kernel
theorem dX10_item_11 : decode cX10_item 11 = .ok (.ifCond .ne 5, 3) := by decide +kernel
theorem dX10_item_14 : decode cX10_item 14 = .ok (.iconst (-1), 1) := by decide +kernel
theorem dX10_item_15 : decode cX10_item 15 = .ok (.ireturn, 1) := by decide +kernel
theorem dX10_item_16 : decode cX10_item 16 = .ok (.aload_n 0, 1) := by decide +kernel
theorem dX10_item_17 : decode cX10_item 17 = .ok (.getfield 32, 3) := by decide +kernel
theorem dX10_item_20 : decode cX10_item 20 = .ok (.iload_n 1, 1) := by decide +kernel
theorem dX10_item_21 : decode cX10_item 21 = .ok (.aaload, 1) := by decide +kernel
theorem dX10_item_22 : decode cX10_item 22 = .ok (.astore 4, 2) := by decide +kernel
theorem dX10_item_24 : decode cX10_item 24 = .ok (.aload 4, 2) := by decide +kernel
theorem dX10_item_26 : decode cX10_item 26 = .ok (.invokevirtual 312, 3) := by decide +kernel
theorem dX10_item_29 : decode cX10_item 29 = .ok (.ifCond .eq 6, 3) := by decide +kernel
theorem dX10_item_32 : decode cX10_item 32 = .ok (.bipush (-11), 2) := by decide +kernel
theorem dX10_item_34 : decode cX10_item 34 = .ok (.ireturn, 1) := by decide +kernel
theorem dX10_item_35 : decode cX10_item 35 = .ok (.aload 4, 2) := by decide +kernel
theorem dX10_item_37 : decode cX10_item 37 = .ok (.getfield 322, 3) := by decide +kernel
theorem dX10_item_40 : decode cX10_item 40 = .ok (.iload_n 2, 1) := by decide +kernel
theorem dX10_item_41 : decode cX10_item 41 = .ok (.if_icmp .eq 6, 3) := by decide +kernel
theorem dX10_item_44 : decode cX10_item 44 = .ok (.bipush (-13), 2) := by decide +kernel
theorem dX10_item_46 : decode cX10_item 46 = .ok (.ireturn, 1) := by decide +kernel
theorem dX10_item_47 : decode cX10_item 47 = .ok (.aload 4, 2) := by decide +kernel
theorem dX10_item_49 : decode cX10_item 49 = .ok (.iload_n 3, 1) := by decide +kernel
theorem dX10_item_50 : decode cX10_item 50 = .ok (.iconst 1, 1) := by decide +kernel
theorem dX10_item_51 : decode cX10_item 51 = .ok (.invokevirtual 315, 3) := by decide +kernel
theorem dX10_item_54 : decode cX10_item 54 = .ok (.ifCond .eq 6, 3) := by decide +kernel
theorem dX10_item_57 : decode cX10_item 57 = .ok (.bipush (-12), 2) := by decide +kernel
theorem dX10_item_59 : decode cX10_item 59 = .ok (.ireturn, 1) := by decide +kernel
theorem dX10_item_60 : decode cX10_item 60 = .ok (.aload 4, 2) := by decide +kernel
theorem dX10_item_62 : decode cX10_item 62 = .ok (.getfield 250, 3) := by decide +kernel
theorem dX10_item_65 : decode cX10_item 65 = .ok (.iload_n 3, 1) := by decide +kernel
theorem dX10_item_66 : decode cX10_item 66 = .ok (.laload, 1) := by decide +kernel
theorem dX10_item_67 : decode cX10_item 67 = .ok (.l2i, 1) := by decide +kernel
theorem dX10_item_68 : decode cX10_item 68 = .ok (.ireturn, 1) := by decide +kernel
theorem dX10_keep_0 : decode cX10_keep 0 = .ok (.aload_n 0, 1) := by decide +kernel
theorem dX10_keep_1 : decode cX10_keep 1 = .ok (.getfield 16, 3) := by decide +kernel
theorem dX10_keep_4 : decode cX10_keep 4 = .ok (.aload_n 0, 1) := by decide +kernel
theorem dX10_keep_5 : decode cX10_keep 5 = .ok (.getfield 10, 3) := by decide +kernel
theorem dX10_keep_8 : decode cX10_keep 8 = .ok (.invokevirtual 329, 3) := by decide +kernel
theorem dX10_keep_11 : decode cX10_keep 11 = .ok (.aload_n 0, 1) := by decide +kernel
theorem dX10_keep_12 : decode cX10_keep 12 = .ok (.iconst 1, 1) := by decide +kernel
theorem dX10_keep_13 : decode cX10_keep 13 = .ok (.putfield 19, 3) := by decide +kernel
theorem dX10_keep_16 : decode cX10_keep 16 = .ok (.iconst 1, 1) := by decide +kernel
theorem dX10_keep_17 : decode cX10_keep 17 = .ok (.ireturn, 1) := by decide +kernel
theorem dX10_keeps_0 : decode cX10_keeps 0 = .ok (.aload_n 0, 1) := by decide +kernel
theorem dX10_keeps_1 : decode cX10_keeps 1 = .ok (.iload_n 1, 1) := by decide +kernel
theorem dX10_keeps_2 : decode cX10_keeps 2 = .ok (.iload_n 2, 1) := by decide +kernel
theorem dX10_keeps_3 : decode cX10_keeps 3 = .ok (.iconst 0, 1) := by decide +kernel
theorem dX10_keeps_4 : decode cX10_keeps 4 = .ok (.invokevirtual 247, 3) := by decide +kernel
theorem dX10_keeps_7 : decode cX10_keeps 7 = .ok (.istore_n 3, 1) := by decide +kernel
theorem dX10_keeps_8 : decode cX10_keeps 8 = .ok (.iload_n 3, 1) := by decide +kernel
theorem dX10_keeps_9 : decode cX10_keeps 9 = .ok (.ifCond .eq 5, 3) := by decide +kernel
theorem dX10_keeps_12 : decode cX10_keeps 12 = .ok (.iload_n 3, 1) := by decide +kernel
theorem dX10_keeps_13 : decode cX10_keeps 13 = .ok (.ireturn, 1) := by decide +kernel
theorem dX10_keeps_14 : decode cX10_keeps 14 = .ok (.aload_n 0, 1) := by decide +kernel
theorem dX10_keeps_15 : decode cX10_keeps 15 = .ok (.getfield 32, 3) := by decide +kernel
theorem dX10_keeps_18 : decode cX10_keeps 18 = .ok (.iload_n 1, 1) := by decide +kernel
theorem dX10_keeps_19 : decode cX10_keeps 19 = .ok (.aaload, 1) := by decide +kernel
theorem dX10_keeps_20 : decode cX10_keeps 20 = .ok (.getfield 250, 3) := by decide +kernel
theorem dX10_keeps_23 : decode cX10_keeps 23 = .ok (.iload_n 2, 1) := by decide +kernel
theorem dX10_keeps_24 : decode cX10_keeps 24 = .ok (.aload_n 0, 1) := by decide +kernel
theorem dX10_keeps_25 : decode cX10_keeps 25 = .ok (.getfield 90, 3) := by decide +kernel
theorem dX10_keeps_28 : decode cX10_keeps 28 = .ok (.iconst 0, 1) := by decide +kernel
theorem dX10_keeps_29 : decode cX10_keeps 29 = .ok (.aload_n 0, 1) := by decide +kernel
theorem dX10_keeps_30 : decode cX10_keeps 30 = .ok (.getfield 10, 3) := by decide +kernel
theorem dX10_keeps_33 : decode cX10_keeps 33 = .ok (.invokevirtual 130, 3) := by decide +kernel
theorem dX10_keeps_36 : decode cX10_keeps 36 = .ok (.invokestatic 189, 3) := by decide +kernel
theorem dX10_keeps_39 : decode cX10_keeps 39 = .ok (.aload_n 0, 1) := by decide +kernel
theorem dX10_keeps_40 : decode cX10_keeps 40 = .ok (.getfield 90, 3) := by decide +kernel
theorem dX10_keeps_43 : decode cX10_keeps 43 = .ok (.aload_n 0, 1) := by decide +kernel
theorem dX10_keeps_44 : decode cX10_keeps 44 = .ok (.getfield 10, 3) := by decide +kernel
theorem dX10_keeps_47 : decode cX10_keeps 47 = .ok (.invokevirtual 130, 3) := by decide +kernel
theorem dX10_keeps_50 : decode cX10_keeps 50 = .ok (.ldc2_w 251, 3) := by decide +kernel
theorem dX10_keeps_53 : decode cX10_keeps 53 = .ok (.invokestatic 136, 3) := by decide +kernel
theorem dX10_keeps_56 : decode cX10_keeps 56 = .ok (.ifCond .ne 6, 3) := by decide +kernel
theorem dX10_keeps_59 : decode cX10_keeps 59 = .ok (.bipush (-16), 2) := by decide +kernel
theorem dX10_keeps_61 : decode cX10_keeps 61 = .ok (.ireturn, 1) := by decide +kernel
theorem dX10_keeps_62 : decode cX10_keeps 62 = .ok (.aload_n 0, 1) := by decide +kernel
theorem dX10_keeps_63 : decode cX10_keeps 63 = .ok (.invokevirtual 253, 3) := by decide +kernel
theorem dX10_keeps_66 : decode cX10_keeps 66 = .ok (.ifCond .eq 14, 3) := by decide +kernel
theorem dX10_keeps_69 : decode cX10_keeps 69 = .ok (.aload_n 0, 1) := by decide +kernel
theorem dX10_keeps_70 : decode cX10_keeps 70 = .ok (.invokevirtual 256, 3) := by decide +kernel
theorem dX10_keeps_73 : decode cX10_keeps 73 = .ok (.ifCond .eq 7, 3) := by decide +kernel
theorem dX10_keeps_76 : decode cX10_keeps 76 = .ok (.iconst 1, 1) := by decide +kernel
theorem dX10_keeps_77 : decode cX10_keeps 77 = .ok (.goto 4, 3) := by decide +kernel
theorem dX10_keeps_80 : decode cX10_keeps 80 = .ok (.iconst 0, 1) := by decide +kernel
theorem dX10_keeps_81 : decode cX10_keeps 81 = .ok (.ireturn, 1) := by decide +kernel
theorem dX10_lay_0 : decode cX10_lay 0 = .ok (.aload_n 0, 1) := by decide +kernel
theorem dX10_lay_1 : decode cX10_lay 1 = .ok (.invokevirtual 195, 3) := by decide +kernel
theorem dX10_lay_4 : decode cX10_lay 4 = .ok (.aload_n 0, 1) := by decide +kernel
theorem dX10_lay_5 : decode cX10_lay 5 = .ok (.getfield 41, 3) := by decide +kernel
theorem dX10_lay_8 : decode cX10_lay 8 = .ok (.iload_n 1, 1) := by decide +kernel
theorem dX10_lay_9 : decode cX10_lay 9 = .ok (.invokevirtual 202, 3) := by decide +kernel
theorem dX10_lay_12 : decode cX10_lay 12 = .ok (.ifCond .ne 5, 3) := by decide +kernel
theorem dX10_lay_15 : decode cX10_lay 15 = .ok (.iconst (-1), 1) := by decide +kernel
theorem dX10_lay_16 : decode cX10_lay 16 = .ok (.ireturn, 1) := by decide +kernel
theorem dX10_lay_17 : decode cX10_lay 17 = .ok (.aload_n 0, 1) := by decide +kernel
theorem dX10_lay_18 : decode cX10_lay 18 = .ok (.iload_n 2, 1) := by decide +kernel
theorem dX10_lay_19 : decode cX10_lay 19 = .ok (.iload_n 3, 1) := by decide +kernel
theorem dX10_lay_20 : decode cX10_lay 20 = .ok (.iconst 1, 1) := by decide +kernel
theorem dX10_lay_21 : decode cX10_lay 21 = .ok (.invokevirtual 247, 3) := by decide +kernel
theorem dX10_lay_24 : decode cX10_lay 24 = .ok (.istore 4, 2) := by decide +kernel
theorem dX10_lay_26 : decode cX10_lay 26 = .ok (.iload 4, 2) := by decide +kernel
theorem dX10_lay_28 : decode cX10_lay 28 = .ok (.ifCond .eq 6, 3) := by decide +kernel
theorem dX10_lay_31 : decode cX10_lay 31 = .ok (.iload 4, 2) := by decide +kernel
theorem dX10_lay_33 : decode cX10_lay 33 = .ok (.ireturn, 1) := by decide +kernel
theorem dX10_lay_34 : decode cX10_lay 34 = .ok (.aload_n 0, 1) := by decide +kernel
theorem dX10_lay_35 : decode cX10_lay 35 = .ok (.getfield 41, 3) := by decide +kernel
theorem dX10_lay_38 : decode cX10_lay 38 = .ok (.getfield 207, 3) := by decide +kernel
theorem dX10_lay_41 : decode cX10_lay 41 = .ok (.aload_n 0, 1) := by decide +kernel
theorem dX10_lay_42 : decode cX10_lay 42 = .ok (.getfield 41, 3) := by decide +kernel
theorem dX10_lay_45 : decode cX10_lay 45 = .ok (.iload_n 1, 1) := by decide +kernel
theorem dX10_lay_46 : decode cX10_lay 46 = .ok (.invokevirtual 208, 3) := by decide +kernel
theorem dX10_lay_49 : decode cX10_lay 49 = .ok (.aload_n 0, 1) := by decide +kernel
theorem dX10_lay_50 : decode cX10_lay 50 = .ok (.getfield 32, 3) := by decide +kernel
theorem dX10_lay_53 : decode cX10_lay 53 = .ok (.iload_n 2, 1) := by decide +kernel
theorem dX10_lay_54 : decode cX10_lay 54 = .ok (.aaload, 1) := by decide +kernel
theorem dX10_lay_55 : decode cX10_lay 55 = .ok (.getfield 250, 3) := by decide +kernel
theorem dX10_lay_58 : decode cX10_lay 58 = .ok (.iload_n 3, 1) := by decide +kernel
theorem dX10_lay_59 : decode cX10_lay 59 = .ok (.aload_n 0, 1) := by decide +kernel
theorem dX10_lay_60 : decode cX10_lay 60 = .ok (.getfield 10, 3) := by decide +kernel
theorem dX10_lay_63 : decode cX10_lay 63 = .ok (.invokevirtual 130, 3) := by decide +kernel
theorem dX10_lay_66 : decode cX10_lay 66 = .ok (.invokestatic 189, 3) := by decide +kernel
theorem dX10_lay_69 : decode cX10_lay 69 = .ok (.aload_n 0, 1) := by decide +kernel
theorem dX10_lay_70 : decode cX10_lay 70 = .ok (.getfield 10, 3) := by decide +kernel
theorem dX10_lay_73 : decode cX10_lay 73 = .ok (.invokevirtual 130, 3) := by decide +kernel
theorem dX10_lay_76 : decode cX10_lay 76 = .ok (.ireturn, 1) := by decide +kernel
theorem dX10_listAll_0 : decode cX10_listAll 0 = .ok (.aload_n 0, 1) := by decide +kernel
theorem dX10_listAll_1 : decode cX10_listAll 1 = .ok (.getfield 45, 3) := by decide +kernel
theorem dX10_listAll_4 : decode cX10_listAll 4 = .ok (.ifCond .eq 4, 3) := by decide +kernel
theorem dX10_listAll_7 : decode cX10_listAll 7 = .ok (.return_, 1) := by decide +kernel
theorem dX10_listAll_8 : decode cX10_listAll 8 = .ok (.aload_n 0, 1) := by decide +kernel
theorem dX10_listAll_9 : decode cX10_listAll 9 = .ok (.getfield 90, 3) := by decide +kernel
theorem dX10_listAll_12 : decode cX10_listAll 12 = .ok (.aload_n 0, 1) := by decide +kernel
theorem dX10_listAll_13 : decode cX10_listAll 13 = .ok (.getfield 10, 3) := by decide +kernel
theorem dX10_listAll_16 : decode cX10_listAll 16 = .ok (.getfield 98, 3) := by decide +kernel
theorem dX10_listAll_19 : decode cX10_listAll 19 = .ok (.invokestatic 339, 3) := by decide +kernel
theorem dX10_listAll_22 : decode cX10_listAll 22 = .ok (.aload_n 0, 1) := by decide +kernel
theorem dX10_listAll_23 : decode cX10_listAll 23 = .ok (.getfield 41, 3) := by decide +kernel
theorem dX10_listAll_26 : decode cX10_listAll 26 = .ok (.aload_n 0, 1) := by decide +kernel
theorem dX10_listAll_27 : decode cX10_listAll 27 = .ok (.getfield 10, 3) := by decide +kernel
theorem dX10_listAll_30 : decode cX10_listAll 30 = .ok (.invokevirtual 130, 3) := by decide +kernel
theorem dX10_listAll_33 : decode cX10_listAll 33 = .ok (.bipush 100, 2) := by decide +kernel
theorem dX10_listAll_35 : decode cX10_listAll 35 = .ok (.invokevirtual 275, 3) := by decide +kernel
theorem dX10_listAll_38 : decode cX10_listAll 38 = .ok (.aload_n 0, 1) := by decide +kernel
theorem dX10_listAll_39 : decode cX10_listAll 39 = .ok (.getfield 41, 3) := by decide +kernel
theorem dX10_listAll_42 : decode cX10_listAll 42 = .ok (.aload_n 0, 1) := by decide +kernel
theorem dX10_listAll_43 : decode cX10_listAll 43 = .ok (.getfield 90, 3) := by decide +kernel
theorem dX10_listAll_46 : decode cX10_listAll 46 = .ok (.bipush (-3), 2) := by decide +kernel
theorem dX10_listAll_48 : decode cX10_listAll 48 = .ok (.bipush (-3), 2) := by decide +kernel
theorem dX10_listAll_50 : decode cX10_listAll 50 = .ok (.invokevirtual 279, 3) := by decide +kernel
theorem dX10_listAll_53 : decode cX10_listAll 53 = .ok (.pop, 1) := by decide +kernel
theorem dX10_listAll_54 : decode cX10_listAll 54 = .ok (.aload_n 0, 1) := by decide +kernel
theorem dX10_listAll_55 : decode cX10_listAll 55 = .ok (.getfield 70, 3) := by decide +kernel
theorem dX10_listAll_58 : decode cX10_listAll 58 = .ok (.iconst 0, 1) := by decide +kernel
theorem dX10_listAll_59 : decode cX10_listAll 59 = .ok (.putfield 364, 3) := by decide +kernel
theorem dX10_listAll_62 : decode cX10_listAll 62 = .ok (.aload_n 0, 1) := by decide +kernel
theorem dX10_listAll_63 : decode cX10_listAll 63 = .ok (.getfield 41, 3) := by decide +kernel
theorem dX10_listAll_66 : decode cX10_listAll 66 = .ok (.aload_n 0, 1) := by decide +kernel
theorem dX10_listAll_67 : decode cX10_listAll 67 = .ok (.getfield 70, 3) := by decide +kernel
theorem dX10_listAll_70 : decode cX10_listAll 70 = .ok (.aload_n 0, 1) := by decide +kernel
theorem dX10_listAll_71 : decode cX10_listAll 71 = .ok (.getfield 10, 3) := by decide +kernel
theorem dX10_listAll_74 : decode cX10_listAll 74 = .ok (.getfield 101, 3) := by decide +kernel
theorem dX10_listAll_77 : decode cX10_listAll 77 = .ok (.invokevirtual 282, 3) := by decide +kernel
theorem dX10_listAll_80 : decode cX10_listAll 80 = .ok (.aload_n 0, 1) := by decide +kernel
theorem dX10_listAll_81 : decode cX10_listAll 81 = .ok (.iconst 1, 1) := by decide +kernel
theorem dX10_listAll_82 : decode cX10_listAll 82 = .ok (.putfield 45, 3) := by decide +kernel
theorem dX10_listAll_85 : decode cX10_listAll 85 = .ok (.return_, 1) := by decide +kernel
theorem dX10_listed_0 : decode cX10_listed 0 = .ok (.aload_n 0, 1) := by decide +kernel
theorem dX10_listed_1 : decode cX10_listed 1 = .ok (.invokevirtual 195, 3) := by decide +kernel
theorem dX10_listed_4 : decode cX10_listed 4 = .ok (.aload_n 0, 1) := by decide +kernel
theorem dX10_listed_5 : decode cX10_listed 5 = .ok (.getfield 41, 3) := by decide +kernel
theorem dX10_listed_8 : decode cX10_listed 8 = .ok (.getfield 198, 3) := by decide +kernel
theorem dX10_listed_11 : decode cX10_listed 11 = .ok (.ireturn, 1) := by decide +kernel
theorem dX10_lot_0 : decode cX10_lot 0 = .ok (.iload_n 1, 1) := by decide +kernel
theorem dX10_lot_1 : decode cX10_lot 1 = .ok (.iconst 1, 1) := by decide +kernel
theorem dX10_lot_2 : decode cX10_lot 2 = .ok (.if_icmp .lt 8, 3) := by decide +kernel
theorem dX10_lot_5 : decode cX10_lot 5 = .ok (.iload_n 1, 1) := by decide +kernel
theorem dX10_lot_6 : decode cX10_lot 6 = .ok (.iconst 4, 1) := by decide +kernel
theorem dX10_lot_7 : decode cX10_lot 7 = .ok (.if_icmp .le 5, 3) := by decide +kernel
theorem dX10_lot_10 : decode cX10_lot 10 = .ok (.iconst (-1), 1) := by decide +kernel
theorem dX10_lot_11 : decode cX10_lot 11 = .ok (.ireturn, 1) := by decide +kernel
theorem dX10_lot_12 : decode cX10_lot 12 = .ok (.iconst 0, 1) := by decide +kernel
theorem dX10_lot_13 : decode cX10_lot 13 = .ok (.istore_n 2, 1) := by decide +kernel
theorem dX10_lot_14 : decode cX10_lot 14 = .ok (.iload_n 2, 1) := by decide +kernel
theorem dX10_lot_15 : decode cX10_lot 15 = .ok (.iload_n 1, 1) := by decide +kernel
theorem dX10_lot_16 : decode cX10_lot 16 = .ok (.if_icmp .ge 85, 3) := by decide +kernel
theorem dX10_lot_19 : decode cX10_lot 19 = .ok (.aload_n 0, 1) := by decide +kernel
theorem dX10_lot_20 : decode cX10_lot 20 = .ok (.getfield 10, 3) := by decide +kernel
theorem dX10_lot_23 : decode cX10_lot 23 = .ok (.invokevirtual 115, 3) := by decide +kernel
theorem dX10_lot_26 : decode cX10_lot 26 = .ok (.ifCond .ne 75, 3) := by decide +kernel
theorem dX10_lot_29 : decode cX10_lot 29 = .ok (.aload_n 0, 1) := by decide +kernel
theorem dX10_lot_30 : decode cX10_lot 30 = .ok (.getfield 10, 3) := by decide +kernel
theorem dX10_lot_33 : decode cX10_lot 33 = .ok (.invokevirtual 300, 3) := by decide +kernel
theorem dX10_lot_36 : decode cX10_lot 36 = .ok (.aload_n 0, 1) := by decide +kernel
theorem dX10_lot_37 : decode cX10_lot 37 = .ok (.getfield 10, 3) := by decide +kernel
theorem dX10_lot_40 : decode cX10_lot 40 = .ok (.getfield 98, 3) := by decide +kernel
theorem dX10_lot_43 : decode cX10_lot 43 = .ok (.irem, 1) := by decide +kernel
theorem dX10_lot_44 : decode cX10_lot 44 = .ok (.istore_n 3, 1) := by decide +kernel
theorem dX10_lot_45 : decode cX10_lot 45 = .ok (.aload_n 0, 1) := by decide +kernel
theorem dX10_lot_46 : decode cX10_lot 46 = .ok (.getfield 10, 3) := by decide +kernel
theorem dX10_lot_49 : decode cX10_lot 49 = .ok (.invokevirtual 300, 3) := by decide +kernel
theorem dX10_lot_52 : decode cX10_lot 52 = .ok (.aload_n 0, 1) := by decide +kernel
theorem dX10_lot_53 : decode cX10_lot 53 = .ok (.getfield 10, 3) := by decide +kernel
theorem dX10_lot_56 : decode cX10_lot 56 = .ok (.getfield 98, 3) := by decide +kernel
theorem dX10_lot_59 : decode cX10_lot 59 = .ok (.irem, 1) := by decide +kernel
theorem dX10_lot_60 : decode cX10_lot 60 = .ok (.istore 4, 2) := by decide +kernel
theorem dX10_lot_62 : decode cX10_lot 62 = .ok (.aload_n 0, 1) := by decide +kernel
theorem dX10_lot_63 : decode cX10_lot 63 = .ok (.getfield 10, 3) := by decide +kernel
theorem dX10_lot_66 : decode cX10_lot 66 = .ok (.invokevirtual 300, 3) := by decide +kernel
theorem dX10_lot_69 : decode cX10_lot 69 = .ok (.iconst 5, 1) := by decide +kernel
theorem dX10_lot_70 : decode cX10_lot 70 = .ok (.irem, 1) := by decide +kernel
theorem dX10_lot_71 : decode cX10_lot 71 = .ok (.iconst 2, 1) := by decide +kernel
theorem dX10_lot_72 : decode cX10_lot 72 = .ok (.isub, 1) := by decide +kernel
theorem dX10_lot_73 : decode cX10_lot 73 = .ok (.istore 5, 2) := by decide +kernel
theorem dX10_lot_75 : decode cX10_lot 75 = .ok (.aload_n 0, 1) := by decide +kernel
theorem dX10_lot_76 : decode cX10_lot 76 = .ok (.iload_n 3, 1) := by decide +kernel
theorem dX10_lot_77 : decode cX10_lot 77 = .ok (.iload 4, 2) := by decide +kernel
theorem dX10_lot_79 : decode cX10_lot 79 = .ok (.iload_n 3, 1) := by decide +kernel
theorem dX10_lot_80 : decode cX10_lot 80 = .ok (.iload 4, 2) := by decide +kernel
theorem dX10_lot_82 : decode cX10_lot 82 = .ok (.if_icmp .ne 7, 3) := by decide +kernel
theorem dX10_lot_85 : decode cX10_lot 85 = .ok (.iconst (-1), 1) := by decide +kernel
theorem dX10_lot_86 : decode cX10_lot 86 = .ok (.goto 5, 3) := by decide +kernel
theorem dX10_lot_89 : decode cX10_lot 89 = .ok (.iload 5, 2) := by decide +kernel
theorem dX10_lot_91 : decode cX10_lot 91 = .ok (.invokevirtual 119, 3) := by decide +kernel
theorem dX10_lot_94 : decode cX10_lot 94 = .ok (.pop, 1) := by decide +kernel
theorem dX10_lot_95 : decode cX10_lot 95 = .ok (.iinc 2 1, 3) := by decide +kernel
theorem dX10_lot_98 : decode cX10_lot 98 = .ok (.goto (-84), 3) := by decide +kernel
theorem dX10_lot_101 : decode cX10_lot 101 = .ok (.iload_n 2, 1) := by decide +kernel
theorem dX10_lot_102 : decode cX10_lot 102 = .ok (.ireturn, 1) := by decide +kernel
theorem dX10_made_0 : decode cX10_made 0 = .ok (.iload_n 1, 1) := by decide +kernel
theorem dX10_made_1 : decode cX10_made 1 = .ok (.ifCond .lt 34, 3) := by decide +kernel
theorem dX10_made_4 : decode cX10_made 4 = .ok (.iload_n 1, 1) := by decide +kernel
theorem dX10_made_5 : decode cX10_made 5 = .ok (.iconst 3, 1) := by decide +kernel
theorem dX10_made_6 : decode cX10_made 6 = .ok (.if_icmp .gt 29, 3) := by decide +kernel
theorem dX10_made_9 : decode cX10_made 9 = .ok (.aload_n 0, 1) := by decide +kernel
theorem dX10_made_10 : decode cX10_made 10 = .ok (.getfield 10, 3) := by decide +kernel
theorem dX10_made_13 : decode cX10_made 13 = .ok (.iload_n 2, 1) := by decide +kernel
theorem dX10_made_14 : decode cX10_made 14 = .ok (.invokevirtual 123, 3) := by decide +kernel
theorem dX10_made_17 : decode cX10_made 17 = .ok (.ifCond .eq 18, 3) := by decide +kernel
theorem dX10_made_20 : decode cX10_made 20 = .ok (.iload_n 1, 1) := by decide +kernel
theorem dX10_made_21 : decode cX10_made 21 = .ok (.ifCond .ne 16, 3) := by decide +kernel
theorem dX10_made_24 : decode cX10_made 24 = .ok (.aload_n 0, 1) := by decide +kernel
theorem dX10_made_25 : decode cX10_made 25 = .ok (.getfield 10, 3) := by decide +kernel
theorem dX10_made_28 : decode cX10_made 28 = .ok (.iload_n 3, 1) := by decide +kernel
theorem dX10_made_29 : decode cX10_made 29 = .ok (.invokevirtual 123, 3) := by decide +kernel
theorem dX10_made_32 : decode cX10_made 32 = .ok (.ifCond .ne 5, 3) := by decide +kernel
theorem dX10_made_35 : decode cX10_made 35 = .ok (.iconst (-1), 1) := by decide +kernel
theorem dX10_made_36 : decode cX10_made 36 = .ok (.ireturn, 1) := by decide +kernel
theorem dX10_made_37 : decode cX10_made 37 = .ok (.aload_n 0, 1) := by decide +kernel
theorem dX10_made_38 : decode cX10_made 38 = .ok (.getfield 10, 3) := by decide +kernel
theorem dX10_made_41 : decode cX10_made 41 = .ok (.invokevirtual 115, 3) := by decide +kernel
theorem dX10_made_44 : decode cX10_made 44 = .ok (.ifCond .eq 6, 3) := by decide +kernel
theorem dX10_made_47 : decode cX10_made 47 = .ok (.bipush (-2), 2) := by decide +kernel
theorem dX10_made_49 : decode cX10_made 49 = .ok (.ireturn, 1) := by decide +kernel
theorem dX10_made_50 : decode cX10_made 50 = .ok (.aload_n 0, 1) := by decide +kernel
theorem dX10_made_51 : decode cX10_made 51 = .ok (.iload_n 1, 1) := by decide +kernel
theorem dX10_made_52 : decode cX10_made 52 = .ok (.iload_n 2, 1) := by decide +kernel
theorem dX10_made_53 : decode cX10_made 53 = .ok (.iload_n 3, 1) := by decide +kernel
theorem dX10_made_54 : decode cX10_made 54 = .ok (.invokevirtual 127, 3) := by decide +kernel
theorem dX10_made_57 : decode cX10_made 57 = .ok (.aload_n 0, 1) := by decide +kernel
theorem dX10_made_58 : decode cX10_made 58 = .ok (.getfield 90, 3) := by decide +kernel
theorem dX10_made_61 : decode cX10_made 61 = .ok (.aload_n 0, 1) := by decide +kernel
theorem dX10_made_62 : decode cX10_made 62 = .ok (.getfield 10, 3) := by decide +kernel
theorem dX10_made_65 : decode cX10_made 65 = .ok (.invokevirtual 130, 3) := by decide +kernel
theorem dX10_made_68 : decode cX10_made 68 = .ok (.ldc2_w 134, 3) := by decide +kernel
theorem dX10_made_71 : decode cX10_made 71 = .ok (.invokestatic 136, 3) := by decide +kernel
theorem dX10_made_74 : decode cX10_made 74 = .ok (.ifCond .ne 6, 3) := by decide +kernel
theorem dX10_made_77 : decode cX10_made 77 = .ok (.bipush (-16), 2) := by decide +kernel
theorem dX10_made_79 : decode cX10_made 79 = .ok (.ireturn, 1) := by decide +kernel
theorem dX10_made_80 : decode cX10_made 80 = .ok (.aload_n 0, 1) := by decide +kernel
theorem dX10_made_81 : decode cX10_made 81 = .ok (.invokevirtual 142, 3) := by decide +kernel
theorem dX10_made_84 : decode cX10_made 84 = .ok (.ireturn, 1) := by decide +kernel
theorem dX10_makeOf_0 : decode cX10_makeOf 0 = .ok (.iload_n 2, 1) := by decide +kernel
theorem dX10_makeOf_1 : decode cX10_makeOf 1 = .ok (.bipush 9, 2) := by decide +kernel
theorem dX10_makeOf_3 : decode cX10_makeOf 3 = .ok (.imul, 1) := by decide +kernel
theorem dX10_makeOf_4 : decode cX10_makeOf 4 = .ok (.istore 4, 2) := by decide +kernel
theorem dX10_makeOf_6 : decode cX10_makeOf 6 = .ok (.iload_n 1, 1) := by decide +kernel
theorem dX10_makeOf_7 : decode cX10_makeOf 7 = .ok (.ifCond .ne 40, 3) := by decide +kernel
theorem dX10_makeOf_10 : decode cX10_makeOf 10 = .ok (.aload_n 0, 1) := by decide +kernel
theorem dX10_makeOf_11 : decode cX10_makeOf 11 = .ok (.getfield 10, 3) := by decide +kernel
theorem dX10_makeOf_14 : decode cX10_makeOf 14 = .ok (.getfield 145, 3) := by decide +kernel
theorem dX10_makeOf_17 : decode cX10_makeOf 17 = .ok (.iload 4, 2) := by decide +kernel
theorem dX10_makeOf_19 : decode cX10_makeOf 19 = .ok (.aload_n 0, 1) := by decide +kernel
theorem dX10_makeOf_20 : decode cX10_makeOf 20 = .ok (.getfield 10, 3) := by decide +kernel
theorem dX10_makeOf_23 : decode cX10_makeOf 23 = .ok (.getfield 145, 3) := by decide +kernel
theorem dX10_makeOf_26 : decode cX10_makeOf 26 = .ok (.iload_n 3, 1) := by decide +kernel
theorem dX10_makeOf_27 : decode cX10_makeOf 27 = .ok (.bipush 9, 2) := by decide +kernel
theorem dX10_makeOf_29 : decode cX10_makeOf 29 = .ok (.imul, 1) := by decide +kernel
theorem dX10_makeOf_30 : decode cX10_makeOf 30 = .ok (.aload_n 0, 1) := by decide +kernel
theorem dX10_makeOf_31 : decode cX10_makeOf 31 = .ok (.getfield 90, 3) := by decide +kernel
theorem dX10_makeOf_34 : decode cX10_makeOf 34 = .ok (.aload_n 0, 1) := by decide +kernel
theorem dX10_makeOf_35 : decode cX10_makeOf 35 = .ok (.getfield 10, 3) := by decide +kernel
theorem dX10_makeOf_38 : decode cX10_makeOf 38 = .ok (.getfield 98, 3) := by decide +kernel
theorem dX10_makeOf_41 : decode cX10_makeOf 41 = .ok (.invokestatic 345, 3) := by decide +kernel
theorem dX10_makeOf_44 : decode cX10_makeOf 44 = .ok (.goto 88, 3) := by decide +kernel
theorem dX10_makeOf_47 : decode cX10_makeOf 47 = .ok (.iload_n 1, 1) := by decide +kernel
theorem dX10_makeOf_48 : decode cX10_makeOf 48 = .ok (.iconst 1, 1) := by decide +kernel
theorem dX10_makeOf_49 : decode cX10_makeOf 49 = .ok (.if_icmp .ne 29, 3) := by decide +kernel
theorem dX10_makeOf_52 : decode cX10_makeOf 52 = .ok (.aload_n 0, 1) := by decide +kernel
theorem dX10_makeOf_53 : decode cX10_makeOf 53 = .ok (.getfield 10, 3) := by decide +kernel
theorem dX10_makeOf_56 : decode cX10_makeOf 56 = .ok (.getfield 145, 3) := by decide +kernel
theorem dX10_makeOf_59 : decode cX10_makeOf 59 = .ok (.iload 4, 2) := by decide +kernel
theorem dX10_makeOf_61 : decode cX10_makeOf 61 = .ok (.aload_n 0, 1) := by decide +kernel
theorem dX10_makeOf_62 : decode cX10_makeOf 62 = .ok (.getfield 90, 3) := by decide +kernel
theorem dX10_makeOf_65 : decode cX10_makeOf 65 = .ok (.aload_n 0, 1) := by decide +kernel
theorem dX10_makeOf_66 : decode cX10_makeOf 66 = .ok (.getfield 10, 3) := by decide +kernel
theorem dX10_makeOf_69 : decode cX10_makeOf 69 = .ok (.getfield 98, 3) := by decide +kernel
theorem dX10_makeOf_72 : decode cX10_makeOf 72 = .ok (.invokestatic 348, 3) := by decide +kernel
theorem dX10_makeOf_75 : decode cX10_makeOf 75 = .ok (.goto 57, 3) := by decide +kernel
theorem dX10_makeOf_78 : decode cX10_makeOf 78 = .ok (.iload_n 1, 1) := by decide +kernel
theorem dX10_makeOf_79 : decode cX10_makeOf 79 = .ok (.iconst 2, 1) := by decide +kernel
theorem dX10_makeOf_80 : decode cX10_makeOf 80 = .ok (.if_icmp .ne 29, 3) := by decide +kernel
theorem dX10_makeOf_83 : decode cX10_makeOf 83 = .ok (.aload_n 0, 1) := by decide +kernel
theorem dX10_makeOf_84 : decode cX10_makeOf 84 = .ok (.getfield 10, 3) := by decide +kernel
theorem dX10_makeOf_87 : decode cX10_makeOf 87 = .ok (.getfield 145, 3) := by decide +kernel
theorem dX10_makeOf_90 : decode cX10_makeOf 90 = .ok (.iload 4, 2) := by decide +kernel
theorem dX10_makeOf_92 : decode cX10_makeOf 92 = .ok (.aload_n 0, 1) := by decide +kernel
theorem dX10_makeOf_93 : decode cX10_makeOf 93 = .ok (.getfield 90, 3) := by decide +kernel
theorem dX10_makeOf_96 : decode cX10_makeOf 96 = .ok (.aload_n 0, 1) := by decide +kernel
theorem dX10_makeOf_97 : decode cX10_makeOf 97 = .ok (.getfield 10, 3) := by decide +kernel
theorem dX10_makeOf_100 : decode cX10_makeOf 100 = .ok (.getfield 98, 3) := by decide +kernel
theorem dX10_makeOf_103 : decode cX10_makeOf 103 = .ok (.invokestatic 352, 3) := by decide +kernel
theorem dX10_makeOf_106 : decode cX10_makeOf 106 = .ok (.goto 26, 3) := by decide +kernel
theorem dX10_makeOf_109 : decode cX10_makeOf 109 = .ok (.aload_n 0, 1) := by decide +kernel
theorem dX10_makeOf_110 : decode cX10_makeOf 110 = .ok (.getfield 10, 3) := by decide +kernel
theorem dX10_makeOf_113 : decode cX10_makeOf 113 = .ok (.getfield 145, 3) := by decide +kernel
theorem dX10_makeOf_116 : decode cX10_makeOf 116 = .ok (.iload 4, 2) := by decide +kernel
theorem dX10_makeOf_118 : decode cX10_makeOf 118 = .ok (.aload_n 0, 1) := by decide +kernel
theorem dX10_makeOf_119 : decode cX10_makeOf 119 = .ok (.getfield 90, 3) := by decide +kernel
theorem dX10_makeOf_122 : decode cX10_makeOf 122 = .ok (.aload_n 0, 1) := by decide +kernel
theorem dX10_makeOf_123 : decode cX10_makeOf 123 = .ok (.getfield 10, 3) := by decide +kernel
theorem dX10_makeOf_126 : decode cX10_makeOf 126 = .ok (.getfield 98, 3) := by decide +kernel
theorem dX10_makeOf_129 : decode cX10_makeOf 129 = .ok (.invokestatic 355, 3) := by decide +kernel
theorem dX10_makeOf_132 : decode cX10_makeOf 132 = .ok (.return_, 1) := by decide +kernel
theorem dX10_many_0 : decode cX10_many 0 = .ok (.iload_n 1, 1) := by decide +kernel
theorem dX10_many_1 : decode cX10_many 1 = .ok (.tableswitch 51 0 2 #[27, 35, 43], 27) := by decide +kernel
theorem dX10_many_28 : decode cX10_many 28 = .ok (.aload_n 0, 1) := by decide +kernel
theorem dX10_many_29 : decode cX10_many 29 = .ok (.getfield 10, 3) := by decide +kernel
theorem dX10_many_32 : decode cX10_many 32 = .ok (.getfield 98, 3) := by decide +kernel
theorem dX10_many_35 : decode cX10_many 35 = .ok (.ireturn, 1) := by decide +kernel
theorem dX10_many_36 : decode cX10_many 36 = .ok (.aload_n 0, 1) := by decide +kernel
theorem dX10_many_37 : decode cX10_many 37 = .ok (.getfield 10, 3) := by decide +kernel
theorem dX10_many_40 : decode cX10_many 40 = .ok (.getfield 101, 3) := by decide +kernel
theorem dX10_many_43 : decode cX10_many 43 = .ok (.ireturn, 1) := by decide +kernel
theorem dX10_many_44 : decode cX10_many 44 = .ok (.aload_n 0, 1) := by decide +kernel
theorem dX10_many_45 : decode cX10_many 45 = .ok (.getfield 26, 3) := by decide +kernel
theorem dX10_many_48 : decode cX10_many 48 = .ok (.getfield 174, 3) := by decide +kernel
theorem dX10_many_51 : decode cX10_many 51 = .ok (.ireturn, 1) := by decide +kernel
theorem dX10_many_52 : decode cX10_many 52 = .ok (.iconst (-1), 1) := by decide +kernel
theorem dX10_many_53 : decode cX10_many 53 = .ok (.ireturn, 1) := by decide +kernel
theorem dX10_middle_0 : decode cX10_middle 0 = .ok (.aload_n 0, 1) := by decide +kernel
theorem dX10_middle_1 : decode cX10_middle 1 = .ok (.invokevirtual 195, 3) := by decide +kernel
