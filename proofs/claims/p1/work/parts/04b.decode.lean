theorem dX10_init_128 : decode cX10_init 128 = .ok (.putfield 70, 3) := by decide +kernel
theorem dX10_init_131 : decode cX10_init 131 = .ok (.aload_n 0, 1) := by decide +kernel
theorem dX10_init_132 : decode cX10_init 132 = .ok (.new 74, 3) := by decide +kernel
theorem dX10_init_135 : decode cX10_init 135 = .ok (.dup, 1) := by decide +kernel
theorem dX10_init_136 : decode cX10_init 136 = .ok (.aload_n 0, 1) := by decide +kernel
theorem dX10_init_137 : decode cX10_init 137 = .ok (.getfield 10, 3) := by decide +kernel
theorem dX10_init_140 : decode cX10_init 140 = .ok (.invokespecial 76, 3) := by decide +kernel
theorem dX10_init_143 : decode cX10_init 143 = .ok (.putfield 77, 3) := by decide +kernel
theorem dX10_init_146 : decode cX10_init 146 = .ok (.aload_n 0, 1) := by decide +kernel
theorem dX10_init_147 : decode cX10_init 147 = .ok (.new 81, 3) := by decide +kernel
theorem dX10_init_150 : decode cX10_init 150 = .ok (.dup, 1) := by decide +kernel
theorem dX10_init_151 : decode cX10_init 151 = .ok (.aload_n 0, 1) := by decide +kernel
theorem dX10_init_152 : decode cX10_init 152 = .ok (.getfield 48, 3) := by decide +kernel
theorem dX10_init_155 : decode cX10_init 155 = .ok (.invokespecial 83, 3) := by decide +kernel
theorem dX10_init_158 : decode cX10_init 158 = .ok (.putfield 86, 3) := by decide +kernel
theorem dX10_init_161 : decode cX10_init 161 = .ok (.aload_n 0, 1) := by decide +kernel
theorem dX10_init_162 : decode cX10_init 162 = .ok (.bipush 9, 2) := by decide +kernel
theorem dX10_init_164 : decode cX10_init 164 = .ok (.newarray .long, 2) := by decide +kernel
theorem dX10_init_166 : decode cX10_init 166 = .ok (.putfield 90, 3) := by decide +kernel
theorem dX10_init_169 : decode cX10_init 169 = .ok (.aload_n 0, 1) := by decide +kernel
theorem dX10_init_170 : decode cX10_init 170 = .ok (.bipush 9, 2) := by decide +kernel
theorem dX10_init_172 : decode cX10_init 172 = .ok (.newarray .long, 2) := by decide +kernel
theorem dX10_init_174 : decode cX10_init 174 = .ok (.putfield 94, 3) := by decide +kernel
theorem dX10_init_177 : decode cX10_init 177 = .ok (.iconst 0, 1) := by decide +kernel
theorem dX10_init_178 : decode cX10_init 178 = .ok (.istore_n 1, 1) := by decide +kernel
theorem dX10_init_179 : decode cX10_init 179 = .ok (.iload_n 1, 1) := by decide +kernel
theorem dX10_init_180 : decode cX10_init 180 = .ok (.iconst 4, 1) := by decide +kernel
theorem dX10_init_181 : decode cX10_init 181 = .ok (.if_icmp .ge 22, 3) := by decide +kernel
theorem dX10_init_184 : decode cX10_init 184 = .ok (.aload_n 0, 1) := by decide +kernel
theorem dX10_init_185 : decode cX10_init 185 = .ok (.getfield 32, 3) := by decide +kernel
theorem dX10_init_188 : decode cX10_init 188 = .ok (.iload_n 1, 1) := by decide +kernel
theorem dX10_init_189 : decode cX10_init 189 = .ok (.new 30, 3) := by decide +kernel
theorem dX10_init_192 : decode cX10_init 192 = .ok (.dup, 1) := by decide +kernel
theorem dX10_init_193 : decode cX10_init 193 = .ok (.invokespecial 97, 3) := by decide +kernel
theorem dX10_init_196 : decode cX10_init 196 = .ok (.aastore, 1) := by decide +kernel
theorem dX10_init_197 : decode cX10_init 197 = .ok (.iinc 1 1, 3) := by decide +kernel
theorem dX10_init_200 : decode cX10_init 200 = .ok (.goto (-21), 3) := by decide +kernel
theorem dX10_init_203 : decode cX10_init 203 = .ok (.return_, 1) := by decide +kernel
theorem dX10_isInMiddle_0 : decode cX10_isInMiddle 0 = .ok (.aload_n 0, 1) := by decide +kernel
theorem dX10_isInMiddle_1 : decode cX10_isInMiddle 1 = .ok (.getfield 41, 3) := by decide +kernel
theorem dX10_isInMiddle_4 : decode cX10_isInMiddle 4 = .ok (.iload_n 1, 1) := by decide +kernel
theorem dX10_isInMiddle_5 : decode cX10_isInMiddle 5 = .ok (.invokevirtual 208, 3) := by decide +kernel
theorem dX10_isInMiddle_8 : decode cX10_isInMiddle 8 = .ok (.istore_n 2, 1) := by decide +kernel
theorem dX10_isInMiddle_9 : decode cX10_isInMiddle 9 = .ok (.iconst 0, 1) := by decide +kernel
theorem dX10_isInMiddle_10 : decode cX10_isInMiddle 10 = .ok (.istore_n 3, 1) := by decide +kernel
theorem dX10_isInMiddle_11 : decode cX10_isInMiddle 11 = .ok (.iload_n 3, 1) := by decide +kernel
theorem dX10_isInMiddle_12 : decode cX10_isInMiddle 12 = .ok (.aload_n 0, 1) := by decide +kernel
theorem dX10_isInMiddle_13 : decode cX10_isInMiddle 13 = .ok (.getfield 10, 3) := by decide +kernel
theorem dX10_isInMiddle_16 : decode cX10_isInMiddle 16 = .ok (.getfield 101, 3) := by decide +kernel
theorem dX10_isInMiddle_19 : decode cX10_isInMiddle 19 = .ok (.if_icmp .ge 98, 3) := by decide +kernel
theorem dX10_isInMiddle_117 : decode cX10_isInMiddle 117 = .ok (.iconst 1, 1) := by decide +kernel
theorem dX10_isInMiddle_118 : decode cX10_isInMiddle 118 = .ok (.ireturn, 1) := by decide +kernel
theorem dX10_isOfStart_0 : decode cX10_isOfStart 0 = .ok (.iload_n 0, 1) := by decide +kernel
theorem dX10_isOfStart_1 : decode cX10_isOfStart 1 = .ok (.sipush (-1000), 3) := by decide +kernel
theorem dX10_isOfStart_4 : decode cX10_isOfStart 4 = .ok (.if_icmp .lt 14, 3) := by decide +kernel
theorem dX10_isOfStart_7 : decode cX10_isOfStart 7 = .ok (.iload_n 0, 1) := by decide +kernel
theorem dX10_isOfStart_8 : decode cX10_isOfStart 8 = .ok (.sipush 1000, 3) := by decide +kernel
theorem dX10_isOfStart_11 : decode cX10_isOfStart 11 = .ok (.if_icmp .gt 7, 3) := by decide +kernel
theorem dX10_isOfStart_14 : decode cX10_isOfStart 14 = .ok (.iconst 1, 1) := by decide +kernel
theorem dX10_isOfStart_15 : decode cX10_isOfStart 15 = .ok (.goto 4, 3) := by decide +kernel
theorem dX10_isOfStart_18 : decode cX10_isOfStart 18 = .ok (.iconst 0, 1) := by decide +kernel
theorem dX10_isOfStart_19 : decode cX10_isOfStart 19 = .ok (.ireturn, 1) := by decide +kernel
theorem dX10_isPrimeTaken_0 : decode cX10_isPrimeTaken 0 = .ok (.iload_n 0, 1) := by decide +kernel
theorem dX10_isPrimeTaken_1 : decode cX10_isPrimeTaken 1 = .ok (.iconst 2, 1) := by decide +kernel
theorem dX10_isPrimeTaken_2 : decode cX10_isPrimeTaken 2 = .ok (.if_icmp .eq 19, 3) := by decide +kernel
theorem dX10_isPrimeTaken_5 : decode cX10_isPrimeTaken 5 = .ok (.iload_n 0, 1) := by decide +kernel
theorem dX10_isPrimeTaken_6 : decode cX10_isPrimeTaken 6 = .ok (.iconst 3, 1) := by decide +kernel
theorem dX10_isPrimeTaken_7 : decode cX10_isPrimeTaken 7 = .ok (.if_icmp .eq 14, 3) := by decide +kernel
theorem dX10_isPrimeTaken_10 : decode cX10_isPrimeTaken 10 = .ok (.iload_n 0, 1) := by decide +kernel
theorem dX10_isPrimeTaken_11 : decode cX10_isPrimeTaken 11 = .ok (.iconst 5, 1) := by decide +kernel
theorem dX10_isPrimeTaken_12 : decode cX10_isPrimeTaken 12 = .ok (.if_icmp .eq 9, 3) := by decide +kernel
theorem dX10_isPrimeTaken_15 : decode cX10_isPrimeTaken 15 = .ok (.iload_n 0, 1) := by decide +kernel
theorem dX10_isPrimeTaken_16 : decode cX10_isPrimeTaken 16 = .ok (.bipush 7, 2) := by decide +kernel
theorem dX10_isPrimeTaken_18 : decode cX10_isPrimeTaken 18 = .ok (.if_icmp .ne 7, 3) := by decide +kernel
theorem dX10_isPrimeTaken_21 : decode cX10_isPrimeTaken 21 = .ok (.iconst 1, 1) := by decide +kernel
theorem dX10_isPrimeTaken_22 : decode cX10_isPrimeTaken 22 = .ok (.goto 4, 3) := by decide +kernel
theorem dX10_isPrimeTaken_25 : decode cX10_isPrimeTaken 25 = .ok (.iconst 0, 1) := by decide +kernel
theorem dX10_isPrimeTaken_26 : decode cX10_isPrimeTaken 26 = .ok (.ireturn, 1) := by decide +kernel
theorem dX10_isSheet_0 : decode cX10_isSheet 0 = .ok (.iload_n 0, 1) := by decide +kernel
theorem dX10_isSheet_1 : decode cX10_isSheet 1 = .ok (.ifCond .lt 12, 3) := by decide +kernel
theorem dX10_isSheet_4 : decode cX10_isSheet 4 = .ok (.iload_n 0, 1) := by decide +kernel
theorem dX10_isSheet_5 : decode cX10_isSheet 5 = .ok (.iconst 4, 1) := by decide +kernel
theorem dX10_isSheet_6 : decode cX10_isSheet 6 = .ok (.if_icmp .ge 7, 3) := by decide +kernel
theorem dX10_isSheet_9 : decode cX10_isSheet 9 = .ok (.iconst 1, 1) := by decide +kernel
theorem dX10_isSheet_10 : decode cX10_isSheet 10 = .ok (.goto 4, 3) := by decide +kernel
theorem dX10_isSheet_13 : decode cX10_isSheet 13 = .ok (.iconst 0, 1) := by decide +kernel
theorem dX10_isSheet_14 : decode cX10_isSheet 14 = .ok (.ireturn, 1) := by decide +kernel
theorem dX10_isSort_0 : decode cX10_isSort 0 = .ok (.iload_n 0, 1) := by decide +kernel
theorem dX10_isSort_1 : decode cX10_isSort 1 = .ok (.ifCond .lt 12, 3) := by decide +kernel
theorem dX10_isSort_4 : decode cX10_isSort 4 = .ok (.iload_n 0, 1) := by decide +kernel
theorem dX10_isSort_5 : decode cX10_isSort 5 = .ok (.iconst 2, 1) := by decide +kernel
theorem dX10_isSort_6 : decode cX10_isSort 6 = .ok (.if_icmp .gt 7, 3) := by decide +kernel
theorem dX10_isSort_9 : decode cX10_isSort 9 = .ok (.iconst 1, 1) := by decide +kernel
theorem dX10_isSort_10 : decode cX10_isSort 10 = .ok (.goto 4, 3) := by decide +kernel
theorem dX10_isSort_13 : decode cX10_isSort 13 = .ok (.iconst 0, 1) := by decide +kernel
theorem dX10_isSort_14 : decode cX10_isSort 14 = .ok (.ireturn, 1) := by decide +kernel
theorem dX10_isStart_0 : decode cX10_isStart 0 = .ok (.iload_n 0, 1) := by decide +kernel
theorem dX10_isStart_1 : decode cX10_isStart 1 = .ok (.invokestatic 383, 3) := by decide +kernel
theorem dX10_isStart_4 : decode cX10_isStart 4 = .ok (.ifCond .eq 21, 3) := by decide +kernel
theorem dX10_isStart_7 : decode cX10_isStart 7 = .ok (.iload_n 1, 1) := by decide +kernel
theorem dX10_isStart_8 : decode cX10_isStart 8 = .ok (.invokestatic 383, 3) := by decide +kernel
theorem dX10_isStart_11 : decode cX10_isStart 11 = .ok (.ifCond .eq 14, 3) := by decide +kernel
theorem dX10_isStart_14 : decode cX10_isStart 14 = .ok (.iload_n 2, 1) := by decide +kernel
theorem dX10_isStart_15 : decode cX10_isStart 15 = .ok (.invokestatic 383, 3) := by decide +kernel
theorem dX10_isStart_18 : decode cX10_isStart 18 = .ok (.ifCond .eq 7, 3) := by decide +kernel
theorem dX10_isStart_21 : decode cX10_isStart 21 = .ok (.iconst 1, 1) := by decide +kernel
theorem dX10_isStart_22 : decode cX10_isStart 22 = .ok (.goto 4, 3) := by decide +kernel
theorem dX10_isStart_25 : decode cX10_isStart 25 = .ok (.iconst 0, 1) := by decide +kernel
theorem dX10_isStart_26 : decode cX10_isStart 26 = .ok (.ireturn, 1) := by decide +kernel
theorem dX10_item_0 : decode cX10_item 0 = .ok (.iload_n 1, 1) := by decide +kernel
theorem dX10_item_1 : decode cX10_item 1 = .ok (.invokestatic 303, 3) := by decide +kernel
theorem dX10_item_4 : decode cX10_item 4 = .ok (.ifCond .eq 10, 3) := by decide +kernel
theorem dX10_item_7 : decode cX10_item 7 = .ok (.iload_n 2, 1) := by decide +kernel
theorem dX10_item_8 : decode cX10_item 8 = .ok (.invokestatic 306, 3) := by decide +kernel
theorem dX10_item_11 : decode cX10_item 11 = .ok (.ifCond .ne 5, 3) := by decide +kernel
theorem dX10_item_14 : decode cX10_item 14 = .ok (.iconst (-1), 1) := by decide +kernel
theorem dX10_item_15 : decode cX10_item 15 = .ok (.ireturn, 1) := by decide +kernel
theorem dX10_item_16 : decode cX10_item 16 = .ok (.aload_n 0, 1) := by decide +kernel
theorem dX10_item_17 : decode cX10_item 17 = .ok (.getfield 32, 3) := by decide +kernel
theorem dX10_item_20 : decode cX10_item 20 = .ok (.iload_n 1, 1) := by decide +kernel
theorem dX10_item_21 : decode cX10_item 21 = .ok (.aaload, 1) := by decide +kernel
theorem dX10_item_22 : decode cX10_item 22 = .ok (.astore 4, 2) := by decide +kernel
theorem dX10_item_24 : decode cX10_item 24 = .ok (.aload 4, 2) := by decide +kernel
theorem dX10_item_26 : decode cX10_item 26 = .ok (.invokevirtual 312, 3) := by decide +kernel
theorem dX10_item_29 : decode cX10_item 29 = .ok (.ifCond .eq 6, 3) := by decide +kernel
theorem dX10_item_32 : decode cX10_item 32 = .ok (.bipush (-11), 2) := by decide +kernel
theorem dX10_item_34 : decode cX10_item 34 = .ok (.ireturn, 1) := by decide +kernel
theorem dX10_keep_0 : decode cX10_keep 0 = .ok (.aload_n 0, 1) := by decide +kernel
theorem dX10_keep_1 : decode cX10_keep 1 = .ok (.getfield 16, 3) := by decide +kernel
theorem dX10_keep_4 : decode cX10_keep 4 = .ok (.aload_n 0, 1) := by decide +kernel
theorem dX10_keep_5 : decode cX10_keep 5 = .ok (.getfield 10, 3) := by decide +kernel
theorem dX10_keep_8 : decode cX10_keep 8 = .ok (.invokevirtual 329, 3) := by decide +kernel
theorem dX10_keep_11 : decode cX10_keep 11 = .ok (.aload_n 0, 1) := by decide +kernel
theorem dX10_keep_12 : decode cX10_keep 12 = .ok (.iconst 1, 1) := by decide +kernel
theorem dX10_keep_13 : decode cX10_keep 13 = .ok (.putfield 19, 3) := by decide +kernel
theorem dX10_keep_16 : decode cX10_keep 16 = .ok (.iconst 1, 1) := by decide +kernel
theorem dX10_keep_17 : decode cX10_keep 17 = .ok (.ireturn, 1) := by decide +kernel
theorem dX10_keeps_0 : decode cX10_keeps 0 = .ok (.aload_n 0, 1) := by decide +kernel
theorem dX10_keeps_1 : decode cX10_keeps 1 = .ok (.iload_n 1, 1) := by decide +kernel
theorem dX10_keeps_2 : decode cX10_keeps 2 = .ok (.iload_n 2, 1) := by decide +kernel
theorem dX10_keeps_3 : decode cX10_keeps 3 = .ok (.iconst 0, 1) := by decide +kernel
theorem dX10_keeps_4 : decode cX10_keeps 4 = .ok (.invokevirtual 247, 3) := by decide +kernel
theorem dX10_keeps_7 : decode cX10_keeps 7 = .ok (.istore_n 3, 1) := by decide +kernel
theorem dX10_keeps_8 : decode cX10_keeps 8 = .ok (.iload_n 3, 1) := by decide +kernel
theorem dX10_keeps_9 : decode cX10_keeps 9 = .ok (.ifCond .eq 5, 3) := by decide +kernel
theorem dX10_keeps_12 : decode cX10_keeps 12 = .ok (.iload_n 3, 1) := by decide +kernel
theorem dX10_keeps_13 : decode cX10_keeps 13 = .ok (.ireturn, 1) := by decide +kernel
theorem dX10_lay_0 : decode cX10_lay 0 = .ok (.aload_n 0, 1) := by decide +kernel
theorem dX10_lay_1 : decode cX10_lay 1 = .ok (.invokevirtual 195, 3) := by decide +kernel
theorem dX10_lay_4 : decode cX10_lay 4 = .ok (.aload_n 0, 1) := by decide +kernel
theorem dX10_lay_5 : decode cX10_lay 5 = .ok (.getfield 41, 3) := by decide +kernel
theorem dX10_lay_8 : decode cX10_lay 8 = .ok (.iload_n 1, 1) := by decide +kernel
theorem dX10_lay_9 : decode cX10_lay 9 = .ok (.invokevirtual 202, 3) := by decide +kernel
theorem dX10_lay_12 : decode cX10_lay 12 = .ok (.ifCond .ne 5, 3) := by decide +kernel
theorem dX10_lay_15 : decode cX10_lay 15 = .ok (.iconst (-1), 1) := by decide +kernel
theorem dX10_lay_16 : decode cX10_lay 16 = .ok (.ireturn, 1) := by decide +kernel
theorem dX10_lay_17 : decode cX10_lay 17 = .ok (.aload_n 0, 1) := by decide +kernel
theorem dX10_lay_18 : decode cX10_lay 18 = .ok (.iload_n 2, 1) := by decide +kernel
theorem dX10_lay_19 : decode cX10_lay 19 = .ok (.iload_n 3, 1) := by decide +kernel
theorem dX10_lay_20 : decode cX10_lay 20 = .ok (.iconst 1, 1) := by decide +kernel
theorem dX10_lay_21 : decode cX10_lay 21 = .ok (.invokevirtual 247, 3) := by decide +kernel
theorem dX10_lay_24 : decode cX10_lay 24 = .ok (.istore 4, 2) := by decide +kernel
theorem dX10_lay_26 : decode cX10_lay 26 = .ok (.iload 4, 2) := by decide +kernel
theorem dX10_lay_28 : decode cX10_lay 28 = .ok (.ifCond .eq 6, 3) := by decide +kernel
theorem dX10_lay_31 : decode cX10_lay 31 = .ok (.iload 4, 2) := by decide +kernel
theorem dX10_lay_33 : decode cX10_lay 33 = .ok (.ireturn, 1) := by decide +kernel
theorem dX10_listAll_0 : decode cX10_listAll 0 = .ok (.aload_n 0, 1) := by decide +kernel
theorem dX10_listAll_1 : decode cX10_listAll 1 = .ok (.getfield 45, 3) := by decide +kernel
theorem dX10_listAll_4 : decode cX10_listAll 4 = .ok (.ifCond .eq 4, 3) := by decide +kernel
theorem dX10_listAll_8 : decode cX10_listAll 8 = .ok (.aload_n 0, 1) := by decide +kernel
theorem dX10_listAll_9 : decode cX10_listAll 9 = .ok (.getfield 90, 3) := by decide +kernel
theorem dX10_listAll_12 : decode cX10_listAll 12 = .ok (.aload_n 0, 1) := by decide +kernel
theorem dX10_listAll_13 : decode cX10_listAll 13 = .ok (.getfield 10, 3) := by decide +kernel
theorem dX10_listAll_16 : decode cX10_listAll 16 = .ok (.getfield 98, 3) := by decide +kernel
theorem dX10_listAll_19 : decode cX10_listAll 19 = .ok (.invokestatic 339, 3) := by decide +kernel
theorem dX10_listAll_22 : decode cX10_listAll 22 = .ok (.aload_n 0, 1) := by decide +kernel
theorem dX10_listAll_23 : decode cX10_listAll 23 = .ok (.getfield 41, 3) := by decide +kernel
theorem dX10_listAll_26 : decode cX10_listAll 26 = .ok (.aload_n 0, 1) := by decide +kernel
theorem dX10_listAll_27 : decode cX10_listAll 27 = .ok (.getfield 10, 3) := by decide +kernel
theorem dX10_listAll_30 : decode cX10_listAll 30 = .ok (.invokevirtual 130, 3) := by decide +kernel
theorem dX10_listAll_33 : decode cX10_listAll 33 = .ok (.bipush 100, 2) := by decide +kernel
theorem dX10_listAll_35 : decode cX10_listAll 35 = .ok (.invokevirtual 275, 3) := by decide +kernel
theorem dX10_listAll_38 : decode cX10_listAll 38 = .ok (.aload_n 0, 1) := by decide +kernel
theorem dX10_listAll_39 : decode cX10_listAll 39 = .ok (.getfield 41, 3) := by decide +kernel
theorem dX10_listAll_42 : decode cX10_listAll 42 = .ok (.aload_n 0, 1) := by decide +kernel
theorem dX10_listAll_43 : decode cX10_listAll 43 = .ok (.getfield 90, 3) := by decide +kernel
theorem dX10_listAll_46 : decode cX10_listAll 46 = .ok (.bipush (-3), 2) := by decide +kernel
theorem dX10_listAll_48 : decode cX10_listAll 48 = .ok (.bipush (-3), 2) := by decide +kernel
theorem dX10_listAll_50 : decode cX10_listAll 50 = .ok (.invokevirtual 279, 3) := by decide +kernel
theorem dX10_listAll_53 : decode cX10_listAll 53 = .ok (.pop, 1) := by decide +kernel
theorem dX10_listAll_54 : decode cX10_listAll 54 = .ok (.aload_n 0, 1) := by decide +kernel
theorem dX10_listAll_55 : decode cX10_listAll 55 = .ok (.getfield 70, 3) := by decide +kernel
theorem dX10_listAll_58 : decode cX10_listAll 58 = .ok (.iconst 0, 1) := by decide +kernel
theorem dX10_listAll_59 : decode cX10_listAll 59 = .ok (.putfield 364, 3) := by decide +kernel
theorem dX10_listAll_62 : decode cX10_listAll 62 = .ok (.aload_n 0, 1) := by decide +kernel
theorem dX10_listAll_63 : decode cX10_listAll 63 = .ok (.getfield 41, 3) := by decide +kernel
theorem dX10_listAll_66 : decode cX10_listAll 66 = .ok (.aload_n 0, 1) := by decide +kernel
theorem dX10_listAll_67 : decode cX10_listAll 67 = .ok (.getfield 70, 3) := by decide +kernel
theorem dX10_listAll_70 : decode cX10_listAll 70 = .ok (.aload_n 0, 1) := by decide +kernel
theorem dX10_listAll_71 : decode cX10_listAll 71 = .ok (.getfield 10, 3) := by decide +kernel
theorem dX10_listAll_74 : decode cX10_listAll 74 = .ok (.getfield 101, 3) := by decide +kernel
theorem dX10_listAll_77 : decode cX10_listAll 77 = .ok (.invokevirtual 282, 3) := by decide +kernel
theorem dX10_listAll_80 : decode cX10_listAll 80 = .ok (.aload_n 0, 1) := by decide +kernel
theorem dX10_listAll_81 : decode cX10_listAll 81 = .ok (.iconst 1, 1) := by decide +kernel
theorem dX10_listAll_82 : decode cX10_listAll 82 = .ok (.putfield 45, 3) := by decide +kernel
theorem dX10_listAll_85 : decode cX10_listAll 85 = .ok (.return_, 1) := by decide +kernel
theorem dX10_listed_0 : decode cX10_listed 0 = .ok (.aload_n 0, 1) := by decide +kernel
theorem dX10_listed_1 : decode cX10_listed 1 = .ok (.invokevirtual 195, 3) := by decide +kernel
theorem dX10_listed_4 : decode cX10_listed 4 = .ok (.aload_n 0, 1) := by decide +kernel
theorem dX10_listed_5 : decode cX10_listed 5 = .ok (.getfield 41, 3) := by decide +kernel
theorem dX10_listed_8 : decode cX10_listed 8 = .ok (.getfield 198, 3) := by decide +kernel
theorem dX10_listed_11 : decode cX10_listed 11 = .ok (.ireturn, 1) := by decide +kernel
theorem dX10_lot_0 : decode cX10_lot 0 = .ok (.iload_n 1, 1) := by decide +kernel
theorem dX10_lot_1 : decode cX10_lot 1 = .ok (.iconst 1, 1) := by decide +kernel
theorem dX10_lot_2 : decode cX10_lot 2 = .ok (.if_icmp .lt 8, 3) := by decide +kernel
theorem dX10_lot_5 : decode cX10_lot 5 = .ok (.iload_n 1, 1) := by decide +kernel
theorem dX10_lot_6 : decode cX10_lot 6 = .ok (.iconst 4, 1) := by decide +kernel
theorem dX10_lot_7 : decode cX10_lot 7 = .ok (.if_icmp .le 5, 3) := by decide +kernel
theorem dX10_lot_10 : decode cX10_lot 10 = .ok (.iconst (-1), 1) := by decide +kernel
theorem dX10_lot_11 : decode cX10_lot 11 = .ok (.ireturn, 1) := by decide +kernel
theorem dX10_lot_12 : decode cX10_lot 12 = .ok (.iconst 0, 1) := by decide +kernel
theorem dX10_lot_13 : decode cX10_lot 13 = .ok (.istore_n 2, 1) := by decide +kernel
theorem dX10_lot_14 : decode cX10_lot 14 = .ok (.iload_n 2, 1) := by decide +kernel
theorem dX10_lot_15 : decode cX10_lot 15 = .ok (.iload_n 1, 1) := by decide +kernel
theorem dX10_lot_16 : decode cX10_lot 16 = .ok (.if_icmp .ge 85, 3) := by decide +kernel
theorem dX10_lot_19 : decode cX10_lot 19 = .ok (.aload_n 0, 1) := by decide +kernel
theorem dX10_lot_20 : decode cX10_lot 20 = .ok (.getfield 10, 3) := by decide +kernel
theorem dX10_lot_23 : decode cX10_lot 23 = .ok (.invokevirtual 115, 3) := by decide +kernel
theorem dX10_lot_26 : decode cX10_lot 26 = .ok (.ifCond .ne 75, 3) := by decide +kernel
theorem dX10_lot_29 : decode cX10_lot 29 = .ok (.aload_n 0, 1) := by decide +kernel
theorem dX10_lot_30 : decode cX10_lot 30 = .ok (.getfield 10, 3) := by decide +kernel
theorem dX10_lot_33 : decode cX10_lot 33 = .ok (.invokevirtual 300, 3) := by decide +kernel
theorem dX10_lot_36 : decode cX10_lot 36 = .ok (.aload_n 0, 1) := by decide +kernel
theorem dX10_lot_37 : decode cX10_lot 37 = .ok (.getfield 10, 3) := by decide +kernel
theorem dX10_lot_40 : decode cX10_lot 40 = .ok (.getfield 98, 3) := by decide +kernel
theorem dX10_lot_43 : decode cX10_lot 43 = .ok (.irem, 1) := by decide +kernel
theorem dX10_lot_44 : decode cX10_lot 44 = .ok (.istore_n 3, 1) := by decide +kernel
theorem dX10_lot_45 : decode cX10_lot 45 = .ok (.aload_n 0, 1) := by decide +kernel
theorem dX10_lot_46 : decode cX10_lot 46 = .ok (.getfield 10, 3) := by decide +kernel
theorem dX10_lot_49 : decode cX10_lot 49 = .ok (.invokevirtual 300, 3) := by decide +kernel
theorem dX10_lot_52 : decode cX10_lot 52 = .ok (.aload_n 0, 1) := by decide +kernel
theorem dX10_lot_53 : decode cX10_lot 53 = .ok (.getfield 10, 3) := by decide +kernel
theorem dX10_lot_56 : decode cX10_lot 56 = .ok (.getfield 98, 3) := by decide +kernel
theorem dX10_lot_59 : decode cX10_lot 59 = .ok (.irem, 1) := by decide +kernel
theorem dX10_lot_60 : decode cX10_lot 60 = .ok (.istore 4, 2) := by decide +kernel
theorem dX10_lot_62 : decode cX10_lot 62 = .ok (.aload_n 0, 1) := by decide +kernel
theorem dX10_lot_63 : decode cX10_lot 63 = .ok (.getfield 10, 3) := by decide +kernel
theorem dX10_lot_66 : decode cX10_lot 66 = .ok (.invokevirtual 300, 3) := by decide +kernel
theorem dX10_lot_69 : decode cX10_lot 69 = .ok (.iconst 5, 1) := by decide +kernel
theorem dX10_lot_70 : decode cX10_lot 70 = .ok (.irem, 1) := by decide +kernel
theorem dX10_lot_71 : decode cX10_lot 71 = .ok (.iconst 2, 1) := by decide +kernel
theorem dX10_lot_72 : decode cX10_lot 72 = .ok (.isub, 1) := by decide +kernel
theorem dX10_lot_73 : decode cX10_lot 73 = .ok (.istore 5, 2) := by decide +kernel
theorem dX10_lot_75 : decode cX10_lot 75 = .ok (.aload_n 0, 1) := by decide +kernel
theorem dX10_lot_76 : decode cX10_lot 76 = .ok (.iload_n 3, 1) := by decide +kernel
theorem dX10_lot_77 : decode cX10_lot 77 = .ok (.iload 4, 2) := by decide +kernel
theorem dX10_lot_79 : decode cX10_lot 79 = .ok (.iload_n 3, 1) := by decide +kernel
theorem dX10_lot_80 : decode cX10_lot 80 = .ok (.iload 4, 2) := by decide +kernel
theorem dX10_lot_82 : decode cX10_lot 82 = .ok (.if_icmp .ne 7, 3) := by decide +kernel
theorem dX10_lot_85 : decode cX10_lot 85 = .ok (.iconst (-1), 1) := by decide +kernel
theorem dX10_lot_86 : decode cX10_lot 86 = .ok (.goto 5, 3) := by decide +kernel
theorem dX10_lot_89 : decode cX10_lot 89 = .ok (.iload 5, 2) := by decide +kernel
theorem dX10_lot_91 : decode cX10_lot 91 = .ok (.invokevirtual 119, 3) := by decide +kernel
theorem dX10_lot_94 : decode cX10_lot 94 = .ok (.pop, 1) := by decide +kernel
theorem dX10_lot_95 : decode cX10_lot 95 = .ok (.iinc 2 1, 3) := by decide +kernel
theorem dX10_lot_98 : decode cX10_lot 98 = .ok (.goto (-84), 3) := by decide +kernel
theorem dX10_lot_101 : decode cX10_lot 101 = .ok (.iload_n 2, 1) := by decide +kernel
theorem dX10_lot_102 : decode cX10_lot 102 = .ok (.ireturn, 1) := by decide +kernel
theorem dX10_made_0 : decode cX10_made 0 = .ok (.iload_n 1, 1) := by decide +kernel
theorem dX10_made_1 : decode cX10_made 1 = .ok (.ifCond .lt 34, 3) := by decide +kernel
theorem dX10_made_4 : decode cX10_made 4 = .ok (.iload_n 1, 1) := by decide +kernel
theorem dX10_made_5 : decode cX10_made 5 = .ok (.iconst 3, 1) := by decide +kernel
theorem dX10_made_6 : decode cX10_made 6 = .ok (.if_icmp .gt 29, 3) := by decide +kernel
theorem dX10_made_9 : decode cX10_made 9 = .ok (.aload_n 0, 1) := by decide +kernel
theorem dX10_made_10 : decode cX10_made 10 = .ok (.getfield 10, 3) := by decide +kernel
theorem dX10_made_13 : decode cX10_made 13 = .ok (.iload_n 2, 1) := by decide +kernel
theorem dX10_made_14 : decode cX10_made 14 = .ok (.invokevirtual 123, 3) := by decide +kernel
theorem dX10_made_17 : decode cX10_made 17 = .ok (.ifCond .eq 18, 3) := by decide +kernel
theorem dX10_made_35 : decode cX10_made 35 = .ok (.iconst (-1), 1) := by decide +kernel
theorem dX10_made_36 : decode cX10_made 36 = .ok (.ireturn, 1) := by decide +kernel
theorem dX10_many_0 : decode cX10_many 0 = .ok (.iload_n 1, 1) := by decide +kernel
theorem dX10_many_1 : decode cX10_many 1 = .ok (.tableswitch 51 0 2 #[27, 35, 43], 27) := by decide +kernel
theorem dX10_many_28 : decode cX10_many 28 = .ok (.aload_n 0, 1) := by decide +kernel
theorem dX10_many_29 : decode cX10_many 29 = .ok (.getfield 10, 3) := by decide +kernel
theorem dX10_many_32 : decode cX10_many 32 = .ok (.getfield 98, 3) := by decide +kernel
theorem dX10_many_35 : decode cX10_many 35 = .ok (.ireturn, 1) := by decide +kernel
theorem dX10_many_36 : decode cX10_many 36 = .ok (.aload_n 0, 1) := by decide +kernel
theorem dX10_many_37 : decode cX10_many 37 = .ok (.getfield 10, 3) := by decide +kernel
theorem dX10_many_40 : decode cX10_many 40 = .ok (.getfield 101, 3) := by decide +kernel
theorem dX10_many_43 : decode cX10_many 43 = .ok (.ireturn, 1) := by decide +kernel
theorem dX10_many_44 : decode cX10_many 44 = .ok (.aload_n 0, 1) := by decide +kernel
theorem dX10_many_45 : decode cX10_many 45 = .ok (.getfield 26, 3) := by decide +kernel
theorem dX10_many_48 : decode cX10_many 48 = .ok (.getfield 174, 3) := by decide +kernel
theorem dX10_many_51 : decode cX10_many 51 = .ok (.ireturn, 1) := by decide +kernel
theorem dX10_many_52 : decode cX10_many 52 = .ok (.iconst (-1), 1) := by decide +kernel
theorem dX10_many_53 : decode cX10_many 53 = .ok (.ireturn, 1) := by decide +kernel
theorem dX10_middle_0 : decode cX10_middle 0 = .ok (.aload_n 0, 1) := by decide +kernel
theorem dX10_middle_1 : decode cX10_middle 1 = .ok (.invokevirtual 195, 3) := by decide +kernel
theorem dX10_middle_4 : decode cX10_middle 4 = .ok (.iconst 0, 1) := by decide +kernel
theorem dX10_middle_5 : decode cX10_middle 5 = .ok (.istore_n 1, 1) := by decide +kernel
theorem dX10_middle_6 : decode cX10_middle 6 = .ok (.iconst 0, 1) := by decide +kernel
theorem dX10_middle_7 : decode cX10_middle 7 = .ok (.istore_n 2, 1) := by decide +kernel
theorem dX10_middle_8 : decode cX10_middle 8 = .ok (.iload_n 2, 1) := by decide +kernel
theorem dX10_middle_9 : decode cX10_middle 9 = .ok (.aload_n 0, 1) := by decide +kernel
theorem dX10_middle_10 : decode cX10_middle 10 = .ok (.getfield 41, 3) := by decide +kernel
theorem dX10_middle_13 : decode cX10_middle 13 = .ok (.getfield 198, 3) := by decide +kernel
theorem dX10_middle_16 : decode cX10_middle 16 = .ok (.if_icmp .ge 20, 3) := by decide +kernel
theorem dX10_middle_19 : decode cX10_middle 19 = .ok (.aload_n 0, 1) := by decide +kernel
theorem dX10_middle_20 : decode cX10_middle 20 = .ok (.iload_n 2, 1) := by decide +kernel
theorem dX10_middle_21 : decode cX10_middle 21 = .ok (.invokevirtual 231, 3) := by decide +kernel
theorem dX10_middle_24 : decode cX10_middle 24 = .ok (.ifCond .eq 6, 3) := by decide +kernel
theorem dX10_middle_27 : decode cX10_middle 27 = .ok (.iinc 1 1, 3) := by decide +kernel
theorem dX10_middle_30 : decode cX10_middle 30 = .ok (.iinc 2 1, 3) := by decide +kernel
theorem dX10_middle_33 : decode cX10_middle 33 = .ok (.goto (-25), 3) := by decide +kernel
theorem dX10_middle_36 : decode cX10_middle 36 = .ok (.iload_n 1, 1) := by decide +kernel
theorem dX10_middle_37 : decode cX10_middle 37 = .ok (.ireturn, 1) := by decide +kernel
theorem dX10_multiplyOut_0 : decode cX10_multiplyOut 0 = .ok (.aload_n 0, 1) := by decide +kernel
theorem dX10_multiplyOut_1 : decode cX10_multiplyOut 1 = .ok (.getfield 10, 3) := by decide +kernel
theorem dX10_multiplyOut_4 : decode cX10_multiplyOut 4 = .ok (.invokevirtual 130, 3) := by decide +kernel
theorem dX10_multiplyOut_7 : decode cX10_multiplyOut 7 = .ok (.istore_n 2, 1) := by decide +kernel
theorem dX10_multiplyOut_8 : decode cX10_multiplyOut 8 = .ok (.aload_n 0, 1) := by decide +kernel
theorem dX10_multiplyOut_9 : decode cX10_multiplyOut 9 = .ok (.getfield 90, 3) := by decide +kernel
theorem dX10_multiplyOut_12 : decode cX10_multiplyOut 12 = .ok (.aload_n 0, 1) := by decide +kernel
theorem dX10_multiplyOut_13 : decode cX10_multiplyOut 13 = .ok (.getfield 10, 3) := by decide +kernel
theorem dX10_multiplyOut_16 : decode cX10_multiplyOut 16 = .ok (.getfield 98, 3) := by decide +kernel
theorem dX10_multiplyOut_19 : decode cX10_multiplyOut 19 = .ok (.invokestatic 339, 3) := by decide +kernel
theorem dX10_multiplyOut_22 : decode cX10_multiplyOut 22 = .ok (.ldc_w 368, 3) := by decide +kernel
theorem dX10_multiplyOut_25 : decode cX10_multiplyOut 25 = .ok (.istore_n 3, 1) := by decide +kernel
theorem dX10_multiplyOut_26 : decode cX10_multiplyOut 26 = .ok (.iload_n 3, 1) := by decide +kernel
theorem dX10_multiplyOut_27 : decode cX10_multiplyOut 27 = .ok (.ifCond .le 94, 3) := by decide +kernel
theorem dX10_multiplyOut_30 : decode cX10_multiplyOut 30 = .ok (.iload_n 1, 1) := by decide +kernel
theorem dX10_multiplyOut_31 : decode cX10_multiplyOut 31 = .ok (.iload_n 3, 1) := by decide +kernel
theorem dX10_multiplyOut_32 : decode cX10_multiplyOut 32 = .ok (.idiv, 1) := by decide +kernel
theorem dX10_multiplyOut_33 : decode cX10_multiplyOut 33 = .ok (.bipush 10, 2) := by decide +kernel
theorem dX10_multiplyOut_35 : decode cX10_multiplyOut 35 = .ok (.irem, 1) := by decide +kernel
theorem dX10_multiplyOut_36 : decode cX10_multiplyOut 36 = .ok (.iconst 1, 1) := by decide +kernel
theorem dX10_multiplyOut_37 : decode cX10_multiplyOut 37 = .ok (.isub, 1) := by decide +kernel
theorem dX10_multiplyOut_38 : decode cX10_multiplyOut 38 = .ok (.istore 4, 2) := by decide +kernel
theorem dX10_multiplyOut_40 : decode cX10_multiplyOut 40 = .ok (.aload_n 0, 1) := by decide +kernel
theorem dX10_multiplyOut_41 : decode cX10_multiplyOut 41 = .ok (.getfield 10, 3) := by decide +kernel
theorem dX10_multiplyOut_44 : decode cX10_multiplyOut 44 = .ok (.iload 4, 2) := by decide +kernel
theorem dX10_multiplyOut_46 : decode cX10_multiplyOut 46 = .ok (.invokevirtual 123, 3) := by decide +kernel
theorem dX10_multiplyOut_49 : decode cX10_multiplyOut 49 = .ok (.ifCond .eq 64, 3) := by decide +kernel
theorem dX10_multiplyOut_113 : decode cX10_multiplyOut 113 = .ok (.iload_n 3, 1) := by decide +kernel
theorem dX10_multiplyOut_114 : decode cX10_multiplyOut 114 = .ok (.bipush 10, 2) := by decide +kernel
theorem dX10_multiplyOut_116 : decode cX10_multiplyOut 116 = .ok (.idiv, 1) := by decide +kernel
theorem dX10_multiplyOut_117 : decode cX10_multiplyOut 117 = .ok (.istore_n 3, 1) := by decide +kernel
theorem dX10_multiplyOut_118 : decode cX10_multiplyOut 118 = .ok (.goto (-92), 3) := by decide +kernel
theorem dX10_multiplyOut_121 : decode cX10_multiplyOut 121 = .ok (.iconst 1, 1) := by decide +kernel
theorem dX10_multiplyOut_122 : decode cX10_multiplyOut 122 = .ok (.ireturn, 1) := by decide +kernel
theorem dX10_of_0 : decode cX10_of 0 = .ok (.aload_n 0, 1) := by decide +kernel
theorem dX10_of_1 : decode cX10_of 1 = .ok (.getfield 10, 3) := by decide +kernel
theorem dX10_of_4 : decode cX10_of 4 = .ok (.iload_n 1, 1) := by decide +kernel
theorem dX10_of_5 : decode cX10_of 5 = .ok (.invokevirtual 123, 3) := by decide +kernel
theorem dX10_of_8 : decode cX10_of 8 = .ok (.ifCond .eq 12, 3) := by decide +kernel
theorem dX10_of_20 : decode cX10_of 20 = .ok (.iconst (-1), 1) := by decide +kernel
theorem dX10_of_21 : decode cX10_of 21 = .ok (.ireturn, 1) := by decide +kernel
theorem dX10_orbit_0 : decode cX10_orbit 0 = .ok (.iload_n 1, 1) := by decide +kernel
theorem dX10_orbit_1 : decode cX10_orbit 1 = .ok (.iload_n 2, 1) := by decide +kernel
theorem dX10_orbit_2 : decode cX10_orbit 2 = .ok (.iload_n 3, 1) := by decide +kernel
theorem dX10_orbit_3 : decode cX10_orbit 3 = .ok (.invokestatic 268, 3) := by decide +kernel
theorem dX10_orbit_6 : decode cX10_orbit 6 = .ok (.ifCond .ne 5, 3) := by decide +kernel
theorem dX10_orbit_9 : decode cX10_orbit 9 = .ok (.iconst (-1), 1) := by decide +kernel
theorem dX10_orbit_10 : decode cX10_orbit 10 = .ok (.ireturn, 1) := by decide +kernel
theorem dX10_orbit_11 : decode cX10_orbit 11 = .ok (.aload_n 0, 1) := by decide +kernel
theorem dX10_orbit_12 : decode cX10_orbit 12 = .ok (.iload_n 1, 1) := by decide +kernel
theorem dX10_orbit_13 : decode cX10_orbit 13 = .ok (.iload_n 2, 1) := by decide +kernel
theorem dX10_orbit_14 : decode cX10_orbit 14 = .ok (.iload_n 3, 1) := by decide +kernel
theorem dX10_orbit_15 : decode cX10_orbit 15 = .ok (.invokevirtual 272, 3) := by decide +kernel
theorem dX10_orbit_18 : decode cX10_orbit 18 = .ok (.aload_n 0, 1) := by decide +kernel
theorem dX10_orbit_19 : decode cX10_orbit 19 = .ok (.getfield 48, 3) := by decide +kernel
theorem dX10_orbit_22 : decode cX10_orbit 22 = .ok (.aload_n 0, 1) := by decide +kernel
theorem dX10_orbit_23 : decode cX10_orbit 23 = .ok (.getfield 10, 3) := by decide +kernel
theorem dX10_orbit_26 : decode cX10_orbit 26 = .ok (.getfield 98, 3) := by decide +kernel
theorem dX10_orbit_29 : decode cX10_orbit 29 = .ok (.bipush 60, 2) := by decide +kernel
theorem dX10_orbit_31 : decode cX10_orbit 31 = .ok (.invokevirtual 275, 3) := by decide +kernel
theorem dX10_orbit_34 : decode cX10_orbit 34 = .ok (.aload_n 0, 1) := by decide +kernel
theorem dX10_orbit_35 : decode cX10_orbit 35 = .ok (.getfield 48, 3) := by decide +kernel
theorem dX10_orbit_38 : decode cX10_orbit 38 = .ok (.aload_n 0, 1) := by decide +kernel
theorem dX10_orbit_39 : decode cX10_orbit 39 = .ok (.getfield 90, 3) := by decide +kernel
theorem dX10_orbit_42 : decode cX10_orbit 42 = .ok (.bipush (-3), 2) := by decide +kernel
theorem dX10_orbit_44 : decode cX10_orbit 44 = .ok (.bipush (-3), 2) := by decide +kernel
theorem dX10_orbit_46 : decode cX10_orbit 46 = .ok (.invokevirtual 279, 3) := by decide +kernel
theorem dX10_orbit_49 : decode cX10_orbit 49 = .ok (.pop, 1) := by decide +kernel
theorem dX10_orbit_50 : decode cX10_orbit 50 = .ok (.aload_n 0, 1) := by decide +kernel
theorem dX10_orbit_51 : decode cX10_orbit 51 = .ok (.getfield 48, 3) := by decide +kernel
theorem dX10_orbit_54 : decode cX10_orbit 54 = .ok (.aload_n 0, 1) := by decide +kernel
theorem dX10_orbit_55 : decode cX10_orbit 55 = .ok (.getfield 77, 3) := by decide +kernel
theorem dX10_orbit_58 : decode cX10_orbit 58 = .ok (.aload_n 0, 1) := by decide +kernel
theorem dX10_orbit_59 : decode cX10_orbit 59 = .ok (.getfield 10, 3) := by decide +kernel
theorem dX10_orbit_62 : decode cX10_orbit 62 = .ok (.getfield 101, 3) := by decide +kernel
theorem dX10_orbit_65 : decode cX10_orbit 65 = .ok (.invokevirtual 282, 3) := by decide +kernel
theorem dX10_orbit_68 : decode cX10_orbit 68 = .ok (.aload_n 0, 1) := by decide +kernel
theorem dX10_orbit_69 : decode cX10_orbit 69 = .ok (.iconst 1, 1) := by decide +kernel
theorem dX10_orbit_70 : decode cX10_orbit 70 = .ok (.putfield 51, 3) := by decide +kernel
theorem dX10_orbit_73 : decode cX10_orbit 73 = .ok (.aload_n 0, 1) := by decide +kernel
theorem dX10_orbit_74 : decode cX10_orbit 74 = .ok (.iconst 0, 1) := by decide +kernel
theorem dX10_orbit_75 : decode cX10_orbit 75 = .ok (.putfield 61, 3) := by decide +kernel
theorem dX10_orbit_78 : decode cX10_orbit 78 = .ok (.aload_n 0, 1) := by decide +kernel
theorem dX10_orbit_79 : decode cX10_orbit 79 = .ok (.getfield 48, 3) := by decide +kernel
theorem dX10_orbit_82 : decode cX10_orbit 82 = .ok (.getfield 198, 3) := by decide +kernel
theorem dX10_orbit_85 : decode cX10_orbit 85 = .ok (.ireturn, 1) := by decide +kernel
theorem dX10_orderOf_0 : decode cX10_orderOf 0 = .ok (.aload_n 0, 1) := by decide +kernel
theorem dX10_orderOf_1 : decode cX10_orderOf 1 = .ok (.getfield 10, 3) := by decide +kernel
theorem dX10_orderOf_4 : decode cX10_orderOf 4 = .ok (.invokevirtual 130, 3) := by decide +kernel
theorem dX10_orderOf_7 : decode cX10_orderOf 7 = .ok (.istore_n 3, 1) := by decide +kernel
theorem dX10_orderOf_8 : decode cX10_orderOf 8 = .ok (.aload_n 1, 1) := by decide +kernel
theorem dX10_orderOf_9 : decode cX10_orderOf 9 = .ok (.iload_n 2, 1) := by decide +kernel
theorem dX10_orderOf_10 : decode cX10_orderOf 10 = .ok (.aload_n 0, 1) := by decide +kernel
theorem dX10_orderOf_11 : decode cX10_orderOf 11 = .ok (.getfield 90, 3) := by decide +kernel
theorem dX10_orderOf_14 : decode cX10_orderOf 14 = .ok (.iconst 0, 1) := by decide +kernel
theorem dX10_orderOf_15 : decode cX10_orderOf 15 = .ok (.iload_n 3, 1) := by decide +kernel
theorem dX10_orderOf_16 : decode cX10_orderOf 16 = .ok (.invokestatic 189, 3) := by decide +kernel
theorem dX10_orderOf_19 : decode cX10_orderOf 19 = .ok (.iconst 1, 1) := by decide +kernel
theorem dX10_orderOf_20 : decode cX10_orderOf 20 = .ok (.istore 4, 2) := by decide +kernel
theorem dX10_orderOf_22 : decode cX10_orderOf 22 = .ok (.iload 4, 2) := by decide +kernel
theorem dX10_orderOf_24 : decode cX10_orderOf 24 = .ok (.bipush 12, 2) := by decide +kernel
theorem dX10_orderOf_26 : decode cX10_orderOf 26 = .ok (.if_icmp .gt 81, 3) := by decide +kernel
theorem dX10_orderOf_29 : decode cX10_orderOf 29 = .ok (.aload_n 0, 1) := by decide +kernel
theorem dX10_orderOf_30 : decode cX10_orderOf 30 = .ok (.getfield 90, 3) := by decide +kernel
theorem dX10_orderOf_33 : decode cX10_orderOf 33 = .ok (.aload_n 0, 1) := by decide +kernel
theorem dX10_orderOf_34 : decode cX10_orderOf 34 = .ok (.getfield 10, 3) := by decide +kernel
theorem dX10_orderOf_37 : decode cX10_orderOf 37 = .ok (.getfield 98, 3) := by decide +kernel
theorem dX10_orderOf_40 : decode cX10_orderOf 40 = .ok (.invokestatic 358, 3) := by decide +kernel
theorem dX10_orderOf_43 : decode cX10_orderOf 43 = .ok (.ifCond .eq 6, 3) := by decide +kernel
theorem dX10_orderOf_46 : decode cX10_orderOf 46 = .ok (.iload 4, 2) := by decide +kernel
theorem dX10_orderOf_48 : decode cX10_orderOf 48 = .ok (.ireturn, 1) := by decide +kernel
theorem dX10_point_0 : decode cX10_point 0 = .ok (.aload_n 0, 1) := by decide +kernel
theorem dX10_point_1 : decode cX10_point 1 = .ok (.getfield 51, 3) := by decide +kernel
theorem dX10_point_4 : decode cX10_point 4 = .ok (.ifCond .eq 29, 3) := by decide +kernel
theorem dX10_point_33 : decode cX10_point 33 = .ok (.iconst (-1), 1) := by decide +kernel
theorem dX10_point_34 : decode cX10_point 34 = .ok (.invokestatic 203, 3) := by decide +kernel
theorem dX10_point_37 : decode cX10_point 37 = .ok (.lreturn, 1) := by decide +kernel
theorem dX10_put_0 : decode cX10_put 0 = .ok (.iload_n 1, 1) := by decide +kernel
theorem dX10_put_1 : decode cX10_put 1 = .ok (.invokestatic 303, 3) := by decide +kernel
theorem dX10_put_4 : decode cX10_put 4 = .ok (.ifCond .ne 5, 3) := by decide +kernel
theorem dX10_put_7 : decode cX10_put 7 = .ok (.iconst (-1), 1) := by decide +kernel
theorem dX10_put_8 : decode cX10_put 8 = .ok (.ireturn, 1) := by decide +kernel
theorem dX10_put_9 : decode cX10_put 9 = .ok (.aload_n 0, 1) := by decide +kernel
theorem dX10_put_10 : decode cX10_put 10 = .ok (.getfield 32, 3) := by decide +kernel
theorem dX10_put_13 : decode cX10_put 13 = .ok (.iload_n 1, 1) := by decide +kernel
theorem dX10_put_14 : decode cX10_put 14 = .ok (.aaload, 1) := by decide +kernel
theorem dX10_put_15 : decode cX10_put 15 = .ok (.astore 5, 2) := by decide +kernel
theorem dX10_put_17 : decode cX10_put 17 = .ok (.aload 5, 2) := by decide +kernel
theorem dX10_put_19 : decode cX10_put 19 = .ok (.invokevirtual 312, 3) := by decide +kernel
theorem dX10_put_22 : decode cX10_put 22 = .ok (.ifCond .eq 6, 3) := by decide +kernel
theorem dX10_put_25 : decode cX10_put 25 = .ok (.bipush (-11), 2) := by decide +kernel
theorem dX10_put_27 : decode cX10_put 27 = .ok (.ireturn, 1) := by decide +kernel
theorem dX10_refusalOfTable_0 : decode cX10_refusalOfTable 0 = .ok (.iload_n 1, 1) := by decide +kernel
theorem dX10_refusalOfTable_1 : decode cX10_refusalOfTable 1 = .ok (.invokestatic 303, 3) := by decide +kernel
theorem dX10_refusalOfTable_4 : decode cX10_refusalOfTable 4 = .ok (.ifCond .ne 5, 3) := by decide +kernel
theorem dX10_refusalOfTable_7 : decode cX10_refusalOfTable 7 = .ok (.iconst (-1), 1) := by decide +kernel
theorem dX10_refusalOfTable_8 : decode cX10_refusalOfTable 8 = .ok (.ireturn, 1) := by decide +kernel
theorem dX10_refusalOfTable_9 : decode cX10_refusalOfTable 9 = .ok (.aload_n 0, 1) := by decide +kernel
theorem dX10_refusalOfTable_10 : decode cX10_refusalOfTable 10 = .ok (.getfield 32, 3) := by decide +kernel
theorem dX10_refusalOfTable_13 : decode cX10_refusalOfTable 13 = .ok (.iload_n 1, 1) := by decide +kernel
theorem dX10_refusalOfTable_14 : decode cX10_refusalOfTable 14 = .ok (.aaload, 1) := by decide +kernel
theorem dX10_refusalOfTable_15 : decode cX10_refusalOfTable 15 = .ok (.astore 4, 2) := by decide +kernel
theorem dX10_refusalOfTable_17 : decode cX10_refusalOfTable 17 = .ok (.aload 4, 2) := by decide +kernel
theorem dX10_refusalOfTable_19 : decode cX10_refusalOfTable 19 = .ok (.invokevirtual 312, 3) := by decide +kernel
theorem dX10_refusalOfTable_22 : decode cX10_refusalOfTable 22 = .ok (.ifCond .eq 6, 3) := by decide +kernel
theorem dX10_refusalOfTable_25 : decode cX10_refusalOfTable 25 = .ok (.bipush (-11), 2) := by decide +kernel
theorem dX10_refusalOfTable_27 : decode cX10_refusalOfTable 27 = .ok (.ireturn, 1) := by decide +kernel
theorem dX10_round_0 : decode cX10_round 0 = .ok (.iload_n 1, 1) := by decide +kernel
theorem dX10_round_1 : decode cX10_round 1 = .ok (.ifCond .lt 8, 3) := by decide +kernel
theorem dX10_round_4 : decode cX10_round 4 = .ok (.iload_n 1, 1) := by decide +kernel
theorem dX10_round_5 : decode cX10_round 5 = .ok (.iconst 2, 1) := by decide +kernel
theorem dX10_round_6 : decode cX10_round 6 = .ok (.if_icmp .le 5, 3) := by decide +kernel
theorem dX10_round_9 : decode cX10_round 9 = .ok (.iconst (-1), 1) := by decide +kernel
theorem dX10_round_10 : decode cX10_round 10 = .ok (.ireturn, 1) := by decide +kernel
theorem dX10_round_11 : decode cX10_round 11 = .ok (.aload_n 0, 1) := by decide +kernel
theorem dX10_round_12 : decode cX10_round 12 = .ok (.getfield 51, 3) := by decide +kernel
theorem dX10_round_15 : decode cX10_round 15 = .ok (.ifCond .ne 6, 3) := by decide +kernel
theorem dX10_round_18 : decode cX10_round 18 = .ok (.bipush (-3), 2) := by decide +kernel
theorem dX10_round_20 : decode cX10_round 20 = .ok (.ireturn, 1) := by decide +kernel
theorem dX10_seed_0 : decode cX10_seed 0 = .ok (.aload_n 0, 1) := by decide +kernel
theorem dX10_seed_1 : decode cX10_seed 1 = .ok (.getfield 10, 3) := by decide +kernel
theorem dX10_seed_4 : decode cX10_seed 4 = .ok (.getfield 297, 3) := by decide +kernel
theorem dX10_seed_7 : decode cX10_seed 7 = .ok (.istore_n 2, 1) := by decide +kernel
theorem dX10_seed_8 : decode cX10_seed 8 = .ok (.aload_n 0, 1) := by decide +kernel
theorem dX10_seed_9 : decode cX10_seed 9 = .ok (.getfield 10, 3) := by decide +kernel
theorem dX10_seed_12 : decode cX10_seed 12 = .ok (.iload_n 1, 1) := by decide +kernel
theorem dX10_seed_13 : decode cX10_seed 13 = .ok (.putfield 297, 3) := by decide +kernel
theorem dX10_seed_16 : decode cX10_seed 16 = .ok (.iload_n 2, 1) := by decide +kernel
theorem dX10_seed_17 : decode cX10_seed 17 = .ok (.ireturn, 1) := by decide +kernel
theorem dX10_setPoint_0 : decode cX10_setPoint 0 = .ok (.aload_n 0, 1) := by decide +kernel
theorem dX10_setPoint_1 : decode cX10_setPoint 1 = .ok (.getfield 90, 3) := by decide +kernel
theorem dX10_setPoint_4 : decode cX10_setPoint 4 = .ok (.iconst 0, 1) := by decide +kernel
theorem dX10_setPoint_5 : decode cX10_setPoint 5 = .ok (.iload_n 1, 1) := by decide +kernel
theorem dX10_setPoint_6 : decode cX10_setPoint 6 = .ok (.i2l, 1) := by decide +kernel
theorem dX10_setPoint_7 : decode cX10_setPoint 7 = .ok (.lastore, 1) := by decide +kernel
theorem dX10_setPoint_8 : decode cX10_setPoint 8 = .ok (.aload_n 0, 1) := by decide +kernel
theorem dX10_setPoint_9 : decode cX10_setPoint 9 = .ok (.getfield 90, 3) := by decide +kernel
theorem dX10_setPoint_12 : decode cX10_setPoint 12 = .ok (.iconst 1, 1) := by decide +kernel
theorem dX10_setPoint_13 : decode cX10_setPoint 13 = .ok (.iload_n 2, 1) := by decide +kernel
theorem dX10_setPoint_14 : decode cX10_setPoint 14 = .ok (.i2l, 1) := by decide +kernel
theorem dX10_setPoint_15 : decode cX10_setPoint 15 = .ok (.lastore, 1) := by decide +kernel
theorem dX10_setPoint_16 : decode cX10_setPoint 16 = .ok (.aload_n 0, 1) := by decide +kernel
theorem dX10_setPoint_17 : decode cX10_setPoint 17 = .ok (.getfield 90, 3) := by decide +kernel
theorem dX10_setPoint_20 : decode cX10_setPoint 20 = .ok (.iconst 2, 1) := by decide +kernel
theorem dX10_setPoint_21 : decode cX10_setPoint 21 = .ok (.iload_n 3, 1) := by decide +kernel
theorem dX10_setPoint_22 : decode cX10_setPoint 22 = .ok (.i2l, 1) := by decide +kernel
theorem dX10_setPoint_23 : decode cX10_setPoint 23 = .ok (.lastore, 1) := by decide +kernel
theorem dX10_setPoint_24 : decode cX10_setPoint 24 = .ok (.return_, 1) := by decide +kernel
theorem dX10_sheet_0 : decode cX10_sheet 0 = .ok (.iload_n 1, 1) := by decide +kernel
theorem dX10_sheet_1 : decode cX10_sheet 1 = .ok (.invokestatic 303, 3) := by decide +kernel
theorem dX10_sheet_4 : decode cX10_sheet 4 = .ok (.ifCond .eq 15, 3) := by decide +kernel
theorem dX10_sheet_7 : decode cX10_sheet 7 = .ok (.iload_n 2, 1) := by decide +kernel
theorem dX10_sheet_8 : decode cX10_sheet 8 = .ok (.iconst (-1), 1) := by decide +kernel
theorem dX10_sheet_9 : decode cX10_sheet 9 = .ok (.if_icmp .eq 12, 3) := by decide +kernel
theorem dX10_sheet_12 : decode cX10_sheet 12 = .ok (.iload_n 2, 1) := by decide +kernel
theorem dX10_sheet_13 : decode cX10_sheet 13 = .ok (.invokestatic 306, 3) := by decide +kernel
theorem dX10_sheet_16 : decode cX10_sheet 16 = .ok (.ifCond .ne 5, 3) := by decide +kernel
theorem dX10_sheet_19 : decode cX10_sheet 19 = .ok (.iconst (-1), 1) := by decide +kernel
theorem dX10_sheet_20 : decode cX10_sheet 20 = .ok (.ireturn, 1) := by decide +kernel
theorem dX10_sheet_21 : decode cX10_sheet 21 = .ok (.iload_n 2, 1) := by decide +kernel
theorem dX10_sheet_22 : decode cX10_sheet 22 = .ok (.iconst (-1), 1) := by decide +kernel
theorem dX10_sheet_23 : decode cX10_sheet 23 = .ok (.if_icmp .ne 16, 3) := by decide +kernel
theorem dX10_sheet_26 : decode cX10_sheet 26 = .ok (.aload_n 0, 1) := by decide +kernel
theorem dX10_sheet_27 : decode cX10_sheet 27 = .ok (.getfield 32, 3) := by decide +kernel
theorem dX10_sheet_30 : decode cX10_sheet 30 = .ok (.iload_n 1, 1) := by decide +kernel
theorem dX10_sheet_31 : decode cX10_sheet 31 = .ok (.aaload, 1) := by decide +kernel
theorem dX10_sheet_32 : decode cX10_sheet 32 = .ok (.iconst (-1), 1) := by decide +kernel
theorem dX10_sheet_33 : decode cX10_sheet 33 = .ok (.iconst 0, 1) := by decide +kernel
theorem dX10_sheet_34 : decode cX10_sheet 34 = .ok (.invokevirtual 309, 3) := by decide +kernel
theorem dX10_sheet_37 : decode cX10_sheet 37 = .ok (.iconst 1, 1) := by decide +kernel
theorem dX10_sheet_38 : decode cX10_sheet 38 = .ok (.ireturn, 1) := by decide +kernel
theorem dX10_sheet_39 : decode cX10_sheet 39 = .ok (.iload_n 3, 1) := by decide +kernel
theorem dX10_sheet_40 : decode cX10_sheet 40 = .ok (.bipush 40, 2) := by decide +kernel
theorem dX10_sheet_42 : decode cX10_sheet 42 = .ok (.if_icmp .le 5, 3) := by decide +kernel
theorem dX10_sheet_45 : decode cX10_sheet 45 = .ok (.iconst (-1), 1) := by decide +kernel
theorem dX10_sheet_46 : decode cX10_sheet 46 = .ok (.ireturn, 1) := by decide +kernel
theorem dX10_sheet_47 : decode cX10_sheet 47 = .ok (.iload_n 3, 1) := by decide +kernel
theorem dX10_sheet_48 : decode cX10_sheet 48 = .ok (.ifCond .ge 6, 3) := by decide +kernel
theorem dX10_sheet_51 : decode cX10_sheet 51 = .ok (.bipush (-14), 2) := by decide +kernel
theorem dX10_sheet_53 : decode cX10_sheet 53 = .ok (.ireturn, 1) := by decide +kernel
theorem dX10_sheet_54 : decode cX10_sheet 54 = .ok (.aload_n 0, 1) := by decide +kernel
theorem dX10_sheet_55 : decode cX10_sheet 55 = .ok (.getfield 32, 3) := by decide +kernel
theorem dX10_sheet_58 : decode cX10_sheet 58 = .ok (.iload_n 1, 1) := by decide +kernel
theorem dX10_sheet_59 : decode cX10_sheet 59 = .ok (.aaload, 1) := by decide +kernel
theorem dX10_sheet_60 : decode cX10_sheet 60 = .ok (.iload_n 2, 1) := by decide +kernel
theorem dX10_sheet_61 : decode cX10_sheet 61 = .ok (.iload_n 3, 1) := by decide +kernel
theorem dX10_sheet_62 : decode cX10_sheet 62 = .ok (.invokevirtual 309, 3) := by decide +kernel
theorem dX10_sheet_65 : decode cX10_sheet 65 = .ok (.iconst 1, 1) := by decide +kernel
theorem dX10_sheet_66 : decode cX10_sheet 66 = .ok (.ireturn, 1) := by decide +kernel
theorem dX10_size_0 : decode cX10_size 0 = .ok (.iload_n 1, 1) := by decide +kernel
theorem dX10_size_1 : decode cX10_size 1 = .ok (.iconst 1, 1) := by decide +kernel
theorem dX10_size_2 : decode cX10_size 2 = .ok (.if_icmp .lt 8, 3) := by decide +kernel
theorem dX10_size_5 : decode cX10_size 5 = .ok (.iload_n 1, 1) := by decide +kernel
theorem dX10_size_6 : decode cX10_size 6 = .ok (.iconst 3, 1) := by decide +kernel
theorem dX10_size_7 : decode cX10_size 7 = .ok (.if_icmp .le 5, 3) := by decide +kernel
theorem dX10_size_10 : decode cX10_size 10 = .ok (.iconst (-1), 1) := by decide +kernel
theorem dX10_size_11 : decode cX10_size 11 = .ok (.ireturn, 1) := by decide +kernel
theorem dX10_size_12 : decode cX10_size 12 = .ok (.aload_n 0, 1) := by decide +kernel
theorem dX10_size_13 : decode cX10_size 13 = .ok (.getfield 10, 3) := by decide +kernel
theorem dX10_size_16 : decode cX10_size 16 = .ok (.getfield 98, 3) := by decide +kernel
theorem dX10_size_19 : decode cX10_size 19 = .ok (.istore_n 2, 1) := by decide +kernel
theorem dX10_size_20 : decode cX10_size 20 = .ok (.iload_n 1, 1) := by decide +kernel
theorem dX10_size_21 : decode cX10_size 21 = .ok (.iload_n 2, 1) := by decide +kernel
theorem dX10_size_22 : decode cX10_size 22 = .ok (.if_icmp .eq 23, 3) := by decide +kernel
theorem dX10_size_25 : decode cX10_size 25 = .ok (.aload_n 0, 1) := by decide +kernel
theorem dX10_size_26 : decode cX10_size 26 = .ok (.getfield 10, 3) := by decide +kernel
theorem dX10_size_29 : decode cX10_size 29 = .ok (.iload_n 1, 1) := by decide +kernel
theorem dX10_size_30 : decode cX10_size 30 = .ok (.putfield 98, 3) := by decide +kernel
theorem dX10_size_33 : decode cX10_size 33 = .ok (.aload_n 0, 1) := by decide +kernel
theorem dX10_size_34 : decode cX10_size 34 = .ok (.getfield 10, 3) := by decide +kernel
theorem dX10_size_37 : decode cX10_size 37 = .ok (.iconst 0, 1) := by decide +kernel
theorem dX10_size_38 : decode cX10_size 38 = .ok (.putfield 101, 3) := by decide +kernel
theorem dX10_size_41 : decode cX10_size 41 = .ok (.aload_n 0, 1) := by decide +kernel
theorem dX10_size_42 : decode cX10_size 42 = .ok (.invokevirtual 104, 3) := by decide +kernel
theorem dX10_size_45 : decode cX10_size 45 = .ok (.iload_n 2, 1) := by decide +kernel
theorem dX10_size_46 : decode cX10_size 46 = .ok (.ireturn, 1) := by decide +kernel
theorem dX10_still_0 : decode cX10_still 0 = .ok (.iload_n 1, 1) := by decide +kernel
theorem dX10_still_1 : decode cX10_still 1 = .ok (.iload_n 2, 1) := by decide +kernel
theorem dX10_still_2 : decode cX10_still 2 = .ok (.iload_n 3, 1) := by decide +kernel
theorem dX10_still_3 : decode cX10_still 3 = .ok (.invokestatic 268, 3) := by decide +kernel
theorem dX10_still_6 : decode cX10_still 6 = .ok (.ifCond .ne 5, 3) := by decide +kernel
theorem dX10_still_9 : decode cX10_still 9 = .ok (.iconst (-1), 1) := by decide +kernel
theorem dX10_still_10 : decode cX10_still 10 = .ok (.ireturn, 1) := by decide +kernel
theorem dX10_still_11 : decode cX10_still 11 = .ok (.aload_n 0, 1) := by decide +kernel
theorem dX10_still_12 : decode cX10_still 12 = .ok (.invokevirtual 195, 3) := by decide +kernel
theorem dX10_still_15 : decode cX10_still 15 = .ok (.aload_n 0, 1) := by decide +kernel
theorem dX10_still_16 : decode cX10_still 16 = .ok (.iload_n 1, 1) := by decide +kernel
theorem dX10_still_17 : decode cX10_still 17 = .ok (.iload_n 2, 1) := by decide +kernel
theorem dX10_still_18 : decode cX10_still 18 = .ok (.iload_n 3, 1) := by decide +kernel
theorem dX10_still_19 : decode cX10_still 19 = .ok (.invokevirtual 272, 3) := by decide +kernel
theorem dX10_still_22 : decode cX10_still 22 = .ok (.iconst 0, 1) := by decide +kernel
theorem dX10_still_23 : decode cX10_still 23 = .ok (.istore 4, 2) := by decide +kernel
theorem dX10_still_25 : decode cX10_still 25 = .ok (.iconst 0, 1) := by decide +kernel
theorem dX10_still_26 : decode cX10_still 26 = .ok (.istore 5, 2) := by decide +kernel
theorem dX10_still_28 : decode cX10_still 28 = .ok (.iload 5, 2) := by decide +kernel
theorem dX10_still_30 : decode cX10_still 30 = .ok (.aload_n 0, 1) := by decide +kernel
theorem dX10_still_31 : decode cX10_still 31 = .ok (.getfield 41, 3) := by decide +kernel
theorem dX10_still_34 : decode cX10_still 34 = .ok (.getfield 198, 3) := by decide +kernel
theorem dX10_still_37 : decode cX10_still 37 = .ok (.if_icmp .ge 68, 3) := by decide +kernel
theorem dX10_still_40 : decode cX10_still 40 = .ok (.aload_n 0, 1) := by decide +kernel
theorem dX10_still_41 : decode cX10_still 41 = .ok (.getfield 41, 3) := by decide +kernel
theorem dX10_still_44 : decode cX10_still 44 = .ok (.getfield 207, 3) := by decide +kernel
theorem dX10_still_47 : decode cX10_still 47 = .ok (.aload_n 0, 1) := by decide +kernel
theorem dX10_still_48 : decode cX10_still 48 = .ok (.getfield 41, 3) := by decide +kernel
theorem dX10_still_51 : decode cX10_still 51 = .ok (.iload 5, 2) := by decide +kernel
theorem dX10_still_53 : decode cX10_still 53 = .ok (.invokevirtual 208, 3) := by decide +kernel
theorem dX10_still_56 : decode cX10_still 56 = .ok (.aload_n 0, 1) := by decide +kernel
theorem dX10_still_57 : decode cX10_still 57 = .ok (.getfield 90, 3) := by decide +kernel
theorem dX10_still_60 : decode cX10_still 60 = .ok (.iconst 0, 1) := by decide +kernel
theorem dX10_still_61 : decode cX10_still 61 = .ok (.aload_n 0, 1) := by decide +kernel
theorem dX10_still_62 : decode cX10_still 62 = .ok (.getfield 94, 3) := by decide +kernel
theorem dX10_still_65 : decode cX10_still 65 = .ok (.aload_n 0, 1) := by decide +kernel
theorem dX10_still_66 : decode cX10_still 66 = .ok (.getfield 10, 3) := by decide +kernel
theorem dX10_still_69 : decode cX10_still 69 = .ok (.getfield 98, 3) := by decide +kernel
theorem dX10_still_72 : decode cX10_still 72 = .ok (.invokestatic 289, 3) := by decide +kernel
theorem dX10_still_75 : decode cX10_still 75 = .ok (.aload_n 0, 1) := by decide +kernel
theorem dX10_still_76 : decode cX10_still 76 = .ok (.getfield 90, 3) := by decide +kernel
theorem dX10_still_79 : decode cX10_still 79 = .ok (.aload_n 0, 1) := by decide +kernel
theorem dX10_still_80 : decode cX10_still 80 = .ok (.getfield 94, 3) := by decide +kernel
theorem dX10_still_83 : decode cX10_still 83 = .ok (.aload_n 0, 1) := by decide +kernel
theorem dX10_still_84 : decode cX10_still 84 = .ok (.getfield 10, 3) := by decide +kernel
theorem dX10_still_87 : decode cX10_still 87 = .ok (.getfield 98, 3) := by decide +kernel
theorem dX10_still_90 : decode cX10_still 90 = .ok (.invokestatic 293, 3) := by decide +kernel
theorem dX10_still_93 : decode cX10_still 93 = .ok (.ifCond .eq 6, 3) := by decide +kernel
theorem dX10_still_96 : decode cX10_still 96 = .ok (.iinc 4 1, 3) := by decide +kernel
theorem dX10_still_99 : decode cX10_still 99 = .ok (.iinc 5 1, 3) := by decide +kernel
theorem dX10_still_102 : decode cX10_still 102 = .ok (.goto (-74), 3) := by decide +kernel
theorem dX10_still_105 : decode cX10_still 105 = .ok (.iload 4, 2) := by decide +kernel
theorem dX10_still_107 : decode cX10_still 107 = .ok (.ireturn, 1) := by decide +kernel
theorem dX10_take_0 : decode cX10_take 0 = .ok (.aload_n 0, 1) := by decide +kernel
theorem dX10_take_1 : decode cX10_take 1 = .ok (.iload_n 1, 1) := by decide +kernel
theorem dX10_take_2 : decode cX10_take 2 = .ok (.iload_n 2, 1) := by decide +kernel
theorem dX10_take_3 : decode cX10_take 3 = .ok (.iconst 1, 1) := by decide +kernel
theorem dX10_take_4 : decode cX10_take 4 = .ok (.invokevirtual 247, 3) := by decide +kernel
theorem dX10_take_7 : decode cX10_take 7 = .ok (.istore_n 3, 1) := by decide +kernel
theorem dX10_take_8 : decode cX10_take 8 = .ok (.iload_n 3, 1) := by decide +kernel
theorem dX10_take_9 : decode cX10_take 9 = .ok (.ifCond .eq 5, 3) := by decide +kernel
theorem dX10_take_12 : decode cX10_take 12 = .ok (.iload_n 3, 1) := by decide +kernel
theorem dX10_take_13 : decode cX10_take 13 = .ok (.ireturn, 1) := by decide +kernel
theorem dX10_text_0 : decode cX10_text 0 = .ok (.aload_n 0, 1) := by decide +kernel
theorem dX10_text_1 : decode cX10_text 1 = .ok (.getfield 26, 3) := by decide +kernel
theorem dX10_text_4 : decode cX10_text 4 = .ok (.aload_n 0, 1) := by decide +kernel
theorem dX10_text_5 : decode cX10_text 5 = .ok (.getfield 10, 3) := by decide +kernel
theorem dX10_text_8 : decode cX10_text 8 = .ok (.getfield 98, 3) := by decide +kernel
theorem dX10_text_11 : decode cX10_text 11 = .ok (.invokevirtual 179, 3) := by decide +kernel
theorem dX10_text_14 : decode cX10_text 14 = .ok (.istore_n 1, 1) := by decide +kernel
theorem dX10_text_15 : decode cX10_text 15 = .ok (.aload_n 0, 1) := by decide +kernel
theorem dX10_text_16 : decode cX10_text 16 = .ok (.getfield 26, 3) := by decide +kernel
theorem dX10_text_19 : decode cX10_text 19 = .ok (.iconst 0, 1) := by decide +kernel
theorem dX10_text_20 : decode cX10_text 20 = .ok (.putfield 174, 3) := by decide +kernel
theorem dX10_text_23 : decode cX10_text 23 = .ok (.iload_n 1, 1) := by decide +kernel
theorem dX10_text_24 : decode cX10_text 24 = .ok (.ifCond .ne 14, 3) := by decide +kernel
theorem dX10_text_38 : decode cX10_text 38 = .ok (.aload_n 0, 1) := by decide +kernel
