theorem dX11_finds_150 : decode cX11_finds 150 = .ok (.iconst 3, 1) := by decide +kernel
theorem dX11_finds_151 : decode cX11_finds 151 = .ok (.if_icmp .ne 8, 3) := by decide +kernel
theorem dX11_finds_154 : decode cX11_finds 154 = .ok (.lload_n 2, 1) := by decide +kernel
theorem dX11_finds_155 : decode cX11_finds 155 = .ok (.lneg, 1) := by decide +kernel
theorem dX11_finds_156 : decode cX11_finds 156 = .ok (.goto 4, 3) := by decide +kernel
theorem dX11_finds_159 : decode cX11_finds 159 = .ok (.lconst 0, 1) := by decide +kernel
theorem dX11_finds_160 : decode cX11_finds 160 = .ok (.lastore, 1) := by decide +kernel
theorem dX11_finds_161 : decode cX11_finds 161 = .ok (.aload_n 0, 1) := by decide +kernel
theorem dX11_finds_162 : decode cX11_finds 162 = .ok (.getfield 36, 3) := by decide +kernel
theorem dX11_finds_165 : decode cX11_finds 165 = .ok (.iconst 3, 1) := by decide +kernel
theorem dX11_finds_166 : decode cX11_finds 166 = .ok (.aload_n 0, 1) := by decide +kernel
theorem dX11_finds_167 : decode cX11_finds 167 = .ok (.getfield 7, 3) := by decide +kernel
theorem dX11_finds_170 : decode cX11_finds 170 = .ok (.iconst 3, 1) := by decide +kernel
theorem dX11_finds_171 : decode cX11_finds 171 = .ok (.if_icmp .ne 7, 3) := by decide +kernel
theorem dX11_finds_174 : decode cX11_finds 174 = .ok (.lconst 1, 1) := by decide +kernel
theorem dX11_finds_175 : decode cX11_finds 175 = .ok (.goto 4, 3) := by decide +kernel
theorem dX11_finds_178 : decode cX11_finds 178 = .ok (.lconst 0, 1) := by decide +kernel
theorem dX11_finds_179 : decode cX11_finds 179 = .ok (.lastore, 1) := by decide +kernel
theorem dX11_finds_180 : decode cX11_finds 180 = .ok (.return_, 1) := by decide +kernel
theorem dX11_first_0 : decode cX11_first 0 = .ok (.aload_n 0, 1) := by decide +kernel
theorem dX11_first_1 : decode cX11_first 1 = .ok (.aload_n 1, 1) := by decide +kernel
theorem dX11_first_2 : decode cX11_first 2 = .ok (.invokevirtual 90, 3) := by decide +kernel
theorem dX11_first_5 : decode cX11_first 5 = .ok (.iconst 0, 1) := by decide +kernel
theorem dX11_first_6 : decode cX11_first 6 = .ok (.istore_n 2, 1) := by decide +kernel
theorem dX11_first_7 : decode cX11_first 7 = .ok (.iload_n 2, 1) := by decide +kernel
theorem dX11_first_8 : decode cX11_first 8 = .ok (.aload_n 0, 1) := by decide +kernel
theorem dX11_first_9 : decode cX11_first 9 = .ok (.getfield 7, 3) := by decide +kernel
theorem dX11_first_12 : decode cX11_first 12 = .ok (.if_icmp .ge 15, 3) := by decide +kernel
theorem dX11_first_15 : decode cX11_first 15 = .ok (.aload_n 1, 1) := by decide +kernel
theorem dX11_first_16 : decode cX11_first 16 = .ok (.iconst 4, 1) := by decide +kernel
theorem dX11_first_17 : decode cX11_first 17 = .ok (.iload_n 2, 1) := by decide +kernel
theorem dX11_first_18 : decode cX11_first 18 = .ok (.imul, 1) := by decide +kernel
theorem dX11_first_19 : decode cX11_first 19 = .ok (.lconst 1, 1) := by decide +kernel
theorem dX11_first_20 : decode cX11_first 20 = .ok (.lastore, 1) := by decide +kernel
theorem dX11_first_21 : decode cX11_first 21 = .ok (.iinc 2 1, 3) := by decide +kernel
theorem dX11_first_24 : decode cX11_first 24 = .ok (.goto (-17), 3) := by decide +kernel
theorem dX11_first_27 : decode cX11_first 27 = .ok (.return_, 1) := by decide +kernel
theorem dX11_form_0 : decode cX11_form 0 = .ok (.aload_n 0, 1) := by decide +kernel
theorem dX11_form_1 : decode cX11_form 1 = .ok (.iload_n 1, 1) := by decide +kernel
theorem dX11_form_2 : decode cX11_form 2 = .ok (.invokevirtual 110, 3) := by decide +kernel
theorem dX11_form_5 : decode cX11_form 5 = .ok (.ifCond .eq 11, 3) := by decide +kernel
theorem dX11_form_8 : decode cX11_form 8 = .ok (.aload_n 0, 1) := by decide +kernel
theorem dX11_form_9 : decode cX11_form 9 = .ok (.iload_n 2, 1) := by decide +kernel
theorem dX11_form_10 : decode cX11_form 10 = .ok (.invokevirtual 110, 3) := by decide +kernel
theorem dX11_form_13 : decode cX11_form 13 = .ok (.ifCond .ne 8, 3) := by decide +kernel
theorem dX11_form_16 : decode cX11_form 16 = .ok (.iconst (-1), 1) := by decide +kernel
theorem dX11_form_17 : decode cX11_form 17 = .ok (.invokestatic 222, 3) := by decide +kernel
theorem dX11_form_20 : decode cX11_form 20 = .ok (.lreturn, 1) := by decide +kernel
theorem dX11_form_21 : decode cX11_form 21 = .ok (.aload_n 0, 1) := by decide +kernel
theorem dX11_form_22 : decode cX11_form 22 = .ok (.invokevirtual 219, 3) := by decide +kernel
theorem dX11_form_25 : decode cX11_form 25 = .ok (.aload_n 0, 1) := by decide +kernel
theorem dX11_form_26 : decode cX11_form 26 = .ok (.getfield 216, 3) := by decide +kernel
theorem dX11_form_29 : decode cX11_form 29 = .ok (.ifCond .ne 9, 3) := by decide +kernel
theorem dX11_form_32 : decode cX11_form 32 = .ok (.bipush (-3), 2) := by decide +kernel
theorem dX11_form_34 : decode cX11_form 34 = .ok (.invokestatic 222, 3) := by decide +kernel
theorem dX11_form_37 : decode cX11_form 37 = .ok (.lreturn, 1) := by decide +kernel
theorem dX11_form_38 : decode cX11_form 38 = .ok (.aload_n 0, 1) := by decide +kernel
theorem dX11_form_39 : decode cX11_form 39 = .ok (.invokevirtual 230, 3) := by decide +kernel
theorem dX11_form_42 : decode cX11_form 42 = .ok (.ifCond .ne 9, 3) := by decide +kernel
theorem dX11_form_45 : decode cX11_form 45 = .ok (.bipush (-16), 2) := by decide +kernel
theorem dX11_form_47 : decode cX11_form 47 = .ok (.invokestatic 222, 3) := by decide +kernel
theorem dX11_form_50 : decode cX11_form 50 = .ok (.lreturn, 1) := by decide +kernel
theorem dX11_form_51 : decode cX11_form 51 = .ok (.lconst 0, 1) := by decide +kernel
theorem dX11_form_52 : decode cX11_form 52 = .ok (.lstore_n 3, 1) := by decide +kernel
theorem dX11_form_53 : decode cX11_form 53 = .ok (.iconst 0, 1) := by decide +kernel
theorem dX11_form_54 : decode cX11_form 54 = .ok (.istore 5, 2) := by decide +kernel
theorem dX11_form_56 : decode cX11_form 56 = .ok (.iload 5, 2) := by decide +kernel
theorem dX11_form_58 : decode cX11_form 58 = .ok (.bipush 9, 2) := by decide +kernel
theorem dX11_form_60 : decode cX11_form 60 = .ok (.if_icmp .ge 21, 3) := by decide +kernel
theorem dX11_form_63 : decode cX11_form 63 = .ok (.lload_n 3, 1) := by decide +kernel
theorem dX11_form_64 : decode cX11_form 64 = .ok (.aload_n 0, 1) := by decide +kernel
theorem dX11_form_65 : decode cX11_form 65 = .ok (.getfield 27, 3) := by decide +kernel
theorem dX11_form_68 : decode cX11_form 68 = .ok (.iload 5, 2) := by decide +kernel
theorem dX11_form_70 : decode cX11_form 70 = .ok (.laload, 1) := by decide +kernel
theorem dX11_form_71 : decode cX11_form 71 = .ok (.invokestatic 233, 3) := by decide +kernel
theorem dX11_form_74 : decode cX11_form 74 = .ok (.lstore_n 3, 1) := by decide +kernel
theorem dX11_form_75 : decode cX11_form 75 = .ok (.iinc 5 1, 3) := by decide +kernel
theorem dX11_form_78 : decode cX11_form 78 = .ok (.goto (-22), 3) := by decide +kernel
theorem dX11_form_81 : decode cX11_form 81 = .ok (.aload_n 0, 1) := by decide +kernel
theorem dX11_form_82 : decode cX11_form 82 = .ok (.getfield 27, 3) := by decide +kernel
theorem dX11_form_85 : decode cX11_form 85 = .ok (.iconst 3, 1) := by decide +kernel
theorem dX11_form_86 : decode cX11_form 86 = .ok (.iload_n 1, 1) := by decide +kernel
theorem dX11_form_87 : decode cX11_form 87 = .ok (.imul, 1) := by decide +kernel
theorem dX11_form_88 : decode cX11_form 88 = .ok (.iload_n 2, 1) := by decide +kernel
theorem dX11_form_89 : decode cX11_form 89 = .ok (.iadd, 1) := by decide +kernel
theorem dX11_form_90 : decode cX11_form 90 = .ok (.laload, 1) := by decide +kernel
theorem dX11_form_91 : decode cX11_form 91 = .ok (.lload_n 3, 1) := by decide +kernel
theorem dX11_form_92 : decode cX11_form 92 = .ok (.ldiv, 1) := by decide +kernel
theorem dX11_form_93 : decode cX11_form 93 = .ok (.lreturn, 1) := by decide +kernel
theorem dX11_found_0 : decode cX11_found 0 = .ok (.iconst 0, 1) := by decide +kernel
theorem dX11_found_1 : decode cX11_found 1 = .ok (.istore_n 2, 1) := by decide +kernel
theorem dX11_found_2 : decode cX11_found 2 = .ok (.iload_n 1, 1) := by decide +kernel
theorem dX11_found_3 : decode cX11_found 3 = .ok (.ifCond .lt 7, 3) := by decide +kernel
theorem dX11_found_6 : decode cX11_found 6 = .ok (.iconst 1, 1) := by decide +kernel
theorem dX11_found_7 : decode cX11_found 7 = .ok (.goto 4, 3) := by decide +kernel
theorem dX11_found_10 : decode cX11_found 10 = .ok (.iconst 0, 1) := by decide +kernel
theorem dX11_found_11 : decode cX11_found 11 = .ok (.istore_n 3, 1) := by decide +kernel
theorem dX11_found_12 : decode cX11_found 12 = .ok (.iload_n 1, 1) := by decide +kernel
theorem dX11_found_13 : decode cX11_found 13 = .ok (.istore 4, 2) := by decide +kernel
theorem dX11_found_15 : decode cX11_found 15 = .ok (.iload 4, 2) := by decide +kernel
theorem dX11_found_17 : decode cX11_found 17 = .ok (.ifCond .le 44, 3) := by decide +kernel
theorem dX11_found_20 : decode cX11_found 20 = .ok (.iload_n 3, 1) := by decide +kernel
theorem dX11_found_21 : decode cX11_found 21 = .ok (.ifCond .eq 25, 3) := by decide +kernel
theorem dX11_found_24 : decode cX11_found 24 = .ok (.iload 4, 2) := by decide +kernel
theorem dX11_found_26 : decode cX11_found 26 = .ok (.bipush 10, 2) := by decide +kernel
theorem dX11_found_28 : decode cX11_found 28 = .ok (.irem, 1) := by decide +kernel
theorem dX11_found_29 : decode cX11_found 29 = .ok (.i2l, 1) := by decide +kernel
theorem dX11_found_30 : decode cX11_found 30 = .ok (.lconst 1, 1) := by decide +kernel
theorem dX11_found_31 : decode cX11_found 31 = .ok (.aload_n 0, 1) := by decide +kernel
theorem dX11_found_32 : decode cX11_found 32 = .ok (.getfield 85, 3) := by decide +kernel
theorem dX11_found_35 : decode cX11_found 35 = .ok (.i2l, 1) := by decide +kernel
theorem dX11_found_36 : decode cX11_found 36 = .ok (.invokestatic 81, 3) := by decide +kernel
theorem dX11_found_39 : decode cX11_found 39 = .ok (.ifCond .eq 7, 3) := by decide +kernel
theorem dX11_found_42 : decode cX11_found 42 = .ok (.iconst 1, 1) := by decide +kernel
theorem dX11_found_43 : decode cX11_found 43 = .ok (.goto 4, 3) := by decide +kernel
theorem dX11_found_46 : decode cX11_found 46 = .ok (.iconst 0, 1) := by decide +kernel
theorem dX11_found_47 : decode cX11_found 47 = .ok (.istore_n 3, 1) := by decide +kernel
theorem dX11_found_48 : decode cX11_found 48 = .ok (.iinc 2 1, 3) := by decide +kernel
theorem dX11_found_51 : decode cX11_found 51 = .ok (.iload 4, 2) := by decide +kernel
theorem dX11_found_53 : decode cX11_found 53 = .ok (.bipush 10, 2) := by decide +kernel
theorem dX11_found_55 : decode cX11_found 55 = .ok (.idiv, 1) := by decide +kernel
theorem dX11_found_56 : decode cX11_found 56 = .ok (.istore 4, 2) := by decide +kernel
theorem dX11_found_58 : decode cX11_found 58 = .ok (.goto (-43), 3) := by decide +kernel
theorem dX11_found_61 : decode cX11_found 61 = .ok (.iload_n 3, 1) := by decide +kernel
theorem dX11_found_62 : decode cX11_found 62 = .ok (.ifCond .eq 9, 3) := by decide +kernel
theorem dX11_found_65 : decode cX11_found 65 = .ok (.iload_n 2, 1) := by decide +kernel
theorem dX11_found_66 : decode cX11_found 66 = .ok (.bipush 9, 2) := by decide +kernel
theorem dX11_found_68 : decode cX11_found 68 = .ok (.if_icmp .le 5, 3) := by decide +kernel
theorem dX11_found_71 : decode cX11_found 71 = .ok (.iconst (-1), 1) := by decide +kernel
theorem dX11_found_72 : decode cX11_found 72 = .ok (.ireturn, 1) := by decide +kernel
theorem dX11_found_73 : decode cX11_found 73 = .ok (.aload_n 0, 1) := by decide +kernel
theorem dX11_found_74 : decode cX11_found 74 = .ok (.invokevirtual 219, 3) := by decide +kernel
theorem dX11_found_77 : decode cX11_found 77 = .ok (.aload_n 0, 1) := by decide +kernel
theorem dX11_found_78 : decode cX11_found 78 = .ok (.aload_n 0, 1) := by decide +kernel
theorem dX11_found_79 : decode cX11_found 79 = .ok (.getfield 27, 3) := by decide +kernel
theorem dX11_found_82 : decode cX11_found 82 = .ok (.invokevirtual 107, 3) := by decide +kernel
theorem dX11_found_85 : decode cX11_found 85 = .ok (.iconst 1, 1) := by decide +kernel
theorem dX11_found_86 : decode cX11_found 86 = .ok (.istore 4, 2) := by decide +kernel
theorem dX11_found_88 : decode cX11_found 88 = .ok (.iconst 1, 1) := by decide +kernel
theorem dX11_found_89 : decode cX11_found 89 = .ok (.istore 5, 2) := by decide +kernel
theorem dX11_found_91 : decode cX11_found 91 = .ok (.iload 5, 2) := by decide +kernel
theorem dX11_found_93 : decode cX11_found 93 = .ok (.iload_n 2, 1) := by decide +kernel
theorem dX11_found_94 : decode cX11_found 94 = .ok (.if_icmp .ge 16, 3) := by decide +kernel
theorem dX11_found_97 : decode cX11_found 97 = .ok (.iload 4, 2) := by decide +kernel
theorem dX11_found_99 : decode cX11_found 99 = .ok (.bipush 10, 2) := by decide +kernel
theorem dX11_found_101 : decode cX11_found 101 = .ok (.imul, 1) := by decide +kernel
theorem dX11_found_102 : decode cX11_found 102 = .ok (.istore 4, 2) := by decide +kernel
theorem dX11_found_104 : decode cX11_found 104 = .ok (.iinc 5 1, 3) := by decide +kernel
theorem dX11_found_107 : decode cX11_found 107 = .ok (.goto (-16), 3) := by decide +kernel
theorem dX11_found_110 : decode cX11_found 110 = .ok (.iconst 0, 1) := by decide +kernel
theorem dX11_found_111 : decode cX11_found 111 = .ok (.istore 5, 2) := by decide +kernel
theorem dX11_found_113 : decode cX11_found 113 = .ok (.iload 5, 2) := by decide +kernel
theorem dX11_found_115 : decode cX11_found 115 = .ok (.iload_n 2, 1) := by decide +kernel
theorem dX11_found_116 : decode cX11_found 116 = .ok (.if_icmp .ge 93, 3) := by decide +kernel
theorem dX11_found_119 : decode cX11_found 119 = .ok (.aload_n 0, 1) := by decide +kernel
theorem dX11_found_120 : decode cX11_found 120 = .ok (.iload_n 1, 1) := by decide +kernel
theorem dX11_found_121 : decode cX11_found 121 = .ok (.iload 4, 2) := by decide +kernel
theorem dX11_found_123 : decode cX11_found 123 = .ok (.idiv, 1) := by decide +kernel
theorem dX11_found_124 : decode cX11_found 124 = .ok (.bipush 10, 2) := by decide +kernel
theorem dX11_found_126 : decode cX11_found 126 = .ok (.irem, 1) := by decide +kernel
theorem dX11_found_127 : decode cX11_found 127 = .ok (.iconst 1, 1) := by decide +kernel
theorem dX11_found_128 : decode cX11_found 128 = .ok (.isub, 1) := by decide +kernel
theorem dX11_found_129 : decode cX11_found 129 = .ok (.aload_n 0, 1) := by decide +kernel
theorem dX11_found_130 : decode cX11_found 130 = .ok (.getfield 30, 3) := by decide +kernel
theorem dX11_found_133 : decode cX11_found 133 = .ok (.invokevirtual 125, 3) := by decide +kernel
theorem dX11_found_136 : decode cX11_found 136 = .ok (.aload_n 0, 1) := by decide +kernel
theorem dX11_found_137 : decode cX11_found 137 = .ok (.aload_n 0, 1) := by decide +kernel
theorem dX11_found_138 : decode cX11_found 138 = .ok (.getfield 27, 3) := by decide +kernel
theorem dX11_found_141 : decode cX11_found 141 = .ok (.aload_n 0, 1) := by decide +kernel
theorem dX11_found_142 : decode cX11_found 142 = .ok (.getfield 30, 3) := by decide +kernel
theorem dX11_found_145 : decode cX11_found 145 = .ok (.aload_n 0, 1) := by decide +kernel
theorem dX11_found_146 : decode cX11_found 146 = .ok (.getfield 33, 3) := by decide +kernel
theorem dX11_found_149 : decode cX11_found 149 = .ok (.invokevirtual 129, 3) := by decide +kernel
theorem dX11_found_152 : decode cX11_found 152 = .ok (.aload_n 0, 1) := by decide +kernel
theorem dX11_found_153 : decode cX11_found 153 = .ok (.aload_n 0, 1) := by decide +kernel
theorem dX11_found_154 : decode cX11_found 154 = .ok (.getfield 33, 3) := by decide +kernel
theorem dX11_found_157 : decode cX11_found 157 = .ok (.invokevirtual 154, 3) := by decide +kernel
theorem dX11_found_160 : decode cX11_found 160 = .ok (.ifCond .eq 6, 3) := by decide +kernel
theorem dX11_found_163 : decode cX11_found 163 = .ok (.bipush (-16), 2) := by decide +kernel
theorem dX11_found_165 : decode cX11_found 165 = .ok (.ireturn, 1) := by decide +kernel
theorem dX11_found_166 : decode cX11_found 166 = .ok (.iconst 0, 1) := by decide +kernel
theorem dX11_found_167 : decode cX11_found 167 = .ok (.istore 6, 2) := by decide +kernel
theorem dX11_found_169 : decode cX11_found 169 = .ok (.iload 6, 2) := by decide +kernel
theorem dX11_found_171 : decode cX11_found 171 = .ok (.bipush 9, 2) := by decide +kernel
theorem dX11_found_173 : decode cX11_found 173 = .ok (.if_icmp .ge 23, 3) := by decide +kernel
theorem dX11_found_176 : decode cX11_found 176 = .ok (.aload_n 0, 1) := by decide +kernel
theorem dX11_found_177 : decode cX11_found 177 = .ok (.getfield 27, 3) := by decide +kernel
theorem dX11_found_180 : decode cX11_found 180 = .ok (.iload 6, 2) := by decide +kernel
theorem dX11_found_182 : decode cX11_found 182 = .ok (.aload_n 0, 1) := by decide +kernel
theorem dX11_found_183 : decode cX11_found 183 = .ok (.getfield 33, 3) := by decide +kernel
theorem dX11_found_186 : decode cX11_found 186 = .ok (.iload 6, 2) := by decide +kernel
theorem dX11_found_188 : decode cX11_found 188 = .ok (.laload, 1) := by decide +kernel
theorem dX11_found_189 : decode cX11_found 189 = .ok (.lastore, 1) := by decide +kernel
theorem dX11_found_190 : decode cX11_found 190 = .ok (.iinc 6 1, 3) := by decide +kernel
theorem dX11_found_193 : decode cX11_found 193 = .ok (.goto (-24), 3) := by decide +kernel
theorem dX11_found_196 : decode cX11_found 196 = .ok (.iload 4, 2) := by decide +kernel
theorem dX11_found_198 : decode cX11_found 198 = .ok (.bipush 10, 2) := by decide +kernel
theorem dX11_found_200 : decode cX11_found 200 = .ok (.idiv, 1) := by decide +kernel
theorem dX11_found_201 : decode cX11_found 201 = .ok (.istore 4, 2) := by decide +kernel
theorem dX11_found_203 : decode cX11_found 203 = .ok (.iinc 5 1, 3) := by decide +kernel
theorem dX11_found_206 : decode cX11_found 206 = .ok (.goto (-93), 3) := by decide +kernel
theorem dX11_found_209 : decode cX11_found 209 = .ok (.aload_n 0, 1) := by decide +kernel
theorem dX11_found_210 : decode cX11_found 210 = .ok (.aload_n 0, 1) := by decide +kernel
theorem dX11_found_211 : decode cX11_found 211 = .ok (.getfield 27, 3) := by decide +kernel
theorem dX11_found_214 : decode cX11_found 214 = .ok (.invokevirtual 212, 3) := by decide +kernel
theorem dX11_found_217 : decode cX11_found 217 = .ok (.istore 5, 2) := by decide +kernel
theorem dX11_found_219 : decode cX11_found 219 = .ok (.iload 5, 2) := by decide +kernel
theorem dX11_found_221 : decode cX11_found 221 = .ok (.ifCond .ge 8, 3) := by decide +kernel
theorem dX11_found_224 : decode cX11_found 224 = .ok (.bipush (-3), 2) := by decide +kernel
theorem dX11_found_226 : decode cX11_found 226 = .ok (.goto 5, 3) := by decide +kernel
theorem dX11_found_229 : decode cX11_found 229 = .ok (.iload 5, 2) := by decide +kernel
theorem dX11_found_231 : decode cX11_found 231 = .ok (.ireturn, 1) := by decide +kernel
theorem dX11_goes_0 : decode cX11_goes 0 = .ok (.aload_n 0, 1) := by decide +kernel
theorem dX11_goes_1 : decode cX11_goes 1 = .ok (.iload_n 1, 1) := by decide +kernel
theorem dX11_goes_2 : decode cX11_goes 2 = .ok (.aload_n 0, 1) := by decide +kernel
theorem dX11_goes_3 : decode cX11_goes 3 = .ok (.getfield 30, 3) := by decide +kernel
theorem dX11_goes_6 : decode cX11_goes 6 = .ok (.invokevirtual 125, 3) := by decide +kernel
theorem dX11_goes_9 : decode cX11_goes 9 = .ok (.iconst 0, 1) := by decide +kernel
theorem dX11_goes_10 : decode cX11_goes 10 = .ok (.istore_n 3, 1) := by decide +kernel
theorem dX11_goes_11 : decode cX11_goes 11 = .ok (.iload_n 3, 1) := by decide +kernel
theorem dX11_goes_12 : decode cX11_goes 12 = .ok (.iconst 3, 1) := by decide +kernel
theorem dX11_goes_13 : decode cX11_goes 13 = .ok (.if_icmp .ge 66, 3) := by decide +kernel
theorem dX11_goes_16 : decode cX11_goes 16 = .ok (.aload_n 0, 1) := by decide +kernel
theorem dX11_goes_17 : decode cX11_goes 17 = .ok (.getfield 27, 3) := by decide +kernel
theorem dX11_goes_20 : decode cX11_goes 20 = .ok (.iload_n 3, 1) := by decide +kernel
theorem dX11_goes_21 : decode cX11_goes 21 = .ok (.lconst 0, 1) := by decide +kernel
theorem dX11_goes_22 : decode cX11_goes 22 = .ok (.lastore, 1) := by decide +kernel
theorem dX11_goes_23 : decode cX11_goes 23 = .ok (.iconst 0, 1) := by decide +kernel
theorem dX11_goes_24 : decode cX11_goes 24 = .ok (.istore 4, 2) := by decide +kernel
theorem dX11_goes_26 : decode cX11_goes 26 = .ok (.iload 4, 2) := by decide +kernel
theorem dX11_goes_28 : decode cX11_goes 28 = .ok (.aload_n 0, 1) := by decide +kernel
theorem dX11_goes_29 : decode cX11_goes 29 = .ok (.getfield 7, 3) := by decide +kernel
theorem dX11_goes_32 : decode cX11_goes 32 = .ok (.if_icmp .ge 41, 3) := by decide +kernel
theorem dX11_goes_35 : decode cX11_goes 35 = .ok (.aload_n 0, 1) := by decide +kernel
theorem dX11_goes_36 : decode cX11_goes 36 = .ok (.getfield 27, 3) := by decide +kernel
theorem dX11_goes_39 : decode cX11_goes 39 = .ok (.iload_n 3, 1) := by decide +kernel
theorem dX11_goes_40 : decode cX11_goes 40 = .ok (.dup2, 1) := by decide +kernel
theorem dX11_goes_41 : decode cX11_goes 41 = .ok (.laload, 1) := by decide +kernel
theorem dX11_goes_42 : decode cX11_goes 42 = .ok (.aload_n 0, 1) := by decide +kernel
theorem dX11_goes_43 : decode cX11_goes 43 = .ok (.getfield 30, 3) := by decide +kernel
theorem dX11_goes_46 : decode cX11_goes 46 = .ok (.iconst 3, 1) := by decide +kernel
theorem dX11_goes_47 : decode cX11_goes 47 = .ok (.iload_n 3, 1) := by decide +kernel
theorem dX11_goes_48 : decode cX11_goes 48 = .ok (.imul, 1) := by decide +kernel
theorem dX11_goes_49 : decode cX11_goes 49 = .ok (.iload 4, 2) := by decide +kernel
theorem dX11_goes_51 : decode cX11_goes 51 = .ok (.iadd, 1) := by decide +kernel
theorem dX11_goes_52 : decode cX11_goes 52 = .ok (.laload, 1) := by decide +kernel
theorem dX11_goes_53 : decode cX11_goes 53 = .ok (.aload_n 0, 1) := by decide +kernel
theorem dX11_goes_54 : decode cX11_goes 54 = .ok (.getfield 60, 3) := by decide +kernel
theorem dX11_goes_57 : decode cX11_goes 57 = .ok (.iconst 3, 1) := by decide +kernel
theorem dX11_goes_58 : decode cX11_goes 58 = .ok (.iload_n 2, 1) := by decide +kernel
theorem dX11_goes_59 : decode cX11_goes 59 = .ok (.imul, 1) := by decide +kernel
theorem dX11_goes_60 : decode cX11_goes 60 = .ok (.iload 4, 2) := by decide +kernel
theorem dX11_goes_62 : decode cX11_goes 62 = .ok (.iadd, 1) := by decide +kernel
theorem dX11_goes_63 : decode cX11_goes 63 = .ok (.laload, 1) := by decide +kernel
theorem dX11_goes_64 : decode cX11_goes 64 = .ok (.lmul, 1) := by decide +kernel
theorem dX11_goes_65 : decode cX11_goes 65 = .ok (.ladd, 1) := by decide +kernel
theorem dX11_goes_66 : decode cX11_goes 66 = .ok (.lastore, 1) := by decide +kernel
theorem dX11_goes_67 : decode cX11_goes 67 = .ok (.iinc 4 1, 3) := by decide +kernel
theorem dX11_goes_70 : decode cX11_goes 70 = .ok (.goto (-44), 3) := by decide +kernel
theorem dX11_goes_73 : decode cX11_goes 73 = .ok (.iinc 3 1, 3) := by decide +kernel
theorem dX11_goes_76 : decode cX11_goes 76 = .ok (.goto (-65), 3) := by decide +kernel
theorem dX11_goes_79 : decode cX11_goes 79 = .ok (.return_, 1) := by decide +kernel
theorem dX11_in_0 : decode cX11_in 0 = .ok (.lload_n 0, 1) := by decide +kernel
theorem dX11_in_1 : decode cX11_in 1 = .ok (.lload_n 2, 1) := by decide +kernel
theorem dX11_in_2 : decode cX11_in 2 = .ok (.lcmp, 1) := by decide +kernel
theorem dX11_in_3 : decode cX11_in 3 = .ok (.ifCond .lt 14, 3) := by decide +kernel
theorem dX11_in_6 : decode cX11_in 6 = .ok (.lload_n 0, 1) := by decide +kernel
theorem dX11_in_7 : decode cX11_in 7 = .ok (.lload 4, 2) := by decide +kernel
theorem dX11_in_9 : decode cX11_in 9 = .ok (.lcmp, 1) := by decide +kernel
theorem dX11_in_10 : decode cX11_in 10 = .ok (.ifCond .gt 7, 3) := by decide +kernel
theorem dX11_in_13 : decode cX11_in 13 = .ok (.iconst 1, 1) := by decide +kernel
theorem dX11_in_14 : decode cX11_in 14 = .ok (.goto 4, 3) := by decide +kernel
theorem dX11_in_17 : decode cX11_in 17 = .ok (.iconst 0, 1) := by decide +kernel
theorem dX11_in_18 : decode cX11_in 18 = .ok (.ireturn, 1) := by decide +kernel
theorem dX11_isAsked_0 : decode cX11_isAsked 0 = .ok (.iload_n 0, 1) := by decide +kernel
theorem dX11_isAsked_1 : decode cX11_isAsked 1 = .ok (.i2l, 1) := by decide +kernel
theorem dX11_isAsked_2 : decode cX11_isAsked 2 = .ok (.ldc2_w 260, 3) := by decide +kernel
theorem dX11_isAsked_5 : decode cX11_isAsked 5 = .ok (.ldc2_w 262, 3) := by decide +kernel
theorem dX11_isAsked_8 : decode cX11_isAsked 8 = .ok (.invokestatic 81, 3) := by decide +kernel
theorem dX11_isAsked_11 : decode cX11_isAsked 11 = .ok (.ifCond .eq 35, 3) := by decide +kernel
theorem dX11_isAsked_14 : decode cX11_isAsked 14 = .ok (.iload_n 1, 1) := by decide +kernel
theorem dX11_isAsked_15 : decode cX11_isAsked 15 = .ok (.i2l, 1) := by decide +kernel
theorem dX11_isAsked_16 : decode cX11_isAsked 16 = .ok (.ldc2_w 260, 3) := by decide +kernel
theorem dX11_isAsked_19 : decode cX11_isAsked 19 = .ok (.ldc2_w 262, 3) := by decide +kernel
theorem dX11_isAsked_22 : decode cX11_isAsked 22 = .ok (.invokestatic 81, 3) := by decide +kernel
theorem dX11_isAsked_25 : decode cX11_isAsked 25 = .ok (.ifCond .eq 21, 3) := by decide +kernel
theorem dX11_isAsked_28 : decode cX11_isAsked 28 = .ok (.iload_n 2, 1) := by decide +kernel
theorem dX11_isAsked_29 : decode cX11_isAsked 29 = .ok (.i2l, 1) := by decide +kernel
theorem dX11_isAsked_30 : decode cX11_isAsked 30 = .ok (.ldc2_w 260, 3) := by decide +kernel
theorem dX11_isAsked_33 : decode cX11_isAsked 33 = .ok (.ldc2_w 262, 3) := by decide +kernel
theorem dX11_isAsked_36 : decode cX11_isAsked 36 = .ok (.invokestatic 81, 3) := by decide +kernel
theorem dX11_isAsked_39 : decode cX11_isAsked 39 = .ok (.ifCond .eq 7, 3) := by decide +kernel
theorem dX11_isAsked_42 : decode cX11_isAsked 42 = .ok (.iconst 1, 1) := by decide +kernel
theorem dX11_isAsked_43 : decode cX11_isAsked 43 = .ok (.goto 4, 3) := by decide +kernel
theorem dX11_isAsked_46 : decode cX11_isAsked 46 = .ok (.iconst 0, 1) := by decide +kernel
theorem dX11_isAsked_47 : decode cX11_isAsked 47 = .ok (.ireturn, 1) := by decide +kernel
theorem dX11_isGen_0 : decode cX11_isGen 0 = .ok (.iload_n 1, 1) := by decide +kernel
theorem dX11_isGen_1 : decode cX11_isGen 1 = .ok (.i2l, 1) := by decide +kernel
theorem dX11_isGen_2 : decode cX11_isGen 2 = .ok (.lconst 0, 1) := by decide +kernel
theorem dX11_isGen_3 : decode cX11_isGen 3 = .ok (.aload_n 0, 1) := by decide +kernel
theorem dX11_isGen_4 : decode cX11_isGen 4 = .ok (.getfield 85, 3) := by decide +kernel
theorem dX11_isGen_7 : decode cX11_isGen 7 = .ok (.iconst 1, 1) := by decide +kernel
theorem dX11_isGen_8 : decode cX11_isGen 8 = .ok (.isub, 1) := by decide +kernel
theorem dX11_isGen_9 : decode cX11_isGen 9 = .ok (.i2l, 1) := by decide +kernel
theorem dX11_isGen_10 : decode cX11_isGen 10 = .ok (.invokestatic 81, 3) := by decide +kernel
theorem dX11_isGen_13 : decode cX11_isGen 13 = .ok (.ireturn, 1) := by decide +kernel
theorem dX11_isGreat_0 : decode cX11_isGreat 0 = .ok (.iconst 0, 1) := by decide +kernel
theorem dX11_isGreat_1 : decode cX11_isGreat 1 = .ok (.istore_n 2, 1) := by decide +kernel
theorem dX11_isGreat_2 : decode cX11_isGreat 2 = .ok (.iconst 0, 1) := by decide +kernel
theorem dX11_isGreat_3 : decode cX11_isGreat 3 = .ok (.istore_n 3, 1) := by decide +kernel
theorem dX11_isGreat_4 : decode cX11_isGreat 4 = .ok (.iload_n 3, 1) := by decide +kernel
theorem dX11_isGreat_5 : decode cX11_isGreat 5 = .ok (.bipush 9, 2) := by decide +kernel
theorem dX11_isGreat_7 : decode cX11_isGreat 7 = .ok (.if_icmp .ge 34, 3) := by decide +kernel
theorem dX11_isGreat_10 : decode cX11_isGreat 10 = .ok (.iload_n 2, 1) := by decide +kernel
theorem dX11_isGreat_11 : decode cX11_isGreat 11 = .ok (.ifCond .ne 18, 3) := by decide +kernel
theorem dX11_isGreat_14 : decode cX11_isGreat 14 = .ok (.aload_n 1, 1) := by decide +kernel
theorem dX11_isGreat_15 : decode cX11_isGreat 15 = .ok (.iload_n 3, 1) := by decide +kernel
theorem dX11_isGreat_16 : decode cX11_isGreat 16 = .ok (.laload, 1) := by decide +kernel
theorem dX11_isGreat_17 : decode cX11_isGreat 17 = .ok (.ldc2_w 147, 3) := by decide +kernel
theorem dX11_isGreat_20 : decode cX11_isGreat 20 = .ok (.ldc2_w 149, 3) := by decide +kernel
theorem dX11_isGreat_23 : decode cX11_isGreat 23 = .ok (.invokestatic 81, 3) := by decide +kernel
theorem dX11_isGreat_26 : decode cX11_isGreat 26 = .ok (.ifCond .ne 7, 3) := by decide +kernel
theorem dX11_isGreat_29 : decode cX11_isGreat 29 = .ok (.iconst 1, 1) := by decide +kernel
theorem dX11_isGreat_30 : decode cX11_isGreat 30 = .ok (.goto 4, 3) := by decide +kernel
theorem dX11_isGreat_33 : decode cX11_isGreat 33 = .ok (.iconst 0, 1) := by decide +kernel
theorem dX11_isGreat_34 : decode cX11_isGreat 34 = .ok (.istore_n 2, 1) := by decide +kernel
theorem dX11_isGreat_35 : decode cX11_isGreat 35 = .ok (.iinc 3 1, 3) := by decide +kernel
theorem dX11_isGreat_38 : decode cX11_isGreat 38 = .ok (.goto (-34), 3) := by decide +kernel
theorem dX11_isGreat_41 : decode cX11_isGreat 41 = .ok (.iload_n 2, 1) := by decide +kernel
theorem dX11_isGreat_42 : decode cX11_isGreat 42 = .ok (.ireturn, 1) := by decide +kernel
theorem dX11_isPlace_0 : decode cX11_isPlace 0 = .ok (.iload_n 1, 1) := by decide +kernel
theorem dX11_isPlace_1 : decode cX11_isPlace 1 = .ok (.i2l, 1) := by decide +kernel
theorem dX11_isPlace_2 : decode cX11_isPlace 2 = .ok (.lconst 0, 1) := by decide +kernel
theorem dX11_isPlace_3 : decode cX11_isPlace 3 = .ok (.aload_n 0, 1) := by decide +kernel
theorem dX11_isPlace_4 : decode cX11_isPlace 4 = .ok (.getfield 7, 3) := by decide +kernel
theorem dX11_isPlace_7 : decode cX11_isPlace 7 = .ok (.iconst 1, 1) := by decide +kernel
theorem dX11_isPlace_8 : decode cX11_isPlace 8 = .ok (.isub, 1) := by decide +kernel
theorem dX11_isPlace_9 : decode cX11_isPlace 9 = .ok (.i2l, 1) := by decide +kernel
theorem dX11_isPlace_10 : decode cX11_isPlace 10 = .ok (.invokestatic 81, 3) := by decide +kernel
theorem dX11_isPlace_13 : decode cX11_isPlace 13 = .ok (.ireturn, 1) := by decide +kernel
theorem dX11_lists_0 : decode cX11_lists 0 = .ok (.iconst 0, 1) := by decide +kernel
theorem dX11_lists_1 : decode cX11_lists 1 = .ok (.istore 4, 2) := by decide +kernel
theorem dX11_lists_3 : decode cX11_lists 3 = .ok (.iload 4, 2) := by decide +kernel
theorem dX11_lists_5 : decode cX11_lists 5 = .ok (.bipush 9, 2) := by decide +kernel
theorem dX11_lists_7 : decode cX11_lists 7 = .ok (.if_icmp .ge 28, 3) := by decide +kernel
theorem dX11_lists_10 : decode cX11_lists 10 = .ok (.aload_n 0, 1) := by decide +kernel
theorem dX11_lists_11 : decode cX11_lists 11 = .ok (.getfield 45, 3) := by decide +kernel
theorem dX11_lists_14 : decode cX11_lists 14 = .ok (.bipush 9, 2) := by decide +kernel
theorem dX11_lists_16 : decode cX11_lists 16 = .ok (.aload_n 0, 1) := by decide +kernel
theorem dX11_lists_17 : decode cX11_lists 17 = .ok (.getfield 202, 3) := by decide +kernel
theorem dX11_lists_20 : decode cX11_lists 20 = .ok (.imul, 1) := by decide +kernel
theorem dX11_lists_21 : decode cX11_lists 21 = .ok (.iload 4, 2) := by decide +kernel
theorem dX11_lists_23 : decode cX11_lists 23 = .ok (.iadd, 1) := by decide +kernel
theorem dX11_lists_24 : decode cX11_lists 24 = .ok (.aload_n 1, 1) := by decide +kernel
theorem dX11_lists_25 : decode cX11_lists 25 = .ok (.iload 4, 2) := by decide +kernel
theorem dX11_lists_27 : decode cX11_lists 27 = .ok (.laload, 1) := by decide +kernel
theorem dX11_lists_28 : decode cX11_lists 28 = .ok (.lastore, 1) := by decide +kernel
theorem dX11_lists_29 : decode cX11_lists 29 = .ok (.iinc 4 1, 3) := by decide +kernel
theorem dX11_lists_32 : decode cX11_lists 32 = .ok (.goto (-29), 3) := by decide +kernel
theorem dX11_lists_35 : decode cX11_lists 35 = .ok (.aload_n 0, 1) := by decide +kernel
theorem dX11_lists_36 : decode cX11_lists 36 = .ok (.getfield 48, 3) := by decide +kernel
theorem dX11_lists_39 : decode cX11_lists 39 = .ok (.aload_n 0, 1) := by decide +kernel
theorem dX11_lists_40 : decode cX11_lists 40 = .ok (.getfield 202, 3) := by decide +kernel
theorem dX11_lists_43 : decode cX11_lists 43 = .ok (.iload_n 2, 1) := by decide +kernel
theorem dX11_lists_44 : decode cX11_lists 44 = .ok (.iastore, 1) := by decide +kernel
theorem dX11_lists_45 : decode cX11_lists 45 = .ok (.aload_n 0, 1) := by decide +kernel
theorem dX11_lists_46 : decode cX11_lists 46 = .ok (.getfield 51, 3) := by decide +kernel
theorem dX11_lists_49 : decode cX11_lists 49 = .ok (.aload_n 0, 1) := by decide +kernel
theorem dX11_lists_50 : decode cX11_lists 50 = .ok (.getfield 202, 3) := by decide +kernel
theorem dX11_lists_53 : decode cX11_lists 53 = .ok (.iload_n 3, 1) := by decide +kernel
theorem dX11_lists_54 : decode cX11_lists 54 = .ok (.iastore, 1) := by decide +kernel
theorem dX11_lists_55 : decode cX11_lists 55 = .ok (.aload_n 0, 1) := by decide +kernel
theorem dX11_lists_56 : decode cX11_lists 56 = .ok (.getfield 54, 3) := by decide +kernel
theorem dX11_lists_59 : decode cX11_lists 59 = .ok (.aload_n 0, 1) := by decide +kernel
theorem dX11_lists_60 : decode cX11_lists 60 = .ok (.getfield 202, 3) := by decide +kernel
theorem dX11_lists_63 : decode cX11_lists 63 = .ok (.iload_n 2, 1) := by decide +kernel
theorem dX11_lists_64 : decode cX11_lists 64 = .ok (.ifCond .ge 7, 3) := by decide +kernel
theorem dX11_lists_67 : decode cX11_lists 67 = .ok (.iconst 0, 1) := by decide +kernel
theorem dX11_lists_68 : decode cX11_lists 68 = .ok (.goto 11, 3) := by decide +kernel
theorem dX11_lists_71 : decode cX11_lists 71 = .ok (.aload_n 0, 1) := by decide +kernel
theorem dX11_lists_72 : decode cX11_lists 72 = .ok (.getfield 54, 3) := by decide +kernel
theorem dX11_lists_75 : decode cX11_lists 75 = .ok (.iload_n 2, 1) := by decide +kernel
theorem dX11_lists_76 : decode cX11_lists 76 = .ok (.iaload, 1) := by decide +kernel
theorem dX11_lists_77 : decode cX11_lists 77 = .ok (.iconst 1, 1) := by decide +kernel
theorem dX11_lists_78 : decode cX11_lists 78 = .ok (.iadd, 1) := by decide +kernel
theorem dX11_lists_79 : decode cX11_lists 79 = .ok (.iastore, 1) := by decide +kernel
theorem dX11_lists_80 : decode cX11_lists 80 = .ok (.aload_n 0, 1) := by decide +kernel
theorem dX11_lists_81 : decode cX11_lists 81 = .ok (.dup, 1) := by decide +kernel
theorem dX11_lists_82 : decode cX11_lists 82 = .ok (.getfield 202, 3) := by decide +kernel
theorem dX11_lists_85 : decode cX11_lists 85 = .ok (.iconst 1, 1) := by decide +kernel
theorem dX11_lists_86 : decode cX11_lists 86 = .ok (.iadd, 1) := by decide +kernel
theorem dX11_lists_87 : decode cX11_lists 87 = .ok (.putfield 202, 3) := by decide +kernel
theorem dX11_lists_90 : decode cX11_lists 90 = .ok (.return_, 1) := by decide +kernel
theorem dX11_orbit_0 : decode cX11_orbit 0 = .ok (.iload_n 1, 1) := by decide +kernel
theorem dX11_orbit_1 : decode cX11_orbit 1 = .ok (.iload_n 2, 1) := by decide +kernel
theorem dX11_orbit_2 : decode cX11_orbit 2 = .ok (.iload_n 3, 1) := by decide +kernel
theorem dX11_orbit_3 : decode cX11_orbit 3 = .ok (.invokestatic 264, 3) := by decide +kernel
theorem dX11_orbit_6 : decode cX11_orbit 6 = .ok (.ifCond .ne 5, 3) := by decide +kernel
theorem dX11_orbit_9 : decode cX11_orbit 9 = .ok (.iconst (-1), 1) := by decide +kernel
theorem dX11_orbit_10 : decode cX11_orbit 10 = .ok (.ireturn, 1) := by decide +kernel
theorem dX11_orbit_11 : decode cX11_orbit 11 = .ok (.aload_n 0, 1) := by decide +kernel
theorem dX11_orbit_12 : decode cX11_orbit 12 = .ok (.getfield 60, 3) := by decide +kernel
theorem dX11_orbit_15 : decode cX11_orbit 15 = .ok (.iconst 0, 1) := by decide +kernel
theorem dX11_orbit_16 : decode cX11_orbit 16 = .ok (.iload_n 1, 1) := by decide +kernel
theorem dX11_orbit_17 : decode cX11_orbit 17 = .ok (.i2l, 1) := by decide +kernel
theorem dX11_orbit_18 : decode cX11_orbit 18 = .ok (.lastore, 1) := by decide +kernel
theorem dX11_orbit_19 : decode cX11_orbit 19 = .ok (.aload_n 0, 1) := by decide +kernel
theorem dX11_orbit_20 : decode cX11_orbit 20 = .ok (.getfield 60, 3) := by decide +kernel
theorem dX11_orbit_23 : decode cX11_orbit 23 = .ok (.iconst 1, 1) := by decide +kernel
theorem dX11_orbit_24 : decode cX11_orbit 24 = .ok (.aload_n 0, 1) := by decide +kernel
theorem dX11_orbit_25 : decode cX11_orbit 25 = .ok (.getfield 7, 3) := by decide +kernel
theorem dX11_orbit_28 : decode cX11_orbit 28 = .ok (.iconst 1, 1) := by decide +kernel
theorem dX11_orbit_29 : decode cX11_orbit 29 = .ok (.if_icmp .le 8, 3) := by decide +kernel
theorem dX11_orbit_32 : decode cX11_orbit 32 = .ok (.iload_n 2, 1) := by decide +kernel
theorem dX11_orbit_33 : decode cX11_orbit 33 = .ok (.i2l, 1) := by decide +kernel
theorem dX11_orbit_34 : decode cX11_orbit 34 = .ok (.goto 4, 3) := by decide +kernel
theorem dX11_orbit_37 : decode cX11_orbit 37 = .ok (.lconst 0, 1) := by decide +kernel
theorem dX11_orbit_38 : decode cX11_orbit 38 = .ok (.lastore, 1) := by decide +kernel
theorem dX11_orbit_39 : decode cX11_orbit 39 = .ok (.aload_n 0, 1) := by decide +kernel
theorem dX11_orbit_40 : decode cX11_orbit 40 = .ok (.getfield 60, 3) := by decide +kernel
theorem dX11_orbit_43 : decode cX11_orbit 43 = .ok (.iconst 2, 1) := by decide +kernel
theorem dX11_orbit_44 : decode cX11_orbit 44 = .ok (.aload_n 0, 1) := by decide +kernel
theorem dX11_orbit_45 : decode cX11_orbit 45 = .ok (.getfield 7, 3) := by decide +kernel
theorem dX11_orbit_48 : decode cX11_orbit 48 = .ok (.iconst 2, 1) := by decide +kernel
theorem dX11_orbit_49 : decode cX11_orbit 49 = .ok (.if_icmp .le 8, 3) := by decide +kernel
theorem dX11_orbit_52 : decode cX11_orbit 52 = .ok (.iload_n 3, 1) := by decide +kernel
theorem dX11_orbit_53 : decode cX11_orbit 53 = .ok (.i2l, 1) := by decide +kernel
theorem dX11_orbit_54 : decode cX11_orbit 54 = .ok (.goto 4, 3) := by decide +kernel
theorem dX11_orbit_57 : decode cX11_orbit 57 = .ok (.lconst 0, 1) := by decide +kernel
theorem dX11_orbit_58 : decode cX11_orbit 58 = .ok (.lastore, 1) := by decide +kernel
theorem dX11_orbit_59 : decode cX11_orbit 59 = .ok (.aload_n 0, 1) := by decide +kernel
theorem dX11_orbit_60 : decode cX11_orbit 60 = .ok (.iconst 1, 1) := by decide +kernel
theorem dX11_orbit_61 : decode cX11_orbit 61 = .ok (.putfield 102, 3) := by decide +kernel
theorem dX11_orbit_64 : decode cX11_orbit 64 = .ok (.iconst 0, 1) := by decide +kernel
theorem dX11_orbit_65 : decode cX11_orbit 65 = .ok (.istore 4, 2) := by decide +kernel
theorem dX11_orbit_67 : decode cX11_orbit 67 = .ok (.iload 4, 2) := by decide +kernel
theorem dX11_orbit_69 : decode cX11_orbit 69 = .ok (.aload_n 0, 1) := by decide +kernel
theorem dX11_orbit_70 : decode cX11_orbit 70 = .ok (.getfield 102, 3) := by decide +kernel
theorem dX11_orbit_73 : decode cX11_orbit 73 = .ok (.if_icmp .ge 200, 3) := by decide +kernel
theorem dX11_orbit_76 : decode cX11_orbit 76 = .ok (.iconst 0, 1) := by decide +kernel
theorem dX11_orbit_77 : decode cX11_orbit 77 = .ok (.istore 5, 2) := by decide +kernel
theorem dX11_orbit_79 : decode cX11_orbit 79 = .ok (.iload 5, 2) := by decide +kernel
theorem dX11_orbit_81 : decode cX11_orbit 81 = .ok (.aload_n 0, 1) := by decide +kernel
theorem dX11_orbit_82 : decode cX11_orbit 82 = .ok (.getfield 85, 3) := by decide +kernel
theorem dX11_orbit_85 : decode cX11_orbit 85 = .ok (.if_icmp .ge 182, 3) := by decide +kernel
theorem dX11_orbit_88 : decode cX11_orbit 88 = .ok (.aload_n 0, 1) := by decide +kernel
theorem dX11_orbit_89 : decode cX11_orbit 89 = .ok (.getfield 102, 3) := by decide +kernel
theorem dX11_orbit_92 : decode cX11_orbit 92 = .ok (.bipush 60, 2) := by decide +kernel
theorem dX11_orbit_94 : decode cX11_orbit 94 = .ok (.if_icmp .ge 173, 3) := by decide +kernel
theorem dX11_orbit_97 : decode cX11_orbit 97 = .ok (.aload_n 0, 1) := by decide +kernel
theorem dX11_orbit_98 : decode cX11_orbit 98 = .ok (.iload 5, 2) := by decide +kernel
theorem dX11_orbit_100 : decode cX11_orbit 100 = .ok (.iload 4, 2) := by decide +kernel
theorem dX11_orbit_102 : decode cX11_orbit 102 = .ok (.invokevirtual 267, 3) := by decide +kernel
theorem dX11_orbit_105 : decode cX11_orbit 105 = .ok (.aload_n 0, 1) := by decide +kernel
theorem dX11_orbit_106 : decode cX11_orbit 106 = .ok (.getfield 27, 3) := by decide +kernel
theorem dX11_orbit_109 : decode cX11_orbit 109 = .ok (.iconst 0, 1) := by decide +kernel
theorem dX11_orbit_110 : decode cX11_orbit 110 = .ok (.laload, 1) := by decide +kernel
theorem dX11_orbit_111 : decode cX11_orbit 111 = .ok (.ldc2_w 147, 3) := by decide +kernel
theorem dX11_orbit_114 : decode cX11_orbit 114 = .ok (.ldc2_w 149, 3) := by decide +kernel
theorem dX11_orbit_117 : decode cX11_orbit 117 = .ok (.invokestatic 81, 3) := by decide +kernel
theorem dX11_orbit_120 : decode cX11_orbit 120 = .ok (.ifCond .eq 43, 3) := by decide +kernel
theorem dX11_orbit_123 : decode cX11_orbit 123 = .ok (.aload_n 0, 1) := by decide +kernel
theorem dX11_orbit_124 : decode cX11_orbit 124 = .ok (.getfield 27, 3) := by decide +kernel
theorem dX11_orbit_127 : decode cX11_orbit 127 = .ok (.iconst 1, 1) := by decide +kernel
theorem dX11_orbit_128 : decode cX11_orbit 128 = .ok (.laload, 1) := by decide +kernel
theorem dX11_orbit_129 : decode cX11_orbit 129 = .ok (.ldc2_w 147, 3) := by decide +kernel
theorem dX11_orbit_132 : decode cX11_orbit 132 = .ok (.ldc2_w 149, 3) := by decide +kernel
theorem dX11_orbit_135 : decode cX11_orbit 135 = .ok (.invokestatic 81, 3) := by decide +kernel
theorem dX11_orbit_138 : decode cX11_orbit 138 = .ok (.ifCond .eq 25, 3) := by decide +kernel
theorem dX11_orbit_141 : decode cX11_orbit 141 = .ok (.aload_n 0, 1) := by decide +kernel
theorem dX11_orbit_142 : decode cX11_orbit 142 = .ok (.getfield 27, 3) := by decide +kernel
theorem dX11_orbit_145 : decode cX11_orbit 145 = .ok (.iconst 2, 1) := by decide +kernel
theorem dX11_orbit_146 : decode cX11_orbit 146 = .ok (.laload, 1) := by decide +kernel
theorem dX11_orbit_147 : decode cX11_orbit 147 = .ok (.ldc2_w 147, 3) := by decide +kernel
theorem dX11_orbit_150 : decode cX11_orbit 150 = .ok (.ldc2_w 149, 3) := by decide +kernel
theorem dX11_orbit_153 : decode cX11_orbit 153 = .ok (.invokestatic 81, 3) := by decide +kernel
theorem dX11_orbit_156 : decode cX11_orbit 156 = .ok (.ifCond .eq 7, 3) := by decide +kernel
theorem dX11_orbit_159 : decode cX11_orbit 159 = .ok (.iconst 1, 1) := by decide +kernel
theorem dX11_orbit_160 : decode cX11_orbit 160 = .ok (.goto 4, 3) := by decide +kernel
theorem dX11_orbit_163 : decode cX11_orbit 163 = .ok (.iconst 0, 1) := by decide +kernel
theorem dX11_orbit_164 : decode cX11_orbit 164 = .ok (.istore 6, 2) := by decide +kernel
theorem dX11_orbit_166 : decode cX11_orbit 166 = .ok (.iload 6, 2) := by decide +kernel
theorem dX11_orbit_168 : decode cX11_orbit 168 = .ok (.ifCond .eq 93, 3) := by decide +kernel
theorem dX11_orbit_171 : decode cX11_orbit 171 = .ok (.aload_n 0, 1) := by decide +kernel
theorem dX11_orbit_172 : decode cX11_orbit 172 = .ok (.aload_n 0, 1) := by decide +kernel
theorem dX11_orbit_173 : decode cX11_orbit 173 = .ok (.getfield 27, 3) := by decide +kernel
theorem dX11_orbit_176 : decode cX11_orbit 176 = .ok (.iconst 0, 1) := by decide +kernel
theorem dX11_orbit_177 : decode cX11_orbit 177 = .ok (.laload, 1) := by decide +kernel
theorem dX11_orbit_178 : decode cX11_orbit 178 = .ok (.aload_n 0, 1) := by decide +kernel
theorem dX11_orbit_179 : decode cX11_orbit 179 = .ok (.getfield 27, 3) := by decide +kernel
theorem dX11_orbit_182 : decode cX11_orbit 182 = .ok (.iconst 1, 1) := by decide +kernel
theorem dX11_orbit_183 : decode cX11_orbit 183 = .ok (.laload, 1) := by decide +kernel
theorem dX11_orbit_184 : decode cX11_orbit 184 = .ok (.aload_n 0, 1) := by decide +kernel
theorem dX11_orbit_185 : decode cX11_orbit 185 = .ok (.getfield 27, 3) := by decide +kernel
theorem dX11_orbit_188 : decode cX11_orbit 188 = .ok (.iconst 2, 1) := by decide +kernel
theorem dX11_orbit_189 : decode cX11_orbit 189 = .ok (.laload, 1) := by decide +kernel
theorem dX11_orbit_190 : decode cX11_orbit 190 = .ok (.invokevirtual 271, 3) := by decide +kernel
theorem dX11_orbit_193 : decode cX11_orbit 193 = .ok (.ifCond .ge 68, 3) := by decide +kernel
theorem dX11_orbit_196 : decode cX11_orbit 196 = .ok (.aload_n 0, 1) := by decide +kernel
theorem dX11_orbit_197 : decode cX11_orbit 197 = .ok (.getfield 60, 3) := by decide +kernel
theorem dX11_orbit_200 : decode cX11_orbit 200 = .ok (.iconst 3, 1) := by decide +kernel
theorem dX11_orbit_201 : decode cX11_orbit 201 = .ok (.aload_n 0, 1) := by decide +kernel
theorem dX11_orbit_202 : decode cX11_orbit 202 = .ok (.getfield 102, 3) := by decide +kernel
theorem dX11_orbit_205 : decode cX11_orbit 205 = .ok (.imul, 1) := by decide +kernel
theorem dX11_orbit_206 : decode cX11_orbit 206 = .ok (.aload_n 0, 1) := by decide +kernel
theorem dX11_orbit_207 : decode cX11_orbit 207 = .ok (.getfield 27, 3) := by decide +kernel
theorem dX11_orbit_210 : decode cX11_orbit 210 = .ok (.iconst 0, 1) := by decide +kernel
theorem dX11_orbit_211 : decode cX11_orbit 211 = .ok (.laload, 1) := by decide +kernel
theorem dX11_orbit_212 : decode cX11_orbit 212 = .ok (.lastore, 1) := by decide +kernel
theorem dX11_orbit_213 : decode cX11_orbit 213 = .ok (.aload_n 0, 1) := by decide +kernel
theorem dX11_orbit_214 : decode cX11_orbit 214 = .ok (.getfield 60, 3) := by decide +kernel
theorem dX11_orbit_217 : decode cX11_orbit 217 = .ok (.iconst 3, 1) := by decide +kernel
theorem dX11_orbit_218 : decode cX11_orbit 218 = .ok (.aload_n 0, 1) := by decide +kernel
theorem dX11_orbit_219 : decode cX11_orbit 219 = .ok (.getfield 102, 3) := by decide +kernel
theorem dX11_orbit_222 : decode cX11_orbit 222 = .ok (.imul, 1) := by decide +kernel
theorem dX11_orbit_223 : decode cX11_orbit 223 = .ok (.iconst 1, 1) := by decide +kernel
theorem dX11_orbit_224 : decode cX11_orbit 224 = .ok (.iadd, 1) := by decide +kernel
theorem dX11_orbit_225 : decode cX11_orbit 225 = .ok (.aload_n 0, 1) := by decide +kernel
theorem dX11_orbit_226 : decode cX11_orbit 226 = .ok (.getfield 27, 3) := by decide +kernel
theorem dX11_orbit_229 : decode cX11_orbit 229 = .ok (.iconst 1, 1) := by decide +kernel
theorem dX11_orbit_230 : decode cX11_orbit 230 = .ok (.laload, 1) := by decide +kernel
theorem dX11_orbit_231 : decode cX11_orbit 231 = .ok (.lastore, 1) := by decide +kernel
theorem dX11_orbit_232 : decode cX11_orbit 232 = .ok (.aload_n 0, 1) := by decide +kernel
theorem dX11_orbit_233 : decode cX11_orbit 233 = .ok (.getfield 60, 3) := by decide +kernel
theorem dX11_orbit_236 : decode cX11_orbit 236 = .ok (.iconst 3, 1) := by decide +kernel
theorem dX11_orbit_237 : decode cX11_orbit 237 = .ok (.aload_n 0, 1) := by decide +kernel
theorem dX11_orbit_238 : decode cX11_orbit 238 = .ok (.getfield 102, 3) := by decide +kernel
theorem dX11_orbit_241 : decode cX11_orbit 241 = .ok (.imul, 1) := by decide +kernel
theorem dX11_orbit_242 : decode cX11_orbit 242 = .ok (.iconst 2, 1) := by decide +kernel
theorem dX11_orbit_243 : decode cX11_orbit 243 = .ok (.iadd, 1) := by decide +kernel
theorem dX11_orbit_244 : decode cX11_orbit 244 = .ok (.aload_n 0, 1) := by decide +kernel
theorem dX11_orbit_245 : decode cX11_orbit 245 = .ok (.getfield 27, 3) := by decide +kernel
theorem dX11_orbit_248 : decode cX11_orbit 248 = .ok (.iconst 2, 1) := by decide +kernel
theorem dX11_orbit_249 : decode cX11_orbit 249 = .ok (.laload, 1) := by decide +kernel
theorem dX11_orbit_250 : decode cX11_orbit 250 = .ok (.lastore, 1) := by decide +kernel
theorem dX11_orbit_251 : decode cX11_orbit 251 = .ok (.aload_n 0, 1) := by decide +kernel
theorem dX11_orbit_252 : decode cX11_orbit 252 = .ok (.dup, 1) := by decide +kernel
theorem dX11_orbit_253 : decode cX11_orbit 253 = .ok (.getfield 102, 3) := by decide +kernel
theorem dX11_orbit_256 : decode cX11_orbit 256 = .ok (.iconst 1, 1) := by decide +kernel
theorem dX11_orbit_257 : decode cX11_orbit 257 = .ok (.iadd, 1) := by decide +kernel
theorem dX11_orbit_258 : decode cX11_orbit 258 = .ok (.putfield 102, 3) := by decide +kernel
theorem dX11_orbit_261 : decode cX11_orbit 261 = .ok (.iinc 5 1, 3) := by decide +kernel
theorem dX11_orbit_264 : decode cX11_orbit 264 = .ok (.goto (-185), 3) := by decide +kernel
theorem dX11_orbit_267 : decode cX11_orbit 267 = .ok (.iinc 4 1, 3) := by decide +kernel
theorem dX11_orbit_270 : decode cX11_orbit 270 = .ok (.goto (-203), 3) := by decide +kernel
theorem dX11_orbit_273 : decode cX11_orbit 273 = .ok (.aload_n 0, 1) := by decide +kernel
theorem dX11_orbit_274 : decode cX11_orbit 274 = .ok (.iconst 1, 1) := by decide +kernel
theorem dX11_orbit_275 : decode cX11_orbit 275 = .ok (.putfield 275, 3) := by decide +kernel
theorem dX11_orbit_278 : decode cX11_orbit 278 = .ok (.iconst 0, 1) := by decide +kernel
theorem dX11_orbit_279 : decode cX11_orbit 279 = .ok (.istore 4, 2) := by decide +kernel
theorem dX11_orbit_281 : decode cX11_orbit 281 = .ok (.iload 4, 2) := by decide +kernel
theorem dX11_orbit_283 : decode cX11_orbit 283 = .ok (.aload_n 0, 1) := by decide +kernel
theorem dX11_orbit_284 : decode cX11_orbit 284 = .ok (.getfield 102, 3) := by decide +kernel
theorem dX11_orbit_287 : decode cX11_orbit 287 = .ok (.if_icmp .ge 95, 3) := by decide +kernel
theorem dX11_orbit_290 : decode cX11_orbit 290 = .ok (.iconst 0, 1) := by decide +kernel
theorem dX11_orbit_291 : decode cX11_orbit 291 = .ok (.istore 5, 2) := by decide +kernel
theorem dX11_orbit_293 : decode cX11_orbit 293 = .ok (.iload 5, 2) := by decide +kernel
theorem dX11_orbit_295 : decode cX11_orbit 295 = .ok (.aload_n 0, 1) := by decide +kernel
theorem dX11_orbit_296 : decode cX11_orbit 296 = .ok (.getfield 85, 3) := by decide +kernel
theorem dX11_orbit_299 : decode cX11_orbit 299 = .ok (.if_icmp .ge 77, 3) := by decide +kernel
theorem dX11_orbit_302 : decode cX11_orbit 302 = .ok (.aload_n 0, 1) := by decide +kernel
theorem dX11_orbit_303 : decode cX11_orbit 303 = .ok (.iload 5, 2) := by decide +kernel
theorem dX11_orbit_305 : decode cX11_orbit 305 = .ok (.iload 4, 2) := by decide +kernel
theorem dX11_orbit_307 : decode cX11_orbit 307 = .ok (.invokevirtual 267, 3) := by decide +kernel
theorem dX11_orbit_310 : decode cX11_orbit 310 = .ok (.aload_n 0, 1) := by decide +kernel
theorem dX11_orbit_311 : decode cX11_orbit 311 = .ok (.aload_n 0, 1) := by decide +kernel
theorem dX11_orbit_312 : decode cX11_orbit 312 = .ok (.getfield 27, 3) := by decide +kernel
theorem dX11_orbit_315 : decode cX11_orbit 315 = .ok (.iconst 0, 1) := by decide +kernel
theorem dX11_orbit_316 : decode cX11_orbit 316 = .ok (.laload, 1) := by decide +kernel
theorem dX11_orbit_317 : decode cX11_orbit 317 = .ok (.aload_n 0, 1) := by decide +kernel
theorem dX11_orbit_318 : decode cX11_orbit 318 = .ok (.getfield 27, 3) := by decide +kernel
theorem dX11_orbit_321 : decode cX11_orbit 321 = .ok (.iconst 1, 1) := by decide +kernel
theorem dX11_orbit_322 : decode cX11_orbit 322 = .ok (.laload, 1) := by decide +kernel
theorem dX11_orbit_323 : decode cX11_orbit 323 = .ok (.aload_n 0, 1) := by decide +kernel
theorem dX11_orbit_324 : decode cX11_orbit 324 = .ok (.getfield 27, 3) := by decide +kernel
theorem dX11_orbit_327 : decode cX11_orbit 327 = .ok (.iconst 2, 1) := by decide +kernel
theorem dX11_orbit_328 : decode cX11_orbit 328 = .ok (.laload, 1) := by decide +kernel
theorem dX11_orbit_329 : decode cX11_orbit 329 = .ok (.invokevirtual 271, 3) := by decide +kernel
theorem dX11_orbit_332 : decode cX11_orbit 332 = .ok (.istore 6, 2) := by decide +kernel
theorem dX11_orbit_334 : decode cX11_orbit 334 = .ok (.aload_n 0, 1) := by decide +kernel
theorem dX11_orbit_335 : decode cX11_orbit 335 = .ok (.getfield 63, 3) := by decide +kernel
theorem dX11_orbit_338 : decode cX11_orbit 338 = .ok (.bipush 60, 2) := by decide +kernel
theorem dX11_orbit_340 : decode cX11_orbit 340 = .ok (.iload 5, 2) := by decide +kernel
theorem dX11_orbit_342 : decode cX11_orbit 342 = .ok (.imul, 1) := by decide +kernel
theorem dX11_orbit_343 : decode cX11_orbit 343 = .ok (.iload 4, 2) := by decide +kernel
theorem dX11_orbit_345 : decode cX11_orbit 345 = .ok (.iadd, 1) := by decide +kernel
theorem dX11_orbit_346 : decode cX11_orbit 346 = .ok (.iload 6, 2) := by decide +kernel
theorem dX11_orbit_348 : decode cX11_orbit 348 = .ok (.iastore, 1) := by decide +kernel
theorem dX11_orbit_349 : decode cX11_orbit 349 = .ok (.aload_n 0, 1) := by decide +kernel
theorem dX11_orbit_350 : decode cX11_orbit 350 = .ok (.aload_n 0, 1) := by decide +kernel
theorem dX11_orbit_351 : decode cX11_orbit 351 = .ok (.getfield 275, 3) := by decide +kernel
theorem dX11_orbit_354 : decode cX11_orbit 354 = .ok (.ifCond .eq 12, 3) := by decide +kernel
theorem dX11_orbit_357 : decode cX11_orbit 357 = .ok (.iload 6, 2) := by decide +kernel
theorem dX11_orbit_359 : decode cX11_orbit 359 = .ok (.ifCond .lt 7, 3) := by decide +kernel
theorem dX11_orbit_362 : decode cX11_orbit 362 = .ok (.iconst 1, 1) := by decide +kernel
theorem dX11_orbit_363 : decode cX11_orbit 363 = .ok (.goto 4, 3) := by decide +kernel
theorem dX11_orbit_366 : decode cX11_orbit 366 = .ok (.iconst 0, 1) := by decide +kernel
theorem dX11_orbit_367 : decode cX11_orbit 367 = .ok (.putfield 275, 3) := by decide +kernel
theorem dX11_orbit_370 : decode cX11_orbit 370 = .ok (.iinc 5 1, 3) := by decide +kernel
theorem dX11_orbit_373 : decode cX11_orbit 373 = .ok (.goto (-80), 3) := by decide +kernel
theorem dX11_orbit_376 : decode cX11_orbit 376 = .ok (.iinc 4 1, 3) := by decide +kernel
theorem dX11_orbit_379 : decode cX11_orbit 379 = .ok (.goto (-98), 3) := by decide +kernel
theorem dX11_orbit_382 : decode cX11_orbit 382 = .ok (.aload_n 0, 1) := by decide +kernel
theorem dX11_orbit_383 : decode cX11_orbit 383 = .ok (.getfield 102, 3) := by decide +kernel
theorem dX11_orbit_386 : decode cX11_orbit 386 = .ok (.ireturn, 1) := by decide +kernel
theorem dX11_placeIn_0 : decode cX11_placeIn 0 = .ok (.iconst 0, 1) := by decide +kernel
theorem dX11_placeIn_1 : decode cX11_placeIn 1 = .ok (.istore 7, 2) := by decide +kernel
theorem dX11_placeIn_3 : decode cX11_placeIn 3 = .ok (.iload 7, 2) := by decide +kernel
theorem dX11_placeIn_5 : decode cX11_placeIn 5 = .ok (.aload_n 0, 1) := by decide +kernel
theorem dX11_placeIn_6 : decode cX11_placeIn 6 = .ok (.getfield 102, 3) := by decide +kernel
theorem dX11_placeIn_9 : decode cX11_placeIn 9 = .ok (.if_icmp .ge 59, 3) := by decide +kernel
theorem dX11_placeIn_12 : decode cX11_placeIn 12 = .ok (.aload_n 0, 1) := by decide +kernel
theorem dX11_placeIn_13 : decode cX11_placeIn 13 = .ok (.getfield 60, 3) := by decide +kernel
theorem dX11_placeIn_16 : decode cX11_placeIn 16 = .ok (.iconst 3, 1) := by decide +kernel
theorem dX11_placeIn_17 : decode cX11_placeIn 17 = .ok (.iload 7, 2) := by decide +kernel
theorem dX11_placeIn_19 : decode cX11_placeIn 19 = .ok (.imul, 1) := by decide +kernel
theorem dX11_placeIn_20 : decode cX11_placeIn 20 = .ok (.laload, 1) := by decide +kernel
theorem dX11_placeIn_21 : decode cX11_placeIn 21 = .ok (.lload_n 1, 1) := by decide +kernel
theorem dX11_placeIn_22 : decode cX11_placeIn 22 = .ok (.lcmp, 1) := by decide +kernel
theorem dX11_placeIn_23 : decode cX11_placeIn 23 = .ok (.ifCond .ne 39, 3) := by decide +kernel
theorem dX11_placeIn_26 : decode cX11_placeIn 26 = .ok (.aload_n 0, 1) := by decide +kernel
theorem dX11_placeIn_27 : decode cX11_placeIn 27 = .ok (.getfield 60, 3) := by decide +kernel
theorem dX11_placeIn_30 : decode cX11_placeIn 30 = .ok (.iconst 3, 1) := by decide +kernel
theorem dX11_placeIn_31 : decode cX11_placeIn 31 = .ok (.iload 7, 2) := by decide +kernel
theorem dX11_placeIn_33 : decode cX11_placeIn 33 = .ok (.imul, 1) := by decide +kernel
theorem dX11_placeIn_34 : decode cX11_placeIn 34 = .ok (.iconst 1, 1) := by decide +kernel
theorem dX11_placeIn_35 : decode cX11_placeIn 35 = .ok (.iadd, 1) := by decide +kernel
theorem dX11_placeIn_36 : decode cX11_placeIn 36 = .ok (.laload, 1) := by decide +kernel
theorem dX11_placeIn_37 : decode cX11_placeIn 37 = .ok (.lload_n 3, 1) := by decide +kernel
theorem dX11_placeIn_38 : decode cX11_placeIn 38 = .ok (.lcmp, 1) := by decide +kernel
theorem dX11_placeIn_39 : decode cX11_placeIn 39 = .ok (.ifCond .ne 23, 3) := by decide +kernel
theorem dX11_placeIn_42 : decode cX11_placeIn 42 = .ok (.aload_n 0, 1) := by decide +kernel
theorem dX11_placeIn_43 : decode cX11_placeIn 43 = .ok (.getfield 60, 3) := by decide +kernel
theorem dX11_placeIn_46 : decode cX11_placeIn 46 = .ok (.iconst 3, 1) := by decide +kernel
theorem dX11_placeIn_47 : decode cX11_placeIn 47 = .ok (.iload 7, 2) := by decide +kernel
theorem dX11_placeIn_49 : decode cX11_placeIn 49 = .ok (.imul, 1) := by decide +kernel
theorem dX11_placeIn_50 : decode cX11_placeIn 50 = .ok (.iconst 2, 1) := by decide +kernel
theorem dX11_placeIn_51 : decode cX11_placeIn 51 = .ok (.iadd, 1) := by decide +kernel
theorem dX11_placeIn_52 : decode cX11_placeIn 52 = .ok (.laload, 1) := by decide +kernel
theorem dX11_placeIn_53 : decode cX11_placeIn 53 = .ok (.lload 5, 2) := by decide +kernel
theorem dX11_placeIn_55 : decode cX11_placeIn 55 = .ok (.lcmp, 1) := by decide +kernel
theorem dX11_placeIn_56 : decode cX11_placeIn 56 = .ok (.ifCond .ne 6, 3) := by decide +kernel
theorem dX11_placeIn_59 : decode cX11_placeIn 59 = .ok (.iload 7, 2) := by decide +kernel
theorem dX11_placeIn_61 : decode cX11_placeIn 61 = .ok (.ireturn, 1) := by decide +kernel
theorem dX11_placeIn_62 : decode cX11_placeIn 62 = .ok (.iinc 7 1, 3) := by decide +kernel
theorem dX11_placeIn_65 : decode cX11_placeIn 65 = .ok (.goto (-62), 3) := by decide +kernel
theorem dX11_placeIn_68 : decode cX11_placeIn 68 = .ok (.iconst (-1), 1) := by decide +kernel
theorem dX11_placeIn_69 : decode cX11_placeIn 69 = .ok (.ireturn, 1) := by decide +kernel
theorem dX11_placeOf_0 : decode cX11_placeOf 0 = .ok (.iconst 0, 1) := by decide +kernel
theorem dX11_placeOf_1 : decode cX11_placeOf 1 = .ok (.istore_n 2, 1) := by decide +kernel
theorem dX11_placeOf_2 : decode cX11_placeOf 2 = .ok (.iload_n 2, 1) := by decide +kernel
theorem dX11_placeOf_3 : decode cX11_placeOf 3 = .ok (.aload_n 0, 1) := by decide +kernel
theorem dX11_placeOf_4 : decode cX11_placeOf 4 = .ok (.getfield 202, 3) := by decide +kernel
theorem dX11_placeOf_7 : decode cX11_placeOf 7 = .ok (.if_icmp .ge 63, 3) := by decide +kernel
theorem dX11_placeOf_10 : decode cX11_placeOf 10 = .ok (.iconst 1, 1) := by decide +kernel
theorem dX11_placeOf_11 : decode cX11_placeOf 11 = .ok (.istore_n 3, 1) := by decide +kernel
theorem dX11_placeOf_12 : decode cX11_placeOf 12 = .ok (.iconst 0, 1) := by decide +kernel
theorem dX11_placeOf_13 : decode cX11_placeOf 13 = .ok (.istore 4, 2) := by decide +kernel
theorem dX11_placeOf_15 : decode cX11_placeOf 15 = .ok (.iload 4, 2) := by decide +kernel
theorem dX11_placeOf_17 : decode cX11_placeOf 17 = .ok (.bipush 9, 2) := by decide +kernel
theorem dX11_placeOf_19 : decode cX11_placeOf 19 = .ok (.if_icmp .ge 39, 3) := by decide +kernel
theorem dX11_placeOf_22 : decode cX11_placeOf 22 = .ok (.iload_n 3, 1) := by decide +kernel
theorem dX11_placeOf_23 : decode cX11_placeOf 23 = .ok (.ifCond .eq 35, 3) := by decide +kernel
theorem dX11_placeOf_26 : decode cX11_placeOf 26 = .ok (.aload_n 0, 1) := by decide +kernel
theorem dX11_placeOf_27 : decode cX11_placeOf 27 = .ok (.getfield 45, 3) := by decide +kernel
theorem dX11_placeOf_30 : decode cX11_placeOf 30 = .ok (.bipush 9, 2) := by decide +kernel
theorem dX11_placeOf_32 : decode cX11_placeOf 32 = .ok (.iload_n 2, 1) := by decide +kernel
theorem dX11_placeOf_33 : decode cX11_placeOf 33 = .ok (.imul, 1) := by decide +kernel
theorem dX11_placeOf_34 : decode cX11_placeOf 34 = .ok (.iload 4, 2) := by decide +kernel
theorem dX11_placeOf_36 : decode cX11_placeOf 36 = .ok (.iadd, 1) := by decide +kernel
theorem dX11_placeOf_37 : decode cX11_placeOf 37 = .ok (.laload, 1) := by decide +kernel
theorem dX11_placeOf_38 : decode cX11_placeOf 38 = .ok (.aload_n 1, 1) := by decide +kernel
theorem dX11_placeOf_39 : decode cX11_placeOf 39 = .ok (.iload 4, 2) := by decide +kernel
theorem dX11_placeOf_41 : decode cX11_placeOf 41 = .ok (.laload, 1) := by decide +kernel
theorem dX11_placeOf_42 : decode cX11_placeOf 42 = .ok (.lcmp, 1) := by decide +kernel
theorem dX11_placeOf_43 : decode cX11_placeOf 43 = .ok (.ifCond .ne 7, 3) := by decide +kernel
theorem dX11_placeOf_46 : decode cX11_placeOf 46 = .ok (.iconst 1, 1) := by decide +kernel
theorem dX11_placeOf_47 : decode cX11_placeOf 47 = .ok (.goto 4, 3) := by decide +kernel
theorem dX11_placeOf_50 : decode cX11_placeOf 50 = .ok (.iconst 0, 1) := by decide +kernel
theorem dX11_placeOf_51 : decode cX11_placeOf 51 = .ok (.istore_n 3, 1) := by decide +kernel
theorem dX11_placeOf_52 : decode cX11_placeOf 52 = .ok (.iinc 4 1, 3) := by decide +kernel
theorem dX11_placeOf_55 : decode cX11_placeOf 55 = .ok (.goto (-40), 3) := by decide +kernel
theorem dX11_placeOf_58 : decode cX11_placeOf 58 = .ok (.iload_n 3, 1) := by decide +kernel
theorem dX11_placeOf_59 : decode cX11_placeOf 59 = .ok (.ifCond .eq 5, 3) := by decide +kernel
theorem dX11_placeOf_62 : decode cX11_placeOf 62 = .ok (.iload_n 2, 1) := by decide +kernel
theorem dX11_placeOf_63 : decode cX11_placeOf 63 = .ok (.ireturn, 1) := by decide +kernel
theorem dX11_placeOf_64 : decode cX11_placeOf 64 = .ok (.iinc 2 1, 3) := by decide +kernel
theorem dX11_placeOf_67 : decode cX11_placeOf 67 = .ok (.goto (-65), 3) := by decide +kernel
theorem dX11_placeOf_70 : decode cX11_placeOf 70 = .ok (.iconst (-1), 1) := by decide +kernel
theorem dX11_placeOf_71 : decode cX11_placeOf 71 = .ok (.ireturn, 1) := by decide +kernel
theorem dX11_round_0 : decode cX11_round 0 = .ok (.iload_n 1, 1) := by decide +kernel
theorem dX11_round_1 : decode cX11_round 1 = .ok (.i2l, 1) := by decide +kernel
theorem dX11_round_2 : decode cX11_round 2 = .ok (.lconst 0, 1) := by decide +kernel
theorem dX11_round_3 : decode cX11_round 3 = .ok (.ldc2_w 278, 3) := by decide +kernel
theorem dX11_round_6 : decode cX11_round 6 = .ok (.invokestatic 81, 3) := by decide +kernel
theorem dX11_round_9 : decode cX11_round 9 = .ok (.ifCond .ne 5, 3) := by decide +kernel
theorem dX11_round_12 : decode cX11_round 12 = .ok (.iconst (-1), 1) := by decide +kernel
theorem dX11_round_13 : decode cX11_round 13 = .ok (.ireturn, 1) := by decide +kernel
theorem dX11_round_14 : decode cX11_round 14 = .ok (.aload_n 0, 1) := by decide +kernel
theorem dX11_round_15 : decode cX11_round 15 = .ok (.getfield 102, 3) := by decide +kernel
