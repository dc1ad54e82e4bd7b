theorem dX11_found_51 : decode cX11_found 51 = .ok (.iload 4, 2) := by decide +kernel
theorem dX11_found_53 : decode cX11_found 53 = .ok (.bipush 10, 2) := by decide +kernel
theorem dX11_found_55 : decode cX11_found 55 = .ok (.idiv, 1) := by decide +kernel
theorem dX11_found_56 : decode cX11_found 56 = .ok (.istore 4, 2) := by decide +kernel
theorem dX11_found_58 : decode cX11_found 58 = .ok (.goto (-43), 3) := by decide +kernel
theorem dX11_found_61 : decode cX11_found 61 = .ok (.iload_n 3, 1) := by decide +kernel
theorem dX11_found_62 : decode cX11_found 62 = .ok (.ifCond .eq 9, 3) := by decide +kernel
theorem dX11_found_65 : decode cX11_found 65 = .ok (.iload_n 2, 1) := by decide +kernel
theorem dX11_found_66 : decode cX11_found 66 = .ok (.bipush 9, 2) := by decide +kernel
theorem dX11_found_68 : decode cX11_found 68 = .ok (.if_icmp .le 5, 3) := by decide +kernel
theorem dX11_found_71 : decode cX11_found 71 = .ok (.iconst (-1), 1) := by decide +kernel
theorem dX11_found_72 : decode cX11_found 72 = .ok (.ireturn, 1) := by decide +kernel
theorem dX11_found_73 : decode cX11_found 73 = .ok (.aload_n 0, 1) := by decide +kernel
theorem dX11_found_74 : decode cX11_found 74 = .ok (.invokevirtual 219, 3) := by decide +kernel
theorem dX11_found_77 : decode cX11_found 77 = .ok (.aload_n 0, 1) := by decide +kernel
theorem dX11_found_78 : decode cX11_found 78 = .ok (.aload_n 0, 1) := by decide +kernel
theorem dX11_found_79 : decode cX11_found 79 = .ok (.getfield 27, 3) := by decide +kernel
theorem dX11_found_82 : decode cX11_found 82 = .ok (.invokevirtual 107, 3) := by decide +kernel
theorem dX11_found_85 : decode cX11_found 85 = .ok (.iconst 1, 1) := by decide +kernel
theorem dX11_found_86 : decode cX11_found 86 = .ok (.istore 4, 2) := by decide +kernel
theorem dX11_found_88 : decode cX11_found 88 = .ok (.iconst 1, 1) := by decide +kernel
theorem dX11_found_89 : decode cX11_found 89 = .ok (.istore 5, 2) := by decide +kernel
theorem dX11_found_91 : decode cX11_found 91 = .ok (.iload 5, 2) := by decide +kernel
theorem dX11_found_93 : decode cX11_found 93 = .ok (.iload_n 2, 1) := by decide +kernel
theorem dX11_found_94 : decode cX11_found 94 = .ok (.if_icmp .ge 16, 3) := by decide +kernel
theorem dX11_found_110 : decode cX11_found 110 = .ok (.iconst 0, 1) := by decide +kernel
theorem dX11_found_111 : decode cX11_found 111 = .ok (.istore 5, 2) := by decide +kernel
theorem dX11_found_113 : decode cX11_found 113 = .ok (.iload 5, 2) := by decide +kernel
theorem dX11_found_115 : decode cX11_found 115 = .ok (.iload_n 2, 1) := by decide +kernel
theorem dX11_found_116 : decode cX11_found 116 = .ok (.if_icmp .ge 93, 3) := by decide +kernel
theorem dX11_found_209 : decode cX11_found 209 = .ok (.aload_n 0, 1) := by decide +kernel
theorem dX11_found_210 : decode cX11_found 210 = .ok (.aload_n 0, 1) := by decide +kernel
theorem dX11_found_211 : decode cX11_found 211 = .ok (.getfield 27, 3) := by decide +kernel
theorem dX11_found_214 : decode cX11_found 214 = .ok (.invokevirtual 212, 3) := by decide +kernel
theorem dX11_found_217 : decode cX11_found 217 = .ok (.istore 5, 2) := by decide +kernel
theorem dX11_found_219 : decode cX11_found 219 = .ok (.iload 5, 2) := by decide +kernel
theorem dX11_found_221 : decode cX11_found 221 = .ok (.ifCond .ge 8, 3) := by decide +kernel
theorem dX11_found_229 : decode cX11_found 229 = .ok (.iload 5, 2) := by decide +kernel
theorem dX11_found_231 : decode cX11_found 231 = .ok (.ireturn, 1) := by decide +kernel
theorem dX11_here_0 : decode cX11_here 0 = .ok (.aload_n 0, 1) := by decide +kernel
theorem dX11_here_1 : decode cX11_here 1 = .ok (.getfield 176, 3) := by decide +kernel
theorem dX11_here_4 : decode cX11_here 4 = .ok (.aload_n 0, 1) := by decide +kernel
theorem dX11_here_5 : decode cX11_here 5 = .ok (.getfield 171, 3) := by decide +kernel
theorem dX11_here_8 : decode cX11_here 8 = .ok (.if_icmp .ge 30, 3) := by decide +kernel
theorem dX11_here_38 : decode cX11_here 38 = .ok (.aload_n 0, 1) := by decide +kernel
theorem dX11_here_39 : decode cX11_here 39 = .ok (.getfield 176, 3) := by decide +kernel
theorem dX11_here_42 : decode cX11_here 42 = .ok (.aload_n 0, 1) := by decide +kernel
theorem dX11_here_43 : decode cX11_here 43 = .ok (.getfield 171, 3) := by decide +kernel
theorem dX11_here_46 : decode cX11_here 46 = .ok (.if_icmp .ge 15, 3) := by decide +kernel
theorem dX11_here_61 : decode cX11_here 61 = .ok (.iconst (-1), 1) := by decide +kernel
theorem dX11_here_62 : decode cX11_here 62 = .ok (.ireturn, 1) := by decide +kernel
theorem dX11_image_0 : decode cX11_image 0 = .ok (.iload_n 1, 1) := by decide +kernel
theorem dX11_image_1 : decode cX11_image 1 = .ok (.invokestatic 250, 3) := by decide +kernel
theorem dX11_image_4 : decode cX11_image 4 = .ok (.ifCond .ne 5, 3) := by decide +kernel
theorem dX11_image_7 : decode cX11_image 7 = .ok (.iconst (-1), 1) := by decide +kernel
theorem dX11_image_8 : decode cX11_image 8 = .ok (.ireturn, 1) := by decide +kernel
theorem dX11_image_9 : decode cX11_image 9 = .ok (.aload_n 0, 1) := by decide +kernel
theorem dX11_image_10 : decode cX11_image 10 = .ok (.aload_n 0, 1) := by decide +kernel
theorem dX11_image_11 : decode cX11_image 11 = .ok (.getfield 27, 3) := by decide +kernel
theorem dX11_image_14 : decode cX11_image 14 = .ok (.invokevirtual 107, 3) := by decide +kernel
theorem dX11_image_17 : decode cX11_image 17 = .ok (.aload_n 0, 1) := by decide +kernel
theorem dX11_image_18 : decode cX11_image 18 = .ok (.getfield 57, 3) := by decide +kernel
theorem dX11_image_21 : decode cX11_image 21 = .ok (.iconst 0, 1) := by decide +kernel
theorem dX11_image_22 : decode cX11_image 22 = .ok (.aload_n 0, 1) := by decide +kernel
theorem dX11_image_23 : decode cX11_image 23 = .ok (.aload_n 0, 1) := by decide +kernel
theorem dX11_image_24 : decode cX11_image 24 = .ok (.getfield 27, 3) := by decide +kernel
theorem dX11_image_27 : decode cX11_image 27 = .ok (.iload_n 1, 1) := by decide +kernel
theorem dX11_image_28 : decode cX11_image 28 = .ok (.invokevirtual 253, 3) := by decide +kernel
theorem dX11_image_31 : decode cX11_image 31 = .ok (.iastore, 1) := by decide +kernel
theorem dX11_image_32 : decode cX11_image 32 = .ok (.iconst 1, 1) := by decide +kernel
theorem dX11_image_33 : decode cX11_image 33 = .ok (.istore_n 2, 1) := by decide +kernel
theorem dX11_image_34 : decode cX11_image 34 = .ok (.iconst 0, 1) := by decide +kernel
theorem dX11_image_35 : decode cX11_image 35 = .ok (.istore_n 3, 1) := by decide +kernel
theorem dX11_image_36 : decode cX11_image 36 = .ok (.iload_n 3, 1) := by decide +kernel
theorem dX11_image_37 : decode cX11_image 37 = .ok (.iload_n 2, 1) := by decide +kernel
theorem dX11_image_38 : decode cX11_image 38 = .ok (.if_icmp .ge 144, 3) := by decide +kernel
theorem dX11_image_41 : decode cX11_image 41 = .ok (.iconst 0, 1) := by decide +kernel
theorem dX11_image_42 : decode cX11_image 42 = .ok (.istore 4, 2) := by decide +kernel
theorem dX11_image_44 : decode cX11_image 44 = .ok (.iload 4, 2) := by decide +kernel
theorem dX11_image_46 : decode cX11_image 46 = .ok (.aload_n 0, 1) := by decide +kernel
theorem dX11_image_47 : decode cX11_image 47 = .ok (.getfield 85, 3) := by decide +kernel
theorem dX11_image_50 : decode cX11_image 50 = .ok (.if_icmp .ge 126, 3) := by decide +kernel
theorem dX11_image_176 : decode cX11_image 176 = .ok (.iinc 3 1, 3) := by decide +kernel
theorem dX11_image_179 : decode cX11_image 179 = .ok (.goto (-143), 3) := by decide +kernel
theorem dX11_image_182 : decode cX11_image 182 = .ok (.iload_n 2, 1) := by decide +kernel
theorem dX11_image_183 : decode cX11_image 183 = .ok (.ireturn, 1) := by decide +kernel
theorem dX11_in_0 : decode cX11_in 0 = .ok (.lload_n 0, 1) := by decide +kernel
theorem dX11_in_1 : decode cX11_in 1 = .ok (.lload_n 2, 1) := by decide +kernel
theorem dX11_in_2 : decode cX11_in 2 = .ok (.lcmp, 1) := by decide +kernel
theorem dX11_in_3 : decode cX11_in 3 = .ok (.ifCond .lt 14, 3) := by decide +kernel
theorem dX11_in_6 : decode cX11_in 6 = .ok (.lload_n 0, 1) := by decide +kernel
theorem dX11_in_7 : decode cX11_in 7 = .ok (.lload 4, 2) := by decide +kernel
theorem dX11_in_9 : decode cX11_in 9 = .ok (.lcmp, 1) := by decide +kernel
theorem dX11_in_10 : decode cX11_in 10 = .ok (.ifCond .gt 7, 3) := by decide +kernel
theorem dX11_in_13 : decode cX11_in 13 = .ok (.iconst 1, 1) := by decide +kernel
theorem dX11_in_14 : decode cX11_in 14 = .ok (.goto 4, 3) := by decide +kernel
theorem dX11_in_17 : decode cX11_in 17 = .ok (.iconst 0, 1) := by decide +kernel
theorem dX11_in_18 : decode cX11_in 18 = .ok (.ireturn, 1) := by decide +kernel
theorem dX11_init_0 : decode cX11_init 0 = .ok (.aload_n 0, 1) := by decide +kernel
theorem dX11_init_1 : decode cX11_init 1 = .ok (.invokespecial 1, 3) := by decide +kernel
theorem dX11_init_4 : decode cX11_init 4 = .ok (.aload_n 0, 1) := by decide +kernel
theorem dX11_init_5 : decode cX11_init 5 = .ok (.iconst 2, 1) := by decide +kernel
theorem dX11_init_6 : decode cX11_init 6 = .ok (.putfield 7, 3) := by decide +kernel
theorem dX11_init_9 : decode cX11_init 9 = .ok (.aload_n 0, 1) := by decide +kernel
theorem dX11_init_10 : decode cX11_init 10 = .ok (.iconst 1, 1) := by decide +kernel
theorem dX11_init_11 : decode cX11_init 11 = .ok (.putfield 13, 3) := by decide +kernel
theorem dX11_init_14 : decode cX11_init 14 = .ok (.aload_n 0, 1) := by decide +kernel
theorem dX11_init_15 : decode cX11_init 15 = .ok (.bipush 36, 2) := by decide +kernel
theorem dX11_init_17 : decode cX11_init 17 = .ok (.newarray .int, 2) := by decide +kernel
theorem dX11_init_19 : decode cX11_init 19 = .ok (.putfield 16, 3) := by decide +kernel
theorem dX11_init_22 : decode cX11_init 22 = .ok (.aload_n 0, 1) := by decide +kernel
theorem dX11_init_23 : decode cX11_init 23 = .ok (.bipush 36, 2) := by decide +kernel
theorem dX11_init_25 : decode cX11_init 25 = .ok (.newarray .int, 2) := by decide +kernel
theorem dX11_init_27 : decode cX11_init 27 = .ok (.putfield 20, 3) := by decide +kernel
theorem dX11_init_30 : decode cX11_init 30 = .ok (.aload_n 0, 1) := by decide +kernel
theorem dX11_init_31 : decode cX11_init 31 = .ok (.bipush 9, 2) := by decide +kernel
theorem dX11_init_33 : decode cX11_init 33 = .ok (.newarray .long, 2) := by decide +kernel
theorem dX11_init_35 : decode cX11_init 35 = .ok (.putfield 23, 3) := by decide +kernel
theorem dX11_init_38 : decode cX11_init 38 = .ok (.aload_n 0, 1) := by decide +kernel
theorem dX11_init_39 : decode cX11_init 39 = .ok (.bipush 9, 2) := by decide +kernel
theorem dX11_init_41 : decode cX11_init 41 = .ok (.newarray .long, 2) := by decide +kernel
theorem dX11_init_43 : decode cX11_init 43 = .ok (.putfield 27, 3) := by decide +kernel
theorem dX11_init_46 : decode cX11_init 46 = .ok (.aload_n 0, 1) := by decide +kernel
theorem dX11_init_47 : decode cX11_init 47 = .ok (.bipush 9, 2) := by decide +kernel
theorem dX11_init_49 : decode cX11_init 49 = .ok (.newarray .long, 2) := by decide +kernel
theorem dX11_init_51 : decode cX11_init 51 = .ok (.putfield 30, 3) := by decide +kernel
theorem dX11_init_54 : decode cX11_init 54 = .ok (.aload_n 0, 1) := by decide +kernel
theorem dX11_init_55 : decode cX11_init 55 = .ok (.bipush 9, 2) := by decide +kernel
theorem dX11_init_57 : decode cX11_init 57 = .ok (.newarray .long, 2) := by decide +kernel
theorem dX11_init_59 : decode cX11_init 59 = .ok (.putfield 33, 3) := by decide +kernel
theorem dX11_init_62 : decode cX11_init 62 = .ok (.aload_n 0, 1) := by decide +kernel
theorem dX11_init_63 : decode cX11_init 63 = .ok (.iconst 4, 1) := by decide +kernel
theorem dX11_init_64 : decode cX11_init 64 = .ok (.newarray .long, 2) := by decide +kernel
theorem dX11_init_66 : decode cX11_init 66 = .ok (.putfield 36, 3) := by decide +kernel
theorem dX11_init_69 : decode cX11_init 69 = .ok (.aload_n 0, 1) := by decide +kernel
theorem dX11_init_70 : decode cX11_init 70 = .ok (.bipush 120, 2) := by decide +kernel
theorem dX11_init_72 : decode cX11_init 72 = .ok (.newarray .int, 2) := by decide +kernel
theorem dX11_init_74 : decode cX11_init 74 = .ok (.putfield 39, 3) := by decide +kernel
theorem dX11_init_77 : decode cX11_init 77 = .ok (.aload_n 0, 1) := by decide +kernel
theorem dX11_init_78 : decode cX11_init 78 = .ok (.bipush 36, 2) := by decide +kernel
theorem dX11_init_80 : decode cX11_init 80 = .ok (.newarray .int, 2) := by decide +kernel
theorem dX11_init_82 : decode cX11_init 82 = .ok (.putfield 42, 3) := by decide +kernel
theorem dX11_init_85 : decode cX11_init 85 = .ok (.aload_n 0, 1) := by decide +kernel
theorem dX11_init_86 : decode cX11_init 86 = .ok (.sipush 900, 3) := by decide +kernel
theorem dX11_init_89 : decode cX11_init 89 = .ok (.newarray .long, 2) := by decide +kernel
theorem dX11_init_91 : decode cX11_init 91 = .ok (.putfield 45, 3) := by decide +kernel
theorem dX11_init_94 : decode cX11_init 94 = .ok (.aload_n 0, 1) := by decide +kernel
theorem dX11_init_95 : decode cX11_init 95 = .ok (.bipush 100, 2) := by decide +kernel
theorem dX11_init_97 : decode cX11_init 97 = .ok (.newarray .int, 2) := by decide +kernel
theorem dX11_init_99 : decode cX11_init 99 = .ok (.putfield 48, 3) := by decide +kernel
theorem dX11_init_102 : decode cX11_init 102 = .ok (.aload_n 0, 1) := by decide +kernel
theorem dX11_init_103 : decode cX11_init 103 = .ok (.bipush 100, 2) := by decide +kernel
theorem dX11_init_105 : decode cX11_init 105 = .ok (.newarray .int, 2) := by decide +kernel
theorem dX11_init_107 : decode cX11_init 107 = .ok (.putfield 51, 3) := by decide +kernel
theorem dX11_init_110 : decode cX11_init 110 = .ok (.aload_n 0, 1) := by decide +kernel
theorem dX11_init_111 : decode cX11_init 111 = .ok (.bipush 100, 2) := by decide +kernel
theorem dX11_init_113 : decode cX11_init 113 = .ok (.newarray .int, 2) := by decide +kernel
theorem dX11_init_115 : decode cX11_init 115 = .ok (.putfield 54, 3) := by decide +kernel
theorem dX11_init_118 : decode cX11_init 118 = .ok (.aload_n 0, 1) := by decide +kernel
theorem dX11_init_119 : decode cX11_init 119 = .ok (.sipush 400, 3) := by decide +kernel
theorem dX11_init_122 : decode cX11_init 122 = .ok (.newarray .int, 2) := by decide +kernel
theorem dX11_init_124 : decode cX11_init 124 = .ok (.putfield 57, 3) := by decide +kernel
theorem dX11_init_127 : decode cX11_init 127 = .ok (.aload_n 0, 1) := by decide +kernel
theorem dX11_init_128 : decode cX11_init 128 = .ok (.sipush 180, 3) := by decide +kernel
theorem dX11_init_131 : decode cX11_init 131 = .ok (.newarray .long, 2) := by decide +kernel
theorem dX11_init_133 : decode cX11_init 133 = .ok (.putfield 60, 3) := by decide +kernel
theorem dX11_init_136 : decode cX11_init 136 = .ok (.aload_n 0, 1) := by decide +kernel
theorem dX11_init_137 : decode cX11_init 137 = .ok (.sipush 240, 3) := by decide +kernel
theorem dX11_init_140 : decode cX11_init 140 = .ok (.newarray .int, 2) := by decide +kernel
theorem dX11_init_142 : decode cX11_init 142 = .ok (.putfield 63, 3) := by decide +kernel
theorem dX11_init_145 : decode cX11_init 145 = .ok (.aload_n 0, 1) := by decide +kernel
theorem dX11_init_146 : decode cX11_init 146 = .ok (.sipush 12000, 3) := by decide +kernel
theorem dX11_init_149 : decode cX11_init 149 = .ok (.newarray .int, 2) := by decide +kernel
theorem dX11_init_151 : decode cX11_init 151 = .ok (.putfield 66, 3) := by decide +kernel
theorem dX11_init_154 : decode cX11_init 154 = .ok (.aload_n 0, 1) := by decide +kernel
theorem dX11_init_155 : decode cX11_init 155 = .ok (.iconst 4, 1) := by decide +kernel
theorem dX11_init_156 : decode cX11_init 156 = .ok (.newarray .int, 2) := by decide +kernel
theorem dX11_init_158 : decode cX11_init 158 = .ok (.dup, 1) := by decide +kernel
theorem dX11_init_159 : decode cX11_init 159 = .ok (.iconst 0, 1) := by decide +kernel
theorem dX11_init_160 : decode cX11_init 160 = .ok (.iconst (-1), 1) := by decide +kernel
theorem dX11_init_161 : decode cX11_init 161 = .ok (.iastore, 1) := by decide +kernel
theorem dX11_init_162 : decode cX11_init 162 = .ok (.dup, 1) := by decide +kernel
theorem dX11_init_163 : decode cX11_init 163 = .ok (.iconst 1, 1) := by decide +kernel
theorem dX11_init_164 : decode cX11_init 164 = .ok (.iconst (-1), 1) := by decide +kernel
theorem dX11_init_165 : decode cX11_init 165 = .ok (.iastore, 1) := by decide +kernel
theorem dX11_init_166 : decode cX11_init 166 = .ok (.dup, 1) := by decide +kernel
theorem dX11_init_167 : decode cX11_init 167 = .ok (.iconst 2, 1) := by decide +kernel
theorem dX11_init_168 : decode cX11_init 168 = .ok (.iconst (-1), 1) := by decide +kernel
theorem dX11_init_169 : decode cX11_init 169 = .ok (.iastore, 1) := by decide +kernel
theorem dX11_init_170 : decode cX11_init 170 = .ok (.dup, 1) := by decide +kernel
theorem dX11_init_171 : decode cX11_init 171 = .ok (.iconst 3, 1) := by decide +kernel
theorem dX11_init_172 : decode cX11_init 172 = .ok (.iconst (-1), 1) := by decide +kernel
theorem dX11_init_173 : decode cX11_init 173 = .ok (.iastore, 1) := by decide +kernel
theorem dX11_init_174 : decode cX11_init 174 = .ok (.putfield 69, 3) := by decide +kernel
theorem dX11_init_177 : decode cX11_init 177 = .ok (.aload_n 0, 1) := by decide +kernel
theorem dX11_init_178 : decode cX11_init 178 = .ok (.iconst 4, 1) := by decide +kernel
theorem dX11_init_179 : decode cX11_init 179 = .ok (.newarray .int, 2) := by decide +kernel
theorem dX11_init_181 : decode cX11_init 181 = .ok (.putfield 72, 3) := by decide +kernel
theorem dX11_init_184 : decode cX11_init 184 = .ok (.aload_n 0, 1) := by decide +kernel
theorem dX11_init_185 : decode cX11_init 185 = .ok (.sipush 160, 3) := by decide +kernel
theorem dX11_init_188 : decode cX11_init 188 = .ok (.newarray .long, 2) := by decide +kernel
theorem dX11_init_190 : decode cX11_init 190 = .ok (.putfield 75, 3) := by decide +kernel
theorem dX11_init_193 : decode cX11_init 193 = .ok (.aload_n 0, 1) := by decide +kernel
theorem dX11_init_194 : decode cX11_init 194 = .ok (.bipush 40, 2) := by decide +kernel
theorem dX11_init_196 : decode cX11_init 196 = .ok (.newarray .long, 2) := by decide +kernel
theorem dX11_init_198 : decode cX11_init 198 = .ok (.putfield 78, 3) := by decide +kernel
theorem dX11_init_201 : decode cX11_init 201 = .ok (.return_, 1) := by decide +kernel
theorem dX11_isAsked_0 : decode cX11_isAsked 0 = .ok (.iload_n 0, 1) := by decide +kernel
theorem dX11_isAsked_1 : decode cX11_isAsked 1 = .ok (.i2l, 1) := by decide +kernel
theorem dX11_isAsked_2 : decode cX11_isAsked 2 = .ok (.ldc2_w 260, 3) := by decide +kernel
theorem dX11_isAsked_5 : decode cX11_isAsked 5 = .ok (.ldc2_w 262, 3) := by decide +kernel
theorem dX11_isAsked_8 : decode cX11_isAsked 8 = .ok (.invokestatic 81, 3) := by decide +kernel
theorem dX11_isAsked_11 : decode cX11_isAsked 11 = .ok (.ifCond .eq 35, 3) := by decide +kernel
theorem dX11_isAsked_14 : decode cX11_isAsked 14 = .ok (.iload_n 1, 1) := by decide +kernel
theorem dX11_isAsked_15 : decode cX11_isAsked 15 = .ok (.i2l, 1) := by decide +kernel
theorem dX11_isAsked_16 : decode cX11_isAsked 16 = .ok (.ldc2_w 260, 3) := by decide +kernel
theorem dX11_isAsked_19 : decode cX11_isAsked 19 = .ok (.ldc2_w 262, 3) := by decide +kernel
theorem dX11_isAsked_22 : decode cX11_isAsked 22 = .ok (.invokestatic 81, 3) := by decide +kernel
theorem dX11_isAsked_25 : decode cX11_isAsked 25 = .ok (.ifCond .eq 21, 3) := by decide +kernel
theorem dX11_isAsked_28 : decode cX11_isAsked 28 = .ok (.iload_n 2, 1) := by decide +kernel
theorem dX11_isAsked_29 : decode cX11_isAsked 29 = .ok (.i2l, 1) := by decide +kernel
theorem dX11_isAsked_30 : decode cX11_isAsked 30 = .ok (.ldc2_w 260, 3) := by decide +kernel
theorem dX11_isAsked_33 : decode cX11_isAsked 33 = .ok (.ldc2_w 262, 3) := by decide +kernel
theorem dX11_isAsked_36 : decode cX11_isAsked 36 = .ok (.invokestatic 81, 3) := by decide +kernel
theorem dX11_isAsked_39 : decode cX11_isAsked 39 = .ok (.ifCond .eq 7, 3) := by decide +kernel
theorem dX11_isAsked_42 : decode cX11_isAsked 42 = .ok (.iconst 1, 1) := by decide +kernel
theorem dX11_isAsked_43 : decode cX11_isAsked 43 = .ok (.goto 4, 3) := by decide +kernel
theorem dX11_isAsked_46 : decode cX11_isAsked 46 = .ok (.iconst 0, 1) := by decide +kernel
theorem dX11_isAsked_47 : decode cX11_isAsked 47 = .ok (.ireturn, 1) := by decide +kernel
theorem dX11_isFirst_0 : decode cX11_isFirst 0 = .ok (.aload_n 0, 1) := by decide +kernel
theorem dX11_isFirst_1 : decode cX11_isFirst 1 = .ok (.aload_n 0, 1) := by decide +kernel
theorem dX11_isFirst_2 : decode cX11_isFirst 2 = .ok (.getfield 33, 3) := by decide +kernel
theorem dX11_isFirst_5 : decode cX11_isFirst 5 = .ok (.invokevirtual 107, 3) := by decide +kernel
theorem dX11_isFirst_8 : decode cX11_isFirst 8 = .ok (.iconst 1, 1) := by decide +kernel
theorem dX11_isFirst_9 : decode cX11_isFirst 9 = .ok (.istore_n 2, 1) := by decide +kernel
theorem dX11_isFirst_10 : decode cX11_isFirst 10 = .ok (.iconst 0, 1) := by decide +kernel
theorem dX11_isFirst_11 : decode cX11_isFirst 11 = .ok (.istore_n 3, 1) := by decide +kernel
theorem dX11_isFirst_12 : decode cX11_isFirst 12 = .ok (.iload_n 3, 1) := by decide +kernel
theorem dX11_isFirst_13 : decode cX11_isFirst 13 = .ok (.bipush 9, 2) := by decide +kernel
theorem dX11_isFirst_15 : decode cX11_isFirst 15 = .ok (.if_icmp .ge 32, 3) := by decide +kernel
theorem dX11_isFirst_18 : decode cX11_isFirst 18 = .ok (.iload_n 2, 1) := by decide +kernel
theorem dX11_isFirst_19 : decode cX11_isFirst 19 = .ok (.ifCond .eq 20, 3) := by decide +kernel
theorem dX11_isFirst_22 : decode cX11_isFirst 22 = .ok (.aload_n 1, 1) := by decide +kernel
theorem dX11_isFirst_23 : decode cX11_isFirst 23 = .ok (.iload_n 3, 1) := by decide +kernel
theorem dX11_isFirst_24 : decode cX11_isFirst 24 = .ok (.laload, 1) := by decide +kernel
theorem dX11_isFirst_25 : decode cX11_isFirst 25 = .ok (.aload_n 0, 1) := by decide +kernel
theorem dX11_isFirst_26 : decode cX11_isFirst 26 = .ok (.getfield 33, 3) := by decide +kernel
theorem dX11_isFirst_29 : decode cX11_isFirst 29 = .ok (.iload_n 3, 1) := by decide +kernel
theorem dX11_isFirst_30 : decode cX11_isFirst 30 = .ok (.laload, 1) := by decide +kernel
theorem dX11_isFirst_31 : decode cX11_isFirst 31 = .ok (.lcmp, 1) := by decide +kernel
theorem dX11_isFirst_32 : decode cX11_isFirst 32 = .ok (.ifCond .ne 7, 3) := by decide +kernel
theorem dX11_isFirst_35 : decode cX11_isFirst 35 = .ok (.iconst 1, 1) := by decide +kernel
theorem dX11_isFirst_36 : decode cX11_isFirst 36 = .ok (.goto 4, 3) := by decide +kernel
theorem dX11_isFirst_40 : decode cX11_isFirst 40 = .ok (.istore_n 2, 1) := by decide +kernel
theorem dX11_isFirst_41 : decode cX11_isFirst 41 = .ok (.iinc 3 1, 3) := by decide +kernel
theorem dX11_isFirst_44 : decode cX11_isFirst 44 = .ok (.goto (-32), 3) := by decide +kernel
theorem dX11_isFirst_47 : decode cX11_isFirst 47 = .ok (.iload_n 2, 1) := by decide +kernel
theorem dX11_isFirst_48 : decode cX11_isFirst 48 = .ok (.ireturn, 1) := by decide +kernel
theorem dX11_isGen_0 : decode cX11_isGen 0 = .ok (.iload_n 1, 1) := by decide +kernel
theorem dX11_isGen_1 : decode cX11_isGen 1 = .ok (.i2l, 1) := by decide +kernel
theorem dX11_isGen_2 : decode cX11_isGen 2 = .ok (.lconst 0, 1) := by decide +kernel
theorem dX11_isGen_3 : decode cX11_isGen 3 = .ok (.aload_n 0, 1) := by decide +kernel
theorem dX11_isGen_4 : decode cX11_isGen 4 = .ok (.getfield 85, 3) := by decide +kernel
theorem dX11_isGen_7 : decode cX11_isGen 7 = .ok (.iconst 1, 1) := by decide +kernel
theorem dX11_isGen_8 : decode cX11_isGen 8 = .ok (.isub, 1) := by decide +kernel
theorem dX11_isGen_9 : decode cX11_isGen 9 = .ok (.i2l, 1) := by decide +kernel
theorem dX11_isGen_10 : decode cX11_isGen 10 = .ok (.invokestatic 81, 3) := by decide +kernel
theorem dX11_isGen_13 : decode cX11_isGen 13 = .ok (.ireturn, 1) := by decide +kernel
theorem dX11_isPlace_0 : decode cX11_isPlace 0 = .ok (.iload_n 1, 1) := by decide +kernel
theorem dX11_isPlace_1 : decode cX11_isPlace 1 = .ok (.i2l, 1) := by decide +kernel
theorem dX11_isPlace_2 : decode cX11_isPlace 2 = .ok (.lconst 0, 1) := by decide +kernel
theorem dX11_isPlace_3 : decode cX11_isPlace 3 = .ok (.aload_n 0, 1) := by decide +kernel
theorem dX11_isPlace_4 : decode cX11_isPlace 4 = .ok (.getfield 7, 3) := by decide +kernel
theorem dX11_isPlace_7 : decode cX11_isPlace 7 = .ok (.iconst 1, 1) := by decide +kernel
theorem dX11_isPlace_8 : decode cX11_isPlace 8 = .ok (.isub, 1) := by decide +kernel
theorem dX11_isPlace_9 : decode cX11_isPlace 9 = .ok (.i2l, 1) := by decide +kernel
theorem dX11_isPlace_10 : decode cX11_isPlace 10 = .ok (.invokestatic 81, 3) := by decide +kernel
theorem dX11_isPlace_13 : decode cX11_isPlace 13 = .ok (.ireturn, 1) := by decide +kernel
theorem dX11_isPrime_0 : decode cX11_isPrime 0 = .ok (.iload_n 0, 1) := by decide +kernel
theorem dX11_isPrime_1 : decode cX11_isPrime 1 = .ok (.iconst 2, 1) := by decide +kernel
theorem dX11_isPrime_2 : decode cX11_isPrime 2 = .ok (.if_icmp .eq 19, 3) := by decide +kernel
theorem dX11_isPrime_5 : decode cX11_isPrime 5 = .ok (.iload_n 0, 1) := by decide +kernel
theorem dX11_isPrime_6 : decode cX11_isPrime 6 = .ok (.iconst 3, 1) := by decide +kernel
theorem dX11_isPrime_7 : decode cX11_isPrime 7 = .ok (.if_icmp .eq 14, 3) := by decide +kernel
theorem dX11_isPrime_10 : decode cX11_isPrime 10 = .ok (.iload_n 0, 1) := by decide +kernel
theorem dX11_isPrime_11 : decode cX11_isPrime 11 = .ok (.iconst 5, 1) := by decide +kernel
theorem dX11_isPrime_12 : decode cX11_isPrime 12 = .ok (.if_icmp .eq 9, 3) := by decide +kernel
theorem dX11_isPrime_15 : decode cX11_isPrime 15 = .ok (.iload_n 0, 1) := by decide +kernel
theorem dX11_isPrime_16 : decode cX11_isPrime 16 = .ok (.bipush 7, 2) := by decide +kernel
theorem dX11_isPrime_18 : decode cX11_isPrime 18 = .ok (.if_icmp .ne 7, 3) := by decide +kernel
theorem dX11_isPrime_21 : decode cX11_isPrime 21 = .ok (.iconst 1, 1) := by decide +kernel
theorem dX11_isPrime_22 : decode cX11_isPrime 22 = .ok (.goto 4, 3) := by decide +kernel
theorem dX11_isPrime_25 : decode cX11_isPrime 25 = .ok (.iconst 0, 1) := by decide +kernel
theorem dX11_isPrime_26 : decode cX11_isPrime 26 = .ok (.ireturn, 1) := by decide +kernel
theorem dX11_isSheet_0 : decode cX11_isSheet 0 = .ok (.iload_n 0, 1) := by decide +kernel
theorem dX11_isSheet_1 : decode cX11_isSheet 1 = .ok (.i2l, 1) := by decide +kernel
theorem dX11_isSheet_2 : decode cX11_isSheet 2 = .ok (.lconst 0, 1) := by decide +kernel
theorem dX11_isSheet_3 : decode cX11_isSheet 3 = .ok (.ldc2_w 105, 3) := by decide +kernel
theorem dX11_isSheet_6 : decode cX11_isSheet 6 = .ok (.invokestatic 81, 3) := by decide +kernel
theorem dX11_isSheet_9 : decode cX11_isSheet 9 = .ok (.ireturn, 1) := by decide +kernel
theorem dX11_item_0 : decode cX11_item 0 = .ok (.iload_n 1, 1) := by decide +kernel
theorem dX11_item_1 : decode cX11_item 1 = .ok (.invokestatic 237, 3) := by decide +kernel
theorem dX11_item_4 : decode cX11_item 4 = .ok (.ifCond .eq 15, 3) := by decide +kernel
theorem dX11_item_7 : decode cX11_item 7 = .ok (.iload_n 2, 1) := by decide +kernel
theorem dX11_item_8 : decode cX11_item 8 = .ok (.i2l, 1) := by decide +kernel
theorem dX11_item_9 : decode cX11_item 9 = .ok (.lconst 0, 1) := by decide +kernel
theorem dX11_item_10 : decode cX11_item 10 = .ok (.ldc2_w 278, 3) := by decide +kernel
theorem dX11_item_13 : decode cX11_item 13 = .ok (.invokestatic 81, 3) := by decide +kernel
theorem dX11_item_16 : decode cX11_item 16 = .ok (.ifCond .ne 5, 3) := by decide +kernel
theorem dX11_item_19 : decode cX11_item 19 = .ok (.iconst (-1), 1) := by decide +kernel
theorem dX11_item_20 : decode cX11_item 20 = .ok (.ireturn, 1) := by decide +kernel
theorem dX11_item_21 : decode cX11_item 21 = .ok (.aload_n 0, 1) := by decide +kernel
theorem dX11_item_22 : decode cX11_item 22 = .ok (.getfield 69, 3) := by decide +kernel
theorem dX11_item_25 : decode cX11_item 25 = .ok (.iload_n 1, 1) := by decide +kernel
theorem dX11_item_26 : decode cX11_item 26 = .ok (.iaload, 1) := by decide +kernel
theorem dX11_item_27 : decode cX11_item 27 = .ok (.iload_n 2, 1) := by decide +kernel
theorem dX11_item_28 : decode cX11_item 28 = .ok (.if_icmp .eq 20, 3) := by decide +kernel
theorem dX11_item_31 : decode cX11_item 31 = .ok (.aload_n 0, 1) := by decide +kernel
theorem dX11_item_32 : decode cX11_item 32 = .ok (.getfield 69, 3) := by decide +kernel
theorem dX11_item_35 : decode cX11_item 35 = .ok (.iload_n 1, 1) := by decide +kernel
theorem dX11_item_36 : decode cX11_item 36 = .ok (.iaload, 1) := by decide +kernel
theorem dX11_item_37 : decode cX11_item 37 = .ok (.ifCond .ge 8, 3) := by decide +kernel
theorem dX11_item_40 : decode cX11_item 40 = .ok (.bipush (-11), 2) := by decide +kernel
theorem dX11_item_42 : decode cX11_item 42 = .ok (.goto 5, 3) := by decide +kernel
theorem dX11_item_47 : decode cX11_item 47 = .ok (.ireturn, 1) := by decide +kernel
theorem dX11_keep_0 : decode cX11_keep 0 = .ok (.iconst 0, 1) := by decide +kernel
theorem dX11_keep_1 : decode cX11_keep 1 = .ok (.istore_n 1, 1) := by decide +kernel
theorem dX11_keep_2 : decode cX11_keep 2 = .ok (.iload_n 1, 1) := by decide +kernel
theorem dX11_keep_3 : decode cX11_keep 3 = .ok (.bipush 36, 2) := by decide +kernel
theorem dX11_keep_5 : decode cX11_keep 5 = .ok (.if_icmp .ge 21, 3) := by decide +kernel
theorem dX11_keep_8 : decode cX11_keep 8 = .ok (.aload_n 0, 1) := by decide +kernel
theorem dX11_keep_9 : decode cX11_keep 9 = .ok (.getfield 20, 3) := by decide +kernel
theorem dX11_keep_12 : decode cX11_keep 12 = .ok (.iload_n 1, 1) := by decide +kernel
theorem dX11_keep_13 : decode cX11_keep 13 = .ok (.aload_n 0, 1) := by decide +kernel
theorem dX11_keep_14 : decode cX11_keep 14 = .ok (.getfield 16, 3) := by decide +kernel
theorem dX11_keep_17 : decode cX11_keep 17 = .ok (.iload_n 1, 1) := by decide +kernel
theorem dX11_keep_18 : decode cX11_keep 18 = .ok (.iaload, 1) := by decide +kernel
theorem dX11_keep_19 : decode cX11_keep 19 = .ok (.iastore, 1) := by decide +kernel
theorem dX11_keep_20 : decode cX11_keep 20 = .ok (.iinc 1 1, 3) := by decide +kernel
theorem dX11_keep_23 : decode cX11_keep 23 = .ok (.goto (-21), 3) := by decide +kernel
theorem dX11_keep_26 : decode cX11_keep 26 = .ok (.aload_n 0, 1) := by decide +kernel
theorem dX11_keep_27 : decode cX11_keep 27 = .ok (.aload_n 0, 1) := by decide +kernel
theorem dX11_keep_28 : decode cX11_keep 28 = .ok (.getfield 7, 3) := by decide +kernel
theorem dX11_keep_31 : decode cX11_keep 31 = .ok (.putfield 297, 3) := by decide +kernel
theorem dX11_keep_34 : decode cX11_keep 34 = .ok (.aload_n 0, 1) := by decide +kernel
theorem dX11_keep_35 : decode cX11_keep 35 = .ok (.aload_n 0, 1) := by decide +kernel
theorem dX11_keep_36 : decode cX11_keep 36 = .ok (.getfield 85, 3) := by decide +kernel
theorem dX11_keep_39 : decode cX11_keep 39 = .ok (.putfield 300, 3) := by decide +kernel
theorem dX11_keep_42 : decode cX11_keep 42 = .ok (.aload_n 0, 1) := by decide +kernel
theorem dX11_keep_43 : decode cX11_keep 43 = .ok (.aload_n 0, 1) := by decide +kernel
theorem dX11_keep_44 : decode cX11_keep 44 = .ok (.getfield 13, 3) := by decide +kernel
theorem dX11_keep_47 : decode cX11_keep 47 = .ok (.putfield 303, 3) := by decide +kernel
theorem dX11_keep_50 : decode cX11_keep 50 = .ok (.aload_n 0, 1) := by decide +kernel
theorem dX11_keep_51 : decode cX11_keep 51 = .ok (.iconst 1, 1) := by decide +kernel
theorem dX11_keep_52 : decode cX11_keep 52 = .ok (.putfield 306, 3) := by decide +kernel
theorem dX11_keep_55 : decode cX11_keep 55 = .ok (.iconst 1, 1) := by decide +kernel
theorem dX11_keep_56 : decode cX11_keep 56 = .ok (.ireturn, 1) := by decide +kernel
theorem dX11_keeps_0 : decode cX11_keeps 0 = .ok (.iload_n 1, 1) := by decide +kernel
theorem dX11_keeps_1 : decode cX11_keeps 1 = .ok (.invokestatic 237, 3) := by decide +kernel
theorem dX11_keeps_4 : decode cX11_keeps 4 = .ok (.ifCond .ne 5, 3) := by decide +kernel
theorem dX11_keeps_7 : decode cX11_keeps 7 = .ok (.iconst (-1), 1) := by decide +kernel
theorem dX11_keeps_8 : decode cX11_keeps 8 = .ok (.ireturn, 1) := by decide +kernel
theorem dX11_keeps_9 : decode cX11_keeps 9 = .ok (.aload_n 0, 1) := by decide +kernel
theorem dX11_keeps_10 : decode cX11_keeps 10 = .ok (.getfield 69, 3) := by decide +kernel
theorem dX11_keeps_13 : decode cX11_keeps 13 = .ok (.iload_n 1, 1) := by decide +kernel
theorem dX11_keeps_14 : decode cX11_keeps 14 = .ok (.iaload, 1) := by decide +kernel
theorem dX11_keeps_15 : decode cX11_keeps 15 = .ok (.ifCond .eq 20, 3) := by decide +kernel
theorem dX11_keeps_18 : decode cX11_keeps 18 = .ok (.aload_n 0, 1) := by decide +kernel
theorem dX11_keeps_19 : decode cX11_keeps 19 = .ok (.getfield 69, 3) := by decide +kernel
theorem dX11_keeps_22 : decode cX11_keeps 22 = .ok (.iload_n 1, 1) := by decide +kernel
theorem dX11_keeps_23 : decode cX11_keeps 23 = .ok (.iaload, 1) := by decide +kernel
theorem dX11_keeps_24 : decode cX11_keeps 24 = .ok (.ifCond .ge 8, 3) := by decide +kernel
theorem dX11_keeps_27 : decode cX11_keeps 27 = .ok (.bipush (-11), 2) := by decide +kernel
theorem dX11_keeps_29 : decode cX11_keeps 29 = .ok (.goto 5, 3) := by decide +kernel
theorem dX11_keeps_34 : decode cX11_keeps 34 = .ok (.ireturn, 1) := by decide +kernel
theorem dX11_lacks_0 : decode cX11_lacks 0 = .ok (.aload_n 0, 1) := by decide +kernel
theorem dX11_lacks_1 : decode cX11_lacks 1 = .ok (.getfield 69, 3) := by decide +kernel
theorem dX11_lacks_4 : decode cX11_lacks 4 = .ok (.iload_n 1, 1) := by decide +kernel
theorem dX11_lacks_5 : decode cX11_lacks 5 = .ok (.iaload, 1) := by decide +kernel
theorem dX11_lacks_6 : decode cX11_lacks 6 = .ok (.ifCond .ge 6, 3) := by decide +kernel
theorem dX11_lacks_9 : decode cX11_lacks 9 = .ok (.bipush (-11), 2) := by decide +kernel
theorem dX11_lacks_11 : decode cX11_lacks 11 = .ok (.ireturn, 1) := by decide +kernel
theorem dX11_lay_0 : decode cX11_lay 0 = .ok (.aload_n 0, 1) := by decide +kernel
theorem dX11_lay_1 : decode cX11_lay 1 = .ok (.invokevirtual 219, 3) := by decide +kernel
theorem dX11_lay_4 : decode cX11_lay 4 = .ok (.iload_n 1, 1) := by decide +kernel
theorem dX11_lay_5 : decode cX11_lay 5 = .ok (.i2l, 1) := by decide +kernel
theorem dX11_lay_6 : decode cX11_lay 6 = .ok (.lconst 0, 1) := by decide +kernel
theorem dX11_lay_7 : decode cX11_lay 7 = .ok (.aload_n 0, 1) := by decide +kernel
theorem dX11_lay_8 : decode cX11_lay 8 = .ok (.getfield 202, 3) := by decide +kernel
theorem dX11_lay_11 : decode cX11_lay 11 = .ok (.iconst 1, 1) := by decide +kernel
theorem dX11_lay_12 : decode cX11_lay 12 = .ok (.isub, 1) := by decide +kernel
theorem dX11_lay_13 : decode cX11_lay 13 = .ok (.i2l, 1) := by decide +kernel
theorem dX11_lay_14 : decode cX11_lay 14 = .ok (.invokestatic 81, 3) := by decide +kernel
theorem dX11_lay_17 : decode cX11_lay 17 = .ok (.ifCond .eq 10, 3) := by decide +kernel
theorem dX11_lay_20 : decode cX11_lay 20 = .ok (.iload_n 2, 1) := by decide +kernel
theorem dX11_lay_21 : decode cX11_lay 21 = .ok (.invokestatic 237, 3) := by decide +kernel
theorem dX11_lay_24 : decode cX11_lay 24 = .ok (.ifCond .ne 5, 3) := by decide +kernel
theorem dX11_lay_27 : decode cX11_lay 27 = .ok (.iconst (-1), 1) := by decide +kernel
theorem dX11_lay_28 : decode cX11_lay 28 = .ok (.ireturn, 1) := by decide +kernel
theorem dX11_lay_29 : decode cX11_lay 29 = .ok (.aload_n 0, 1) := by decide +kernel
theorem dX11_lay_30 : decode cX11_lay 30 = .ok (.iload_n 2, 1) := by decide +kernel
theorem dX11_lay_31 : decode cX11_lay 31 = .ok (.iload_n 3, 1) := by decide +kernel
theorem dX11_lay_32 : decode cX11_lay 32 = .ok (.invokevirtual 293, 3) := by decide +kernel
theorem dX11_lay_35 : decode cX11_lay 35 = .ok (.istore 4, 2) := by decide +kernel
theorem dX11_lay_37 : decode cX11_lay 37 = .ok (.iconst 0, 1) := by decide +kernel
theorem dX11_lay_38 : decode cX11_lay 38 = .ok (.istore 5, 2) := by decide +kernel
theorem dX11_lay_40 : decode cX11_lay 40 = .ok (.iload 5, 2) := by decide +kernel
theorem dX11_lay_42 : decode cX11_lay 42 = .ok (.aload_n 0, 1) := by decide +kernel
theorem dX11_lay_43 : decode cX11_lay 43 = .ok (.getfield 7, 3) := by decide +kernel
theorem dX11_lay_46 : decode cX11_lay 46 = .ok (.aload_n 0, 1) := by decide +kernel
theorem dX11_lay_47 : decode cX11_lay 47 = .ok (.getfield 7, 3) := by decide +kernel
theorem dX11_lay_50 : decode cX11_lay 50 = .ok (.imul, 1) := by decide +kernel
theorem dX11_lay_51 : decode cX11_lay 51 = .ok (.if_icmp .ge 55, 3) := by decide +kernel
theorem dX11_lay_54 : decode cX11_lay 54 = .ok (.iload 4, 2) := by decide +kernel
theorem dX11_lay_56 : decode cX11_lay 56 = .ok (.ifCond .ne 50, 3) := by decide +kernel
theorem dX11_lay_106 : decode cX11_lay 106 = .ok (.iload 4, 2) := by decide +kernel
theorem dX11_lay_108 : decode cX11_lay 108 = .ok (.ifCond .ne 15, 3) := by decide +kernel
theorem dX11_lay_123 : decode cX11_lay 123 = .ok (.iload 4, 2) := by decide +kernel
theorem dX11_lay_125 : decode cX11_lay 125 = .ok (.ireturn, 1) := by decide +kernel
theorem dX11_listed_0 : decode cX11_listed 0 = .ok (.aload_n 0, 1) := by decide +kernel
theorem dX11_listed_1 : decode cX11_listed 1 = .ok (.invokevirtual 219, 3) := by decide +kernel
theorem dX11_listed_4 : decode cX11_listed 4 = .ok (.aload_n 0, 1) := by decide +kernel
theorem dX11_listed_5 : decode cX11_listed 5 = .ok (.getfield 202, 3) := by decide +kernel
theorem dX11_listed_8 : decode cX11_listed 8 = .ok (.ireturn, 1) := by decide +kernel
theorem dX11_lists_0 : decode cX11_lists 0 = .ok (.iconst 0, 1) := by decide +kernel
theorem dX11_lists_1 : decode cX11_lists 1 = .ok (.istore 4, 2) := by decide +kernel
theorem dX11_lists_3 : decode cX11_lists 3 = .ok (.iload 4, 2) := by decide +kernel
theorem dX11_lists_5 : decode cX11_lists 5 = .ok (.bipush 9, 2) := by decide +kernel
theorem dX11_lists_7 : decode cX11_lists 7 = .ok (.if_icmp .ge 28, 3) := by decide +kernel
theorem dX11_lists_10 : decode cX11_lists 10 = .ok (.aload_n 0, 1) := by decide +kernel
theorem dX11_lists_11 : decode cX11_lists 11 = .ok (.getfield 45, 3) := by decide +kernel
theorem dX11_lists_14 : decode cX11_lists 14 = .ok (.bipush 9, 2) := by decide +kernel
theorem dX11_lists_16 : decode cX11_lists 16 = .ok (.aload_n 0, 1) := by decide +kernel
theorem dX11_lists_17 : decode cX11_lists 17 = .ok (.getfield 202, 3) := by decide +kernel
theorem dX11_lists_20 : decode cX11_lists 20 = .ok (.imul, 1) := by decide +kernel
theorem dX11_lists_21 : decode cX11_lists 21 = .ok (.iload 4, 2) := by decide +kernel
theorem dX11_lists_23 : decode cX11_lists 23 = .ok (.iadd, 1) := by decide +kernel
theorem dX11_lists_24 : decode cX11_lists 24 = .ok (.aload_n 1, 1) := by decide +kernel
theorem dX11_lists_25 : decode cX11_lists 25 = .ok (.iload 4, 2) := by decide +kernel
theorem dX11_lists_27 : decode cX11_lists 27 = .ok (.laload, 1) := by decide +kernel
theorem dX11_lists_28 : decode cX11_lists 28 = .ok (.lastore, 1) := by decide +kernel
theorem dX11_lists_29 : decode cX11_lists 29 = .ok (.iinc 4 1, 3) := by decide +kernel
theorem dX11_lists_32 : decode cX11_lists 32 = .ok (.goto (-29), 3) := by decide +kernel
theorem dX11_lists_35 : decode cX11_lists 35 = .ok (.aload_n 0, 1) := by decide +kernel
theorem dX11_lists_36 : decode cX11_lists 36 = .ok (.getfield 48, 3) := by decide +kernel
theorem dX11_lists_39 : decode cX11_lists 39 = .ok (.aload_n 0, 1) := by decide +kernel
theorem dX11_lists_40 : decode cX11_lists 40 = .ok (.getfield 202, 3) := by decide +kernel
theorem dX11_lists_43 : decode cX11_lists 43 = .ok (.iload_n 2, 1) := by decide +kernel
theorem dX11_lists_44 : decode cX11_lists 44 = .ok (.iastore, 1) := by decide +kernel
theorem dX11_lists_45 : decode cX11_lists 45 = .ok (.aload_n 0, 1) := by decide +kernel
theorem dX11_lists_46 : decode cX11_lists 46 = .ok (.getfield 51, 3) := by decide +kernel
theorem dX11_lists_49 : decode cX11_lists 49 = .ok (.aload_n 0, 1) := by decide +kernel
theorem dX11_lists_50 : decode cX11_lists 50 = .ok (.getfield 202, 3) := by decide +kernel
theorem dX11_lists_53 : decode cX11_lists 53 = .ok (.iload_n 3, 1) := by decide +kernel
theorem dX11_lists_54 : decode cX11_lists 54 = .ok (.iastore, 1) := by decide +kernel
theorem dX11_lists_55 : decode cX11_lists 55 = .ok (.aload_n 0, 1) := by decide +kernel
theorem dX11_lists_56 : decode cX11_lists 56 = .ok (.getfield 54, 3) := by decide +kernel
theorem dX11_lists_59 : decode cX11_lists 59 = .ok (.aload_n 0, 1) := by decide +kernel
theorem dX11_lists_60 : decode cX11_lists 60 = .ok (.getfield 202, 3) := by decide +kernel
theorem dX11_lists_63 : decode cX11_lists 63 = .ok (.iload_n 2, 1) := by decide +kernel
theorem dX11_lists_64 : decode cX11_lists 64 = .ok (.ifCond .ge 7, 3) := by decide +kernel
theorem dX11_lists_67 : decode cX11_lists 67 = .ok (.iconst 0, 1) := by decide +kernel
theorem dX11_lists_68 : decode cX11_lists 68 = .ok (.goto 11, 3) := by decide +kernel
theorem dX11_lists_79 : decode cX11_lists 79 = .ok (.iastore, 1) := by decide +kernel
theorem dX11_lists_80 : decode cX11_lists 80 = .ok (.aload_n 0, 1) := by decide +kernel
theorem dX11_lists_81 : decode cX11_lists 81 = .ok (.dup, 1) := by decide +kernel
theorem dX11_lists_82 : decode cX11_lists 82 = .ok (.getfield 202, 3) := by decide +kernel
theorem dX11_lists_85 : decode cX11_lists 85 = .ok (.iconst 1, 1) := by decide +kernel
theorem dX11_lists_86 : decode cX11_lists 86 = .ok (.iadd, 1) := by decide +kernel
theorem dX11_lists_87 : decode cX11_lists 87 = .ok (.putfield 202, 3) := by decide +kernel
theorem dX11_lists_90 : decode cX11_lists 90 = .ok (.return_, 1) := by decide +kernel
theorem dX11_lot_0 : decode cX11_lot 0 = .ok (.iload_n 1, 1) := by decide +kernel
theorem dX11_lot_1 : decode cX11_lot 1 = .ok (.i2l, 1) := by decide +kernel
theorem dX11_lot_2 : decode cX11_lot 2 = .ok (.lconst 1, 1) := by decide +kernel
theorem dX11_lot_3 : decode cX11_lot 3 = .ok (.ldc2_w 284, 3) := by decide +kernel
theorem dX11_lot_6 : decode cX11_lot 6 = .ok (.invokestatic 81, 3) := by decide +kernel
theorem dX11_lot_9 : decode cX11_lot 9 = .ok (.ifCond .ne 5, 3) := by decide +kernel
theorem dX11_lot_12 : decode cX11_lot 12 = .ok (.iconst (-1), 1) := by decide +kernel
theorem dX11_lot_13 : decode cX11_lot 13 = .ok (.ireturn, 1) := by decide +kernel
theorem dX11_lot_14 : decode cX11_lot 14 = .ok (.iconst 0, 1) := by decide +kernel
theorem dX11_lot_15 : decode cX11_lot 15 = .ok (.istore_n 2, 1) := by decide +kernel
theorem dX11_lot_16 : decode cX11_lot 16 = .ok (.iload_n 2, 1) := by decide +kernel
theorem dX11_lot_17 : decode cX11_lot 17 = .ok (.iload_n 1, 1) := by decide +kernel
theorem dX11_lot_18 : decode cX11_lot 18 = .ok (.if_icmp .ge 80, 3) := by decide +kernel
theorem dX11_lot_21 : decode cX11_lot 21 = .ok (.aload_n 0, 1) := by decide +kernel
theorem dX11_lot_22 : decode cX11_lot 22 = .ok (.getfield 85, 3) := by decide +kernel
theorem dX11_lot_25 : decode cX11_lot 25 = .ok (.iconst 4, 1) := by decide +kernel
theorem dX11_lot_26 : decode cX11_lot 26 = .ok (.if_icmp .ge 72, 3) := by decide +kernel
theorem dX11_lot_29 : decode cX11_lot 29 = .ok (.aload_n 0, 1) := by decide +kernel
theorem dX11_lot_30 : decode cX11_lot 30 = .ok (.aload_n 0, 1) := by decide +kernel
theorem dX11_lot_31 : decode cX11_lot 31 = .ok (.getfield 7, 3) := by decide +kernel
theorem dX11_lot_34 : decode cX11_lot 34 = .ok (.invokevirtual 286, 3) := by decide +kernel
theorem dX11_lot_37 : decode cX11_lot 37 = .ok (.istore_n 3, 1) := by decide +kernel
theorem dX11_lot_38 : decode cX11_lot 38 = .ok (.aload_n 0, 1) := by decide +kernel
theorem dX11_lot_39 : decode cX11_lot 39 = .ok (.aload_n 0, 1) := by decide +kernel
theorem dX11_lot_40 : decode cX11_lot 40 = .ok (.getfield 7, 3) := by decide +kernel
theorem dX11_lot_43 : decode cX11_lot 43 = .ok (.invokevirtual 286, 3) := by decide +kernel
theorem dX11_lot_46 : decode cX11_lot 46 = .ok (.istore 4, 2) := by decide +kernel
theorem dX11_lot_48 : decode cX11_lot 48 = .ok (.aload_n 0, 1) := by decide +kernel
theorem dX11_lot_49 : decode cX11_lot 49 = .ok (.iconst 5, 1) := by decide +kernel
theorem dX11_lot_50 : decode cX11_lot 50 = .ok (.invokevirtual 286, 3) := by decide +kernel
theorem dX11_lot_53 : decode cX11_lot 53 = .ok (.iconst 2, 1) := by decide +kernel
theorem dX11_lot_54 : decode cX11_lot 54 = .ok (.isub, 1) := by decide +kernel
theorem dX11_lot_55 : decode cX11_lot 55 = .ok (.istore 5, 2) := by decide +kernel
theorem dX11_lot_57 : decode cX11_lot 57 = .ok (.aload_n 0, 1) := by decide +kernel
theorem dX11_lot_58 : decode cX11_lot 58 = .ok (.iload_n 3, 1) := by decide +kernel
theorem dX11_lot_59 : decode cX11_lot 59 = .ok (.iload 4, 2) := by decide +kernel
theorem dX11_lot_61 : decode cX11_lot 61 = .ok (.iload_n 3, 1) := by decide +kernel
theorem dX11_lot_62 : decode cX11_lot 62 = .ok (.iload 4, 2) := by decide +kernel
theorem dX11_lot_64 : decode cX11_lot 64 = .ok (.if_icmp .ne 7, 3) := by decide +kernel
theorem dX11_lot_67 : decode cX11_lot 67 = .ok (.iconst (-1), 1) := by decide +kernel
theorem dX11_lot_68 : decode cX11_lot 68 = .ok (.goto 5, 3) := by decide +kernel
theorem dX11_lot_71 : decode cX11_lot 71 = .ok (.iload 5, 2) := by decide +kernel
theorem dX11_lot_73 : decode cX11_lot 73 = .ok (.invokevirtual 114, 3) := by decide +kernel
theorem dX11_lot_76 : decode cX11_lot 76 = .ok (.aload_n 0, 1) := by decide +kernel
theorem dX11_lot_77 : decode cX11_lot 77 = .ok (.invokevirtual 118, 3) := by decide +kernel
theorem dX11_lot_80 : decode cX11_lot 80 = .ok (.istore 6, 2) := by decide +kernel
theorem dX11_lot_82 : decode cX11_lot 82 = .ok (.iload_n 2, 1) := by decide +kernel
theorem dX11_lot_83 : decode cX11_lot 83 = .ok (.iload 6, 2) := by decide +kernel
theorem dX11_lot_85 : decode cX11_lot 85 = .ok (.ifCond .lt 7, 3) := by decide +kernel
theorem dX11_lot_88 : decode cX11_lot 88 = .ok (.iconst 1, 1) := by decide +kernel
theorem dX11_lot_89 : decode cX11_lot 89 = .ok (.goto 4, 3) := by decide +kernel
theorem dX11_lot_93 : decode cX11_lot 93 = .ok (.iadd, 1) := by decide +kernel
theorem dX11_lot_94 : decode cX11_lot 94 = .ok (.istore_n 2, 1) := by decide +kernel
theorem dX11_lot_95 : decode cX11_lot 95 = .ok (.goto (-79), 3) := by decide +kernel
theorem dX11_lot_98 : decode cX11_lot 98 = .ok (.iload_n 2, 1) := by decide +kernel
theorem dX11_lot_99 : decode cX11_lot 99 = .ok (.ireturn, 1) := by decide +kernel
theorem dX11_made_0 : decode cX11_made 0 = .ok (.iload_n 1, 1) := by decide +kernel
theorem dX11_made_1 : decode cX11_made 1 = .ok (.i2l, 1) := by decide +kernel
theorem dX11_made_2 : decode cX11_made 2 = .ok (.lconst 0, 1) := by decide +kernel
theorem dX11_made_3 : decode cX11_made 3 = .ok (.ldc2_w 105, 3) := by decide +kernel
theorem dX11_made_6 : decode cX11_made 6 = .ok (.invokestatic 81, 3) := by decide +kernel
theorem dX11_made_9 : decode cX11_made 9 = .ok (.ifCond .eq 23, 3) := by decide +kernel
theorem dX11_made_12 : decode cX11_made 12 = .ok (.aload_n 0, 1) := by decide +kernel
theorem dX11_made_13 : decode cX11_made 13 = .ok (.iload_n 2, 1) := by decide +kernel
theorem dX11_made_14 : decode cX11_made 14 = .ok (.invokevirtual 122, 3) := by decide +kernel
theorem dX11_made_17 : decode cX11_made 17 = .ok (.ifCond .eq 15, 3) := by decide +kernel
theorem dX11_made_32 : decode cX11_made 32 = .ok (.iconst (-1), 1) := by decide +kernel
theorem dX11_made_33 : decode cX11_made 33 = .ok (.ireturn, 1) := by decide +kernel
theorem dX11_makesUnit_0 : decode cX11_makesUnit 0 = .ok (.aload_n 0, 1) := by decide +kernel
theorem dX11_makesUnit_1 : decode cX11_makesUnit 1 = .ok (.aload_n 0, 1) := by decide +kernel
theorem dX11_makesUnit_2 : decode cX11_makesUnit 2 = .ok (.getfield 23, 3) := by decide +kernel
theorem dX11_makesUnit_5 : decode cX11_makesUnit 5 = .ok (.invokevirtual 107, 3) := by decide +kernel
theorem dX11_makesUnit_8 : decode cX11_makesUnit 8 = .ok (.aload_n 0, 1) := by decide +kernel
theorem dX11_makesUnit_9 : decode cX11_makesUnit 9 = .ok (.getfield 23, 3) := by decide +kernel
theorem dX11_makesUnit_12 : decode cX11_makesUnit 12 = .ok (.iconst 3, 1) := by decide +kernel
theorem dX11_makesUnit_13 : decode cX11_makesUnit 13 = .ok (.iload_n 1, 1) := by decide +kernel
theorem dX11_makesUnit_14 : decode cX11_makesUnit 14 = .ok (.imul, 1) := by decide +kernel
theorem dX11_makesUnit_15 : decode cX11_makesUnit 15 = .ok (.iload_n 2, 1) := by decide +kernel
theorem dX11_makesUnit_16 : decode cX11_makesUnit 16 = .ok (.iadd, 1) := by decide +kernel
theorem dX11_makesUnit_17 : decode cX11_makesUnit 17 = .ok (.iload_n 3, 1) := by decide +kernel
theorem dX11_makesUnit_18 : decode cX11_makesUnit 18 = .ok (.i2l, 1) := by decide +kernel
theorem dX11_makesUnit_19 : decode cX11_makesUnit 19 = .ok (.lastore, 1) := by decide +kernel
theorem dX11_makesUnit_20 : decode cX11_makesUnit 20 = .ok (.return_, 1) := by decide +kernel
theorem dX11_many_0 : decode cX11_many 0 = .ok (.iload_n 1, 1) := by decide +kernel
theorem dX11_many_1 : decode cX11_many 1 = .ok (.tableswitch 42 0 2 #[27, 32, 37], 27) := by decide +kernel
theorem dX11_many_28 : decode cX11_many 28 = .ok (.aload_n 0, 1) := by decide +kernel
theorem dX11_many_29 : decode cX11_many 29 = .ok (.getfield 7, 3) := by decide +kernel
theorem dX11_many_32 : decode cX11_many 32 = .ok (.ireturn, 1) := by decide +kernel
theorem dX11_many_33 : decode cX11_many 33 = .ok (.aload_n 0, 1) := by decide +kernel
theorem dX11_many_34 : decode cX11_many 34 = .ok (.getfield 85, 3) := by decide +kernel
theorem dX11_many_37 : decode cX11_many 37 = .ok (.ireturn, 1) := by decide +kernel
theorem dX11_many_38 : decode cX11_many 38 = .ok (.aload_n 0, 1) := by decide +kernel
theorem dX11_many_39 : decode cX11_many 39 = .ok (.getfield 171, 3) := by decide +kernel
theorem dX11_many_42 : decode cX11_many 42 = .ok (.ireturn, 1) := by decide +kernel
theorem dX11_many_43 : decode cX11_many 43 = .ok (.iconst (-1), 1) := by decide +kernel
theorem dX11_many_44 : decode cX11_many 44 = .ok (.ireturn, 1) := by decide +kernel
theorem dX11_middle_0 : decode cX11_middle 0 = .ok (.aload_n 0, 1) := by decide +kernel
theorem dX11_middle_1 : decode cX11_middle 1 = .ok (.invokevirtual 219, 3) := by decide +kernel
theorem dX11_middle_4 : decode cX11_middle 4 = .ok (.iconst 0, 1) := by decide +kernel
theorem dX11_middle_5 : decode cX11_middle 5 = .ok (.istore_n 1, 1) := by decide +kernel
theorem dX11_middle_6 : decode cX11_middle 6 = .ok (.iconst 0, 1) := by decide +kernel
theorem dX11_middle_7 : decode cX11_middle 7 = .ok (.istore_n 2, 1) := by decide +kernel
theorem dX11_middle_8 : decode cX11_middle 8 = .ok (.iload_n 2, 1) := by decide +kernel
theorem dX11_middle_9 : decode cX11_middle 9 = .ok (.aload_n 0, 1) := by decide +kernel
theorem dX11_middle_10 : decode cX11_middle 10 = .ok (.getfield 202, 3) := by decide +kernel
theorem dX11_middle_13 : decode cX11_middle 13 = .ok (.if_icmp .ge 136, 3) := by decide +kernel
theorem dX11_middle_16 : decode cX11_middle 16 = .ok (.iconst 1, 1) := by decide +kernel
theorem dX11_middle_17 : decode cX11_middle 17 = .ok (.istore_n 3, 1) := by decide +kernel
theorem dX11_middle_18 : decode cX11_middle 18 = .ok (.iconst 0, 1) := by decide +kernel
theorem dX11_middle_19 : decode cX11_middle 19 = .ok (.istore 4, 2) := by decide +kernel
theorem dX11_middle_21 : decode cX11_middle 21 = .ok (.iload 4, 2) := by decide +kernel
theorem dX11_middle_23 : decode cX11_middle 23 = .ok (.aload_n 0, 1) := by decide +kernel
theorem dX11_middle_24 : decode cX11_middle 24 = .ok (.getfield 85, 3) := by decide +kernel
theorem dX11_middle_27 : decode cX11_middle 27 = .ok (.if_icmp .ge 104, 3) := by decide +kernel
theorem dX11_middle_131 : decode cX11_middle 131 = .ok (.iload_n 1, 1) := by decide +kernel
theorem dX11_middle_132 : decode cX11_middle 132 = .ok (.iload_n 3, 1) := by decide +kernel
theorem dX11_middle_133 : decode cX11_middle 133 = .ok (.ifCond .eq 7, 3) := by decide +kernel
theorem dX11_middle_136 : decode cX11_middle 136 = .ok (.iconst 1, 1) := by decide +kernel
theorem dX11_middle_137 : decode cX11_middle 137 = .ok (.goto 4, 3) := by decide +kernel
theorem dX11_middle_141 : decode cX11_middle 141 = .ok (.iadd, 1) := by decide +kernel
theorem dX11_middle_142 : decode cX11_middle 142 = .ok (.istore_n 1, 1) := by decide +kernel
theorem dX11_middle_143 : decode cX11_middle 143 = .ok (.iinc 2 1, 3) := by decide +kernel
theorem dX11_middle_146 : decode cX11_middle 146 = .ok (.goto (-138), 3) := by decide +kernel
theorem dX11_middle_149 : decode cX11_middle 149 = .ok (.iload_n 1, 1) := by decide +kernel
theorem dX11_middle_150 : decode cX11_middle 150 = .ok (.ireturn, 1) := by decide +kernel
theorem dX11_of_0 : decode cX11_of 0 = .ok (.aload_n 0, 1) := by decide +kernel
theorem dX11_of_1 : decode cX11_of 1 = .ok (.iload_n 1, 1) := by decide +kernel
theorem dX11_of_2 : decode cX11_of 2 = .ok (.invokevirtual 122, 3) := by decide +kernel
theorem dX11_of_5 : decode cX11_of 5 = .ok (.ifCond .ne 5, 3) := by decide +kernel
theorem dX11_of_8 : decode cX11_of 8 = .ok (.iconst (-1), 1) := by decide +kernel
theorem dX11_of_9 : decode cX11_of 9 = .ok (.ireturn, 1) := by decide +kernel
theorem dX11_orbit_0 : decode cX11_orbit 0 = .ok (.iload_n 1, 1) := by decide +kernel
theorem dX11_orbit_1 : decode cX11_orbit 1 = .ok (.iload_n 2, 1) := by decide +kernel
theorem dX11_orbit_2 : decode cX11_orbit 2 = .ok (.iload_n 3, 1) := by decide +kernel
theorem dX11_orbit_3 : decode cX11_orbit 3 = .ok (.invokestatic 264, 3) := by decide +kernel
theorem dX11_orbit_6 : decode cX11_orbit 6 = .ok (.ifCond .ne 5, 3) := by decide +kernel
theorem dX11_orbit_9 : decode cX11_orbit 9 = .ok (.iconst (-1), 1) := by decide +kernel
theorem dX11_orbit_10 : decode cX11_orbit 10 = .ok (.ireturn, 1) := by decide +kernel
theorem dX11_orbit_11 : decode cX11_orbit 11 = .ok (.aload_n 0, 1) := by decide +kernel
theorem dX11_orbit_12 : decode cX11_orbit 12 = .ok (.getfield 60, 3) := by decide +kernel
theorem dX11_orbit_15 : decode cX11_orbit 15 = .ok (.iconst 0, 1) := by decide +kernel
theorem dX11_orbit_16 : decode cX11_orbit 16 = .ok (.iload_n 1, 1) := by decide +kernel
theorem dX11_orbit_17 : decode cX11_orbit 17 = .ok (.i2l, 1) := by decide +kernel
theorem dX11_orbit_18 : decode cX11_orbit 18 = .ok (.lastore, 1) := by decide +kernel
theorem dX11_orbit_19 : decode cX11_orbit 19 = .ok (.aload_n 0, 1) := by decide +kernel
theorem dX11_orbit_20 : decode cX11_orbit 20 = .ok (.getfield 60, 3) := by decide +kernel
theorem dX11_orbit_23 : decode cX11_orbit 23 = .ok (.iconst 1, 1) := by decide +kernel
theorem dX11_orbit_24 : decode cX11_orbit 24 = .ok (.aload_n 0, 1) := by decide +kernel
theorem dX11_orbit_25 : decode cX11_orbit 25 = .ok (.getfield 7, 3) := by decide +kernel
theorem dX11_orbit_28 : decode cX11_orbit 28 = .ok (.iconst 1, 1) := by decide +kernel
theorem dX11_orbit_29 : decode cX11_orbit 29 = .ok (.if_icmp .le 8, 3) := by decide +kernel
theorem dX11_orbit_32 : decode cX11_orbit 32 = .ok (.iload_n 2, 1) := by decide +kernel
theorem dX11_orbit_33 : decode cX11_orbit 33 = .ok (.i2l, 1) := by decide +kernel
theorem dX11_orbit_34 : decode cX11_orbit 34 = .ok (.goto 4, 3) := by decide +kernel
theorem dX11_orbit_38 : decode cX11_orbit 38 = .ok (.lastore, 1) := by decide +kernel
theorem dX11_orbit_39 : decode cX11_orbit 39 = .ok (.aload_n 0, 1) := by decide +kernel
theorem dX11_orbit_40 : decode cX11_orbit 40 = .ok (.getfield 60, 3) := by decide +kernel
theorem dX11_orbit_43 : decode cX11_orbit 43 = .ok (.iconst 2, 1) := by decide +kernel
theorem dX11_orbit_44 : decode cX11_orbit 44 = .ok (.aload_n 0, 1) := by decide +kernel
theorem dX11_orbit_45 : decode cX11_orbit 45 = .ok (.getfield 7, 3) := by decide +kernel
theorem dX11_orbit_48 : decode cX11_orbit 48 = .ok (.iconst 2, 1) := by decide +kernel
theorem dX11_orbit_49 : decode cX11_orbit 49 = .ok (.if_icmp .le 8, 3) := by decide +kernel
theorem dX11_orbit_57 : decode cX11_orbit 57 = .ok (.lconst 0, 1) := by decide +kernel
theorem dX11_orbit_58 : decode cX11_orbit 58 = .ok (.lastore, 1) := by decide +kernel
theorem dX11_orbit_59 : decode cX11_orbit 59 = .ok (.aload_n 0, 1) := by decide +kernel
theorem dX11_orbit_60 : decode cX11_orbit 60 = .ok (.iconst 1, 1) := by decide +kernel
theorem dX11_orbit_61 : decode cX11_orbit 61 = .ok (.putfield 102, 3) := by decide +kernel
theorem dX11_orbit_64 : decode cX11_orbit 64 = .ok (.iconst 0, 1) := by decide +kernel
theorem dX11_orbit_65 : decode cX11_orbit 65 = .ok (.istore 4, 2) := by decide +kernel
theorem dX11_orbit_67 : decode cX11_orbit 67 = .ok (.iload 4, 2) := by decide +kernel
theorem dX11_orbit_69 : decode cX11_orbit 69 = .ok (.aload_n 0, 1) := by decide +kernel
theorem dX11_orbit_70 : decode cX11_orbit 70 = .ok (.getfield 102, 3) := by decide +kernel
theorem dX11_orbit_73 : decode cX11_orbit 73 = .ok (.if_icmp .ge 200, 3) := by decide +kernel
theorem dX11_orbit_76 : decode cX11_orbit 76 = .ok (.iconst 0, 1) := by decide +kernel
theorem dX11_orbit_77 : decode cX11_orbit 77 = .ok (.istore 5, 2) := by decide +kernel
theorem dX11_orbit_79 : decode cX11_orbit 79 = .ok (.iload 5, 2) := by decide +kernel
theorem dX11_orbit_81 : decode cX11_orbit 81 = .ok (.aload_n 0, 1) := by decide +kernel
theorem dX11_orbit_82 : decode cX11_orbit 82 = .ok (.getfield 85, 3) := by decide +kernel
