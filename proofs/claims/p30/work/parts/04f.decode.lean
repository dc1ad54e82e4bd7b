theorem dX11_image_87 : decode cX11_image 87 = .ok (.getfield 27, 3) := by decide +kernel
theorem dX11_image_90 : decode cX11_image 90 = .ok (.aload_n 0, 1) := by decide +kernel
theorem dX11_image_91 : decode cX11_image 91 = .ok (.getfield 30, 3) := by decide +kernel
theorem dX11_image_94 : decode cX11_image 94 = .ok (.aload_n 0, 1) := by decide +kernel
theorem dX11_image_95 : decode cX11_image 95 = .ok (.getfield 33, 3) := by decide +kernel
theorem dX11_image_98 : decode cX11_image 98 = .ok (.invokevirtual 129, 3) := by decide +kernel
theorem dX11_image_101 : decode cX11_image 101 = .ok (.aload_n 0, 1) := by decide +kernel
theorem dX11_image_102 : decode cX11_image 102 = .ok (.aload_n 0, 1) := by decide +kernel
theorem dX11_image_103 : decode cX11_image 103 = .ok (.getfield 33, 3) := by decide +kernel
theorem dX11_image_106 : decode cX11_image 106 = .ok (.iload_n 1, 1) := by decide +kernel
theorem dX11_image_107 : decode cX11_image 107 = .ok (.invokevirtual 253, 3) := by decide +kernel
theorem dX11_image_110 : decode cX11_image 110 = .ok (.istore 5, 2) := by decide +kernel
theorem dX11_image_112 : decode cX11_image 112 = .ok (.iconst 1, 1) := by decide +kernel
theorem dX11_image_113 : decode cX11_image 113 = .ok (.istore 6, 2) := by decide +kernel
theorem dX11_image_115 : decode cX11_image 115 = .ok (.iconst 0, 1) := by decide +kernel
theorem dX11_image_116 : decode cX11_image 116 = .ok (.istore 7, 2) := by decide +kernel
theorem dX11_image_118 : decode cX11_image 118 = .ok (.iload 7, 2) := by decide +kernel
theorem dX11_image_120 : decode cX11_image 120 = .ok (.iload_n 2, 1) := by decide +kernel
theorem dX11_image_121 : decode cX11_image 121 = .ok (.if_icmp .ge 33, 3) := by decide +kernel
theorem dX11_image_124 : decode cX11_image 124 = .ok (.iload 6, 2) := by decide +kernel
theorem dX11_image_126 : decode cX11_image 126 = .ok (.ifCond .eq 28, 3) := by decide +kernel
theorem dX11_image_129 : decode cX11_image 129 = .ok (.aload_n 0, 1) := by decide +kernel
theorem dX11_image_130 : decode cX11_image 130 = .ok (.getfield 57, 3) := by decide +kernel
theorem dX11_image_133 : decode cX11_image 133 = .ok (.iload 7, 2) := by decide +kernel
theorem dX11_image_135 : decode cX11_image 135 = .ok (.iaload, 1) := by decide +kernel
theorem dX11_image_136 : decode cX11_image 136 = .ok (.iload 5, 2) := by decide +kernel
theorem dX11_image_138 : decode cX11_image 138 = .ok (.if_icmp .eq 7, 3) := by decide +kernel
theorem dX11_image_141 : decode cX11_image 141 = .ok (.iconst 1, 1) := by decide +kernel
theorem dX11_image_142 : decode cX11_image 142 = .ok (.goto 4, 3) := by decide +kernel
theorem dX11_image_145 : decode cX11_image 145 = .ok (.iconst 0, 1) := by decide +kernel
theorem dX11_image_146 : decode cX11_image 146 = .ok (.istore 6, 2) := by decide +kernel
theorem dX11_image_148 : decode cX11_image 148 = .ok (.iinc 7 1, 3) := by decide +kernel
theorem dX11_image_151 : decode cX11_image 151 = .ok (.goto (-33), 3) := by decide +kernel
theorem dX11_image_154 : decode cX11_image 154 = .ok (.iload 6, 2) := by decide +kernel
theorem dX11_image_156 : decode cX11_image 156 = .ok (.ifCond .eq 14, 3) := by decide +kernel
theorem dX11_image_159 : decode cX11_image 159 = .ok (.aload_n 0, 1) := by decide +kernel
theorem dX11_image_160 : decode cX11_image 160 = .ok (.getfield 57, 3) := by decide +kernel
theorem dX11_image_163 : decode cX11_image 163 = .ok (.iload_n 2, 1) := by decide +kernel
theorem dX11_image_164 : decode cX11_image 164 = .ok (.iload 5, 2) := by decide +kernel
theorem dX11_image_166 : decode cX11_image 166 = .ok (.iastore, 1) := by decide +kernel
theorem dX11_image_167 : decode cX11_image 167 = .ok (.iinc 2 1, 3) := by decide +kernel
theorem dX11_image_170 : decode cX11_image 170 = .ok (.iinc 4 1, 3) := by decide +kernel
theorem dX11_image_173 : decode cX11_image 173 = .ok (.goto (-129), 3) := by decide +kernel
theorem dX11_image_176 : decode cX11_image 176 = .ok (.iinc 3 1, 3) := by decide +kernel
theorem dX11_image_179 : decode cX11_image 179 = .ok (.goto (-143), 3) := by decide +kernel
theorem dX11_image_182 : decode cX11_image 182 = .ok (.iload_n 2, 1) := by decide +kernel
theorem dX11_image_183 : decode cX11_image 183 = .ok (.ireturn, 1) := by decide +kernel
theorem dX11_in_0 : decode cX11_in 0 = .ok (.lload_n 0, 1) := by decide +kernel
theorem dX11_in_1 : decode cX11_in 1 = .ok (.lload_n 2, 1) := by decide +kernel
theorem dX11_in_2 : decode cX11_in 2 = .ok (.lcmp, 1) := by decide +kernel
theorem dX11_in_3 : decode cX11_in 3 = .ok (.ifCond .lt 14, 3) := by decide +kernel
theorem dX11_in_6 : decode cX11_in 6 = .ok (.lload_n 0, 1) := by decide +kernel
theorem dX11_in_7 : decode cX11_in 7 = .ok (.lload 4, 2) := by decide +kernel
theorem dX11_in_9 : decode cX11_in 9 = .ok (.lcmp, 1) := by decide +kernel
theorem dX11_in_10 : decode cX11_in 10 = .ok (.ifCond .gt 7, 3) := by decide +kernel
theorem dX11_in_13 : decode cX11_in 13 = .ok (.iconst 1, 1) := by decide +kernel
theorem dX11_in_14 : decode cX11_in 14 = .ok (.goto 4, 3) := by decide +kernel
theorem dX11_in_17 : decode cX11_in 17 = .ok (.iconst 0, 1) := by decide +kernel
theorem dX11_in_18 : decode cX11_in 18 = .ok (.ireturn, 1) := by decide +kernel
theorem dX11_init_0 : decode cX11_init 0 = .ok (.aload_n 0, 1) := by decide +kernel
theorem dX11_init_1 : decode cX11_init 1 = .ok (.invokespecial 1, 3) := by decide +kernel
theorem dX11_init_4 : decode cX11_init 4 = .ok (.aload_n 0, 1) := by decide +kernel
theorem dX11_init_5 : decode cX11_init 5 = .ok (.iconst 2, 1) := by decide +kernel
theorem dX11_init_6 : decode cX11_init 6 = .ok (.putfield 7, 3) := by decide +kernel
theorem dX11_init_9 : decode cX11_init 9 = .ok (.aload_n 0, 1) := by decide +kernel
theorem dX11_init_10 : decode cX11_init 10 = .ok (.iconst 1, 1) := by decide +kernel
theorem dX11_init_11 : decode cX11_init 11 = .ok (.putfield 13, 3) := by decide +kernel
theorem dX11_init_14 : decode cX11_init 14 = .ok (.aload_n 0, 1) := by decide +kernel
theorem dX11_init_15 : decode cX11_init 15 = .ok (.bipush 36, 2) := by decide +kernel
theorem dX11_init_17 : decode cX11_init 17 = .ok (.newarray .int, 2) := by decide +kernel
theorem dX11_init_19 : decode cX11_init 19 = .ok (.putfield 16, 3) := by decide +kernel
theorem dX11_init_22 : decode cX11_init 22 = .ok (.aload_n 0, 1) := by decide +kernel
theorem dX11_init_23 : decode cX11_init 23 = .ok (.bipush 36, 2) := by decide +kernel
theorem dX11_init_25 : decode cX11_init 25 = .ok (.newarray .int, 2) := by decide +kernel
theorem dX11_init_27 : decode cX11_init 27 = .ok (.putfield 20, 3) := by decide +kernel
theorem dX11_init_30 : decode cX11_init 30 = .ok (.aload_n 0, 1) := by decide +kernel
theorem dX11_init_31 : decode cX11_init 31 = .ok (.bipush 9, 2) := by decide +kernel
theorem dX11_init_33 : decode cX11_init 33 = .ok (.newarray .long, 2) := by decide +kernel
theorem dX11_init_35 : decode cX11_init 35 = .ok (.putfield 23, 3) := by decide +kernel
theorem dX11_init_38 : decode cX11_init 38 = .ok (.aload_n 0, 1) := by decide +kernel
theorem dX11_init_39 : decode cX11_init 39 = .ok (.bipush 9, 2) := by decide +kernel
theorem dX11_init_41 : decode cX11_init 41 = .ok (.newarray .long, 2) := by decide +kernel
theorem dX11_init_43 : decode cX11_init 43 = .ok (.putfield 27, 3) := by decide +kernel
theorem dX11_init_46 : decode cX11_init 46 = .ok (.aload_n 0, 1) := by decide +kernel
theorem dX11_init_47 : decode cX11_init 47 = .ok (.bipush 9, 2) := by decide +kernel
theorem dX11_init_49 : decode cX11_init 49 = .ok (.newarray .long, 2) := by decide +kernel
theorem dX11_init_51 : decode cX11_init 51 = .ok (.putfield 30, 3) := by decide +kernel
theorem dX11_init_54 : decode cX11_init 54 = .ok (.aload_n 0, 1) := by decide +kernel
theorem dX11_init_55 : decode cX11_init 55 = .ok (.bipush 9, 2) := by decide +kernel
theorem dX11_init_57 : decode cX11_init 57 = .ok (.newarray .long, 2) := by decide +kernel
theorem dX11_init_59 : decode cX11_init 59 = .ok (.putfield 33, 3) := by decide +kernel
theorem dX11_init_62 : decode cX11_init 62 = .ok (.aload_n 0, 1) := by decide +kernel
theorem dX11_init_63 : decode cX11_init 63 = .ok (.iconst 4, 1) := by decide +kernel
theorem dX11_init_64 : decode cX11_init 64 = .ok (.newarray .long, 2) := by decide +kernel
theorem dX11_init_66 : decode cX11_init 66 = .ok (.putfield 36, 3) := by decide +kernel
theorem dX11_init_69 : decode cX11_init 69 = .ok (.aload_n 0, 1) := by decide +kernel
theorem dX11_init_70 : decode cX11_init 70 = .ok (.bipush 120, 2) := by decide +kernel
theorem dX11_init_72 : decode cX11_init 72 = .ok (.newarray .int, 2) := by decide +kernel
theorem dX11_init_74 : decode cX11_init 74 = .ok (.putfield 39, 3) := by decide +kernel
theorem dX11_init_77 : decode cX11_init 77 = .ok (.aload_n 0, 1) := by decide +kernel
theorem dX11_init_78 : decode cX11_init 78 = .ok (.bipush 36, 2) := by decide +kernel
theorem dX11_init_80 : decode cX11_init 80 = .ok (.newarray .int, 2) := by decide +kernel
theorem dX11_init_82 : decode cX11_init 82 = .ok (.putfield 42, 3) := by decide +kernel
theorem dX11_init_85 : decode cX11_init 85 = .ok (.aload_n 0, 1) := by decide +kernel
theorem dX11_init_86 : decode cX11_init 86 = .ok (.sipush 900, 3) := by decide +kernel
theorem dX11_init_89 : decode cX11_init 89 = .ok (.newarray .long, 2) := by decide +kernel
theorem dX11_init_91 : decode cX11_init 91 = .ok (.putfield 45, 3) := by decide +kernel
theorem dX11_init_94 : decode cX11_init 94 = .ok (.aload_n 0, 1) := by decide +kernel
theorem dX11_init_95 : decode cX11_init 95 = .ok (.bipush 100, 2) := by decide +kernel
theorem dX11_init_97 : decode cX11_init 97 = .ok (.newarray .int, 2) := by decide +kernel
theorem dX11_init_99 : decode cX11_init 99 = .ok (.putfield 48, 3) := by decide +kernel
theorem dX11_init_102 : decode cX11_init 102 = .ok (.aload_n 0, 1) := by decide +kernel
theorem dX11_init_103 : decode cX11_init 103 = .ok (.bipush 100, 2) := by decide +kernel
theorem dX11_init_105 : decode cX11_init 105 = .ok (.newarray .int, 2) := by decide +kernel
theorem dX11_init_107 : decode cX11_init 107 = .ok (.putfield 51, 3) := by decide +kernel
theorem dX11_init_110 : decode cX11_init 110 = .ok (.aload_n 0, 1) := by decide +kernel
theorem dX11_init_111 : decode cX11_init 111 = .ok (.bipush 100, 2) := by decide +kernel
theorem dX11_init_113 : decode cX11_init 113 = .ok (.newarray .int, 2) := by decide +kernel
theorem dX11_init_115 : decode cX11_init 115 = .ok (.putfield 54, 3) := by decide +kernel
theorem dX11_init_118 : decode cX11_init 118 = .ok (.aload_n 0, 1) := by decide +kernel
theorem dX11_init_119 : decode cX11_init 119 = .ok (.sipush 400, 3) := by decide +kernel
theorem dX11_init_122 : decode cX11_init 122 = .ok (.newarray .int, 2) := by decide +kernel
theorem dX11_init_124 : decode cX11_init 124 = .ok (.putfield 57, 3) := by decide +kernel
theorem dX11_init_127 : decode cX11_init 127 = .ok (.aload_n 0, 1) := by decide +kernel
theorem dX11_init_128 : decode cX11_init 128 = .ok (.sipush 180, 3) := by decide +kernel
theorem dX11_init_131 : decode cX11_init 131 = .ok (.newarray .long, 2) := by decide +kernel
theorem dX11_init_133 : decode cX11_init 133 = .ok (.putfield 60, 3) := by decide +kernel
theorem dX11_init_136 : decode cX11_init 136 = .ok (.aload_n 0, 1) := by decide +kernel
theorem dX11_init_137 : decode cX11_init 137 = .ok (.sipush 240, 3) := by decide +kernel
theorem dX11_init_140 : decode cX11_init 140 = .ok (.newarray .int, 2) := by decide +kernel
theorem dX11_init_142 : decode cX11_init 142 = .ok (.putfield 63, 3) := by decide +kernel
theorem dX11_init_145 : decode cX11_init 145 = .ok (.aload_n 0, 1) := by decide +kernel
theorem dX11_init_146 : decode cX11_init 146 = .ok (.sipush 12000, 3) := by decide +kernel
theorem dX11_init_149 : decode cX11_init 149 = .ok (.newarray .int, 2) := by decide +kernel
theorem dX11_init_151 : decode cX11_init 151 = .ok (.putfield 66, 3) := by decide +kernel
theorem dX11_init_154 : decode cX11_init 154 = .ok (.aload_n 0, 1) := by decide +kernel
theorem dX11_init_155 : decode cX11_init 155 = .ok (.iconst 4, 1) := by decide +kernel
theorem dX11_init_156 : decode cX11_init 156 = .ok (.newarray .int, 2) := by decide +kernel
theorem dX11_init_158 : decode cX11_init 158 = .ok (.dup, 1) := by decide +kernel
theorem dX11_init_159 : decode cX11_init 159 = .ok (.iconst 0, 1) := by decide +kernel
theorem dX11_init_160 : decode cX11_init 160 = .ok (.iconst (-1), 1) := by decide +kernel
theorem dX11_init_161 : decode cX11_init 161 = .ok (.iastore, 1) := by decide +kernel
theorem dX11_init_162 : decode cX11_init 162 = .ok (.dup, 1) := by decide +kernel
theorem dX11_init_163 : decode cX11_init 163 = .ok (.iconst 1, 1) := by decide +kernel
theorem dX11_init_164 : decode cX11_init 164 = .ok (.iconst (-1), 1) := by decide +kernel
theorem dX11_init_165 : decode cX11_init 165 = .ok (.iastore, 1) := by decide +kernel
theorem dX11_init_166 : decode cX11_init 166 = .ok (.dup, 1) := by decide +kernel
theorem dX11_init_167 : decode cX11_init 167 = .ok (.iconst 2, 1) := by decide +kernel
theorem dX11_init_168 : decode cX11_init 168 = .ok (.iconst (-1), 1) := by decide +kernel
theorem dX11_init_169 : decode cX11_init 169 = .ok (.iastore, 1) := by decide +kernel
theorem dX11_init_170 : decode cX11_init 170 = .ok (.dup, 1) := by decide +kernel
theorem dX11_init_171 : decode cX11_init 171 = .ok (.iconst 3, 1) := by decide +kernel
theorem dX11_init_172 : decode cX11_init 172 = .ok (.iconst (-1), 1) := by decide +kernel
theorem dX11_init_173 : decode cX11_init 173 = .ok (.iastore, 1) := by decide +kernel
theorem dX11_init_174 : decode cX11_init 174 = .ok (.putfield 69, 3) := by decide +kernel
theorem dX11_init_177 : decode cX11_init 177 = .ok (.aload_n 0, 1) := by decide +kernel
theorem dX11_init_178 : decode cX11_init 178 = .ok (.iconst 4, 1) := by decide +kernel
theorem dX11_init_179 : decode cX11_init 179 = .ok (.newarray .int, 2) := by decide +kernel
theorem dX11_init_181 : decode cX11_init 181 = .ok (.putfield 72, 3) := by decide +kernel
theorem dX11_init_184 : decode cX11_init 184 = .ok (.aload_n 0, 1) := by decide +kernel
theorem dX11_init_185 : decode cX11_init 185 = .ok (.sipush 160, 3) := by decide +kernel
theorem dX11_init_188 : decode cX11_init 188 = .ok (.newarray .long, 2) := by decide +kernel
theorem dX11_init_190 : decode cX11_init 190 = .ok (.putfield 75, 3) := by decide +kernel
theorem dX11_init_193 : decode cX11_init 193 = .ok (.aload_n 0, 1) := by decide +kernel
theorem dX11_init_194 : decode cX11_init 194 = .ok (.bipush 40, 2) := by decide +kernel
theorem dX11_init_196 : decode cX11_init 196 = .ok (.newarray .long, 2) := by decide +kernel
theorem dX11_init_198 : decode cX11_init 198 = .ok (.putfield 78, 3) := by decide +kernel
theorem dX11_init_201 : decode cX11_init 201 = .ok (.return_, 1) := by decide +kernel
theorem dX11_isAsked_0 : decode cX11_isAsked 0 = .ok (.iload_n 0, 1) := by decide +kernel
theorem dX11_isAsked_1 : decode cX11_isAsked 1 = .ok (.i2l, 1) := by decide +kernel
theorem dX11_isAsked_2 : decode cX11_isAsked 2 = .ok (.ldc2_w 260, 3) := by decide +kernel
theorem dX11_isAsked_5 : decode cX11_isAsked 5 = .ok (.ldc2_w 262, 3) := by decide +kernel
theorem dX11_isAsked_8 : decode cX11_isAsked 8 = .ok (.invokestatic 81, 3) := by decide +kernel
theorem dX11_isAsked_11 : decode cX11_isAsked 11 = .ok (.ifCond .eq 35, 3) := by decide +kernel
theorem dX11_isAsked_14 : decode cX11_isAsked 14 = .ok (.iload_n 1, 1) := by decide +kernel
theorem dX11_isAsked_15 : decode cX11_isAsked 15 = .ok (.i2l, 1) := by decide +kernel
theorem dX11_isAsked_16 : decode cX11_isAsked 16 = .ok (.ldc2_w 260, 3) := by decide +kernel
theorem dX11_isAsked_19 : decode cX11_isAsked 19 = .ok (.ldc2_w 262, 3) := by decide +kernel
theorem dX11_isAsked_22 : decode cX11_isAsked 22 = .ok (.invokestatic 81, 3) := by decide +kernel
theorem dX11_isAsked_25 : decode cX11_isAsked 25 = .ok (.ifCond .eq 21, 3) := by decide +kernel
theorem dX11_isAsked_28 : decode cX11_isAsked 28 = .ok (.iload_n 2, 1) := by decide +kernel
theorem dX11_isAsked_29 : decode cX11_isAsked 29 = .ok (.i2l, 1) := by decide +kernel
theorem dX11_isAsked_30 : decode cX11_isAsked 30 = .ok (.ldc2_w 260, 3) := by decide +kernel
theorem dX11_isAsked_33 : decode cX11_isAsked 33 = .ok (.ldc2_w 262, 3) := by decide +kernel
theorem dX11_isAsked_36 : decode cX11_isAsked 36 = .ok (.invokestatic 81, 3) := by decide +kernel
theorem dX11_isAsked_39 : decode cX11_isAsked 39 = .ok (.ifCond .eq 7, 3) := by decide +kernel
theorem dX11_isAsked_42 : decode cX11_isAsked 42 = .ok (.iconst 1, 1) := by decide +kernel
theorem dX11_isAsked_43 : decode cX11_isAsked 43 = .ok (.goto 4, 3) := by decide +kernel
theorem dX11_isAsked_46 : decode cX11_isAsked 46 = .ok (.iconst 0, 1) := by decide +kernel
theorem dX11_isAsked_47 : decode cX11_isAsked 47 = .ok (.ireturn, 1) := by decide +kernel
theorem dX11_isDigit_0 : decode cX11_isDigit 0 = .ok (.aload_n 0, 1) := by decide +kernel
theorem dX11_isDigit_1 : decode cX11_isDigit 1 = .ok (.getfield 176, 3) := by decide +kernel
theorem dX11_isDigit_4 : decode cX11_isDigit 4 = .ok (.aload_n 0, 1) := by decide +kernel
theorem dX11_isDigit_5 : decode cX11_isDigit 5 = .ok (.getfield 171, 3) := by decide +kernel
theorem dX11_isDigit_8 : decode cX11_isDigit 8 = .ok (.if_icmp .ge 29, 3) := by decide +kernel
theorem dX11_isDigit_11 : decode cX11_isDigit 11 = .ok (.aload_n 0, 1) := by decide +kernel
theorem dX11_isDigit_12 : decode cX11_isDigit 12 = .ok (.getfield 39, 3) := by decide +kernel
theorem dX11_isDigit_15 : decode cX11_isDigit 15 = .ok (.aload_n 0, 1) := by decide +kernel
theorem dX11_isDigit_16 : decode cX11_isDigit 16 = .ok (.getfield 176, 3) := by decide +kernel
theorem dX11_isDigit_19 : decode cX11_isDigit 19 = .ok (.iaload, 1) := by decide +kernel
theorem dX11_isDigit_20 : decode cX11_isDigit 20 = .ok (.i2l, 1) := by decide +kernel
theorem dX11_isDigit_21 : decode cX11_isDigit 21 = .ok (.ldc2_w 179, 3) := by decide +kernel
theorem dX11_isDigit_24 : decode cX11_isDigit 24 = .ok (.ldc2_w 181, 3) := by decide +kernel
theorem dX11_isDigit_27 : decode cX11_isDigit 27 = .ok (.invokestatic 81, 3) := by decide +kernel
theorem dX11_isDigit_30 : decode cX11_isDigit 30 = .ok (.ifCond .eq 7, 3) := by decide +kernel
theorem dX11_isDigit_33 : decode cX11_isDigit 33 = .ok (.iconst 1, 1) := by decide +kernel
theorem dX11_isDigit_34 : decode cX11_isDigit 34 = .ok (.goto 4, 3) := by decide +kernel
theorem dX11_isDigit_37 : decode cX11_isDigit 37 = .ok (.iconst 0, 1) := by decide +kernel
theorem dX11_isDigit_38 : decode cX11_isDigit 38 = .ok (.ireturn, 1) := by decide +kernel
theorem dX11_isFirst_0 : decode cX11_isFirst 0 = .ok (.aload_n 0, 1) := by decide +kernel
theorem dX11_isFirst_1 : decode cX11_isFirst 1 = .ok (.aload_n 0, 1) := by decide +kernel
theorem dX11_isFirst_2 : decode cX11_isFirst 2 = .ok (.getfield 33, 3) := by decide +kernel
theorem dX11_isFirst_5 : decode cX11_isFirst 5 = .ok (.invokevirtual 107, 3) := by decide +kernel
theorem dX11_isFirst_8 : decode cX11_isFirst 8 = .ok (.iconst 1, 1) := by decide +kernel
theorem dX11_isFirst_9 : decode cX11_isFirst 9 = .ok (.istore_n 2, 1) := by decide +kernel
theorem dX11_isFirst_10 : decode cX11_isFirst 10 = .ok (.iconst 0, 1) := by decide +kernel
theorem dX11_isFirst_11 : decode cX11_isFirst 11 = .ok (.istore_n 3, 1) := by decide +kernel
theorem dX11_isFirst_12 : decode cX11_isFirst 12 = .ok (.iload_n 3, 1) := by decide +kernel
theorem dX11_isFirst_13 : decode cX11_isFirst 13 = .ok (.bipush 9, 2) := by decide +kernel
theorem dX11_isFirst_15 : decode cX11_isFirst 15 = .ok (.if_icmp .ge 32, 3) := by decide +kernel
theorem dX11_isFirst_18 : decode cX11_isFirst 18 = .ok (.iload_n 2, 1) := by decide +kernel
theorem dX11_isFirst_19 : decode cX11_isFirst 19 = .ok (.ifCond .eq 20, 3) := by decide +kernel
theorem dX11_isFirst_22 : decode cX11_isFirst 22 = .ok (.aload_n 1, 1) := by decide +kernel
theorem dX11_isFirst_23 : decode cX11_isFirst 23 = .ok (.iload_n 3, 1) := by decide +kernel
theorem dX11_isFirst_24 : decode cX11_isFirst 24 = .ok (.laload, 1) := by decide +kernel
theorem dX11_isFirst_25 : decode cX11_isFirst 25 = .ok (.aload_n 0, 1) := by decide +kernel
theorem dX11_isFirst_26 : decode cX11_isFirst 26 = .ok (.getfield 33, 3) := by decide +kernel
theorem dX11_isFirst_29 : decode cX11_isFirst 29 = .ok (.iload_n 3, 1) := by decide +kernel
theorem dX11_isFirst_30 : decode cX11_isFirst 30 = .ok (.laload, 1) := by decide +kernel
theorem dX11_isFirst_31 : decode cX11_isFirst 31 = .ok (.lcmp, 1) := by decide +kernel
theorem dX11_isFirst_32 : decode cX11_isFirst 32 = .ok (.ifCond .ne 7, 3) := by decide +kernel
theorem dX11_isFirst_35 : decode cX11_isFirst 35 = .ok (.iconst 1, 1) := by decide +kernel
theorem dX11_isFirst_36 : decode cX11_isFirst 36 = .ok (.goto 4, 3) := by decide +kernel
theorem dX11_isFirst_39 : decode cX11_isFirst 39 = .ok (.iconst 0, 1) := by decide +kernel
theorem dX11_isFirst_40 : decode cX11_isFirst 40 = .ok (.istore_n 2, 1) := by decide +kernel
theorem dX11_isFirst_41 : decode cX11_isFirst 41 = .ok (.iinc 3 1, 3) := by decide +kernel
theorem dX11_isFirst_44 : decode cX11_isFirst 44 = .ok (.goto (-32), 3) := by decide +kernel
theorem dX11_isFirst_47 : decode cX11_isFirst 47 = .ok (.iload_n 2, 1) := by decide +kernel
theorem dX11_isFirst_48 : decode cX11_isFirst 48 = .ok (.ireturn, 1) := by decide +kernel
theorem dX11_isGen_0 : decode cX11_isGen 0 = .ok (.iload_n 1, 1) := by decide +kernel
theorem dX11_isGen_1 : decode cX11_isGen 1 = .ok (.i2l, 1) := by decide +kernel
theorem dX11_isGen_2 : decode cX11_isGen 2 = .ok (.lconst 0, 1) := by decide +kernel
theorem dX11_isGen_3 : decode cX11_isGen 3 = .ok (.aload_n 0, 1) := by decide +kernel
theorem dX11_isGen_4 : decode cX11_isGen 4 = .ok (.getfield 85, 3) := by decide +kernel
theorem dX11_isGen_7 : decode cX11_isGen 7 = .ok (.iconst 1, 1) := by decide +kernel
theorem dX11_isGen_8 : decode cX11_isGen 8 = .ok (.isub, 1) := by decide +kernel
theorem dX11_isGen_9 : decode cX11_isGen 9 = .ok (.i2l, 1) := by decide +kernel
theorem dX11_isGen_10 : decode cX11_isGen 10 = .ok (.invokestatic 81, 3) := by decide +kernel
theorem dX11_isGen_13 : decode cX11_isGen 13 = .ok (.ireturn, 1) := by decide +kernel
theorem dX11_isGreat_0 : decode cX11_isGreat 0 = .ok (.iconst 0, 1) := by decide +kernel
theorem dX11_isGreat_1 : decode cX11_isGreat 1 = .ok (.istore_n 2, 1) := by decide +kernel
theorem dX11_isGreat_2 : decode cX11_isGreat 2 = .ok (.iconst 0, 1) := by decide +kernel
theorem dX11_isGreat_3 : decode cX11_isGreat 3 = .ok (.istore_n 3, 1) := by decide +kernel
theorem dX11_isGreat_4 : decode cX11_isGreat 4 = .ok (.iload_n 3, 1) := by decide +kernel
theorem dX11_isGreat_5 : decode cX11_isGreat 5 = .ok (.bipush 9, 2) := by decide +kernel
theorem dX11_isGreat_7 : decode cX11_isGreat 7 = .ok (.if_icmp .ge 34, 3) := by decide +kernel
theorem dX11_isGreat_10 : decode cX11_isGreat 10 = .ok (.iload_n 2, 1) := by decide +kernel
theorem dX11_isGreat_11 : decode cX11_isGreat 11 = .ok (.ifCond .ne 18, 3) := by decide +kernel
theorem dX11_isGreat_14 : decode cX11_isGreat 14 = .ok (.aload_n 1, 1) := by decide +kernel
theorem dX11_isGreat_15 : decode cX11_isGreat 15 = .ok (.iload_n 3, 1) := by decide +kernel
theorem dX11_isGreat_16 : decode cX11_isGreat 16 = .ok (.laload, 1) := by decide +kernel
theorem dX11_isGreat_17 : decode cX11_isGreat 17 = .ok (.ldc2_w 147, 3) := by decide +kernel
theorem dX11_isGreat_20 : decode cX11_isGreat 20 = .ok (.ldc2_w 149, 3) := by decide +kernel
theorem dX11_isGreat_23 : decode cX11_isGreat 23 = .ok (.invokestatic 81, 3) := by decide +kernel
theorem dX11_isGreat_26 : decode cX11_isGreat 26 = .ok (.ifCond .ne 7, 3) := by decide +kernel
theorem dX11_isGreat_29 : decode cX11_isGreat 29 = .ok (.iconst 1, 1) := by decide +kernel
theorem dX11_isGreat_30 : decode cX11_isGreat 30 = .ok (.goto 4, 3) := by decide +kernel
theorem dX11_isGreat_33 : decode cX11_isGreat 33 = .ok (.iconst 0, 1) := by decide +kernel
theorem dX11_isGreat_34 : decode cX11_isGreat 34 = .ok (.istore_n 2, 1) := by decide +kernel
theorem dX11_isGreat_35 : decode cX11_isGreat 35 = .ok (.iinc 3 1, 3) := by decide +kernel
theorem dX11_isGreat_38 : decode cX11_isGreat 38 = .ok (.goto (-34), 3) := by decide +kernel
theorem dX11_isGreat_41 : decode cX11_isGreat 41 = .ok (.iload_n 2, 1) := by decide +kernel
theorem dX11_isGreat_42 : decode cX11_isGreat 42 = .ok (.ireturn, 1) := by decide +kernel
theorem dX11_isOutside_0 : decode cX11_isOutside 0 = .ok (.iload_n 3, 1) := by decide +kernel
theorem dX11_isOutside_1 : decode cX11_isOutside 1 = .ok (.ifCond .lt 23, 3) := by decide +kernel
theorem dX11_isOutside_4 : decode cX11_isOutside 4 = .ok (.iload_n 2, 1) := by decide +kernel
theorem dX11_isOutside_5 : decode cX11_isOutside 5 = .ok (.ifCond .lt 19, 3) := by decide +kernel
theorem dX11_isOutside_8 : decode cX11_isOutside 8 = .ok (.iload_n 2, 1) := by decide +kernel
theorem dX11_isOutside_9 : decode cX11_isOutside 9 = .ok (.i2l, 1) := by decide +kernel
theorem dX11_isOutside_10 : decode cX11_isOutside 10 = .ok (.iload_n 3, 1) := by decide +kernel
theorem dX11_isOutside_11 : decode cX11_isOutside 11 = .ok (.i2l, 1) := by decide +kernel
theorem dX11_isOutside_12 : decode cX11_isOutside 12 = .ok (.ladd, 1) := by decide +kernel
theorem dX11_isOutside_13 : decode cX11_isOutside 13 = .ok (.aload_n 0, 1) := by decide +kernel
theorem dX11_isOutside_14 : decode cX11_isOutside 14 = .ok (.getfield 72, 3) := by decide +kernel
theorem dX11_isOutside_17 : decode cX11_isOutside 17 = .ok (.iload_n 1, 1) := by decide +kernel
theorem dX11_isOutside_18 : decode cX11_isOutside 18 = .ok (.iaload, 1) := by decide +kernel
theorem dX11_isOutside_19 : decode cX11_isOutside 19 = .ok (.i2l, 1) := by decide +kernel
theorem dX11_isOutside_20 : decode cX11_isOutside 20 = .ok (.lcmp, 1) := by decide +kernel
theorem dX11_isOutside_21 : decode cX11_isOutside 21 = .ok (.ifCond .le 7, 3) := by decide +kernel
theorem dX11_isOutside_24 : decode cX11_isOutside 24 = .ok (.iconst 1, 1) := by decide +kernel
theorem dX11_isOutside_25 : decode cX11_isOutside 25 = .ok (.goto 4, 3) := by decide +kernel
theorem dX11_isOutside_28 : decode cX11_isOutside 28 = .ok (.iconst 0, 1) := by decide +kernel
theorem dX11_isOutside_29 : decode cX11_isOutside 29 = .ok (.ireturn, 1) := by decide +kernel
theorem dX11_isPlace_0 : decode cX11_isPlace 0 = .ok (.iload_n 1, 1) := by decide +kernel
theorem dX11_isPlace_1 : decode cX11_isPlace 1 = .ok (.i2l, 1) := by decide +kernel
theorem dX11_isPlace_2 : decode cX11_isPlace 2 = .ok (.lconst 0, 1) := by decide +kernel
theorem dX11_isPlace_3 : decode cX11_isPlace 3 = .ok (.aload_n 0, 1) := by decide +kernel
theorem dX11_isPlace_4 : decode cX11_isPlace 4 = .ok (.getfield 7, 3) := by decide +kernel
theorem dX11_isPlace_7 : decode cX11_isPlace 7 = .ok (.iconst 1, 1) := by decide +kernel
theorem dX11_isPlace_8 : decode cX11_isPlace 8 = .ok (.isub, 1) := by decide +kernel
theorem dX11_isPlace_9 : decode cX11_isPlace 9 = .ok (.i2l, 1) := by decide +kernel
theorem dX11_isPlace_10 : decode cX11_isPlace 10 = .ok (.invokestatic 81, 3) := by decide +kernel
theorem dX11_isPlace_13 : decode cX11_isPlace 13 = .ok (.ireturn, 1) := by decide +kernel
theorem dX11_isPrime_0 : decode cX11_isPrime 0 = .ok (.iload_n 0, 1) := by decide +kernel
theorem dX11_isPrime_1 : decode cX11_isPrime 1 = .ok (.iconst 2, 1) := by decide +kernel
theorem dX11_isPrime_2 : decode cX11_isPrime 2 = .ok (.if_icmp .eq 19, 3) := by decide +kernel
theorem dX11_isPrime_5 : decode cX11_isPrime 5 = .ok (.iload_n 0, 1) := by decide +kernel
theorem dX11_isPrime_6 : decode cX11_isPrime 6 = .ok (.iconst 3, 1) := by decide +kernel
theorem dX11_isPrime_7 : decode cX11_isPrime 7 = .ok (.if_icmp .eq 14, 3) := by decide +kernel
theorem dX11_isPrime_10 : decode cX11_isPrime 10 = .ok (.iload_n 0, 1) := by decide +kernel
theorem dX11_isPrime_11 : decode cX11_isPrime 11 = .ok (.iconst 5, 1) := by decide +kernel
theorem dX11_isPrime_12 : decode cX11_isPrime 12 = .ok (.if_icmp .eq 9, 3) := by decide +kernel
theorem dX11_isPrime_15 : decode cX11_isPrime 15 = .ok (.iload_n 0, 1) := by decide +kernel
theorem dX11_isPrime_16 : decode cX11_isPrime 16 = .ok (.bipush 7, 2) := by decide +kernel
theorem dX11_isPrime_18 : decode cX11_isPrime 18 = .ok (.if_icmp .ne 7, 3) := by decide +kernel
theorem dX11_isPrime_21 : decode cX11_isPrime 21 = .ok (.iconst 1, 1) := by decide +kernel
theorem dX11_isPrime_22 : decode cX11_isPrime 22 = .ok (.goto 4, 3) := by decide +kernel
theorem dX11_isPrime_25 : decode cX11_isPrime 25 = .ok (.iconst 0, 1) := by decide +kernel
theorem dX11_isPrime_26 : decode cX11_isPrime 26 = .ok (.ireturn, 1) := by decide +kernel
theorem dX11_isSheet_0 : decode cX11_isSheet 0 = .ok (.iload_n 0, 1) := by decide +kernel
theorem dX11_isSheet_1 : decode cX11_isSheet 1 = .ok (.i2l, 1) := by decide +kernel
theorem dX11_isSheet_2 : decode cX11_isSheet 2 = .ok (.lconst 0, 1) := by decide +kernel
theorem dX11_isSheet_3 : decode cX11_isSheet 3 = .ok (.ldc2_w 105, 3) := by decide +kernel
theorem dX11_isSheet_6 : decode cX11_isSheet 6 = .ok (.invokestatic 81, 3) := by decide +kernel
theorem dX11_isSheet_9 : decode cX11_isSheet 9 = .ok (.ireturn, 1) := by decide +kernel
theorem dX11_isSmall_0 : decode cX11_isSmall 0 = .ok (.iconst 1, 1) := by decide +kernel
theorem dX11_isSmall_1 : decode cX11_isSmall 1 = .ok (.istore_n 2, 1) := by decide +kernel
theorem dX11_isSmall_2 : decode cX11_isSmall 2 = .ok (.iconst 0, 1) := by decide +kernel
theorem dX11_isSmall_3 : decode cX11_isSmall 3 = .ok (.istore_n 3, 1) := by decide +kernel
theorem dX11_isSmall_4 : decode cX11_isSmall 4 = .ok (.iload_n 3, 1) := by decide +kernel
theorem dX11_isSmall_5 : decode cX11_isSmall 5 = .ok (.bipush 9, 2) := by decide +kernel
theorem dX11_isSmall_7 : decode cX11_isSmall 7 = .ok (.if_icmp .ge 34, 3) := by decide +kernel
theorem dX11_isSmall_10 : decode cX11_isSmall 10 = .ok (.iload_n 2, 1) := by decide +kernel
theorem dX11_isSmall_11 : decode cX11_isSmall 11 = .ok (.ifCond .eq 22, 3) := by decide +kernel
theorem dX11_isSmall_14 : decode cX11_isSmall 14 = .ok (.aload_n 1, 1) := by decide +kernel
theorem dX11_isSmall_15 : decode cX11_isSmall 15 = .ok (.iload_n 3, 1) := by decide +kernel
theorem dX11_isSmall_16 : decode cX11_isSmall 16 = .ok (.laload, 1) := by decide +kernel
theorem dX11_isSmall_17 : decode cX11_isSmall 17 = .ok (.ldc2_w 94, 3) := by decide +kernel
theorem dX11_isSmall_20 : decode cX11_isSmall 20 = .ok (.ldc2_w 96, 3) := by decide +kernel
theorem dX11_isSmall_23 : decode cX11_isSmall 23 = .ok (.invokestatic 81, 3) := by decide +kernel
theorem dX11_isSmall_26 : decode cX11_isSmall 26 = .ok (.ifCond .eq 7, 3) := by decide +kernel
theorem dX11_isSmall_29 : decode cX11_isSmall 29 = .ok (.iconst 1, 1) := by decide +kernel
theorem dX11_isSmall_30 : decode cX11_isSmall 30 = .ok (.goto 4, 3) := by decide +kernel
theorem dX11_isSmall_33 : decode cX11_isSmall 33 = .ok (.iconst 0, 1) := by decide +kernel
theorem dX11_isSmall_34 : decode cX11_isSmall 34 = .ok (.istore_n 2, 1) := by decide +kernel
theorem dX11_isSmall_35 : decode cX11_isSmall 35 = .ok (.iinc 3 1, 3) := by decide +kernel
theorem dX11_isSmall_38 : decode cX11_isSmall 38 = .ok (.goto (-34), 3) := by decide +kernel
theorem dX11_isSmall_41 : decode cX11_isSmall 41 = .ok (.iload_n 2, 1) := by decide +kernel
theorem dX11_isSmall_42 : decode cX11_isSmall 42 = .ok (.ireturn, 1) := by decide +kernel
theorem dX11_item_0 : decode cX11_item 0 = .ok (.iload_n 1, 1) := by decide +kernel
theorem dX11_item_1 : decode cX11_item 1 = .ok (.invokestatic 237, 3) := by decide +kernel
theorem dX11_item_4 : decode cX11_item 4 = .ok (.ifCond .eq 15, 3) := by decide +kernel
theorem dX11_item_7 : decode cX11_item 7 = .ok (.iload_n 2, 1) := by decide +kernel
theorem dX11_item_8 : decode cX11_item 8 = .ok (.i2l, 1) := by decide +kernel
theorem dX11_item_9 : decode cX11_item 9 = .ok (.lconst 0, 1) := by decide +kernel
theorem dX11_item_10 : decode cX11_item 10 = .ok (.ldc2_w 278, 3) := by decide +kernel
theorem dX11_item_13 : decode cX11_item 13 = .ok (.invokestatic 81, 3) := by decide +kernel
theorem dX11_item_16 : decode cX11_item 16 = .ok (.ifCond .ne 5, 3) := by decide +kernel
theorem dX11_item_19 : decode cX11_item 19 = .ok (.iconst (-1), 1) := by decide +kernel
theorem dX11_item_20 : decode cX11_item 20 = .ok (.ireturn, 1) := by decide +kernel
theorem dX11_item_21 : decode cX11_item 21 = .ok (.aload_n 0, 1) := by decide +kernel
theorem dX11_item_22 : decode cX11_item 22 = .ok (.getfield 69, 3) := by decide +kernel
theorem dX11_item_25 : decode cX11_item 25 = .ok (.iload_n 1, 1) := by decide +kernel
theorem dX11_item_26 : decode cX11_item 26 = .ok (.iaload, 1) := by decide +kernel
theorem dX11_item_27 : decode cX11_item 27 = .ok (.iload_n 2, 1) := by decide +kernel
theorem dX11_item_28 : decode cX11_item 28 = .ok (.if_icmp .eq 20, 3) := by decide +kernel
theorem dX11_item_31 : decode cX11_item 31 = .ok (.aload_n 0, 1) := by decide +kernel
theorem dX11_item_32 : decode cX11_item 32 = .ok (.getfield 69, 3) := by decide +kernel
theorem dX11_item_35 : decode cX11_item 35 = .ok (.iload_n 1, 1) := by decide +kernel
theorem dX11_item_36 : decode cX11_item 36 = .ok (.iaload, 1) := by decide +kernel
theorem dX11_item_37 : decode cX11_item 37 = .ok (.ifCond .ge 8, 3) := by decide +kernel
theorem dX11_item_40 : decode cX11_item 40 = .ok (.bipush (-11), 2) := by decide +kernel
theorem dX11_item_42 : decode cX11_item 42 = .ok (.goto 5, 3) := by decide +kernel
theorem dX11_item_45 : decode cX11_item 45 = .ok (.bipush (-13), 2) := by decide +kernel
theorem dX11_item_47 : decode cX11_item 47 = .ok (.ireturn, 1) := by decide +kernel
theorem dX11_item_48 : decode cX11_item 48 = .ok (.iload_n 3, 1) := by decide +kernel
theorem dX11_item_49 : decode cX11_item 49 = .ok (.i2l, 1) := by decide +kernel
theorem dX11_item_50 : decode cX11_item 50 = .ok (.lconst 0, 1) := by decide +kernel
theorem dX11_item_51 : decode cX11_item 51 = .ok (.aload_n 0, 1) := by decide +kernel
theorem dX11_item_52 : decode cX11_item 52 = .ok (.getfield 72, 3) := by decide +kernel
theorem dX11_item_55 : decode cX11_item 55 = .ok (.iload_n 1, 1) := by decide +kernel
theorem dX11_item_56 : decode cX11_item 56 = .ok (.iaload, 1) := by decide +kernel
theorem dX11_item_57 : decode cX11_item 57 = .ok (.iconst 1, 1) := by decide +kernel
theorem dX11_item_58 : decode cX11_item 58 = .ok (.isub, 1) := by decide +kernel
theorem dX11_item_59 : decode cX11_item 59 = .ok (.i2l, 1) := by decide +kernel
theorem dX11_item_60 : decode cX11_item 60 = .ok (.invokestatic 81, 3) := by decide +kernel
theorem dX11_item_63 : decode cX11_item 63 = .ok (.ifCond .eq 18, 3) := by decide +kernel
theorem dX11_item_66 : decode cX11_item 66 = .ok (.aload_n 0, 1) := by decide +kernel
theorem dX11_item_67 : decode cX11_item 67 = .ok (.getfield 75, 3) := by decide +kernel
theorem dX11_item_70 : decode cX11_item 70 = .ok (.bipush 40, 2) := by decide +kernel
theorem dX11_item_72 : decode cX11_item 72 = .ok (.iload_n 1, 1) := by decide +kernel
theorem dX11_item_73 : decode cX11_item 73 = .ok (.imul, 1) := by decide +kernel
theorem dX11_item_74 : decode cX11_item 74 = .ok (.iload_n 3, 1) := by decide +kernel
theorem dX11_item_75 : decode cX11_item 75 = .ok (.iadd, 1) := by decide +kernel
theorem dX11_item_76 : decode cX11_item 76 = .ok (.laload, 1) := by decide +kernel
theorem dX11_item_77 : decode cX11_item 77 = .ok (.l2i, 1) := by decide +kernel
theorem dX11_item_78 : decode cX11_item 78 = .ok (.goto 5, 3) := by decide +kernel
theorem dX11_item_81 : decode cX11_item 81 = .ok (.bipush (-12), 2) := by decide +kernel
theorem dX11_item_83 : decode cX11_item 83 = .ok (.ireturn, 1) := by decide +kernel
theorem dX11_keep_0 : decode cX11_keep 0 = .ok (.iconst 0, 1) := by decide +kernel
theorem dX11_keep_1 : decode cX11_keep 1 = .ok (.istore_n 1, 1) := by decide +kernel
theorem dX11_keep_2 : decode cX11_keep 2 = .ok (.iload_n 1, 1) := by decide +kernel
theorem dX11_keep_3 : decode cX11_keep 3 = .ok (.bipush 36, 2) := by decide +kernel
theorem dX11_keep_5 : decode cX11_keep 5 = .ok (.if_icmp .ge 21, 3) := by decide +kernel
theorem dX11_keep_8 : decode cX11_keep 8 = .ok (.aload_n 0, 1) := by decide +kernel
theorem dX11_keep_9 : decode cX11_keep 9 = .ok (.getfield 20, 3) := by decide +kernel
theorem dX11_keep_12 : decode cX11_keep 12 = .ok (.iload_n 1, 1) := by decide +kernel
theorem dX11_keep_13 : decode cX11_keep 13 = .ok (.aload_n 0, 1) := by decide +kernel
theorem dX11_keep_14 : decode cX11_keep 14 = .ok (.getfield 16, 3) := by decide +kernel
theorem dX11_keep_17 : decode cX11_keep 17 = .ok (.iload_n 1, 1) := by decide +kernel
theorem dX11_keep_18 : decode cX11_keep 18 = .ok (.iaload, 1) := by decide +kernel
theorem dX11_keep_19 : decode cX11_keep 19 = .ok (.iastore, 1) := by decide +kernel
theorem dX11_keep_20 : decode cX11_keep 20 = .ok (.iinc 1 1, 3) := by decide +kernel
theorem dX11_keep_23 : decode cX11_keep 23 = .ok (.goto (-21), 3) := by decide +kernel
theorem dX11_keep_26 : decode cX11_keep 26 = .ok (.aload_n 0, 1) := by decide +kernel
theorem dX11_keep_27 : decode cX11_keep 27 = .ok (.aload_n 0, 1) := by decide +kernel
theorem dX11_keep_28 : decode cX11_keep 28 = .ok (.getfield 7, 3) := by decide +kernel
theorem dX11_keep_31 : decode cX11_keep 31 = .ok (.putfield 297, 3) := by decide +kernel
theorem dX11_keep_34 : decode cX11_keep 34 = .ok (.aload_n 0, 1) := by decide +kernel
theorem dX11_keep_35 : decode cX11_keep 35 = .ok (.aload_n 0, 1) := by decide +kernel
theorem dX11_keep_36 : decode cX11_keep 36 = .ok (.getfield 85, 3) := by decide +kernel
theorem dX11_keep_39 : decode cX11_keep 39 = .ok (.putfield 300, 3) := by decide +kernel
theorem dX11_keep_42 : decode cX11_keep 42 = .ok (.aload_n 0, 1) := by decide +kernel
theorem dX11_keep_43 : decode cX11_keep 43 = .ok (.aload_n 0, 1) := by decide +kernel
theorem dX11_keep_44 : decode cX11_keep 44 = .ok (.getfield 13, 3) := by decide +kernel
theorem dX11_keep_47 : decode cX11_keep 47 = .ok (.putfield 303, 3) := by decide +kernel
theorem dX11_keep_50 : decode cX11_keep 50 = .ok (.aload_n 0, 1) := by decide +kernel
theorem dX11_keep_51 : decode cX11_keep 51 = .ok (.iconst 1, 1) := by decide +kernel
theorem dX11_keep_52 : decode cX11_keep 52 = .ok (.putfield 306, 3) := by decide +kernel
theorem dX11_keep_55 : decode cX11_keep 55 = .ok (.iconst 1, 1) := by decide +kernel
theorem dX11_keep_56 : decode cX11_keep 56 = .ok (.ireturn, 1) := by decide +kernel
theorem dX11_keeps_0 : decode cX11_keeps 0 = .ok (.iload_n 1, 1) := by decide +kernel
theorem dX11_keeps_1 : decode cX11_keeps 1 = .ok (.invokestatic 237, 3) := by decide +kernel
theorem dX11_keeps_4 : decode cX11_keeps 4 = .ok (.ifCond .ne 5, 3) := by decide +kernel
theorem dX11_keeps_7 : decode cX11_keeps 7 = .ok (.iconst (-1), 1) := by decide +kernel
theorem dX11_keeps_8 : decode cX11_keeps 8 = .ok (.ireturn, 1) := by decide +kernel
theorem dX11_keeps_9 : decode cX11_keeps 9 = .ok (.aload_n 0, 1) := by decide +kernel
theorem dX11_keeps_10 : decode cX11_keeps 10 = .ok (.getfield 69, 3) := by decide +kernel
theorem dX11_keeps_13 : decode cX11_keeps 13 = .ok (.iload_n 1, 1) := by decide +kernel
theorem dX11_keeps_14 : decode cX11_keeps 14 = .ok (.iaload, 1) := by decide +kernel
theorem dX11_keeps_15 : decode cX11_keeps 15 = .ok (.ifCond .eq 20, 3) := by decide +kernel
theorem dX11_keeps_18 : decode cX11_keeps 18 = .ok (.aload_n 0, 1) := by decide +kernel
theorem dX11_keeps_19 : decode cX11_keeps 19 = .ok (.getfield 69, 3) := by decide +kernel
theorem dX11_keeps_22 : decode cX11_keeps 22 = .ok (.iload_n 1, 1) := by decide +kernel
theorem dX11_keeps_23 : decode cX11_keeps 23 = .ok (.iaload, 1) := by decide +kernel
theorem dX11_keeps_24 : decode cX11_keeps 24 = .ok (.ifCond .ge 8, 3) := by decide +kernel
theorem dX11_keeps_27 : decode cX11_keeps 27 = .ok (.bipush (-11), 2) := by decide +kernel
theorem dX11_keeps_29 : decode cX11_keeps 29 = .ok (.goto 5, 3) := by decide +kernel
theorem dX11_keeps_32 : decode cX11_keeps 32 = .ok (.bipush (-13), 2) := by decide +kernel
theorem dX11_keeps_34 : decode cX11_keeps 34 = .ok (.ireturn, 1) := by decide +kernel
theorem dX11_keeps_35 : decode cX11_keeps 35 = .ok (.aload_n 0, 1) := by decide +kernel
theorem dX11_keeps_36 : decode cX11_keeps 36 = .ok (.iload_n 1, 1) := by decide +kernel
theorem dX11_keeps_37 : decode cX11_keeps 37 = .ok (.iload_n 2, 1) := by decide +kernel
theorem dX11_keeps_38 : decode cX11_keeps 38 = .ok (.aload_n 0, 1) := by decide +kernel
theorem dX11_keeps_39 : decode cX11_keeps 39 = .ok (.getfield 7, 3) := by decide +kernel
theorem dX11_keeps_42 : decode cX11_keeps 42 = .ok (.aload_n 0, 1) := by decide +kernel
theorem dX11_keeps_43 : decode cX11_keeps 43 = .ok (.getfield 7, 3) := by decide +kernel
theorem dX11_keeps_46 : decode cX11_keeps 46 = .ok (.imul, 1) := by decide +kernel
theorem dX11_keeps_47 : decode cX11_keeps 47 = .ok (.invokevirtual 240, 3) := by decide +kernel
theorem dX11_keeps_50 : decode cX11_keeps 50 = .ok (.ifCond .eq 6, 3) := by decide +kernel
theorem dX11_keeps_53 : decode cX11_keeps 53 = .ok (.bipush (-12), 2) := by decide +kernel
theorem dX11_keeps_55 : decode cX11_keeps 55 = .ok (.ireturn, 1) := by decide +kernel
theorem dX11_keeps_56 : decode cX11_keeps 56 = .ok (.aload_n 0, 1) := by decide +kernel
theorem dX11_keeps_57 : decode cX11_keeps 57 = .ok (.aload_n 0, 1) := by decide +kernel
theorem dX11_keeps_58 : decode cX11_keeps 58 = .ok (.getfield 23, 3) := by decide +kernel
theorem dX11_keeps_61 : decode cX11_keeps 61 = .ok (.invokevirtual 90, 3) := by decide +kernel
theorem dX11_keeps_64 : decode cX11_keeps 64 = .ok (.iconst 1, 1) := by decide +kernel
theorem dX11_keeps_65 : decode cX11_keeps 65 = .ok (.istore_n 3, 1) := by decide +kernel
theorem dX11_keeps_66 : decode cX11_keeps 66 = .ok (.iconst 0, 1) := by decide +kernel
theorem dX11_keeps_67 : decode cX11_keeps 67 = .ok (.istore 4, 2) := by decide +kernel
theorem dX11_keeps_69 : decode cX11_keeps 69 = .ok (.iload 4, 2) := by decide +kernel
theorem dX11_keeps_71 : decode cX11_keeps 71 = .ok (.aload_n 0, 1) := by decide +kernel
theorem dX11_keeps_72 : decode cX11_keeps 72 = .ok (.getfield 7, 3) := by decide +kernel
theorem dX11_keeps_75 : decode cX11_keeps 75 = .ok (.aload_n 0, 1) := by decide +kernel
theorem dX11_keeps_76 : decode cX11_keeps 76 = .ok (.getfield 7, 3) := by decide +kernel
theorem dX11_keeps_79 : decode cX11_keeps 79 = .ok (.imul, 1) := by decide +kernel
theorem dX11_keeps_80 : decode cX11_keeps 80 = .ok (.if_icmp .ge 81, 3) := by decide +kernel
theorem dX11_keeps_83 : decode cX11_keeps 83 = .ok (.aload_n 0, 1) := by decide +kernel
theorem dX11_keeps_84 : decode cX11_keeps 84 = .ok (.getfield 23, 3) := by decide +kernel
theorem dX11_keeps_87 : decode cX11_keeps 87 = .ok (.iconst 3, 1) := by decide +kernel
theorem dX11_keeps_88 : decode cX11_keeps 88 = .ok (.iload 4, 2) := by decide +kernel
theorem dX11_keeps_90 : decode cX11_keeps 90 = .ok (.aload_n 0, 1) := by decide +kernel
theorem dX11_keeps_91 : decode cX11_keeps 91 = .ok (.getfield 7, 3) := by decide +kernel
theorem dX11_keeps_94 : decode cX11_keeps 94 = .ok (.idiv, 1) := by decide +kernel
theorem dX11_keeps_95 : decode cX11_keeps 95 = .ok (.imul, 1) := by decide +kernel
theorem dX11_keeps_96 : decode cX11_keeps 96 = .ok (.iload 4, 2) := by decide +kernel
theorem dX11_keeps_98 : decode cX11_keeps 98 = .ok (.aload_n 0, 1) := by decide +kernel
theorem dX11_keeps_99 : decode cX11_keeps 99 = .ok (.getfield 7, 3) := by decide +kernel
theorem dX11_keeps_102 : decode cX11_keeps 102 = .ok (.irem, 1) := by decide +kernel
theorem dX11_keeps_103 : decode cX11_keeps 103 = .ok (.iadd, 1) := by decide +kernel
theorem dX11_keeps_104 : decode cX11_keeps 104 = .ok (.aload_n 0, 1) := by decide +kernel
theorem dX11_keeps_105 : decode cX11_keeps 105 = .ok (.getfield 75, 3) := by decide +kernel
theorem dX11_keeps_108 : decode cX11_keeps 108 = .ok (.bipush 40, 2) := by decide +kernel
theorem dX11_keeps_110 : decode cX11_keeps 110 = .ok (.iload_n 1, 1) := by decide +kernel
theorem dX11_keeps_111 : decode cX11_keeps 111 = .ok (.imul, 1) := by decide +kernel
theorem dX11_keeps_112 : decode cX11_keeps 112 = .ok (.iload_n 2, 1) := by decide +kernel
theorem dX11_keeps_113 : decode cX11_keeps 113 = .ok (.iadd, 1) := by decide +kernel
theorem dX11_keeps_114 : decode cX11_keeps 114 = .ok (.iload 4, 2) := by decide +kernel
theorem dX11_keeps_116 : decode cX11_keeps 116 = .ok (.iadd, 1) := by decide +kernel
theorem dX11_keeps_117 : decode cX11_keeps 117 = .ok (.laload, 1) := by decide +kernel
theorem dX11_keeps_118 : decode cX11_keeps 118 = .ok (.lastore, 1) := by decide +kernel
theorem dX11_keeps_119 : decode cX11_keeps 119 = .ok (.iload_n 3, 1) := by decide +kernel
theorem dX11_keeps_120 : decode cX11_keeps 120 = .ok (.ifCond .eq 33, 3) := by decide +kernel
theorem dX11_keeps_123 : decode cX11_keeps 123 = .ok (.aload_n 0, 1) := by decide +kernel
theorem dX11_keeps_124 : decode cX11_keeps 124 = .ok (.getfield 75, 3) := by decide +kernel
theorem dX11_keeps_127 : decode cX11_keeps 127 = .ok (.bipush 40, 2) := by decide +kernel
theorem dX11_keeps_129 : decode cX11_keeps 129 = .ok (.iload_n 1, 1) := by decide +kernel
theorem dX11_keeps_130 : decode cX11_keeps 130 = .ok (.imul, 1) := by decide +kernel
theorem dX11_keeps_131 : decode cX11_keeps 131 = .ok (.iload_n 2, 1) := by decide +kernel
theorem dX11_keeps_132 : decode cX11_keeps 132 = .ok (.iadd, 1) := by decide +kernel
theorem dX11_keeps_133 : decode cX11_keeps 133 = .ok (.iload 4, 2) := by decide +kernel
theorem dX11_keeps_135 : decode cX11_keeps 135 = .ok (.iadd, 1) := by decide +kernel
theorem dX11_keeps_136 : decode cX11_keeps 136 = .ok (.laload, 1) := by decide +kernel
theorem dX11_keeps_137 : decode cX11_keeps 137 = .ok (.ldc2_w 243, 3) := by decide +kernel
theorem dX11_keeps_140 : decode cX11_keeps 140 = .ok (.ldc2_w 245, 3) := by decide +kernel
theorem dX11_keeps_143 : decode cX11_keeps 143 = .ok (.invokestatic 81, 3) := by decide +kernel
theorem dX11_keeps_146 : decode cX11_keeps 146 = .ok (.ifCond .eq 7, 3) := by decide +kernel
theorem dX11_keeps_149 : decode cX11_keeps 149 = .ok (.iconst 1, 1) := by decide +kernel
theorem dX11_keeps_150 : decode cX11_keeps 150 = .ok (.goto 4, 3) := by decide +kernel
theorem dX11_keeps_153 : decode cX11_keeps 153 = .ok (.iconst 0, 1) := by decide +kernel
theorem dX11_keeps_154 : decode cX11_keeps 154 = .ok (.istore_n 3, 1) := by decide +kernel
theorem dX11_keeps_155 : decode cX11_keeps 155 = .ok (.iinc 4 1, 3) := by decide +kernel
theorem dX11_keeps_158 : decode cX11_keeps 158 = .ok (.goto (-89), 3) := by decide +kernel
theorem dX11_keeps_161 : decode cX11_keeps 161 = .ok (.iload_n 3, 1) := by decide +kernel
theorem dX11_keeps_162 : decode cX11_keeps 162 = .ok (.ifCond .ne 8, 3) := by decide +kernel
theorem dX11_keeps_165 : decode cX11_keeps 165 = .ok (.bipush (-16), 2) := by decide +kernel
theorem dX11_keeps_167 : decode cX11_keeps 167 = .ok (.goto 15, 3) := by decide +kernel
theorem dX11_keeps_170 : decode cX11_keeps 170 = .ok (.aload_n 0, 1) := by decide +kernel
theorem dX11_keeps_171 : decode cX11_keeps 171 = .ok (.invokevirtual 247, 3) := by decide +kernel
theorem dX11_keeps_174 : decode cX11_keeps 174 = .ok (.ifCond .eq 7, 3) := by decide +kernel
theorem dX11_keeps_177 : decode cX11_keeps 177 = .ok (.iconst 1, 1) := by decide +kernel
theorem dX11_keeps_178 : decode cX11_keeps 178 = .ok (.goto 4, 3) := by decide +kernel
theorem dX11_keeps_181 : decode cX11_keeps 181 = .ok (.iconst 0, 1) := by decide +kernel
theorem dX11_keeps_182 : decode cX11_keeps 182 = .ok (.ireturn, 1) := by decide +kernel
theorem dX11_keepsAll_0 : decode cX11_keepsAll 0 = .ok (.aload_n 0, 1) := by decide +kernel
theorem dX11_keepsAll_1 : decode cX11_keepsAll 1 = .ok (.getfield 23, 3) := by decide +kernel
theorem dX11_keepsAll_4 : decode cX11_keepsAll 4 = .ok (.iconst 0, 1) := by decide +kernel
theorem dX11_keepsAll_5 : decode cX11_keepsAll 5 = .ok (.laload, 1) := by decide +kernel
theorem dX11_keepsAll_6 : decode cX11_keepsAll 6 = .ok (.lconst 0, 1) := by decide +kernel
theorem dX11_keepsAll_7 : decode cX11_keepsAll 7 = .ok (.lcmp, 1) := by decide +kernel
theorem dX11_keepsAll_8 : decode cX11_keepsAll 8 = .ok (.ifCond .le 7, 3) := by decide +kernel
theorem dX11_keepsAll_11 : decode cX11_keepsAll 11 = .ok (.iconst 1, 1) := by decide +kernel
theorem dX11_keepsAll_12 : decode cX11_keepsAll 12 = .ok (.goto 4, 3) := by decide +kernel
theorem dX11_keepsAll_15 : decode cX11_keepsAll 15 = .ok (.iconst 0, 1) := by decide +kernel
theorem dX11_keepsAll_16 : decode cX11_keepsAll 16 = .ok (.istore_n 1, 1) := by decide +kernel
theorem dX11_keepsAll_17 : decode cX11_keepsAll 17 = .ok (.iload_n 1, 1) := by decide +kernel
theorem dX11_keepsAll_18 : decode cX11_keepsAll 18 = .ok (.ifCond .eq 68, 3) := by decide +kernel
theorem dX11_keepsAll_21 : decode cX11_keepsAll 21 = .ok (.aload_n 0, 1) := by decide +kernel
theorem dX11_keepsAll_22 : decode cX11_keepsAll 22 = .ok (.getfield 7, 3) := by decide +kernel
theorem dX11_keepsAll_25 : decode cX11_keepsAll 25 = .ok (.iconst 2, 1) := by decide +kernel
theorem dX11_keepsAll_26 : decode cX11_keepsAll 26 = .ok (.if_icmp .lt 35, 3) := by decide +kernel
theorem dX11_keepsAll_29 : decode cX11_keepsAll 29 = .ok (.aload_n 0, 1) := by decide +kernel
theorem dX11_keepsAll_30 : decode cX11_keepsAll 30 = .ok (.getfield 23, 3) := by decide +kernel
theorem dX11_keepsAll_33 : decode cX11_keepsAll 33 = .ok (.iconst 0, 1) := by decide +kernel
theorem dX11_keepsAll_34 : decode cX11_keepsAll 34 = .ok (.laload, 1) := by decide +kernel
theorem dX11_keepsAll_35 : decode cX11_keepsAll 35 = .ok (.aload_n 0, 1) := by decide +kernel
theorem dX11_keepsAll_36 : decode cX11_keepsAll 36 = .ok (.getfield 23, 3) := by decide +kernel
theorem dX11_keepsAll_39 : decode cX11_keepsAll 39 = .ok (.iconst 4, 1) := by decide +kernel
theorem dX11_keepsAll_40 : decode cX11_keepsAll 40 = .ok (.laload, 1) := by decide +kernel
theorem dX11_keepsAll_41 : decode cX11_keepsAll 41 = .ok (.lmul, 1) := by decide +kernel
theorem dX11_keepsAll_42 : decode cX11_keepsAll 42 = .ok (.aload_n 0, 1) := by decide +kernel
theorem dX11_keepsAll_43 : decode cX11_keepsAll 43 = .ok (.getfield 23, 3) := by decide +kernel
theorem dX11_keepsAll_46 : decode cX11_keepsAll 46 = .ok (.iconst 1, 1) := by decide +kernel
theorem dX11_keepsAll_47 : decode cX11_keepsAll 47 = .ok (.laload, 1) := by decide +kernel
theorem dX11_keepsAll_48 : decode cX11_keepsAll 48 = .ok (.aload_n 0, 1) := by decide +kernel
theorem dX11_keepsAll_49 : decode cX11_keepsAll 49 = .ok (.getfield 23, 3) := by decide +kernel
theorem dX11_keepsAll_52 : decode cX11_keepsAll 52 = .ok (.iconst 3, 1) := by decide +kernel
theorem dX11_keepsAll_53 : decode cX11_keepsAll 53 = .ok (.laload, 1) := by decide +kernel
theorem dX11_keepsAll_54 : decode cX11_keepsAll 54 = .ok (.lmul, 1) := by decide +kernel
theorem dX11_keepsAll_55 : decode cX11_keepsAll 55 = .ok (.lsub, 1) := by decide +kernel
theorem dX11_keepsAll_56 : decode cX11_keepsAll 56 = .ok (.lconst 0, 1) := by decide +kernel
theorem dX11_keepsAll_57 : decode cX11_keepsAll 57 = .ok (.lcmp, 1) := by decide +kernel
theorem dX11_keepsAll_58 : decode cX11_keepsAll 58 = .ok (.ifCond .le 28, 3) := by decide +kernel
theorem dX11_keepsAll_61 : decode cX11_keepsAll 61 = .ok (.aload_n 0, 1) := by decide +kernel
theorem dX11_keepsAll_62 : decode cX11_keepsAll 62 = .ok (.getfield 7, 3) := by decide +kernel
theorem dX11_keepsAll_65 : decode cX11_keepsAll 65 = .ok (.iconst 3, 1) := by decide +kernel
theorem dX11_keepsAll_66 : decode cX11_keepsAll 66 = .ok (.if_icmp .lt 16, 3) := by decide +kernel
theorem dX11_keepsAll_69 : decode cX11_keepsAll 69 = .ok (.aload_n 0, 1) := by decide +kernel
theorem dX11_keepsAll_70 : decode cX11_keepsAll 70 = .ok (.aload_n 0, 1) := by decide +kernel
theorem dX11_keepsAll_71 : decode cX11_keepsAll 71 = .ok (.getfield 23, 3) := by decide +kernel
theorem dX11_keepsAll_74 : decode cX11_keepsAll 74 = .ok (.invokevirtual 139, 3) := by decide +kernel
theorem dX11_keepsAll_77 : decode cX11_keepsAll 77 = .ok (.lconst 0, 1) := by decide +kernel
theorem dX11_keepsAll_78 : decode cX11_keepsAll 78 = .ok (.lcmp, 1) := by decide +kernel
theorem dX11_keepsAll_79 : decode cX11_keepsAll 79 = .ok (.ifCond .le 7, 3) := by decide +kernel
theorem dX11_keepsAll_82 : decode cX11_keepsAll 82 = .ok (.iconst 1, 1) := by decide +kernel
theorem dX11_keepsAll_83 : decode cX11_keepsAll 83 = .ok (.goto 4, 3) := by decide +kernel
theorem dX11_keepsAll_86 : decode cX11_keepsAll 86 = .ok (.iconst 0, 1) := by decide +kernel
theorem dX11_keepsAll_87 : decode cX11_keepsAll 87 = .ok (.istore_n 1, 1) := by decide +kernel
theorem dX11_keepsAll_88 : decode cX11_keepsAll 88 = .ok (.iconst 0, 1) := by decide +kernel
theorem dX11_keepsAll_89 : decode cX11_keepsAll 89 = .ok (.istore_n 2, 1) := by decide +kernel
theorem dX11_keepsAll_90 : decode cX11_keepsAll 90 = .ok (.iload_n 2, 1) := by decide +kernel
theorem dX11_keepsAll_91 : decode cX11_keepsAll 91 = .ok (.aload_n 0, 1) := by decide +kernel
theorem dX11_keepsAll_92 : decode cX11_keepsAll 92 = .ok (.getfield 7, 3) := by decide +kernel
theorem dX11_keepsAll_95 : decode cX11_keepsAll 95 = .ok (.if_icmp .ge 59, 3) := by decide +kernel
theorem dX11_keepsAll_98 : decode cX11_keepsAll 98 = .ok (.iconst 0, 1) := by decide +kernel
theorem dX11_keepsAll_99 : decode cX11_keepsAll 99 = .ok (.istore_n 3, 1) := by decide +kernel
theorem dX11_keepsAll_100 : decode cX11_keepsAll 100 = .ok (.iload_n 3, 1) := by decide +kernel
theorem dX11_keepsAll_101 : decode cX11_keepsAll 101 = .ok (.aload_n 0, 1) := by decide +kernel
theorem dX11_keepsAll_102 : decode cX11_keepsAll 102 = .ok (.getfield 7, 3) := by decide +kernel
theorem dX11_keepsAll_105 : decode cX11_keepsAll 105 = .ok (.if_icmp .ge 43, 3) := by decide +kernel
theorem dX11_keepsAll_108 : decode cX11_keepsAll 108 = .ok (.iload_n 1, 1) := by decide +kernel
theorem dX11_keepsAll_109 : decode cX11_keepsAll 109 = .ok (.ifCond .eq 31, 3) := by decide +kernel
theorem dX11_keepsAll_112 : decode cX11_keepsAll 112 = .ok (.aload_n 0, 1) := by decide +kernel
theorem dX11_keepsAll_113 : decode cX11_keepsAll 113 = .ok (.getfield 23, 3) := by decide +kernel
theorem dX11_keepsAll_116 : decode cX11_keepsAll 116 = .ok (.iconst 3, 1) := by decide +kernel
theorem dX11_keepsAll_117 : decode cX11_keepsAll 117 = .ok (.iload_n 2, 1) := by decide +kernel
theorem dX11_keepsAll_118 : decode cX11_keepsAll 118 = .ok (.imul, 1) := by decide +kernel
theorem dX11_keepsAll_119 : decode cX11_keepsAll 119 = .ok (.iload_n 3, 1) := by decide +kernel
theorem dX11_keepsAll_120 : decode cX11_keepsAll 120 = .ok (.iadd, 1) := by decide +kernel
theorem dX11_keepsAll_121 : decode cX11_keepsAll 121 = .ok (.laload, 1) := by decide +kernel
theorem dX11_keepsAll_122 : decode cX11_keepsAll 122 = .ok (.aload_n 0, 1) := by decide +kernel
theorem dX11_keepsAll_123 : decode cX11_keepsAll 123 = .ok (.getfield 23, 3) := by decide +kernel
theorem dX11_keepsAll_126 : decode cX11_keepsAll 126 = .ok (.iconst 3, 1) := by decide +kernel
theorem dX11_keepsAll_127 : decode cX11_keepsAll 127 = .ok (.iload_n 3, 1) := by decide +kernel
theorem dX11_keepsAll_128 : decode cX11_keepsAll 128 = .ok (.imul, 1) := by decide +kernel
theorem dX11_keepsAll_129 : decode cX11_keepsAll 129 = .ok (.iload_n 2, 1) := by decide +kernel
theorem dX11_keepsAll_130 : decode cX11_keepsAll 130 = .ok (.iadd, 1) := by decide +kernel
theorem dX11_keepsAll_131 : decode cX11_keepsAll 131 = .ok (.laload, 1) := by decide +kernel
theorem dX11_keepsAll_132 : decode cX11_keepsAll 132 = .ok (.lcmp, 1) := by decide +kernel
theorem dX11_keepsAll_133 : decode cX11_keepsAll 133 = .ok (.ifCond .ne 7, 3) := by decide +kernel
theorem dX11_keepsAll_136 : decode cX11_keepsAll 136 = .ok (.iconst 1, 1) := by decide +kernel
theorem dX11_keepsAll_137 : decode cX11_keepsAll 137 = .ok (.goto 4, 3) := by decide +kernel
theorem dX11_keepsAll_140 : decode cX11_keepsAll 140 = .ok (.iconst 0, 1) := by decide +kernel
theorem dX11_keepsAll_141 : decode cX11_keepsAll 141 = .ok (.istore_n 1, 1) := by decide +kernel
theorem dX11_keepsAll_142 : decode cX11_keepsAll 142 = .ok (.iinc 3 1, 3) := by decide +kernel
theorem dX11_keepsAll_145 : decode cX11_keepsAll 145 = .ok (.goto (-45), 3) := by decide +kernel
theorem dX11_keepsAll_148 : decode cX11_keepsAll 148 = .ok (.iinc 2 1, 3) := by decide +kernel
theorem dX11_keepsAll_151 : decode cX11_keepsAll 151 = .ok (.goto (-61), 3) := by decide +kernel
theorem dX11_keepsAll_154 : decode cX11_keepsAll 154 = .ok (.iconst 0, 1) := by decide +kernel
theorem dX11_keepsAll_155 : decode cX11_keepsAll 155 = .ok (.istore_n 2, 1) := by decide +kernel
theorem dX11_keepsAll_156 : decode cX11_keepsAll 156 = .ok (.iload_n 2, 1) := by decide +kernel
theorem dX11_keepsAll_157 : decode cX11_keepsAll 157 = .ok (.aload_n 0, 1) := by decide +kernel
theorem dX11_keepsAll_158 : decode cX11_keepsAll 158 = .ok (.getfield 85, 3) := by decide +kernel
theorem dX11_keepsAll_161 : decode cX11_keepsAll 161 = .ok (.if_icmp .ge 168, 3) := by decide +kernel
theorem dX11_keepsAll_164 : decode cX11_keepsAll 164 = .ok (.aload_n 0, 1) := by decide +kernel
theorem dX11_keepsAll_165 : decode cX11_keepsAll 165 = .ok (.iload_n 2, 1) := by decide +kernel
theorem dX11_keepsAll_166 : decode cX11_keepsAll 166 = .ok (.aload_n 0, 1) := by decide +kernel
theorem dX11_keepsAll_167 : decode cX11_keepsAll 167 = .ok (.getfield 27, 3) := by decide +kernel
theorem dX11_keepsAll_170 : decode cX11_keepsAll 170 = .ok (.invokevirtual 125, 3) := by decide +kernel
theorem dX11_keepsAll_173 : decode cX11_keepsAll 173 = .ok (.aload_n 0, 1) := by decide +kernel
theorem dX11_keepsAll_174 : decode cX11_keepsAll 174 = .ok (.aload_n 0, 1) := by decide +kernel
theorem dX11_keepsAll_175 : decode cX11_keepsAll 175 = .ok (.getfield 23, 3) := by decide +kernel
theorem dX11_keepsAll_178 : decode cX11_keepsAll 178 = .ok (.aload_n 0, 1) := by decide +kernel
theorem dX11_keepsAll_179 : decode cX11_keepsAll 179 = .ok (.getfield 27, 3) := by decide +kernel
theorem dX11_keepsAll_182 : decode cX11_keepsAll 182 = .ok (.aload_n 0, 1) := by decide +kernel
theorem dX11_keepsAll_183 : decode cX11_keepsAll 183 = .ok (.getfield 30, 3) := by decide +kernel
theorem dX11_keepsAll_186 : decode cX11_keepsAll 186 = .ok (.invokevirtual 129, 3) := by decide +kernel
theorem dX11_keepsAll_189 : decode cX11_keepsAll 189 = .ok (.aload_n 0, 1) := by decide +kernel
theorem dX11_keepsAll_190 : decode cX11_keepsAll 190 = .ok (.aload_n 0, 1) := by decide +kernel
theorem dX11_keepsAll_191 : decode cX11_keepsAll 191 = .ok (.getfield 33, 3) := by decide +kernel
theorem dX11_keepsAll_194 : decode cX11_keepsAll 194 = .ok (.invokevirtual 90, 3) := by decide +kernel
theorem dX11_keepsAll_197 : decode cX11_keepsAll 197 = .ok (.iconst 0, 1) := by decide +kernel
theorem dX11_keepsAll_198 : decode cX11_keepsAll 198 = .ok (.istore_n 3, 1) := by decide +kernel
theorem dX11_keepsAll_199 : decode cX11_keepsAll 199 = .ok (.iload_n 3, 1) := by decide +kernel
theorem dX11_keepsAll_200 : decode cX11_keepsAll 200 = .ok (.aload_n 0, 1) := by decide +kernel
theorem dX11_keepsAll_201 : decode cX11_keepsAll 201 = .ok (.getfield 7, 3) := by decide +kernel
theorem dX11_keepsAll_204 : decode cX11_keepsAll 204 = .ok (.if_icmp .ge 119, 3) := by decide +kernel
theorem dX11_keepsAll_207 : decode cX11_keepsAll 207 = .ok (.iconst 0, 1) := by decide +kernel
theorem dX11_keepsAll_208 : decode cX11_keepsAll 208 = .ok (.istore 4, 2) := by decide +kernel
theorem dX11_keepsAll_210 : decode cX11_keepsAll 210 = .ok (.iload 4, 2) := by decide +kernel
theorem dX11_keepsAll_212 : decode cX11_keepsAll 212 = .ok (.aload_n 0, 1) := by decide +kernel
theorem dX11_keepsAll_213 : decode cX11_keepsAll 213 = .ok (.getfield 7, 3) := by decide +kernel
theorem dX11_keepsAll_216 : decode cX11_keepsAll 216 = .ok (.if_icmp .ge 101, 3) := by decide +kernel
theorem dX11_keepsAll_219 : decode cX11_keepsAll 219 = .ok (.iconst 0, 1) := by decide +kernel
theorem dX11_keepsAll_220 : decode cX11_keepsAll 220 = .ok (.istore 5, 2) := by decide +kernel
theorem dX11_keepsAll_222 : decode cX11_keepsAll 222 = .ok (.iload 5, 2) := by decide +kernel
theorem dX11_keepsAll_224 : decode cX11_keepsAll 224 = .ok (.aload_n 0, 1) := by decide +kernel
theorem dX11_keepsAll_225 : decode cX11_keepsAll 225 = .ok (.getfield 7, 3) := by decide +kernel
theorem dX11_keepsAll_228 : decode cX11_keepsAll 228 = .ok (.if_icmp .ge 47, 3) := by decide +kernel
theorem dX11_keepsAll_231 : decode cX11_keepsAll 231 = .ok (.aload_n 0, 1) := by decide +kernel
theorem dX11_keepsAll_232 : decode cX11_keepsAll 232 = .ok (.getfield 33, 3) := by decide +kernel
theorem dX11_keepsAll_235 : decode cX11_keepsAll 235 = .ok (.iconst 3, 1) := by decide +kernel
theorem dX11_keepsAll_236 : decode cX11_keepsAll 236 = .ok (.iload_n 3, 1) := by decide +kernel
theorem dX11_keepsAll_237 : decode cX11_keepsAll 237 = .ok (.imul, 1) := by decide +kernel
theorem dX11_keepsAll_238 : decode cX11_keepsAll 238 = .ok (.iload 4, 2) := by decide +kernel
theorem dX11_keepsAll_240 : decode cX11_keepsAll 240 = .ok (.iadd, 1) := by decide +kernel
theorem dX11_keepsAll_241 : decode cX11_keepsAll 241 = .ok (.dup2, 1) := by decide +kernel
theorem dX11_keepsAll_242 : decode cX11_keepsAll 242 = .ok (.laload, 1) := by decide +kernel
theorem dX11_keepsAll_243 : decode cX11_keepsAll 243 = .ok (.aload_n 0, 1) := by decide +kernel
theorem dX11_keepsAll_244 : decode cX11_keepsAll 244 = .ok (.getfield 27, 3) := by decide +kernel
theorem dX11_keepsAll_247 : decode cX11_keepsAll 247 = .ok (.iconst 3, 1) := by decide +kernel
theorem dX11_keepsAll_248 : decode cX11_keepsAll 248 = .ok (.iload 5, 2) := by decide +kernel
theorem dX11_keepsAll_250 : decode cX11_keepsAll 250 = .ok (.imul, 1) := by decide +kernel
theorem dX11_keepsAll_251 : decode cX11_keepsAll 251 = .ok (.iload_n 3, 1) := by decide +kernel
theorem dX11_keepsAll_252 : decode cX11_keepsAll 252 = .ok (.iadd, 1) := by decide +kernel
theorem dX11_keepsAll_253 : decode cX11_keepsAll 253 = .ok (.laload, 1) := by decide +kernel
theorem dX11_keepsAll_254 : decode cX11_keepsAll 254 = .ok (.aload_n 0, 1) := by decide +kernel
theorem dX11_keepsAll_255 : decode cX11_keepsAll 255 = .ok (.getfield 30, 3) := by decide +kernel
theorem dX11_keepsAll_258 : decode cX11_keepsAll 258 = .ok (.iconst 3, 1) := by decide +kernel
theorem dX11_keepsAll_259 : decode cX11_keepsAll 259 = .ok (.iload 5, 2) := by decide +kernel
theorem dX11_keepsAll_261 : decode cX11_keepsAll 261 = .ok (.imul, 1) := by decide +kernel
theorem dX11_keepsAll_262 : decode cX11_keepsAll 262 = .ok (.iload 4, 2) := by decide +kernel
theorem dX11_keepsAll_264 : decode cX11_keepsAll 264 = .ok (.iadd, 1) := by decide +kernel
theorem dX11_keepsAll_265 : decode cX11_keepsAll 265 = .ok (.laload, 1) := by decide +kernel
theorem dX11_keepsAll_266 : decode cX11_keepsAll 266 = .ok (.lmul, 1) := by decide +kernel
theorem dX11_keepsAll_267 : decode cX11_keepsAll 267 = .ok (.ladd, 1) := by decide +kernel
theorem dX11_keepsAll_268 : decode cX11_keepsAll 268 = .ok (.lastore, 1) := by decide +kernel
theorem dX11_keepsAll_269 : decode cX11_keepsAll 269 = .ok (.iinc 5 1, 3) := by decide +kernel
theorem dX11_keepsAll_272 : decode cX11_keepsAll 272 = .ok (.goto (-50), 3) := by decide +kernel
theorem dX11_keepsAll_275 : decode cX11_keepsAll 275 = .ok (.iload_n 1, 1) := by decide +kernel
