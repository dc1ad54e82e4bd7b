theorem dX11_still_19 : decode cX11_still 19 = .ok (.iconst 1, 1) := by decide +kernel
theorem dX11_still_20 : decode cX11_still 20 = .ok (.if_icmp .le 8, 3) := by decide +kernel
theorem dX11_still_23 : decode cX11_still 23 = .ok (.iload_n 2, 1) := by decide +kernel
theorem dX11_still_24 : decode cX11_still 24 = .ok (.i2l, 1) := by decide +kernel
theorem dX11_still_25 : decode cX11_still 25 = .ok (.goto 4, 3) := by decide +kernel
theorem dX11_still_28 : decode cX11_still 28 = .ok (.lconst 0, 1) := by decide +kernel
theorem dX11_still_29 : decode cX11_still 29 = .ok (.lstore 4, 2) := by decide +kernel
theorem dX11_still_31 : decode cX11_still 31 = .ok (.aload_n 0, 1) := by decide +kernel
theorem dX11_still_32 : decode cX11_still 32 = .ok (.getfield 7, 3) := by decide +kernel
theorem dX11_still_35 : decode cX11_still 35 = .ok (.iconst 2, 1) := by decide +kernel
theorem dX11_still_36 : decode cX11_still 36 = .ok (.if_icmp .le 8, 3) := by decide +kernel
theorem dX11_still_39 : decode cX11_still 39 = .ok (.iload_n 3, 1) := by decide +kernel
theorem dX11_still_40 : decode cX11_still 40 = .ok (.i2l, 1) := by decide +kernel
theorem dX11_still_41 : decode cX11_still 41 = .ok (.goto 4, 3) := by decide +kernel
theorem dX11_still_44 : decode cX11_still 44 = .ok (.lconst 0, 1) := by decide +kernel
theorem dX11_still_45 : decode cX11_still 45 = .ok (.lstore 6, 2) := by decide +kernel
theorem dX11_still_47 : decode cX11_still 47 = .ok (.iconst 0, 1) := by decide +kernel
theorem dX11_still_48 : decode cX11_still 48 = .ok (.istore 8, 2) := by decide +kernel
theorem dX11_still_50 : decode cX11_still 50 = .ok (.iconst 0, 1) := by decide +kernel
theorem dX11_still_51 : decode cX11_still 51 = .ok (.istore 9, 2) := by decide +kernel
theorem dX11_still_53 : decode cX11_still 53 = .ok (.iload 9, 2) := by decide +kernel
theorem dX11_still_55 : decode cX11_still 55 = .ok (.aload_n 0, 1) := by decide +kernel
theorem dX11_still_56 : decode cX11_still 56 = .ok (.getfield 202, 3) := by decide +kernel
theorem dX11_still_59 : decode cX11_still 59 = .ok (.if_icmp .ge 173, 3) := by decide +kernel
theorem dX11_still_62 : decode cX11_still 62 = .ok (.aload_n 0, 1) := by decide +kernel
theorem dX11_still_63 : decode cX11_still 63 = .ok (.iload 9, 2) := by decide +kernel
theorem dX11_still_65 : decode cX11_still 65 = .ok (.aload_n 0, 1) := by decide +kernel
theorem dX11_still_66 : decode cX11_still 66 = .ok (.getfield 27, 3) := by decide +kernel
theorem dX11_still_69 : decode cX11_still 69 = .ok (.invokevirtual 209, 3) := by decide +kernel
theorem dX11_still_72 : decode cX11_still 72 = .ok (.aload_n 0, 1) := by decide +kernel
theorem dX11_still_73 : decode cX11_still 73 = .ok (.getfield 27, 3) := by decide +kernel
theorem dX11_still_76 : decode cX11_still 76 = .ok (.iconst 0, 1) := by decide +kernel
theorem dX11_still_77 : decode cX11_still 77 = .ok (.laload, 1) := by decide +kernel
theorem dX11_still_78 : decode cX11_still 78 = .ok (.iload_n 1, 1) := by decide +kernel
theorem dX11_still_79 : decode cX11_still 79 = .ok (.i2l, 1) := by decide +kernel
theorem dX11_still_80 : decode cX11_still 80 = .ok (.lmul, 1) := by decide +kernel
theorem dX11_still_81 : decode cX11_still 81 = .ok (.aload_n 0, 1) := by decide +kernel
theorem dX11_still_82 : decode cX11_still 82 = .ok (.getfield 27, 3) := by decide +kernel
theorem dX11_still_85 : decode cX11_still 85 = .ok (.iconst 1, 1) := by decide +kernel
theorem dX11_still_86 : decode cX11_still 86 = .ok (.laload, 1) := by decide +kernel
theorem dX11_still_87 : decode cX11_still 87 = .ok (.lload 4, 2) := by decide +kernel
theorem dX11_still_89 : decode cX11_still 89 = .ok (.lmul, 1) := by decide +kernel
theorem dX11_still_90 : decode cX11_still 90 = .ok (.ladd, 1) := by decide +kernel
theorem dX11_still_91 : decode cX11_still 91 = .ok (.aload_n 0, 1) := by decide +kernel
theorem dX11_still_92 : decode cX11_still 92 = .ok (.getfield 27, 3) := by decide +kernel
theorem dX11_still_95 : decode cX11_still 95 = .ok (.iconst 2, 1) := by decide +kernel
theorem dX11_still_96 : decode cX11_still 96 = .ok (.laload, 1) := by decide +kernel
theorem dX11_still_97 : decode cX11_still 97 = .ok (.lload 6, 2) := by decide +kernel
theorem dX11_still_99 : decode cX11_still 99 = .ok (.lmul, 1) := by decide +kernel
theorem dX11_still_100 : decode cX11_still 100 = .ok (.ladd, 1) := by decide +kernel
theorem dX11_still_101 : decode cX11_still 101 = .ok (.iload_n 1, 1) := by decide +kernel
theorem dX11_still_102 : decode cX11_still 102 = .ok (.i2l, 1) := by decide +kernel
theorem dX11_still_103 : decode cX11_still 103 = .ok (.lcmp, 1) := by decide +kernel
theorem dX11_still_104 : decode cX11_still 104 = .ok (.ifCond .ne 7, 3) := by decide +kernel
theorem dX11_still_107 : decode cX11_still 107 = .ok (.iconst 1, 1) := by decide +kernel
theorem dX11_still_108 : decode cX11_still 108 = .ok (.goto 4, 3) := by decide +kernel
theorem dX11_still_111 : decode cX11_still 111 = .ok (.iconst 0, 1) := by decide +kernel
theorem dX11_still_112 : decode cX11_still 112 = .ok (.istore 10, 2) := by decide +kernel
theorem dX11_still_114 : decode cX11_still 114 = .ok (.iload 10, 2) := by decide +kernel
theorem dX11_still_116 : decode cX11_still 116 = .ok (.ifCond .eq 42, 3) := by decide +kernel
theorem dX11_still_119 : decode cX11_still 119 = .ok (.aload_n 0, 1) := by decide +kernel
theorem dX11_still_120 : decode cX11_still 120 = .ok (.getfield 27, 3) := by decide +kernel
theorem dX11_still_123 : decode cX11_still 123 = .ok (.iconst 3, 1) := by decide +kernel
theorem dX11_still_124 : decode cX11_still 124 = .ok (.laload, 1) := by decide +kernel
theorem dX11_still_125 : decode cX11_still 125 = .ok (.iload_n 1, 1) := by decide +kernel
theorem dX11_still_126 : decode cX11_still 126 = .ok (.i2l, 1) := by decide +kernel
theorem dX11_still_127 : decode cX11_still 127 = .ok (.lmul, 1) := by decide +kernel
theorem dX11_still_128 : decode cX11_still 128 = .ok (.aload_n 0, 1) := by decide +kernel
theorem dX11_still_129 : decode cX11_still 129 = .ok (.getfield 27, 3) := by decide +kernel
theorem dX11_still_132 : decode cX11_still 132 = .ok (.iconst 4, 1) := by decide +kernel
theorem dX11_still_133 : decode cX11_still 133 = .ok (.laload, 1) := by decide +kernel
theorem dX11_still_134 : decode cX11_still 134 = .ok (.lload 4, 2) := by decide +kernel
theorem dX11_still_136 : decode cX11_still 136 = .ok (.lmul, 1) := by decide +kernel
theorem dX11_still_137 : decode cX11_still 137 = .ok (.ladd, 1) := by decide +kernel
theorem dX11_still_138 : decode cX11_still 138 = .ok (.aload_n 0, 1) := by decide +kernel
theorem dX11_still_139 : decode cX11_still 139 = .ok (.getfield 27, 3) := by decide +kernel
theorem dX11_still_142 : decode cX11_still 142 = .ok (.iconst 5, 1) := by decide +kernel
theorem dX11_still_143 : decode cX11_still 143 = .ok (.laload, 1) := by decide +kernel
theorem dX11_still_144 : decode cX11_still 144 = .ok (.lload 6, 2) := by decide +kernel
theorem dX11_still_146 : decode cX11_still 146 = .ok (.lmul, 1) := by decide +kernel
theorem dX11_still_147 : decode cX11_still 147 = .ok (.ladd, 1) := by decide +kernel
theorem dX11_still_148 : decode cX11_still 148 = .ok (.lload 4, 2) := by decide +kernel
theorem dX11_still_150 : decode cX11_still 150 = .ok (.lcmp, 1) := by decide +kernel
theorem dX11_still_151 : decode cX11_still 151 = .ok (.ifCond .ne 7, 3) := by decide +kernel
theorem dX11_still_154 : decode cX11_still 154 = .ok (.iconst 1, 1) := by decide +kernel
theorem dX11_still_155 : decode cX11_still 155 = .ok (.goto 4, 3) := by decide +kernel
theorem dX11_still_158 : decode cX11_still 158 = .ok (.iconst 0, 1) := by decide +kernel
theorem dX11_still_159 : decode cX11_still 159 = .ok (.istore 10, 2) := by decide +kernel
theorem dX11_still_161 : decode cX11_still 161 = .ok (.iload 10, 2) := by decide +kernel
theorem dX11_still_163 : decode cX11_still 163 = .ok (.ifCond .eq 45, 3) := by decide +kernel
theorem dX11_still_166 : decode cX11_still 166 = .ok (.aload_n 0, 1) := by decide +kernel
theorem dX11_still_167 : decode cX11_still 167 = .ok (.getfield 27, 3) := by decide +kernel
theorem dX11_still_170 : decode cX11_still 170 = .ok (.bipush 6, 2) := by decide +kernel
theorem dX11_still_172 : decode cX11_still 172 = .ok (.laload, 1) := by decide +kernel
theorem dX11_still_173 : decode cX11_still 173 = .ok (.iload_n 1, 1) := by decide +kernel
theorem dX11_still_174 : decode cX11_still 174 = .ok (.i2l, 1) := by decide +kernel
theorem dX11_still_175 : decode cX11_still 175 = .ok (.lmul, 1) := by decide +kernel
theorem dX11_still_176 : decode cX11_still 176 = .ok (.aload_n 0, 1) := by decide +kernel
theorem dX11_still_177 : decode cX11_still 177 = .ok (.getfield 27, 3) := by decide +kernel
theorem dX11_still_180 : decode cX11_still 180 = .ok (.bipush 7, 2) := by decide +kernel
theorem dX11_still_182 : decode cX11_still 182 = .ok (.laload, 1) := by decide +kernel
theorem dX11_still_183 : decode cX11_still 183 = .ok (.lload 4, 2) := by decide +kernel
theorem dX11_still_185 : decode cX11_still 185 = .ok (.lmul, 1) := by decide +kernel
theorem dX11_still_186 : decode cX11_still 186 = .ok (.ladd, 1) := by decide +kernel
theorem dX11_still_187 : decode cX11_still 187 = .ok (.aload_n 0, 1) := by decide +kernel
theorem dX11_still_188 : decode cX11_still 188 = .ok (.getfield 27, 3) := by decide +kernel
theorem dX11_still_191 : decode cX11_still 191 = .ok (.bipush 8, 2) := by decide +kernel
theorem dX11_still_193 : decode cX11_still 193 = .ok (.laload, 1) := by decide +kernel
theorem dX11_still_194 : decode cX11_still 194 = .ok (.lload 6, 2) := by decide +kernel
theorem dX11_still_196 : decode cX11_still 196 = .ok (.lmul, 1) := by decide +kernel
theorem dX11_still_197 : decode cX11_still 197 = .ok (.ladd, 1) := by decide +kernel
theorem dX11_still_198 : decode cX11_still 198 = .ok (.lload 6, 2) := by decide +kernel
theorem dX11_still_200 : decode cX11_still 200 = .ok (.lcmp, 1) := by decide +kernel
theorem dX11_still_201 : decode cX11_still 201 = .ok (.ifCond .ne 7, 3) := by decide +kernel
theorem dX11_still_204 : decode cX11_still 204 = .ok (.iconst 1, 1) := by decide +kernel
theorem dX11_still_205 : decode cX11_still 205 = .ok (.goto 4, 3) := by decide +kernel
theorem dX11_still_208 : decode cX11_still 208 = .ok (.iconst 0, 1) := by decide +kernel
theorem dX11_still_209 : decode cX11_still 209 = .ok (.istore 10, 2) := by decide +kernel
theorem dX11_still_211 : decode cX11_still 211 = .ok (.iload 8, 2) := by decide +kernel
theorem dX11_still_213 : decode cX11_still 213 = .ok (.iload 10, 2) := by decide +kernel
theorem dX11_still_215 : decode cX11_still 215 = .ok (.ifCond .eq 7, 3) := by decide +kernel
theorem dX11_still_218 : decode cX11_still 218 = .ok (.iconst 1, 1) := by decide +kernel
theorem dX11_still_219 : decode cX11_still 219 = .ok (.goto 4, 3) := by decide +kernel
theorem dX11_still_222 : decode cX11_still 222 = .ok (.iconst 0, 1) := by decide +kernel
theorem dX11_still_223 : decode cX11_still 223 = .ok (.iadd, 1) := by decide +kernel
theorem dX11_still_224 : decode cX11_still 224 = .ok (.istore 8, 2) := by decide +kernel
theorem dX11_still_226 : decode cX11_still 226 = .ok (.iinc 9 1, 3) := by decide +kernel
theorem dX11_still_229 : decode cX11_still 229 = .ok (.goto (-176), 3) := by decide +kernel
theorem dX11_still_232 : decode cX11_still 232 = .ok (.iload 8, 2) := by decide +kernel
theorem dX11_still_234 : decode cX11_still 234 = .ok (.ireturn, 1) := by decide +kernel
theorem dX11_take_0 : decode cX11_take 0 = .ok (.iload_n 1, 1) := by decide +kernel
theorem dX11_take_1 : decode cX11_take 1 = .ok (.invokestatic 237, 3) := by decide +kernel
theorem dX11_take_4 : decode cX11_take 4 = .ok (.ifCond .ne 5, 3) := by decide +kernel
theorem dX11_take_7 : decode cX11_take 7 = .ok (.iconst (-1), 1) := by decide +kernel
theorem dX11_take_8 : decode cX11_take 8 = .ok (.ireturn, 1) := by decide +kernel
theorem dX11_take_9 : decode cX11_take 9 = .ok (.aload_n 0, 1) := by decide +kernel
theorem dX11_take_10 : decode cX11_take 10 = .ok (.iload_n 1, 1) := by decide +kernel
theorem dX11_take_11 : decode cX11_take 11 = .ok (.iload_n 2, 1) := by decide +kernel
theorem dX11_take_12 : decode cX11_take 12 = .ok (.invokevirtual 293, 3) := by decide +kernel
theorem dX11_take_15 : decode cX11_take 15 = .ok (.istore_n 3, 1) := by decide +kernel
theorem dX11_take_16 : decode cX11_take 16 = .ok (.iload_n 3, 1) := by decide +kernel
theorem dX11_take_17 : decode cX11_take 17 = .ok (.ifCond .eq 5, 3) := by decide +kernel
theorem dX11_take_20 : decode cX11_take 20 = .ok (.iload_n 3, 1) := by decide +kernel
theorem dX11_take_21 : decode cX11_take 21 = .ok (.ireturn, 1) := by decide +kernel
theorem dX11_take_22 : decode cX11_take 22 = .ok (.aload_n 0, 1) := by decide +kernel
theorem dX11_take_23 : decode cX11_take 23 = .ok (.aload_n 0, 1) := by decide +kernel
theorem dX11_take_24 : decode cX11_take 24 = .ok (.getfield 23, 3) := by decide +kernel
theorem dX11_take_27 : decode cX11_take 27 = .ok (.invokevirtual 90, 3) := by decide +kernel
theorem dX11_take_30 : decode cX11_take 30 = .ok (.iconst 1, 1) := by decide +kernel
theorem dX11_take_31 : decode cX11_take 31 = .ok (.istore 4, 2) := by decide +kernel
theorem dX11_take_33 : decode cX11_take 33 = .ok (.iconst 0, 1) := by decide +kernel
theorem dX11_take_34 : decode cX11_take 34 = .ok (.istore 5, 2) := by decide +kernel
theorem dX11_take_36 : decode cX11_take 36 = .ok (.iload 5, 2) := by decide +kernel
theorem dX11_take_38 : decode cX11_take 38 = .ok (.aload_n 0, 1) := by decide +kernel
theorem dX11_take_39 : decode cX11_take 39 = .ok (.getfield 7, 3) := by decide +kernel
theorem dX11_take_42 : decode cX11_take 42 = .ok (.aload_n 0, 1) := by decide +kernel
theorem dX11_take_43 : decode cX11_take 43 = .ok (.getfield 7, 3) := by decide +kernel
theorem dX11_take_46 : decode cX11_take 46 = .ok (.imul, 1) := by decide +kernel
theorem dX11_take_47 : decode cX11_take 47 = .ok (.if_icmp .ge 84, 3) := by decide +kernel
theorem dX11_take_50 : decode cX11_take 50 = .ok (.aload_n 0, 1) := by decide +kernel
theorem dX11_take_51 : decode cX11_take 51 = .ok (.getfield 75, 3) := by decide +kernel
theorem dX11_take_54 : decode cX11_take 54 = .ok (.bipush 40, 2) := by decide +kernel
theorem dX11_take_56 : decode cX11_take 56 = .ok (.iload_n 1, 1) := by decide +kernel
theorem dX11_take_57 : decode cX11_take 57 = .ok (.imul, 1) := by decide +kernel
theorem dX11_take_58 : decode cX11_take 58 = .ok (.iload_n 2, 1) := by decide +kernel
theorem dX11_take_59 : decode cX11_take 59 = .ok (.iadd, 1) := by decide +kernel
theorem dX11_take_60 : decode cX11_take 60 = .ok (.iload 5, 2) := by decide +kernel
theorem dX11_take_62 : decode cX11_take 62 = .ok (.iadd, 1) := by decide +kernel
theorem dX11_take_63 : decode cX11_take 63 = .ok (.laload, 1) := by decide +kernel
theorem dX11_take_64 : decode cX11_take 64 = .ok (.lstore 6, 2) := by decide +kernel
theorem dX11_take_66 : decode cX11_take 66 = .ok (.iload 4, 2) := by decide +kernel
theorem dX11_take_68 : decode cX11_take 68 = .ok (.ifCond .eq 21, 3) := by decide +kernel
theorem dX11_take_71 : decode cX11_take 71 = .ok (.lload 6, 2) := by decide +kernel
theorem dX11_take_73 : decode cX11_take 73 = .ok (.ldc2_w 94, 3) := by decide +kernel
theorem dX11_take_76 : decode cX11_take 76 = .ok (.ldc2_w 96, 3) := by decide +kernel
theorem dX11_take_79 : decode cX11_take 79 = .ok (.invokestatic 81, 3) := by decide +kernel
theorem dX11_take_82 : decode cX11_take 82 = .ok (.ifCond .eq 7, 3) := by decide +kernel
theorem dX11_take_85 : decode cX11_take 85 = .ok (.iconst 1, 1) := by decide +kernel
theorem dX11_take_86 : decode cX11_take 86 = .ok (.goto 4, 3) := by decide +kernel
theorem dX11_take_89 : decode cX11_take 89 = .ok (.iconst 0, 1) := by decide +kernel
theorem dX11_take_90 : decode cX11_take 90 = .ok (.istore 4, 2) := by decide +kernel
theorem dX11_take_92 : decode cX11_take 92 = .ok (.aload_n 0, 1) := by decide +kernel
theorem dX11_take_93 : decode cX11_take 93 = .ok (.getfield 23, 3) := by decide +kernel
theorem dX11_take_96 : decode cX11_take 96 = .ok (.iconst 3, 1) := by decide +kernel
theorem dX11_take_97 : decode cX11_take 97 = .ok (.iload 5, 2) := by decide +kernel
theorem dX11_take_99 : decode cX11_take 99 = .ok (.aload_n 0, 1) := by decide +kernel
theorem dX11_take_100 : decode cX11_take 100 = .ok (.getfield 7, 3) := by decide +kernel
theorem dX11_take_103 : decode cX11_take 103 = .ok (.idiv, 1) := by decide +kernel
theorem dX11_take_104 : decode cX11_take 104 = .ok (.imul, 1) := by decide +kernel
theorem dX11_take_105 : decode cX11_take 105 = .ok (.iload 5, 2) := by decide +kernel
theorem dX11_take_107 : decode cX11_take 107 = .ok (.aload_n 0, 1) := by decide +kernel
theorem dX11_take_108 : decode cX11_take 108 = .ok (.getfield 7, 3) := by decide +kernel
theorem dX11_take_111 : decode cX11_take 111 = .ok (.irem, 1) := by decide +kernel
theorem dX11_take_112 : decode cX11_take 112 = .ok (.iadd, 1) := by decide +kernel
theorem dX11_take_113 : decode cX11_take 113 = .ok (.iload 4, 2) := by decide +kernel
theorem dX11_take_115 : decode cX11_take 115 = .ok (.ifCond .eq 8, 3) := by decide +kernel
theorem dX11_take_118 : decode cX11_take 118 = .ok (.lload 6, 2) := by decide +kernel
theorem dX11_take_120 : decode cX11_take 120 = .ok (.goto 4, 3) := by decide +kernel
theorem dX11_take_123 : decode cX11_take 123 = .ok (.lconst 0, 1) := by decide +kernel
theorem dX11_take_124 : decode cX11_take 124 = .ok (.lastore, 1) := by decide +kernel
theorem dX11_take_125 : decode cX11_take 125 = .ok (.iinc 5 1, 3) := by decide +kernel
theorem dX11_take_128 : decode cX11_take 128 = .ok (.goto (-92), 3) := by decide +kernel
theorem dX11_take_131 : decode cX11_take 131 = .ok (.iload 4, 2) := by decide +kernel
theorem dX11_take_133 : decode cX11_take 133 = .ok (.ifCond .eq 31, 3) := by decide +kernel
theorem dX11_take_136 : decode cX11_take 136 = .ok (.aload_n 0, 1) := by decide +kernel
theorem dX11_take_137 : decode cX11_take 137 = .ok (.aload_n 0, 1) := by decide +kernel
theorem dX11_take_138 : decode cX11_take 138 = .ok (.getfield 23, 3) := by decide +kernel
theorem dX11_take_141 : decode cX11_take 141 = .ok (.invokevirtual 139, 3) := by decide +kernel
theorem dX11_take_144 : decode cX11_take 144 = .ok (.lconst 1, 1) := by decide +kernel
theorem dX11_take_145 : decode cX11_take 145 = .ok (.lcmp, 1) := by decide +kernel
theorem dX11_take_146 : decode cX11_take 146 = .ok (.ifCond .eq 20, 3) := by decide +kernel
theorem dX11_take_149 : decode cX11_take 149 = .ok (.aload_n 0, 1) := by decide +kernel
theorem dX11_take_150 : decode cX11_take 150 = .ok (.aload_n 0, 1) := by decide +kernel
theorem dX11_take_151 : decode cX11_take 151 = .ok (.getfield 23, 3) := by decide +kernel
theorem dX11_take_154 : decode cX11_take 154 = .ok (.invokevirtual 139, 3) := by decide +kernel
theorem dX11_take_157 : decode cX11_take 157 = .ok (.ldc2_w 133, 3) := by decide +kernel
theorem dX11_take_160 : decode cX11_take 160 = .ok (.lcmp, 1) := by decide +kernel
theorem dX11_take_161 : decode cX11_take 161 = .ok (.ifCond .eq 5, 3) := by decide +kernel
theorem dX11_take_164 : decode cX11_take 164 = .ok (.iconst (-1), 1) := by decide +kernel
theorem dX11_take_165 : decode cX11_take 165 = .ok (.ireturn, 1) := by decide +kernel
theorem dX11_take_166 : decode cX11_take 166 = .ok (.aload_n 0, 1) := by decide +kernel
theorem dX11_take_167 : decode cX11_take 167 = .ok (.getfield 85, 3) := by decide +kernel
theorem dX11_take_170 : decode cX11_take 170 = .ok (.iconst 4, 1) := by decide +kernel
theorem dX11_take_171 : decode cX11_take 171 = .ok (.if_icmp .ne 8, 3) := by decide +kernel
theorem dX11_take_174 : decode cX11_take 174 = .ok (.bipush (-2), 2) := by decide +kernel
theorem dX11_take_176 : decode cX11_take 176 = .ok (.goto 7, 3) := by decide +kernel
theorem dX11_take_179 : decode cX11_take 179 = .ok (.aload_n 0, 1) := by decide +kernel
theorem dX11_take_180 : decode cX11_take 180 = .ok (.invokevirtual 118, 3) := by decide +kernel
theorem dX11_take_183 : decode cX11_take 183 = .ok (.ireturn, 1) := by decide +kernel
theorem dX11_takes_0 : decode cX11_takes 0 = .ok (.iconst 0, 1) := by decide +kernel
theorem dX11_takes_1 : decode cX11_takes 1 = .ok (.istore_n 3, 1) := by decide +kernel
theorem dX11_takes_2 : decode cX11_takes 2 = .ok (.iload_n 3, 1) := by decide +kernel
theorem dX11_takes_3 : decode cX11_takes 3 = .ok (.bipush 9, 2) := by decide +kernel
theorem dX11_takes_5 : decode cX11_takes 5 = .ok (.if_icmp .ge 24, 3) := by decide +kernel
theorem dX11_takes_8 : decode cX11_takes 8 = .ok (.aload_n 2, 1) := by decide +kernel
theorem dX11_takes_9 : decode cX11_takes 9 = .ok (.iload_n 3, 1) := by decide +kernel
theorem dX11_takes_10 : decode cX11_takes 10 = .ok (.aload_n 0, 1) := by decide +kernel
theorem dX11_takes_11 : decode cX11_takes 11 = .ok (.getfield 16, 3) := by decide +kernel
theorem dX11_takes_14 : decode cX11_takes 14 = .ok (.bipush 9, 2) := by decide +kernel
theorem dX11_takes_16 : decode cX11_takes 16 = .ok (.iload_n 1, 1) := by decide +kernel
theorem dX11_takes_17 : decode cX11_takes 17 = .ok (.imul, 1) := by decide +kernel
theorem dX11_takes_18 : decode cX11_takes 18 = .ok (.iload_n 3, 1) := by decide +kernel
theorem dX11_takes_19 : decode cX11_takes 19 = .ok (.iadd, 1) := by decide +kernel
theorem dX11_takes_20 : decode cX11_takes 20 = .ok (.iaload, 1) := by decide +kernel
theorem dX11_takes_21 : decode cX11_takes 21 = .ok (.i2l, 1) := by decide +kernel
theorem dX11_takes_22 : decode cX11_takes 22 = .ok (.lastore, 1) := by decide +kernel
theorem dX11_takes_23 : decode cX11_takes 23 = .ok (.iinc 3 1, 3) := by decide +kernel
theorem dX11_takes_26 : decode cX11_takes 26 = .ok (.goto (-24), 3) := by decide +kernel
theorem dX11_takes_29 : decode cX11_takes 29 = .ok (.return_, 1) := by decide +kernel
theorem dX11_takesElement_0 : decode cX11_takesElement 0 = .ok (.iconst 0, 1) := by decide +kernel
theorem dX11_takesElement_1 : decode cX11_takesElement 1 = .ok (.istore_n 3, 1) := by decide +kernel
theorem dX11_takesElement_2 : decode cX11_takesElement 2 = .ok (.iload_n 3, 1) := by decide +kernel
theorem dX11_takesElement_3 : decode cX11_takesElement 3 = .ok (.bipush 9, 2) := by decide +kernel
theorem dX11_takesElement_5 : decode cX11_takesElement 5 = .ok (.if_icmp .ge 23, 3) := by decide +kernel
theorem dX11_takesElement_8 : decode cX11_takesElement 8 = .ok (.aload_n 2, 1) := by decide +kernel
theorem dX11_takesElement_9 : decode cX11_takesElement 9 = .ok (.iload_n 3, 1) := by decide +kernel
theorem dX11_takesElement_10 : decode cX11_takesElement 10 = .ok (.aload_n 0, 1) := by decide +kernel
theorem dX11_takesElement_11 : decode cX11_takesElement 11 = .ok (.getfield 45, 3) := by decide +kernel
theorem dX11_takesElement_14 : decode cX11_takesElement 14 = .ok (.bipush 9, 2) := by decide +kernel
theorem dX11_takesElement_16 : decode cX11_takesElement 16 = .ok (.iload_n 1, 1) := by decide +kernel
theorem dX11_takesElement_17 : decode cX11_takesElement 17 = .ok (.imul, 1) := by decide +kernel
theorem dX11_takesElement_18 : decode cX11_takesElement 18 = .ok (.iload_n 3, 1) := by decide +kernel
theorem dX11_takesElement_19 : decode cX11_takesElement 19 = .ok (.iadd, 1) := by decide +kernel
theorem dX11_takesElement_20 : decode cX11_takesElement 20 = .ok (.laload, 1) := by decide +kernel
theorem dX11_takesElement_21 : decode cX11_takesElement 21 = .ok (.lastore, 1) := by decide +kernel
theorem dX11_takesElement_22 : decode cX11_takesElement 22 = .ok (.iinc 3 1, 3) := by decide +kernel
theorem dX11_takesElement_25 : decode cX11_takesElement 25 = .ok (.goto (-23), 3) := by decide +kernel
theorem dX11_takesElement_28 : decode cX11_takesElement 28 = .ok (.return_, 1) := by decide +kernel
theorem dX11_takesOut_0 : decode cX11_takesOut 0 = .ok (.iconst 3, 1) := by decide +kernel
theorem dX11_takesOut_1 : decode cX11_takesOut 1 = .ok (.istore 4, 2) := by decide +kernel
theorem dX11_takesOut_3 : decode cX11_takesOut 3 = .ok (.iload 4, 2) := by decide +kernel
theorem dX11_takesOut_5 : decode cX11_takesOut 5 = .ok (.ifCond .le 21, 3) := by decide +kernel
theorem dX11_takesOut_8 : decode cX11_takesOut 8 = .ok (.aload_n 0, 1) := by decide +kernel
theorem dX11_takesOut_9 : decode cX11_takesOut 9 = .ok (.getfield 36, 3) := by decide +kernel
theorem dX11_takesOut_12 : decode cX11_takesOut 12 = .ok (.iload 4, 2) := by decide +kernel
theorem dX11_takesOut_14 : decode cX11_takesOut 14 = .ok (.laload, 1) := by decide +kernel
theorem dX11_takesOut_15 : decode cX11_takesOut 15 = .ok (.lconst 0, 1) := by decide +kernel
theorem dX11_takesOut_16 : decode cX11_takesOut 16 = .ok (.lcmp, 1) := by decide +kernel
theorem dX11_takesOut_17 : decode cX11_takesOut 17 = .ok (.ifCond .ne 9, 3) := by decide +kernel
theorem dX11_takesOut_20 : decode cX11_takesOut 20 = .ok (.iinc 4 (-1), 3) := by decide +kernel
theorem dX11_takesOut_23 : decode cX11_takesOut 23 = .ok (.goto (-20), 3) := by decide +kernel
theorem dX11_takesOut_26 : decode cX11_takesOut 26 = .ok (.iload 4, 2) := by decide +kernel
theorem dX11_takesOut_28 : decode cX11_takesOut 28 = .ok (.iload_n 1, 1) := by decide +kernel
theorem dX11_takesOut_29 : decode cX11_takesOut 29 = .ok (.if_icmp .ge 5, 3) := by decide +kernel
theorem dX11_takesOut_32 : decode cX11_takesOut 32 = .ok (.iconst 0, 1) := by decide +kernel
theorem dX11_takesOut_33 : decode cX11_takesOut 33 = .ok (.ireturn, 1) := by decide +kernel
theorem dX11_takesOut_34 : decode cX11_takesOut 34 = .ok (.iconst 0, 1) := by decide +kernel
theorem dX11_takesOut_35 : decode cX11_takesOut 35 = .ok (.istore 5, 2) := by decide +kernel
theorem dX11_takesOut_37 : decode cX11_takesOut 37 = .ok (.iload 5, 2) := by decide +kernel
theorem dX11_takesOut_39 : decode cX11_takesOut 39 = .ok (.iconst 4, 1) := by decide +kernel
theorem dX11_takesOut_40 : decode cX11_takesOut 40 = .ok (.if_icmp .ge 31, 3) := by decide +kernel
theorem dX11_takesOut_43 : decode cX11_takesOut 43 = .ok (.aload_n 0, 1) := by decide +kernel
theorem dX11_takesOut_44 : decode cX11_takesOut 44 = .ok (.getfield 27, 3) := by decide +kernel
theorem dX11_takesOut_47 : decode cX11_takesOut 47 = .ok (.iload 5, 2) := by decide +kernel
theorem dX11_takesOut_49 : decode cX11_takesOut 49 = .ok (.aload_n 0, 1) := by decide +kernel
theorem dX11_takesOut_50 : decode cX11_takesOut 50 = .ok (.getfield 36, 3) := by decide +kernel
theorem dX11_takesOut_53 : decode cX11_takesOut 53 = .ok (.iload 5, 2) := by decide +kernel
theorem dX11_takesOut_55 : decode cX11_takesOut 55 = .ok (.laload, 1) := by decide +kernel
theorem dX11_takesOut_56 : decode cX11_takesOut 56 = .ok (.lastore, 1) := by decide +kernel
theorem dX11_takesOut_57 : decode cX11_takesOut 57 = .ok (.aload_n 0, 1) := by decide +kernel
theorem dX11_takesOut_58 : decode cX11_takesOut 58 = .ok (.getfield 30, 3) := by decide +kernel
theorem dX11_takesOut_61 : decode cX11_takesOut 61 = .ok (.iload 5, 2) := by decide +kernel
theorem dX11_takesOut_63 : decode cX11_takesOut 63 = .ok (.lconst 0, 1) := by decide +kernel
theorem dX11_takesOut_64 : decode cX11_takesOut 64 = .ok (.lastore, 1) := by decide +kernel
theorem dX11_takesOut_65 : decode cX11_takesOut 65 = .ok (.iinc 5 1, 3) := by decide +kernel
theorem dX11_takesOut_68 : decode cX11_takesOut 68 = .ok (.goto (-31), 3) := by decide +kernel
theorem dX11_takesOut_71 : decode cX11_takesOut 71 = .ok (.iload 4, 2) := by decide +kernel
theorem dX11_takesOut_73 : decode cX11_takesOut 73 = .ok (.istore 5, 2) := by decide +kernel
theorem dX11_takesOut_75 : decode cX11_takesOut 75 = .ok (.iload 5, 2) := by decide +kernel
theorem dX11_takesOut_77 : decode cX11_takesOut 77 = .ok (.iload_n 1, 1) := by decide +kernel
theorem dX11_takesOut_78 : decode cX11_takesOut 78 = .ok (.if_icmp .lt 76, 3) := by decide +kernel
theorem dX11_takesOut_81 : decode cX11_takesOut 81 = .ok (.aload_n 0, 1) := by decide +kernel
theorem dX11_takesOut_82 : decode cX11_takesOut 82 = .ok (.getfield 27, 3) := by decide +kernel
theorem dX11_takesOut_85 : decode cX11_takesOut 85 = .ok (.iload 5, 2) := by decide +kernel
theorem dX11_takesOut_87 : decode cX11_takesOut 87 = .ok (.laload, 1) := by decide +kernel
theorem dX11_takesOut_88 : decode cX11_takesOut 88 = .ok (.lstore 6, 2) := by decide +kernel
theorem dX11_takesOut_90 : decode cX11_takesOut 90 = .ok (.aload_n 0, 1) := by decide +kernel
theorem dX11_takesOut_91 : decode cX11_takesOut 91 = .ok (.getfield 30, 3) := by decide +kernel
theorem dX11_takesOut_94 : decode cX11_takesOut 94 = .ok (.iload 5, 2) := by decide +kernel
theorem dX11_takesOut_96 : decode cX11_takesOut 96 = .ok (.iload_n 1, 1) := by decide +kernel
theorem dX11_takesOut_97 : decode cX11_takesOut 97 = .ok (.isub, 1) := by decide +kernel
theorem dX11_takesOut_98 : decode cX11_takesOut 98 = .ok (.lload 6, 2) := by decide +kernel
theorem dX11_takesOut_100 : decode cX11_takesOut 100 = .ok (.lastore, 1) := by decide +kernel
theorem dX11_takesOut_101 : decode cX11_takesOut 101 = .ok (.aload_n 0, 1) := by decide +kernel
theorem dX11_takesOut_102 : decode cX11_takesOut 102 = .ok (.getfield 27, 3) := by decide +kernel
theorem dX11_takesOut_105 : decode cX11_takesOut 105 = .ok (.iload 5, 2) := by decide +kernel
theorem dX11_takesOut_107 : decode cX11_takesOut 107 = .ok (.iload_n 1, 1) := by decide +kernel
theorem dX11_takesOut_108 : decode cX11_takesOut 108 = .ok (.isub, 1) := by decide +kernel
theorem dX11_takesOut_109 : decode cX11_takesOut 109 = .ok (.dup2, 1) := by decide +kernel
theorem dX11_takesOut_110 : decode cX11_takesOut 110 = .ok (.laload, 1) := by decide +kernel
theorem dX11_takesOut_111 : decode cX11_takesOut 111 = .ok (.lload 6, 2) := by decide +kernel
theorem dX11_takesOut_113 : decode cX11_takesOut 113 = .ok (.iload_n 2, 1) := by decide +kernel
theorem dX11_takesOut_114 : decode cX11_takesOut 114 = .ok (.i2l, 1) := by decide +kernel
theorem dX11_takesOut_115 : decode cX11_takesOut 115 = .ok (.lmul, 1) := by decide +kernel
theorem dX11_takesOut_116 : decode cX11_takesOut 116 = .ok (.lsub, 1) := by decide +kernel
theorem dX11_takesOut_117 : decode cX11_takesOut 117 = .ok (.lastore, 1) := by decide +kernel
theorem dX11_takesOut_118 : decode cX11_takesOut 118 = .ok (.iload_n 1, 1) := by decide +kernel
theorem dX11_takesOut_119 : decode cX11_takesOut 119 = .ok (.iconst 2, 1) := by decide +kernel
theorem dX11_takesOut_120 : decode cX11_takesOut 120 = .ok (.if_icmp .ne 20, 3) := by decide +kernel
theorem dX11_takesOut_123 : decode cX11_takesOut 123 = .ok (.aload_n 0, 1) := by decide +kernel
theorem dX11_takesOut_124 : decode cX11_takesOut 124 = .ok (.getfield 27, 3) := by decide +kernel
theorem dX11_takesOut_127 : decode cX11_takesOut 127 = .ok (.iload 5, 2) := by decide +kernel
theorem dX11_takesOut_129 : decode cX11_takesOut 129 = .ok (.iconst 1, 1) := by decide +kernel
theorem dX11_takesOut_130 : decode cX11_takesOut 130 = .ok (.isub, 1) := by decide +kernel
theorem dX11_takesOut_131 : decode cX11_takesOut 131 = .ok (.dup2, 1) := by decide +kernel
theorem dX11_takesOut_132 : decode cX11_takesOut 132 = .ok (.laload, 1) := by decide +kernel
theorem dX11_takesOut_133 : decode cX11_takesOut 133 = .ok (.lload 6, 2) := by decide +kernel
theorem dX11_takesOut_135 : decode cX11_takesOut 135 = .ok (.iload_n 3, 1) := by decide +kernel
theorem dX11_takesOut_136 : decode cX11_takesOut 136 = .ok (.i2l, 1) := by decide +kernel
theorem dX11_takesOut_137 : decode cX11_takesOut 137 = .ok (.lmul, 1) := by decide +kernel
theorem dX11_takesOut_138 : decode cX11_takesOut 138 = .ok (.lsub, 1) := by decide +kernel
theorem dX11_takesOut_139 : decode cX11_takesOut 139 = .ok (.lastore, 1) := by decide +kernel
theorem dX11_takesOut_140 : decode cX11_takesOut 140 = .ok (.aload_n 0, 1) := by decide +kernel
theorem dX11_takesOut_141 : decode cX11_takesOut 141 = .ok (.getfield 27, 3) := by decide +kernel
theorem dX11_takesOut_144 : decode cX11_takesOut 144 = .ok (.iload 5, 2) := by decide +kernel
theorem dX11_takesOut_146 : decode cX11_takesOut 146 = .ok (.lconst 0, 1) := by decide +kernel
theorem dX11_takesOut_147 : decode cX11_takesOut 147 = .ok (.lastore, 1) := by decide +kernel
theorem dX11_takesOut_148 : decode cX11_takesOut 148 = .ok (.iinc 5 (-1), 3) := by decide +kernel
theorem dX11_takesOut_151 : decode cX11_takesOut 151 = .ok (.goto (-76), 3) := by decide +kernel
theorem dX11_takesOut_154 : decode cX11_takesOut 154 = .ok (.aload_n 0, 1) := by decide +kernel
theorem dX11_takesOut_155 : decode cX11_takesOut 155 = .ok (.getfield 27, 3) := by decide +kernel
theorem dX11_takesOut_158 : decode cX11_takesOut 158 = .ok (.iconst 0, 1) := by decide +kernel
theorem dX11_takesOut_159 : decode cX11_takesOut 159 = .ok (.laload, 1) := by decide +kernel
theorem dX11_takesOut_160 : decode cX11_takesOut 160 = .ok (.lconst 0, 1) := by decide +kernel
theorem dX11_takesOut_161 : decode cX11_takesOut 161 = .ok (.lcmp, 1) := by decide +kernel
theorem dX11_takesOut_162 : decode cX11_takesOut 162 = .ok (.ifCond .ne 14, 3) := by decide +kernel
theorem dX11_takesOut_165 : decode cX11_takesOut 165 = .ok (.aload_n 0, 1) := by decide +kernel
theorem dX11_takesOut_166 : decode cX11_takesOut 166 = .ok (.getfield 27, 3) := by decide +kernel
theorem dX11_takesOut_169 : decode cX11_takesOut 169 = .ok (.iconst 1, 1) := by decide +kernel
theorem dX11_takesOut_170 : decode cX11_takesOut 170 = .ok (.laload, 1) := by decide +kernel
theorem dX11_takesOut_171 : decode cX11_takesOut 171 = .ok (.lconst 0, 1) := by decide +kernel
theorem dX11_takesOut_172 : decode cX11_takesOut 172 = .ok (.lcmp, 1) := by decide +kernel
theorem dX11_takesOut_173 : decode cX11_takesOut 173 = .ok (.ifCond .eq 5, 3) := by decide +kernel
theorem dX11_takesOut_176 : decode cX11_takesOut 176 = .ok (.iconst 0, 1) := by decide +kernel
theorem dX11_takesOut_177 : decode cX11_takesOut 177 = .ok (.ireturn, 1) := by decide +kernel
theorem dX11_takesOut_178 : decode cX11_takesOut 178 = .ok (.iconst 0, 1) := by decide +kernel
theorem dX11_takesOut_179 : decode cX11_takesOut 179 = .ok (.istore 5, 2) := by decide +kernel
theorem dX11_takesOut_181 : decode cX11_takesOut 181 = .ok (.iload 5, 2) := by decide +kernel
theorem dX11_takesOut_183 : decode cX11_takesOut 183 = .ok (.iconst 4, 1) := by decide +kernel
theorem dX11_takesOut_184 : decode cX11_takesOut 184 = .ok (.if_icmp .ge 23, 3) := by decide +kernel
theorem dX11_takesOut_187 : decode cX11_takesOut 187 = .ok (.aload_n 0, 1) := by decide +kernel
theorem dX11_takesOut_188 : decode cX11_takesOut 188 = .ok (.getfield 36, 3) := by decide +kernel
theorem dX11_takesOut_191 : decode cX11_takesOut 191 = .ok (.iload 5, 2) := by decide +kernel
theorem dX11_takesOut_193 : decode cX11_takesOut 193 = .ok (.aload_n 0, 1) := by decide +kernel
theorem dX11_takesOut_194 : decode cX11_takesOut 194 = .ok (.getfield 30, 3) := by decide +kernel
theorem dX11_takesOut_197 : decode cX11_takesOut 197 = .ok (.iload 5, 2) := by decide +kernel
theorem dX11_takesOut_199 : decode cX11_takesOut 199 = .ok (.laload, 1) := by decide +kernel
theorem dX11_takesOut_200 : decode cX11_takesOut 200 = .ok (.lastore, 1) := by decide +kernel
theorem dX11_takesOut_201 : decode cX11_takesOut 201 = .ok (.iinc 5 1, 3) := by decide +kernel
theorem dX11_takesOut_204 : decode cX11_takesOut 204 = .ok (.goto (-23), 3) := by decide +kernel
theorem dX11_takesOut_207 : decode cX11_takesOut 207 = .ok (.iconst 1, 1) := by decide +kernel
theorem dX11_takesOut_208 : decode cX11_takesOut 208 = .ok (.ireturn, 1) := by decide +kernel
theorem dX11_text_0 : decode cX11_text 0 = .ok (.aload_n 0, 1) := by decide +kernel
theorem dX11_text_1 : decode cX11_text 1 = .ok (.iconst 0, 1) := by decide +kernel
theorem dX11_text_2 : decode cX11_text 2 = .ok (.putfield 176, 3) := by decide +kernel
theorem dX11_text_5 : decode cX11_text 5 = .ok (.aload_n 0, 1) := by decide +kernel
theorem dX11_text_6 : decode cX11_text 6 = .ok (.iconst 0, 1) := by decide +kernel
theorem dX11_text_7 : decode cX11_text 7 = .ok (.putfield 190, 3) := by decide +kernel
theorem dX11_text_10 : decode cX11_text 10 = .ok (.iconst 1, 1) := by decide +kernel
theorem dX11_text_11 : decode cX11_text 11 = .ok (.istore_n 1, 1) := by decide +kernel
theorem dX11_text_12 : decode cX11_text 12 = .ok (.iload_n 1, 1) := by decide +kernel
theorem dX11_text_13 : decode cX11_text 13 = .ok (.ifCond .eq 18, 3) := by decide +kernel
theorem dX11_text_16 : decode cX11_text 16 = .ok (.aload_n 0, 1) := by decide +kernel
theorem dX11_text_17 : decode cX11_text 17 = .ok (.invokevirtual 183, 3) := by decide +kernel
theorem dX11_text_20 : decode cX11_text 20 = .ok (.ifCond .lt 11, 3) := by decide +kernel
theorem dX11_text_23 : decode cX11_text 23 = .ok (.aload_n 0, 1) := by decide +kernel
theorem dX11_text_24 : decode cX11_text 24 = .ok (.invokevirtual 199, 3) := by decide +kernel
theorem dX11_text_27 : decode cX11_text 27 = .ok (.istore_n 1, 1) := by decide +kernel
theorem dX11_text_28 : decode cX11_text 28 = .ok (.goto (-16), 3) := by decide +kernel
theorem dX11_text_31 : decode cX11_text 31 = .ok (.aload_n 0, 1) := by decide +kernel
theorem dX11_text_32 : decode cX11_text 32 = .ok (.getfield 176, 3) := by decide +kernel
theorem dX11_text_35 : decode cX11_text 35 = .ok (.istore_n 2, 1) := by decide +kernel
theorem dX11_text_36 : decode cX11_text 36 = .ok (.aload_n 0, 1) := by decide +kernel
theorem dX11_text_37 : decode cX11_text 37 = .ok (.iload_n 1, 1) := by decide +kernel
theorem dX11_text_38 : decode cX11_text 38 = .ok (.ifCond .eq 7, 3) := by decide +kernel
theorem dX11_text_41 : decode cX11_text 41 = .ok (.iconst 0, 1) := by decide +kernel
theorem dX11_text_42 : decode cX11_text 42 = .ok (.goto 7, 3) := by decide +kernel
theorem dX11_text_45 : decode cX11_text 45 = .ok (.aload_n 0, 1) := by decide +kernel
theorem dX11_text_46 : decode cX11_text 46 = .ok (.getfield 171, 3) := by decide +kernel
theorem dX11_text_49 : decode cX11_text 49 = .ok (.putfield 171, 3) := by decide +kernel
theorem dX11_text_52 : decode cX11_text 52 = .ok (.iload_n 1, 1) := by decide +kernel
theorem dX11_text_53 : decode cX11_text 53 = .ok (.ifCond .ne 13, 3) := by decide +kernel
theorem dX11_text_56 : decode cX11_text 56 = .ok (.aload_n 0, 1) := by decide +kernel
theorem dX11_text_57 : decode cX11_text 57 = .ok (.iconst 0, 1) := by decide +kernel
theorem dX11_text_58 : decode cX11_text 58 = .ok (.putfield 171, 3) := by decide +kernel
theorem dX11_text_61 : decode cX11_text 61 = .ok (.bipush (-100), 2) := by decide +kernel
theorem dX11_text_63 : decode cX11_text 63 = .ok (.iload_n 2, 1) := by decide +kernel
theorem dX11_text_64 : decode cX11_text 64 = .ok (.isub, 1) := by decide +kernel
theorem dX11_text_65 : decode cX11_text 65 = .ok (.ireturn, 1) := by decide +kernel
theorem dX11_text_66 : decode cX11_text 66 = .ok (.aload_n 0, 1) := by decide +kernel
theorem dX11_text_67 : decode cX11_text 67 = .ok (.aload_n 0, 1) := by decide +kernel
theorem dX11_text_68 : decode cX11_text 68 = .ok (.getfield 190, 3) := by decide +kernel
theorem dX11_text_71 : decode cX11_text 71 = .ok (.putfield 85, 3) := by decide +kernel
theorem dX11_text_74 : decode cX11_text 74 = .ok (.iconst 0, 1) := by decide +kernel
theorem dX11_text_75 : decode cX11_text 75 = .ok (.istore_n 3, 1) := by decide +kernel
theorem dX11_text_76 : decode cX11_text 76 = .ok (.iload_n 3, 1) := by decide +kernel
theorem dX11_text_77 : decode cX11_text 77 = .ok (.bipush 36, 2) := by decide +kernel
theorem dX11_text_79 : decode cX11_text 79 = .ok (.if_icmp .ge 41, 3) := by decide +kernel
theorem dX11_text_82 : decode cX11_text 82 = .ok (.aload_n 0, 1) := by decide +kernel
theorem dX11_text_83 : decode cX11_text 83 = .ok (.getfield 16, 3) := by decide +kernel
theorem dX11_text_86 : decode cX11_text 86 = .ok (.iload_n 3, 1) := by decide +kernel
theorem dX11_text_87 : decode cX11_text 87 = .ok (.iload_n 3, 1) := by decide +kernel
theorem dX11_text_88 : decode cX11_text 88 = .ok (.bipush 9, 2) := by decide +kernel
theorem dX11_text_90 : decode cX11_text 90 = .ok (.aload_n 0, 1) := by decide +kernel
theorem dX11_text_91 : decode cX11_text 91 = .ok (.getfield 85, 3) := by decide +kernel
theorem dX11_text_94 : decode cX11_text 94 = .ok (.imul, 1) := by decide +kernel
theorem dX11_text_95 : decode cX11_text 95 = .ok (.if_icmp .ge 12, 3) := by decide +kernel
theorem dX11_text_98 : decode cX11_text 98 = .ok (.aload_n 0, 1) := by decide +kernel
theorem dX11_text_99 : decode cX11_text 99 = .ok (.getfield 42, 3) := by decide +kernel
theorem dX11_text_102 : decode cX11_text 102 = .ok (.iload_n 3, 1) := by decide +kernel
theorem dX11_text_103 : decode cX11_text 103 = .ok (.iaload, 1) := by decide +kernel
theorem dX11_text_104 : decode cX11_text 104 = .ok (.goto 9, 3) := by decide +kernel
theorem dX11_text_107 : decode cX11_text 107 = .ok (.aload_n 0, 1) := by decide +kernel
theorem dX11_text_108 : decode cX11_text 108 = .ok (.getfield 16, 3) := by decide +kernel
theorem dX11_text_111 : decode cX11_text 111 = .ok (.iload_n 3, 1) := by decide +kernel
theorem dX11_text_112 : decode cX11_text 112 = .ok (.iaload, 1) := by decide +kernel
theorem dX11_text_113 : decode cX11_text 113 = .ok (.iastore, 1) := by decide +kernel
theorem dX11_text_114 : decode cX11_text 114 = .ok (.iinc 3 1, 3) := by decide +kernel
theorem dX11_text_117 : decode cX11_text 117 = .ok (.goto (-41), 3) := by decide +kernel
theorem dX11_text_120 : decode cX11_text 120 = .ok (.aload_n 0, 1) := by decide +kernel
theorem dX11_text_121 : decode cX11_text 121 = .ok (.iconst 0, 1) := by decide +kernel
theorem dX11_text_122 : decode cX11_text 122 = .ok (.putfield 98, 3) := by decide +kernel
theorem dX11_text_125 : decode cX11_text 125 = .ok (.aload_n 0, 1) := by decide +kernel
theorem dX11_text_126 : decode cX11_text 126 = .ok (.iconst 0, 1) := by decide +kernel
theorem dX11_text_127 : decode cX11_text 127 = .ok (.putfield 102, 3) := by decide +kernel
theorem dX11_text_130 : decode cX11_text 130 = .ok (.aload_n 0, 1) := by decide +kernel
theorem dX11_text_131 : decode cX11_text 131 = .ok (.getfield 85, 3) := by decide +kernel
theorem dX11_text_134 : decode cX11_text 134 = .ok (.ireturn, 1) := by decide +kernel
theorem dX11_times_0 : decode cX11_times 0 = .ok (.aload_n 0, 1) := by decide +kernel
theorem dX11_times_1 : decode cX11_times 1 = .ok (.aload_n 3, 1) := by decide +kernel
theorem dX11_times_2 : decode cX11_times 2 = .ok (.invokevirtual 90, 3) := by decide +kernel
theorem dX11_times_5 : decode cX11_times 5 = .ok (.iconst 0, 1) := by decide +kernel
theorem dX11_times_6 : decode cX11_times 6 = .ok (.istore 4, 2) := by decide +kernel
theorem dX11_times_8 : decode cX11_times 8 = .ok (.iload 4, 2) := by decide +kernel
theorem dX11_times_10 : decode cX11_times 10 = .ok (.aload_n 0, 1) := by decide +kernel
theorem dX11_times_11 : decode cX11_times 11 = .ok (.getfield 7, 3) := by decide +kernel
theorem dX11_times_14 : decode cX11_times 14 = .ok (.if_icmp .ge 76, 3) := by decide +kernel
theorem dX11_times_17 : decode cX11_times 17 = .ok (.iconst 0, 1) := by decide +kernel
theorem dX11_times_18 : decode cX11_times 18 = .ok (.istore 5, 2) := by decide +kernel
theorem dX11_times_20 : decode cX11_times 20 = .ok (.iload 5, 2) := by decide +kernel
theorem dX11_times_22 : decode cX11_times 22 = .ok (.aload_n 0, 1) := by decide +kernel
theorem dX11_times_23 : decode cX11_times 23 = .ok (.getfield 7, 3) := by decide +kernel
theorem dX11_times_26 : decode cX11_times 26 = .ok (.if_icmp .ge 58, 3) := by decide +kernel
theorem dX11_times_29 : decode cX11_times 29 = .ok (.iconst 0, 1) := by decide +kernel
theorem dX11_times_30 : decode cX11_times 30 = .ok (.istore 6, 2) := by decide +kernel
theorem dX11_times_32 : decode cX11_times 32 = .ok (.iload 6, 2) := by decide +kernel
theorem dX11_times_34 : decode cX11_times 34 = .ok (.aload_n 0, 1) := by decide +kernel
theorem dX11_times_35 : decode cX11_times 35 = .ok (.getfield 7, 3) := by decide +kernel
theorem dX11_times_38 : decode cX11_times 38 = .ok (.if_icmp .ge 40, 3) := by decide +kernel
theorem dX11_times_41 : decode cX11_times 41 = .ok (.aload_n 3, 1) := by decide +kernel
theorem dX11_times_42 : decode cX11_times 42 = .ok (.iconst 3, 1) := by decide +kernel
theorem dX11_times_43 : decode cX11_times 43 = .ok (.iload 4, 2) := by decide +kernel
theorem dX11_times_45 : decode cX11_times 45 = .ok (.imul, 1) := by decide +kernel
theorem dX11_times_46 : decode cX11_times 46 = .ok (.iload 5, 2) := by decide +kernel
theorem dX11_times_48 : decode cX11_times 48 = .ok (.iadd, 1) := by decide +kernel
theorem dX11_times_49 : decode cX11_times 49 = .ok (.dup2, 1) := by decide +kernel
theorem dX11_times_50 : decode cX11_times 50 = .ok (.laload, 1) := by decide +kernel
theorem dX11_times_51 : decode cX11_times 51 = .ok (.aload_n 1, 1) := by decide +kernel
theorem dX11_times_52 : decode cX11_times 52 = .ok (.iconst 3, 1) := by decide +kernel
theorem dX11_times_53 : decode cX11_times 53 = .ok (.iload 4, 2) := by decide +kernel
theorem dX11_times_55 : decode cX11_times 55 = .ok (.imul, 1) := by decide +kernel
theorem dX11_times_56 : decode cX11_times 56 = .ok (.iload 6, 2) := by decide +kernel
theorem dX11_times_58 : decode cX11_times 58 = .ok (.iadd, 1) := by decide +kernel
theorem dX11_times_59 : decode cX11_times 59 = .ok (.laload, 1) := by decide +kernel
theorem dX11_times_60 : decode cX11_times 60 = .ok (.aload_n 2, 1) := by decide +kernel
theorem dX11_times_61 : decode cX11_times 61 = .ok (.iconst 3, 1) := by decide +kernel
theorem dX11_times_62 : decode cX11_times 62 = .ok (.iload 6, 2) := by decide +kernel
theorem dX11_times_64 : decode cX11_times 64 = .ok (.imul, 1) := by decide +kernel
theorem dX11_times_65 : decode cX11_times 65 = .ok (.iload 5, 2) := by decide +kernel
theorem dX11_times_67 : decode cX11_times 67 = .ok (.iadd, 1) := by decide +kernel
theorem dX11_times_68 : decode cX11_times 68 = .ok (.laload, 1) := by decide +kernel
theorem dX11_times_69 : decode cX11_times 69 = .ok (.lmul, 1) := by decide +kernel
theorem dX11_times_70 : decode cX11_times 70 = .ok (.ladd, 1) := by decide +kernel
theorem dX11_times_71 : decode cX11_times 71 = .ok (.lastore, 1) := by decide +kernel
theorem dX11_times_72 : decode cX11_times 72 = .ok (.iinc 6 1, 3) := by decide +kernel
theorem dX11_times_75 : decode cX11_times 75 = .ok (.goto (-43), 3) := by decide +kernel
theorem dX11_times_78 : decode cX11_times 78 = .ok (.iinc 5 1, 3) := by decide +kernel
theorem dX11_times_81 : decode cX11_times 81 = .ok (.goto (-61), 3) := by decide +kernel
theorem dX11_times_84 : decode cX11_times 84 = .ok (.iinc 4 1, 3) := by decide +kernel
theorem dX11_times_87 : decode cX11_times 87 = .ok (.goto (-79), 3) := by decide +kernel
theorem dX11_times_90 : decode cX11_times 90 = .ok (.return_, 1) := by decide +kernel
theorem dX11_told_0 : decode cX11_told 0 = .ok (.iconst 0, 1) := by decide +kernel
theorem dX11_told_1 : decode cX11_told 1 = .ok (.istore_n 3, 1) := by decide +kernel
theorem dX11_told_2 : decode cX11_told 2 = .ok (.iconst 0, 1) := by decide +kernel
theorem dX11_told_3 : decode cX11_told 3 = .ok (.istore 4, 2) := by decide +kernel
theorem dX11_told_5 : decode cX11_told 5 = .ok (.iload 4, 2) := by decide +kernel
theorem dX11_told_7 : decode cX11_told 7 = .ok (.bipush 9, 2) := by decide +kernel
theorem dX11_told_9 : decode cX11_told 9 = .ok (.if_icmp .ge 38, 3) := by decide +kernel
theorem dX11_told_12 : decode cX11_told 12 = .ok (.aload_n 1, 1) := by decide +kernel
theorem dX11_told_13 : decode cX11_told 13 = .ok (.iload 4, 2) := by decide +kernel
theorem dX11_told_15 : decode cX11_told 15 = .ok (.laload, 1) := by decide +kernel
theorem dX11_told_16 : decode cX11_told 16 = .ok (.iload_n 2, 1) := by decide +kernel
theorem dX11_told_17 : decode cX11_told 17 = .ok (.i2l, 1) := by decide +kernel
theorem dX11_told_18 : decode cX11_told 18 = .ok (.lrem, 1) := by decide +kernel
theorem dX11_told_19 : decode cX11_told 19 = .ok (.l2i, 1) := by decide +kernel
theorem dX11_told_20 : decode cX11_told 20 = .ok (.istore 5, 2) := by decide +kernel
theorem dX11_told_22 : decode cX11_told 22 = .ok (.iload_n 2, 1) := by decide +kernel
theorem dX11_told_23 : decode cX11_told 23 = .ok (.iload_n 3, 1) := by decide +kernel
theorem dX11_told_24 : decode cX11_told 24 = .ok (.imul, 1) := by decide +kernel
theorem dX11_told_25 : decode cX11_told 25 = .ok (.iload 5, 2) := by decide +kernel
theorem dX11_told_27 : decode cX11_told 27 = .ok (.ifCond .ge 10, 3) := by decide +kernel
theorem dX11_told_30 : decode cX11_told 30 = .ok (.iload 5, 2) := by decide +kernel
theorem dX11_told_32 : decode cX11_told 32 = .ok (.iload_n 2, 1) := by decide +kernel
theorem dX11_told_33 : decode cX11_told 33 = .ok (.iadd, 1) := by decide +kernel
theorem dX11_told_34 : decode cX11_told 34 = .ok (.goto 5, 3) := by decide +kernel
theorem dX11_told_37 : decode cX11_told 37 = .ok (.iload 5, 2) := by decide +kernel
theorem dX11_told_39 : decode cX11_told 39 = .ok (.iadd, 1) := by decide +kernel
theorem dX11_told_40 : decode cX11_told 40 = .ok (.istore_n 3, 1) := by decide +kernel
theorem dX11_told_41 : decode cX11_told 41 = .ok (.iinc 4 1, 3) := by decide +kernel
theorem dX11_told_44 : decode cX11_told 44 = .ok (.goto (-39), 3) := by decide +kernel
theorem dX11_told_47 : decode cX11_told 47 = .ok (.iload_n 3, 1) := by decide +kernel
theorem dX11_told_48 : decode cX11_told 48 = .ok (.ireturn, 1) := by decide +kernel
theorem dX11_unit_0 : decode cX11_unit 0 = .ok (.aload_n 0, 1) := by decide +kernel
theorem dX11_unit_1 : decode cX11_unit 1 = .ok (.iload_n 1, 1) := by decide +kernel
theorem dX11_unit_2 : decode cX11_unit 2 = .ok (.invokevirtual 110, 3) := by decide +kernel
theorem dX11_unit_5 : decode cX11_unit 5 = .ok (.ifCond .eq 43, 3) := by decide +kernel
theorem dX11_unit_8 : decode cX11_unit 8 = .ok (.aload_n 0, 1) := by decide +kernel
theorem dX11_unit_9 : decode cX11_unit 9 = .ok (.iload_n 2, 1) := by decide +kernel
theorem dX11_unit_10 : decode cX11_unit 10 = .ok (.invokevirtual 110, 3) := by decide +kernel
theorem dX11_unit_13 : decode cX11_unit 13 = .ok (.ifCond .eq 35, 3) := by decide +kernel
theorem dX11_unit_16 : decode cX11_unit 16 = .ok (.iload_n 1, 1) := by decide +kernel
theorem dX11_unit_17 : decode cX11_unit 17 = .ok (.iload_n 2, 1) := by decide +kernel
theorem dX11_unit_18 : decode cX11_unit 18 = .ok (.if_icmp .ne 16, 3) := by decide +kernel
theorem dX11_unit_21 : decode cX11_unit 21 = .ok (.iload_n 3, 1) := by decide +kernel
theorem dX11_unit_22 : decode cX11_unit 22 = .ok (.iconst 1, 1) := by decide +kernel
theorem dX11_unit_23 : decode cX11_unit 23 = .ok (.if_icmp .eq 27, 3) := by decide +kernel
theorem dX11_unit_26 : decode cX11_unit 26 = .ok (.iload_n 3, 1) := by decide +kernel
theorem dX11_unit_27 : decode cX11_unit 27 = .ok (.iconst (-1), 1) := by decide +kernel
theorem dX11_unit_28 : decode cX11_unit 28 = .ok (.if_icmp .eq 22, 3) := by decide +kernel
theorem dX11_unit_31 : decode cX11_unit 31 = .ok (.goto 17, 3) := by decide +kernel
theorem dX11_unit_34 : decode cX11_unit 34 = .ok (.iload_n 3, 1) := by decide +kernel
theorem dX11_unit_35 : decode cX11_unit 35 = .ok (.i2l, 1) := by decide +kernel
theorem dX11_unit_36 : decode cX11_unit 36 = .ok (.ldc2_w 94, 3) := by decide +kernel
theorem dX11_unit_39 : decode cX11_unit 39 = .ok (.ldc2_w 96, 3) := by decide +kernel
theorem dX11_unit_42 : decode cX11_unit 42 = .ok (.invokestatic 81, 3) := by decide +kernel
theorem dX11_unit_45 : decode cX11_unit 45 = .ok (.ifCond .ne 5, 3) := by decide +kernel
theorem dX11_unit_48 : decode cX11_unit 48 = .ok (.iconst (-1), 1) := by decide +kernel
theorem dX11_unit_49 : decode cX11_unit 49 = .ok (.ireturn, 1) := by decide +kernel
theorem dX11_unit_50 : decode cX11_unit 50 = .ok (.aload_n 0, 1) := by decide +kernel
theorem dX11_unit_51 : decode cX11_unit 51 = .ok (.getfield 85, 3) := by decide +kernel
theorem dX11_unit_54 : decode cX11_unit 54 = .ok (.iconst 4, 1) := by decide +kernel
theorem dX11_unit_55 : decode cX11_unit 55 = .ok (.if_icmp .ne 6, 3) := by decide +kernel
theorem dX11_unit_58 : decode cX11_unit 58 = .ok (.bipush (-2), 2) := by decide +kernel
theorem dX11_unit_60 : decode cX11_unit 60 = .ok (.ireturn, 1) := by decide +kernel
theorem dX11_unit_61 : decode cX11_unit 61 = .ok (.aload_n 0, 1) := by decide +kernel
theorem dX11_unit_62 : decode cX11_unit 62 = .ok (.iload_n 1, 1) := by decide +kernel
theorem dX11_unit_63 : decode cX11_unit 63 = .ok (.iload_n 2, 1) := by decide +kernel
theorem dX11_unit_64 : decode cX11_unit 64 = .ok (.iload_n 3, 1) := by decide +kernel
theorem dX11_unit_65 : decode cX11_unit 65 = .ok (.invokevirtual 114, 3) := by decide +kernel
theorem dX11_unit_68 : decode cX11_unit 68 = .ok (.aload_n 0, 1) := by decide +kernel
theorem dX11_unit_69 : decode cX11_unit 69 = .ok (.invokevirtual 118, 3) := by decide +kernel
theorem dX11_unit_72 : decode cX11_unit 72 = .ok (.ireturn, 1) := by decide +kernel
theorem dX11_untold_0 : decode cX11_untold 0 = .ok (.iload_n 1, 1) := by decide +kernel
theorem dX11_untold_1 : decode cX11_untold 1 = .ok (.istore 4, 2) := by decide +kernel
theorem dX11_untold_3 : decode cX11_untold 3 = .ok (.bipush 8, 2) := by decide +kernel
theorem dX11_untold_5 : decode cX11_untold 5 = .ok (.istore 5, 2) := by decide +kernel
theorem dX11_untold_7 : decode cX11_untold 7 = .ok (.iload 5, 2) := by decide +kernel
theorem dX11_untold_9 : decode cX11_untold 9 = .ok (.ifCond .lt 24, 3) := by decide +kernel
theorem dX11_untold_12 : decode cX11_untold 12 = .ok (.aload_n 3, 1) := by decide +kernel
theorem dX11_untold_13 : decode cX11_untold 13 = .ok (.iload 5, 2) := by decide +kernel
theorem dX11_untold_15 : decode cX11_untold 15 = .ok (.iload 4, 2) := by decide +kernel
theorem dX11_untold_17 : decode cX11_untold 17 = .ok (.iload_n 2, 1) := by decide +kernel
theorem dX11_untold_18 : decode cX11_untold 18 = .ok (.irem, 1) := by decide +kernel
theorem dX11_untold_19 : decode cX11_untold 19 = .ok (.i2l, 1) := by decide +kernel
theorem dX11_untold_20 : decode cX11_untold 20 = .ok (.lastore, 1) := by decide +kernel
theorem dX11_untold_21 : decode cX11_untold 21 = .ok (.iload 4, 2) := by decide +kernel
theorem dX11_untold_23 : decode cX11_untold 23 = .ok (.iload_n 2, 1) := by decide +kernel
theorem dX11_untold_24 : decode cX11_untold 24 = .ok (.idiv, 1) := by decide +kernel
theorem dX11_untold_25 : decode cX11_untold 25 = .ok (.istore 4, 2) := by decide +kernel
theorem dX11_untold_27 : decode cX11_untold 27 = .ok (.iinc 5 (-1), 3) := by decide +kernel
theorem dX11_untold_30 : decode cX11_untold 30 = .ok (.goto (-23), 3) := by decide +kernel
theorem dX11_untold_33 : decode cX11_untold 33 = .ok (.return_, 1) := by decide +kernel
theorem dX11_whole_0 : decode cX11_whole 0 = .ok (.aload_n 0, 1) := by decide +kernel
theorem dX11_whole_1 : decode cX11_whole 1 = .ok (.invokevirtual 219, 3) := by decide +kernel
theorem dX11_whole_4 : decode cX11_whole 4 = .ok (.aload_n 0, 1) := by decide +kernel
theorem dX11_whole_5 : decode cX11_whole 5 = .ok (.getfield 216, 3) := by decide +kernel
theorem dX11_whole_8 : decode cX11_whole 8 = .ok (.ifCond .eq 7, 3) := by decide +kernel
theorem dX11_whole_11 : decode cX11_whole 11 = .ok (.iconst 1, 1) := by decide +kernel
theorem dX11_whole_12 : decode cX11_whole 12 = .ok (.goto 4, 3) := by decide +kernel
theorem dX11_whole_15 : decode cX11_whole 15 = .ok (.iconst 0, 1) := by decide +kernel
theorem dX11_whole_16 : decode cX11_whole 16 = .ok (.ireturn, 1) := by decide +kernel
theorem dX11_without_0 : decode cX11_without 0 = .ok (.aload_n 0, 1) := by decide +kernel
theorem dX11_without_1 : decode cX11_without 1 = .ok (.getfield 7, 3) := by decide +kernel
theorem dX11_without_4 : decode cX11_without 4 = .ok (.iconst 1, 1) := by decide +kernel
theorem dX11_without_5 : decode cX11_without 5 = .ok (.if_icmp .ne 5, 3) := by decide +kernel
theorem dX11_without_8 : decode cX11_without 8 = .ok (.lconst 1, 1) := by decide +kernel
theorem dX11_without_9 : decode cX11_without 9 = .ok (.lreturn, 1) := by decide +kernel
theorem dX11_without_10 : decode cX11_without 10 = .ok (.iload_n 2, 1) := by decide +kernel
theorem dX11_without_11 : decode cX11_without 11 = .ok (.ifCond .ne 7, 3) := by decide +kernel
theorem dX11_without_14 : decode cX11_without 14 = .ok (.iconst 1, 1) := by decide +kernel
theorem dX11_without_15 : decode cX11_without 15 = .ok (.goto 4, 3) := by decide +kernel
theorem dX11_without_18 : decode cX11_without 18 = .ok (.iconst 0, 1) := by decide +kernel
theorem dX11_without_19 : decode cX11_without 19 = .ok (.istore 4, 2) := by decide +kernel
theorem dX11_without_21 : decode cX11_without 21 = .ok (.iload_n 3, 1) := by decide +kernel
theorem dX11_without_22 : decode cX11_without 22 = .ok (.ifCond .ne 7, 3) := by decide +kernel
theorem dX11_without_25 : decode cX11_without 25 = .ok (.iconst 1, 1) := by decide +kernel
theorem dX11_without_26 : decode cX11_without 26 = .ok (.goto 4, 3) := by decide +kernel
theorem dX11_without_29 : decode cX11_without 29 = .ok (.iconst 0, 1) := by decide +kernel
theorem dX11_without_30 : decode cX11_without 30 = .ok (.istore 5, 2) := by decide +kernel
theorem dX11_without_32 : decode cX11_without 32 = .ok (.aload_n 0, 1) := by decide +kernel
theorem dX11_without_33 : decode cX11_without 33 = .ok (.getfield 7, 3) := by decide +kernel
theorem dX11_without_36 : decode cX11_without 36 = .ok (.iconst 2, 1) := by decide +kernel
theorem dX11_without_37 : decode cX11_without 37 = .ok (.if_icmp .ne 13, 3) := by decide +kernel
theorem dX11_without_40 : decode cX11_without 40 = .ok (.aload_n 1, 1) := by decide +kernel
theorem dX11_without_41 : decode cX11_without 41 = .ok (.iconst 3, 1) := by decide +kernel
theorem dX11_without_42 : decode cX11_without 42 = .ok (.iload 4, 2) := by decide +kernel
theorem dX11_without_44 : decode cX11_without 44 = .ok (.imul, 1) := by decide +kernel
theorem dX11_without_45 : decode cX11_without 45 = .ok (.iload 5, 2) := by decide +kernel
theorem dX11_without_47 : decode cX11_without 47 = .ok (.iadd, 1) := by decide +kernel
theorem dX11_without_48 : decode cX11_without 48 = .ok (.laload, 1) := by decide +kernel
theorem dX11_without_49 : decode cX11_without 49 = .ok (.lreturn, 1) := by decide +kernel
theorem dX11_without_50 : decode cX11_without 50 = .ok (.iload_n 2, 1) := by decide +kernel
theorem dX11_without_51 : decode cX11_without 51 = .ok (.iconst 2, 1) := by decide +kernel
theorem dX11_without_52 : decode cX11_without 52 = .ok (.if_icmp .ne 7, 3) := by decide +kernel
theorem dX11_without_55 : decode cX11_without 55 = .ok (.iconst 1, 1) := by decide +kernel
theorem dX11_without_56 : decode cX11_without 56 = .ok (.goto 4, 3) := by decide +kernel
theorem dX11_without_59 : decode cX11_without 59 = .ok (.iconst 2, 1) := by decide +kernel
theorem dX11_without_60 : decode cX11_without 60 = .ok (.istore 6, 2) := by decide +kernel
theorem dX11_without_62 : decode cX11_without 62 = .ok (.iload_n 3, 1) := by decide +kernel
theorem dX11_without_63 : decode cX11_without 63 = .ok (.iconst 2, 1) := by decide +kernel
theorem dX11_without_64 : decode cX11_without 64 = .ok (.if_icmp .ne 7, 3) := by decide +kernel
theorem dX11_without_67 : decode cX11_without 67 = .ok (.iconst 1, 1) := by decide +kernel
theorem dX11_without_68 : decode cX11_without 68 = .ok (.goto 4, 3) := by decide +kernel
theorem dX11_without_71 : decode cX11_without 71 = .ok (.iconst 2, 1) := by decide +kernel
theorem dX11_without_72 : decode cX11_without 72 = .ok (.istore 7, 2) := by decide +kernel
theorem dX11_without_74 : decode cX11_without 74 = .ok (.aload_n 1, 1) := by decide +kernel
theorem dX11_without_75 : decode cX11_without 75 = .ok (.iconst 3, 1) := by decide +kernel
theorem dX11_without_76 : decode cX11_without 76 = .ok (.iload 4, 2) := by decide +kernel
theorem dX11_without_78 : decode cX11_without 78 = .ok (.imul, 1) := by decide +kernel
theorem dX11_without_79 : decode cX11_without 79 = .ok (.iload 5, 2) := by decide +kernel
theorem dX11_without_81 : decode cX11_without 81 = .ok (.iadd, 1) := by decide +kernel
theorem dX11_without_82 : decode cX11_without 82 = .ok (.laload, 1) := by decide +kernel
theorem dX11_without_83 : decode cX11_without 83 = .ok (.aload_n 1, 1) := by decide +kernel
theorem dX11_without_84 : decode cX11_without 84 = .ok (.iconst 3, 1) := by decide +kernel
theorem dX11_without_85 : decode cX11_without 85 = .ok (.iload 6, 2) := by decide +kernel
theorem dX11_without_87 : decode cX11_without 87 = .ok (.imul, 1) := by decide +kernel
theorem dX11_without_88 : decode cX11_without 88 = .ok (.iload 7, 2) := by decide +kernel
theorem dX11_without_90 : decode cX11_without 90 = .ok (.iadd, 1) := by decide +kernel
theorem dX11_without_91 : decode cX11_without 91 = .ok (.laload, 1) := by decide +kernel
theorem dX11_without_92 : decode cX11_without 92 = .ok (.lmul, 1) := by decide +kernel
theorem dX11_without_93 : decode cX11_without 93 = .ok (.aload_n 1, 1) := by decide +kernel
theorem dX11_without_94 : decode cX11_without 94 = .ok (.iconst 3, 1) := by decide +kernel
theorem dX11_without_95 : decode cX11_without 95 = .ok (.iload 4, 2) := by decide +kernel
theorem dX11_without_97 : decode cX11_without 97 = .ok (.imul, 1) := by decide +kernel
theorem dX11_without_98 : decode cX11_without 98 = .ok (.iload 7, 2) := by decide +kernel
theorem dX11_without_100 : decode cX11_without 100 = .ok (.iadd, 1) := by decide +kernel
theorem dX11_without_101 : decode cX11_without 101 = .ok (.laload, 1) := by decide +kernel
theorem dX11_without_102 : decode cX11_without 102 = .ok (.aload_n 1, 1) := by decide +kernel
theorem dX11_without_103 : decode cX11_without 103 = .ok (.iconst 3, 1) := by decide +kernel
theorem dX11_without_104 : decode cX11_without 104 = .ok (.iload 6, 2) := by decide +kernel
theorem dX11_without_106 : decode cX11_without 106 = .ok (.imul, 1) := by decide +kernel
theorem dX11_without_107 : decode cX11_without 107 = .ok (.iload 5, 2) := by decide +kernel
theorem dX11_without_109 : decode cX11_without 109 = .ok (.iadd, 1) := by decide +kernel
theorem dX11_without_110 : decode cX11_without 110 = .ok (.laload, 1) := by decide +kernel
theorem dX11_without_111 : decode cX11_without 111 = .ok (.lmul, 1) := by decide +kernel
theorem dX11_without_112 : decode cX11_without 112 = .ok (.lsub, 1) := by decide +kernel
theorem dX11_without_113 : decode cX11_without 113 = .ok (.lreturn, 1) := by decide +kernel
theorem dX11_witness_0 : decode cX11_witness 0 = .ok (.aload_n 0, 1) := by decide +kernel
theorem dX11_witness_1 : decode cX11_witness 1 = .ok (.invokevirtual 219, 3) := by decide +kernel
theorem dX11_witness_4 : decode cX11_witness 4 = .ok (.iconst 0, 1) := by decide +kernel
