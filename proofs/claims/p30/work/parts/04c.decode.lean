theorem dX11_round_18 : decode cX11_round 18 = .ok (.ifCond .ne 6, 3) := by decide +kernel
theorem dX11_round_21 : decode cX11_round 21 = .ok (.bipush (-3), 2) := by decide +kernel
theorem dX11_round_23 : decode cX11_round 23 = .ok (.ireturn, 1) := by decide +kernel
theorem dX11_round_24 : decode cX11_round 24 = .ok (.iload_n 1, 1) := by decide +kernel
theorem dX11_round_25 : decode cX11_round 25 = .ok (.ifCond .ne 10, 3) := by decide +kernel
theorem dX11_round_28 : decode cX11_round 28 = .ok (.aload_n 0, 1) := by decide +kernel
theorem dX11_round_29 : decode cX11_round 29 = .ok (.getfield 102, 3) := by decide +kernel
theorem dX11_round_32 : decode cX11_round 32 = .ok (.goto 39, 3) := by decide +kernel
theorem dX11_round_35 : decode cX11_round 35 = .ok (.iload_n 1, 1) := by decide +kernel
theorem dX11_round_36 : decode cX11_round 36 = .ok (.iconst 1, 1) := by decide +kernel
theorem dX11_round_37 : decode cX11_round 37 = .ok (.if_icmp .ne 18, 3) := by decide +kernel
theorem dX11_round_40 : decode cX11_round 40 = .ok (.aload_n 0, 1) := by decide +kernel
theorem dX11_round_41 : decode cX11_round 41 = .ok (.getfield 275, 3) := by decide +kernel
theorem dX11_round_44 : decode cX11_round 44 = .ok (.ifCond .eq 7, 3) := by decide +kernel
theorem dX11_round_47 : decode cX11_round 47 = .ok (.iconst 1, 1) := by decide +kernel
theorem dX11_round_48 : decode cX11_round 48 = .ok (.goto 23, 3) := by decide +kernel
theorem dX11_round_51 : decode cX11_round 51 = .ok (.iconst 0, 1) := by decide +kernel
theorem dX11_round_52 : decode cX11_round 52 = .ok (.goto 19, 3) := by decide +kernel
theorem dX11_round_55 : decode cX11_round 55 = .ok (.aload_n 0, 1) := by decide +kernel
theorem dX11_round_56 : decode cX11_round 56 = .ok (.getfield 275, 3) := by decide +kernel
theorem dX11_round_59 : decode cX11_round 59 = .ok (.ifCond .eq 10, 3) := by decide +kernel
theorem dX11_round_62 : decode cX11_round 62 = .ok (.aload_n 0, 1) := by decide +kernel
theorem dX11_round_63 : decode cX11_round 63 = .ok (.invokevirtual 280, 3) := by decide +kernel
theorem dX11_round_66 : decode cX11_round 66 = .ok (.goto 5, 3) := by decide +kernel
theorem dX11_round_69 : decode cX11_round 69 = .ok (.bipush (-3), 2) := by decide +kernel
theorem dX11_round_71 : decode cX11_round 71 = .ok (.ireturn, 1) := by decide +kernel
theorem dX11_roundNow_0 : decode cX11_roundNow 0 = .ok (.iconst 0, 1) := by decide +kernel
theorem dX11_roundNow_1 : decode cX11_roundNow 1 = .ok (.istore_n 1, 1) := by decide +kernel
theorem dX11_roundNow_2 : decode cX11_roundNow 2 = .ok (.iload_n 1, 1) := by decide +kernel
theorem dX11_roundNow_3 : decode cX11_roundNow 3 = .ok (.aload_n 0, 1) := by decide +kernel
theorem dX11_roundNow_4 : decode cX11_roundNow 4 = .ok (.getfield 102, 3) := by decide +kernel
theorem dX11_roundNow_7 : decode cX11_roundNow 7 = .ok (.if_icmp .ge 16, 3) := by decide +kernel
theorem dX11_roundNow_10 : decode cX11_roundNow 10 = .ok (.aload_n 0, 1) := by decide +kernel
theorem dX11_roundNow_11 : decode cX11_roundNow 11 = .ok (.getfield 66, 3) := by decide +kernel
theorem dX11_roundNow_14 : decode cX11_roundNow 14 = .ok (.iload_n 1, 1) := by decide +kernel
theorem dX11_roundNow_15 : decode cX11_roundNow 15 = .ok (.iload_n 1, 1) := by decide +kernel
theorem dX11_roundNow_16 : decode cX11_roundNow 16 = .ok (.iastore, 1) := by decide +kernel
theorem dX11_roundNow_17 : decode cX11_roundNow 17 = .ok (.iinc 1 1, 3) := by decide +kernel
theorem dX11_roundNow_20 : decode cX11_roundNow 20 = .ok (.goto (-18), 3) := by decide +kernel
theorem dX11_roundNow_23 : decode cX11_roundNow 23 = .ok (.iconst 1, 1) := by decide +kernel
theorem dX11_roundNow_24 : decode cX11_roundNow 24 = .ok (.istore_n 1, 1) := by decide +kernel
theorem dX11_roundNow_25 : decode cX11_roundNow 25 = .ok (.iconst 0, 1) := by decide +kernel
theorem dX11_roundNow_26 : decode cX11_roundNow 26 = .ok (.istore_n 2, 1) := by decide +kernel
theorem dX11_roundNow_27 : decode cX11_roundNow 27 = .ok (.iload_n 2, 1) := by decide +kernel
theorem dX11_roundNow_28 : decode cX11_roundNow 28 = .ok (.iload_n 1, 1) := by decide +kernel
theorem dX11_roundNow_29 : decode cX11_roundNow 29 = .ok (.if_icmp .ge 193, 3) := by decide +kernel
theorem dX11_roundNow_32 : decode cX11_roundNow 32 = .ok (.iconst 0, 1) := by decide +kernel
theorem dX11_roundNow_33 : decode cX11_roundNow 33 = .ok (.istore_n 3, 1) := by decide +kernel
theorem dX11_roundNow_34 : decode cX11_roundNow 34 = .ok (.iload_n 3, 1) := by decide +kernel
theorem dX11_roundNow_35 : decode cX11_roundNow 35 = .ok (.aload_n 0, 1) := by decide +kernel
theorem dX11_roundNow_36 : decode cX11_roundNow 36 = .ok (.getfield 85, 3) := by decide +kernel
theorem dX11_roundNow_39 : decode cX11_roundNow 39 = .ok (.if_icmp .ge 177, 3) := by decide +kernel
theorem dX11_roundNow_42 : decode cX11_roundNow 42 = .ok (.iload_n 1, 1) := by decide +kernel
theorem dX11_roundNow_43 : decode cX11_roundNow 43 = .ok (.sipush 200, 3) := by decide +kernel
theorem dX11_roundNow_46 : decode cX11_roundNow 46 = .ok (.if_icmp .ge 170, 3) := by decide +kernel
theorem dX11_roundNow_49 : decode cX11_roundNow 49 = .ok (.iconst 0, 1) := by decide +kernel
theorem dX11_roundNow_50 : decode cX11_roundNow 50 = .ok (.istore 4, 2) := by decide +kernel
theorem dX11_roundNow_52 : decode cX11_roundNow 52 = .ok (.iload 4, 2) := by decide +kernel
theorem dX11_roundNow_54 : decode cX11_roundNow 54 = .ok (.aload_n 0, 1) := by decide +kernel
theorem dX11_roundNow_55 : decode cX11_roundNow 55 = .ok (.getfield 102, 3) := by decide +kernel
theorem dX11_roundNow_58 : decode cX11_roundNow 58 = .ok (.if_icmp .ge 43, 3) := by decide +kernel
theorem dX11_roundNow_61 : decode cX11_roundNow 61 = .ok (.aload_n 0, 1) := by decide +kernel
theorem dX11_roundNow_62 : decode cX11_roundNow 62 = .ok (.getfield 66, 3) := by decide +kernel
theorem dX11_roundNow_65 : decode cX11_roundNow 65 = .ok (.bipush 60, 2) := by decide +kernel
theorem dX11_roundNow_67 : decode cX11_roundNow 67 = .ok (.iload_n 1, 1) := by decide +kernel
theorem dX11_roundNow_68 : decode cX11_roundNow 68 = .ok (.imul, 1) := by decide +kernel
theorem dX11_roundNow_69 : decode cX11_roundNow 69 = .ok (.iload 4, 2) := by decide +kernel
theorem dX11_roundNow_71 : decode cX11_roundNow 71 = .ok (.iadd, 1) := by decide +kernel
theorem dX11_roundNow_72 : decode cX11_roundNow 72 = .ok (.aload_n 0, 1) := by decide +kernel
theorem dX11_roundNow_73 : decode cX11_roundNow 73 = .ok (.getfield 63, 3) := by decide +kernel
theorem dX11_roundNow_76 : decode cX11_roundNow 76 = .ok (.bipush 60, 2) := by decide +kernel
theorem dX11_roundNow_78 : decode cX11_roundNow 78 = .ok (.iload_n 3, 1) := by decide +kernel
theorem dX11_roundNow_79 : decode cX11_roundNow 79 = .ok (.imul, 1) := by decide +kernel
theorem dX11_roundNow_80 : decode cX11_roundNow 80 = .ok (.aload_n 0, 1) := by decide +kernel
theorem dX11_roundNow_81 : decode cX11_roundNow 81 = .ok (.getfield 66, 3) := by decide +kernel
theorem dX11_roundNow_84 : decode cX11_roundNow 84 = .ok (.bipush 60, 2) := by decide +kernel
theorem dX11_roundNow_86 : decode cX11_roundNow 86 = .ok (.iload_n 2, 1) := by decide +kernel
theorem dX11_roundNow_87 : decode cX11_roundNow 87 = .ok (.imul, 1) := by decide +kernel
theorem dX11_roundNow_88 : decode cX11_roundNow 88 = .ok (.iload 4, 2) := by decide +kernel
theorem dX11_roundNow_90 : decode cX11_roundNow 90 = .ok (.iadd, 1) := by decide +kernel
theorem dX11_roundNow_91 : decode cX11_roundNow 91 = .ok (.iaload, 1) := by decide +kernel
theorem dX11_roundNow_92 : decode cX11_roundNow 92 = .ok (.iadd, 1) := by decide +kernel
theorem dX11_roundNow_93 : decode cX11_roundNow 93 = .ok (.iaload, 1) := by decide +kernel
theorem dX11_roundNow_94 : decode cX11_roundNow 94 = .ok (.iastore, 1) := by decide +kernel
theorem dX11_roundNow_95 : decode cX11_roundNow 95 = .ok (.iinc 4 1, 3) := by decide +kernel
theorem dX11_roundNow_98 : decode cX11_roundNow 98 = .ok (.goto (-46), 3) := by decide +kernel
theorem dX11_roundNow_101 : decode cX11_roundNow 101 = .ok (.iconst 1, 1) := by decide +kernel
theorem dX11_roundNow_102 : decode cX11_roundNow 102 = .ok (.istore 4, 2) := by decide +kernel
theorem dX11_roundNow_104 : decode cX11_roundNow 104 = .ok (.iconst 0, 1) := by decide +kernel
theorem dX11_roundNow_105 : decode cX11_roundNow 105 = .ok (.istore 5, 2) := by decide +kernel
theorem dX11_roundNow_107 : decode cX11_roundNow 107 = .ok (.iload 5, 2) := by decide +kernel
theorem dX11_roundNow_109 : decode cX11_roundNow 109 = .ok (.iload_n 1, 1) := by decide +kernel
theorem dX11_roundNow_110 : decode cX11_roundNow 110 = .ok (.if_icmp .ge 87, 3) := by decide +kernel
theorem dX11_roundNow_113 : decode cX11_roundNow 113 = .ok (.iload 4, 2) := by decide +kernel
theorem dX11_roundNow_115 : decode cX11_roundNow 115 = .ok (.ifCond .eq 82, 3) := by decide +kernel
theorem dX11_roundNow_118 : decode cX11_roundNow 118 = .ok (.iconst 1, 1) := by decide +kernel
theorem dX11_roundNow_119 : decode cX11_roundNow 119 = .ok (.istore 6, 2) := by decide +kernel
theorem dX11_roundNow_121 : decode cX11_roundNow 121 = .ok (.iconst 0, 1) := by decide +kernel
theorem dX11_roundNow_122 : decode cX11_roundNow 122 = .ok (.istore 7, 2) := by decide +kernel
theorem dX11_roundNow_124 : decode cX11_roundNow 124 = .ok (.iload 7, 2) := by decide +kernel
theorem dX11_roundNow_126 : decode cX11_roundNow 126 = .ok (.aload_n 0, 1) := by decide +kernel
theorem dX11_roundNow_127 : decode cX11_roundNow 127 = .ok (.getfield 102, 3) := by decide +kernel
theorem dX11_roundNow_130 : decode cX11_roundNow 130 = .ok (.if_icmp .ge 49, 3) := by decide +kernel
theorem dX11_roundNow_133 : decode cX11_roundNow 133 = .ok (.iload 6, 2) := by decide +kernel
theorem dX11_roundNow_135 : decode cX11_roundNow 135 = .ok (.ifCond .eq 44, 3) := by decide +kernel
theorem dX11_roundNow_138 : decode cX11_roundNow 138 = .ok (.aload_n 0, 1) := by decide +kernel
theorem dX11_roundNow_139 : decode cX11_roundNow 139 = .ok (.getfield 66, 3) := by decide +kernel
theorem dX11_roundNow_142 : decode cX11_roundNow 142 = .ok (.bipush 60, 2) := by decide +kernel
theorem dX11_roundNow_144 : decode cX11_roundNow 144 = .ok (.iload 5, 2) := by decide +kernel
theorem dX11_roundNow_146 : decode cX11_roundNow 146 = .ok (.imul, 1) := by decide +kernel
theorem dX11_roundNow_147 : decode cX11_roundNow 147 = .ok (.iload 7, 2) := by decide +kernel
theorem dX11_roundNow_149 : decode cX11_roundNow 149 = .ok (.iadd, 1) := by decide +kernel
theorem dX11_roundNow_150 : decode cX11_roundNow 150 = .ok (.iaload, 1) := by decide +kernel
theorem dX11_roundNow_151 : decode cX11_roundNow 151 = .ok (.aload_n 0, 1) := by decide +kernel
theorem dX11_roundNow_152 : decode cX11_roundNow 152 = .ok (.getfield 66, 3) := by decide +kernel
theorem dX11_roundNow_155 : decode cX11_roundNow 155 = .ok (.bipush 60, 2) := by decide +kernel
theorem dX11_roundNow_157 : decode cX11_roundNow 157 = .ok (.iload_n 1, 1) := by decide +kernel
theorem dX11_roundNow_158 : decode cX11_roundNow 158 = .ok (.imul, 1) := by decide +kernel
theorem dX11_roundNow_159 : decode cX11_roundNow 159 = .ok (.iload 7, 2) := by decide +kernel
theorem dX11_roundNow_161 : decode cX11_roundNow 161 = .ok (.iadd, 1) := by decide +kernel
theorem dX11_roundNow_162 : decode cX11_roundNow 162 = .ok (.iaload, 1) := by decide +kernel
theorem dX11_roundNow_163 : decode cX11_roundNow 163 = .ok (.if_icmp .ne 7, 3) := by decide +kernel
theorem dX11_roundNow_166 : decode cX11_roundNow 166 = .ok (.iconst 1, 1) := by decide +kernel
theorem dX11_roundNow_167 : decode cX11_roundNow 167 = .ok (.goto 4, 3) := by decide +kernel
theorem dX11_roundNow_170 : decode cX11_roundNow 170 = .ok (.iconst 0, 1) := by decide +kernel
theorem dX11_roundNow_171 : decode cX11_roundNow 171 = .ok (.istore 6, 2) := by decide +kernel
theorem dX11_roundNow_173 : decode cX11_roundNow 173 = .ok (.iinc 7 1, 3) := by decide +kernel
theorem dX11_roundNow_176 : decode cX11_roundNow 176 = .ok (.goto (-52), 3) := by decide +kernel
theorem dX11_roundNow_179 : decode cX11_roundNow 179 = .ok (.iload 6, 2) := by decide +kernel
theorem dX11_roundNow_181 : decode cX11_roundNow 181 = .ok (.ifCond .ne 7, 3) := by decide +kernel
theorem dX11_roundNow_184 : decode cX11_roundNow 184 = .ok (.iconst 1, 1) := by decide +kernel
theorem dX11_roundNow_185 : decode cX11_roundNow 185 = .ok (.goto 4, 3) := by decide +kernel
theorem dX11_roundNow_188 : decode cX11_roundNow 188 = .ok (.iconst 0, 1) := by decide +kernel
theorem dX11_roundNow_189 : decode cX11_roundNow 189 = .ok (.istore 4, 2) := by decide +kernel
theorem dX11_roundNow_191 : decode cX11_roundNow 191 = .ok (.iinc 5 1, 3) := by decide +kernel
theorem dX11_roundNow_194 : decode cX11_roundNow 194 = .ok (.goto (-87), 3) := by decide +kernel
theorem dX11_roundNow_197 : decode cX11_roundNow 197 = .ok (.iload_n 1, 1) := by decide +kernel
theorem dX11_roundNow_198 : decode cX11_roundNow 198 = .ok (.iload 4, 2) := by decide +kernel
theorem dX11_roundNow_200 : decode cX11_roundNow 200 = .ok (.ifCond .eq 7, 3) := by decide +kernel
theorem dX11_roundNow_203 : decode cX11_roundNow 203 = .ok (.iconst 1, 1) := by decide +kernel
theorem dX11_roundNow_204 : decode cX11_roundNow 204 = .ok (.goto 4, 3) := by decide +kernel
theorem dX11_roundNow_207 : decode cX11_roundNow 207 = .ok (.iconst 0, 1) := by decide +kernel
theorem dX11_roundNow_208 : decode cX11_roundNow 208 = .ok (.iadd, 1) := by decide +kernel
theorem dX11_roundNow_209 : decode cX11_roundNow 209 = .ok (.istore_n 1, 1) := by decide +kernel
theorem dX11_roundNow_210 : decode cX11_roundNow 210 = .ok (.iinc 3 1, 3) := by decide +kernel
theorem dX11_roundNow_213 : decode cX11_roundNow 213 = .ok (.goto (-179), 3) := by decide +kernel
theorem dX11_roundNow_216 : decode cX11_roundNow 216 = .ok (.iinc 2 1, 3) := by decide +kernel
theorem dX11_roundNow_219 : decode cX11_roundNow 219 = .ok (.goto (-192), 3) := by decide +kernel
theorem dX11_roundNow_222 : decode cX11_roundNow 222 = .ok (.iload_n 1, 1) := by decide +kernel
theorem dX11_roundNow_223 : decode cX11_roundNow 223 = .ok (.ireturn, 1) := by decide +kernel
theorem dX11_takes_0 : decode cX11_takes 0 = .ok (.iconst 0, 1) := by decide +kernel
theorem dX11_takes_1 : decode cX11_takes 1 = .ok (.istore_n 3, 1) := by decide +kernel
theorem dX11_takes_2 : decode cX11_takes 2 = .ok (.iload_n 3, 1) := by decide +kernel
theorem dX11_takes_3 : decode cX11_takes 3 = .ok (.bipush 9, 2) := by decide +kernel
theorem dX11_takes_5 : decode cX11_takes 5 = .ok (.if_icmp .ge 24, 3) := by decide +kernel
theorem dX11_takes_8 : decode cX11_takes 8 = .ok (.aload_n 2, 1) := by decide +kernel
theorem dX11_takes_9 : decode cX11_takes 9 = .ok (.iload_n 3, 1) := by decide +kernel
theorem dX11_takes_10 : decode cX11_takes 10 = .ok (.aload_n 0, 1) := by decide +kernel
theorem dX11_takes_11 : decode cX11_takes 11 = .ok (.getfield 16, 3) := by decide +kernel
theorem dX11_takes_14 : decode cX11_takes 14 = .ok (.bipush 9, 2) := by decide +kernel
theorem dX11_takes_16 : decode cX11_takes 16 = .ok (.iload_n 1, 1) := by decide +kernel
theorem dX11_takes_17 : decode cX11_takes 17 = .ok (.imul, 1) := by decide +kernel
theorem dX11_takes_18 : decode cX11_takes 18 = .ok (.iload_n 3, 1) := by decide +kernel
theorem dX11_takes_19 : decode cX11_takes 19 = .ok (.iadd, 1) := by decide +kernel
theorem dX11_takes_20 : decode cX11_takes 20 = .ok (.iaload, 1) := by decide +kernel
theorem dX11_takes_21 : decode cX11_takes 21 = .ok (.i2l, 1) := by decide +kernel
theorem dX11_takes_22 : decode cX11_takes 22 = .ok (.lastore, 1) := by decide +kernel
theorem dX11_takes_23 : decode cX11_takes 23 = .ok (.iinc 3 1, 3) := by decide +kernel
theorem dX11_takes_26 : decode cX11_takes 26 = .ok (.goto (-24), 3) := by decide +kernel
theorem dX11_takes_29 : decode cX11_takes 29 = .ok (.return_, 1) := by decide +kernel
theorem dX11_takesElement_0 : decode cX11_takesElement 0 = .ok (.iconst 0, 1) := by decide +kernel
theorem dX11_takesElement_1 : decode cX11_takesElement 1 = .ok (.istore_n 3, 1) := by decide +kernel
theorem dX11_takesElement_2 : decode cX11_takesElement 2 = .ok (.iload_n 3, 1) := by decide +kernel
theorem dX11_takesElement_3 : decode cX11_takesElement 3 = .ok (.bipush 9, 2) := by decide +kernel
theorem dX11_takesElement_5 : decode cX11_takesElement 5 = .ok (.if_icmp .ge 23, 3) := by decide +kernel
theorem dX11_takesElement_8 : decode cX11_takesElement 8 = .ok (.aload_n 2, 1) := by decide +kernel
theorem dX11_takesElement_9 : decode cX11_takesElement 9 = .ok (.iload_n 3, 1) := by decide +kernel
theorem dX11_takesElement_10 : decode cX11_takesElement 10 = .ok (.aload_n 0, 1) := by decide +kernel
theorem dX11_takesElement_11 : decode cX11_takesElement 11 = .ok (.getfield 45, 3) := by decide +kernel
theorem dX11_takesElement_14 : decode cX11_takesElement 14 = .ok (.bipush 9, 2) := by decide +kernel
theorem dX11_takesElement_16 : decode cX11_takesElement 16 = .ok (.iload_n 1, 1) := by decide +kernel
theorem dX11_takesElement_17 : decode cX11_takesElement 17 = .ok (.imul, 1) := by decide +kernel
theorem dX11_takesElement_18 : decode cX11_takesElement 18 = .ok (.iload_n 3, 1) := by decide +kernel
theorem dX11_takesElement_19 : decode cX11_takesElement 19 = .ok (.iadd, 1) := by decide +kernel
theorem dX11_takesElement_20 : decode cX11_takesElement 20 = .ok (.laload, 1) := by decide +kernel
theorem dX11_takesElement_21 : decode cX11_takesElement 21 = .ok (.lastore, 1) := by decide +kernel
theorem dX11_takesElement_22 : decode cX11_takesElement 22 = .ok (.iinc 3 1, 3) := by decide +kernel
theorem dX11_takesElement_25 : decode cX11_takesElement 25 = .ok (.goto (-23), 3) := by decide +kernel
theorem dX11_takesElement_28 : decode cX11_takesElement 28 = .ok (.return_, 1) := by decide +kernel
theorem dX11_takesOut_0 : decode cX11_takesOut 0 = .ok (.iconst 3, 1) := by decide +kernel
theorem dX11_takesOut_1 : decode cX11_takesOut 1 = .ok (.istore 4, 2) := by decide +kernel
theorem dX11_takesOut_3 : decode cX11_takesOut 3 = .ok (.iload 4, 2) := by decide +kernel
theorem dX11_takesOut_5 : decode cX11_takesOut 5 = .ok (.ifCond .le 21, 3) := by decide +kernel
theorem dX11_takesOut_8 : decode cX11_takesOut 8 = .ok (.aload_n 0, 1) := by decide +kernel
theorem dX11_takesOut_9 : decode cX11_takesOut 9 = .ok (.getfield 36, 3) := by decide +kernel
theorem dX11_takesOut_12 : decode cX11_takesOut 12 = .ok (.iload 4, 2) := by decide +kernel
theorem dX11_takesOut_14 : decode cX11_takesOut 14 = .ok (.laload, 1) := by decide +kernel
theorem dX11_takesOut_15 : decode cX11_takesOut 15 = .ok (.lconst 0, 1) := by decide +kernel
theorem dX11_takesOut_16 : decode cX11_takesOut 16 = .ok (.lcmp, 1) := by decide +kernel
theorem dX11_takesOut_17 : decode cX11_takesOut 17 = .ok (.ifCond .ne 9, 3) := by decide +kernel
theorem dX11_takesOut_20 : decode cX11_takesOut 20 = .ok (.iinc 4 (-1), 3) := by decide +kernel
theorem dX11_takesOut_23 : decode cX11_takesOut 23 = .ok (.goto (-20), 3) := by decide +kernel
theorem dX11_takesOut_26 : decode cX11_takesOut 26 = .ok (.iload 4, 2) := by decide +kernel
theorem dX11_takesOut_28 : decode cX11_takesOut 28 = .ok (.iload_n 1, 1) := by decide +kernel
theorem dX11_takesOut_29 : decode cX11_takesOut 29 = .ok (.if_icmp .ge 5, 3) := by decide +kernel
theorem dX11_takesOut_32 : decode cX11_takesOut 32 = .ok (.iconst 0, 1) := by decide +kernel
theorem dX11_takesOut_33 : decode cX11_takesOut 33 = .ok (.ireturn, 1) := by decide +kernel
theorem dX11_takesOut_34 : decode cX11_takesOut 34 = .ok (.iconst 0, 1) := by decide +kernel
theorem dX11_takesOut_35 : decode cX11_takesOut 35 = .ok (.istore 5, 2) := by decide +kernel
theorem dX11_takesOut_37 : decode cX11_takesOut 37 = .ok (.iload 5, 2) := by decide +kernel
theorem dX11_takesOut_39 : decode cX11_takesOut 39 = .ok (.iconst 4, 1) := by decide +kernel
theorem dX11_takesOut_40 : decode cX11_takesOut 40 = .ok (.if_icmp .ge 31, 3) := by decide +kernel
theorem dX11_takesOut_43 : decode cX11_takesOut 43 = .ok (.aload_n 0, 1) := by decide +kernel
theorem dX11_takesOut_44 : decode cX11_takesOut 44 = .ok (.getfield 27, 3) := by decide +kernel
theorem dX11_takesOut_47 : decode cX11_takesOut 47 = .ok (.iload 5, 2) := by decide +kernel
theorem dX11_takesOut_49 : decode cX11_takesOut 49 = .ok (.aload_n 0, 1) := by decide +kernel
theorem dX11_takesOut_50 : decode cX11_takesOut 50 = .ok (.getfield 36, 3) := by decide +kernel
theorem dX11_takesOut_53 : decode cX11_takesOut 53 = .ok (.iload 5, 2) := by decide +kernel
theorem dX11_takesOut_55 : decode cX11_takesOut 55 = .ok (.laload, 1) := by decide +kernel
theorem dX11_takesOut_56 : decode cX11_takesOut 56 = .ok (.lastore, 1) := by decide +kernel
theorem dX11_takesOut_57 : decode cX11_takesOut 57 = .ok (.aload_n 0, 1) := by decide +kernel
theorem dX11_takesOut_58 : decode cX11_takesOut 58 = .ok (.getfield 30, 3) := by decide +kernel
theorem dX11_takesOut_61 : decode cX11_takesOut 61 = .ok (.iload 5, 2) := by decide +kernel
theorem dX11_takesOut_63 : decode cX11_takesOut 63 = .ok (.lconst 0, 1) := by decide +kernel
theorem dX11_takesOut_64 : decode cX11_takesOut 64 = .ok (.lastore, 1) := by decide +kernel
theorem dX11_takesOut_65 : decode cX11_takesOut 65 = .ok (.iinc 5 1, 3) := by decide +kernel
theorem dX11_takesOut_68 : decode cX11_takesOut 68 = .ok (.goto (-31), 3) := by decide +kernel
theorem dX11_takesOut_71 : decode cX11_takesOut 71 = .ok (.iload 4, 2) := by decide +kernel
theorem dX11_takesOut_73 : decode cX11_takesOut 73 = .ok (.istore 5, 2) := by decide +kernel
theorem dX11_takesOut_75 : decode cX11_takesOut 75 = .ok (.iload 5, 2) := by decide +kernel
theorem dX11_takesOut_77 : decode cX11_takesOut 77 = .ok (.iload_n 1, 1) := by decide +kernel
theorem dX11_takesOut_78 : decode cX11_takesOut 78 = .ok (.if_icmp .lt 76, 3) := by decide +kernel
theorem dX11_takesOut_81 : decode cX11_takesOut 81 = .ok (.aload_n 0, 1) := by decide +kernel
theorem dX11_takesOut_82 : decode cX11_takesOut 82 = .ok (.getfield 27, 3) := by decide +kernel
theorem dX11_takesOut_85 : decode cX11_takesOut 85 = .ok (.iload 5, 2) := by decide +kernel
theorem dX11_takesOut_87 : decode cX11_takesOut 87 = .ok (.laload, 1) := by decide +kernel
theorem dX11_takesOut_88 : decode cX11_takesOut 88 = .ok (.lstore 6, 2) := by decide +kernel
theorem dX11_takesOut_90 : decode cX11_takesOut 90 = .ok (.aload_n 0, 1) := by decide +kernel
theorem dX11_takesOut_91 : decode cX11_takesOut 91 = .ok (.getfield 30, 3) := by decide +kernel
theorem dX11_takesOut_94 : decode cX11_takesOut 94 = .ok (.iload 5, 2) := by decide +kernel
theorem dX11_takesOut_96 : decode cX11_takesOut 96 = .ok (.iload_n 1, 1) := by decide +kernel
theorem dX11_takesOut_97 : decode cX11_takesOut 97 = .ok (.isub, 1) := by decide +kernel
theorem dX11_takesOut_98 : decode cX11_takesOut 98 = .ok (.lload 6, 2) := by decide +kernel
theorem dX11_takesOut_100 : decode cX11_takesOut 100 = .ok (.lastore, 1) := by decide +kernel
theorem dX11_takesOut_101 : decode cX11_takesOut 101 = .ok (.aload_n 0, 1) := by decide +kernel
theorem dX11_takesOut_102 : decode cX11_takesOut 102 = .ok (.getfield 27, 3) := by decide +kernel
theorem dX11_takesOut_105 : decode cX11_takesOut 105 = .ok (.iload 5, 2) := by decide +kernel
theorem dX11_takesOut_107 : decode cX11_takesOut 107 = .ok (.iload_n 1, 1) := by decide +kernel
theorem dX11_takesOut_108 : decode cX11_takesOut 108 = .ok (.isub, 1) := by decide +kernel
theorem dX11_takesOut_109 : decode cX11_takesOut 109 = .ok (.dup2, 1) := by decide +kernel
theorem dX11_takesOut_110 : decode cX11_takesOut 110 = .ok (.laload, 1) := by decide +kernel
theorem dX11_takesOut_111 : decode cX11_takesOut 111 = .ok (.lload 6, 2) := by decide +kernel
theorem dX11_takesOut_113 : decode cX11_takesOut 113 = .ok (.iload_n 2, 1) := by decide +kernel
theorem dX11_takesOut_114 : decode cX11_takesOut 114 = .ok (.i2l, 1) := by decide +kernel
theorem dX11_takesOut_115 : decode cX11_takesOut 115 = .ok (.lmul, 1) := by decide +kernel
theorem dX11_takesOut_116 : decode cX11_takesOut 116 = .ok (.lsub, 1) := by decide +kernel
theorem dX11_takesOut_117 : decode cX11_takesOut 117 = .ok (.lastore, 1) := by decide +kernel
theorem dX11_takesOut_118 : decode cX11_takesOut 118 = .ok (.iload_n 1, 1) := by decide +kernel
theorem dX11_takesOut_119 : decode cX11_takesOut 119 = .ok (.iconst 2, 1) := by decide +kernel
theorem dX11_takesOut_120 : decode cX11_takesOut 120 = .ok (.if_icmp .ne 20, 3) := by decide +kernel
theorem dX11_takesOut_123 : decode cX11_takesOut 123 = .ok (.aload_n 0, 1) := by decide +kernel
theorem dX11_takesOut_124 : decode cX11_takesOut 124 = .ok (.getfield 27, 3) := by decide +kernel
theorem dX11_takesOut_127 : decode cX11_takesOut 127 = .ok (.iload 5, 2) := by decide +kernel
theorem dX11_takesOut_129 : decode cX11_takesOut 129 = .ok (.iconst 1, 1) := by decide +kernel
theorem dX11_takesOut_130 : decode cX11_takesOut 130 = .ok (.isub, 1) := by decide +kernel
theorem dX11_takesOut_131 : decode cX11_takesOut 131 = .ok (.dup2, 1) := by decide +kernel
theorem dX11_takesOut_132 : decode cX11_takesOut 132 = .ok (.laload, 1) := by decide +kernel
theorem dX11_takesOut_133 : decode cX11_takesOut 133 = .ok (.lload 6, 2) := by decide +kernel
theorem dX11_takesOut_135 : decode cX11_takesOut 135 = .ok (.iload_n 3, 1) := by decide +kernel
theorem dX11_takesOut_136 : decode cX11_takesOut 136 = .ok (.i2l, 1) := by decide +kernel
theorem dX11_takesOut_137 : decode cX11_takesOut 137 = .ok (.lmul, 1) := by decide +kernel
theorem dX11_takesOut_138 : decode cX11_takesOut 138 = .ok (.lsub, 1) := by decide +kernel
theorem dX11_takesOut_139 : decode cX11_takesOut 139 = .ok (.lastore, 1) := by decide +kernel
theorem dX11_takesOut_140 : decode cX11_takesOut 140 = .ok (.aload_n 0, 1) := by decide +kernel
theorem dX11_takesOut_141 : decode cX11_takesOut 141 = .ok (.getfield 27, 3) := by decide +kernel
theorem dX11_takesOut_144 : decode cX11_takesOut 144 = .ok (.iload 5, 2) := by decide +kernel
theorem dX11_takesOut_146 : decode cX11_takesOut 146 = .ok (.lconst 0, 1) := by decide +kernel
theorem dX11_takesOut_147 : decode cX11_takesOut 147 = .ok (.lastore, 1) := by decide +kernel
theorem dX11_takesOut_148 : decode cX11_takesOut 148 = .ok (.iinc 5 (-1), 3) := by decide +kernel
theorem dX11_takesOut_151 : decode cX11_takesOut 151 = .ok (.goto (-76), 3) := by decide +kernel
theorem dX11_takesOut_154 : decode cX11_takesOut 154 = .ok (.aload_n 0, 1) := by decide +kernel
theorem dX11_takesOut_155 : decode cX11_takesOut 155 = .ok (.getfield 27, 3) := by decide +kernel
theorem dX11_takesOut_158 : decode cX11_takesOut 158 = .ok (.iconst 0, 1) := by decide +kernel
theorem dX11_takesOut_159 : decode cX11_takesOut 159 = .ok (.laload, 1) := by decide +kernel
theorem dX11_takesOut_160 : decode cX11_takesOut 160 = .ok (.lconst 0, 1) := by decide +kernel
theorem dX11_takesOut_161 : decode cX11_takesOut 161 = .ok (.lcmp, 1) := by decide +kernel
theorem dX11_takesOut_162 : decode cX11_takesOut 162 = .ok (.ifCond .ne 14, 3) := by decide +kernel
theorem dX11_takesOut_165 : decode cX11_takesOut 165 = .ok (.aload_n 0, 1) := by decide +kernel
theorem dX11_takesOut_166 : decode cX11_takesOut 166 = .ok (.getfield 27, 3) := by decide +kernel
theorem dX11_takesOut_169 : decode cX11_takesOut 169 = .ok (.iconst 1, 1) := by decide +kernel
theorem dX11_takesOut_170 : decode cX11_takesOut 170 = .ok (.laload, 1) := by decide +kernel
theorem dX11_takesOut_171 : decode cX11_takesOut 171 = .ok (.lconst 0, 1) := by decide +kernel
theorem dX11_takesOut_172 : decode cX11_takesOut 172 = .ok (.lcmp, 1) := by decide +kernel
theorem dX11_takesOut_173 : decode cX11_takesOut 173 = .ok (.ifCond .eq 5, 3) := by decide +kernel
theorem dX11_takesOut_176 : decode cX11_takesOut 176 = .ok (.iconst 0, 1) := by decide +kernel
theorem dX11_takesOut_177 : decode cX11_takesOut 177 = .ok (.ireturn, 1) := by decide +kernel
theorem dX11_takesOut_178 : decode cX11_takesOut 178 = .ok (.iconst 0, 1) := by decide +kernel
theorem dX11_takesOut_179 : decode cX11_takesOut 179 = .ok (.istore 5, 2) := by decide +kernel
theorem dX11_takesOut_181 : decode cX11_takesOut 181 = .ok (.iload 5, 2) := by decide +kernel
theorem dX11_takesOut_183 : decode cX11_takesOut 183 = .ok (.iconst 4, 1) := by decide +kernel
theorem dX11_takesOut_184 : decode cX11_takesOut 184 = .ok (.if_icmp .ge 23, 3) := by decide +kernel
theorem dX11_takesOut_187 : decode cX11_takesOut 187 = .ok (.aload_n 0, 1) := by decide +kernel
theorem dX11_takesOut_188 : decode cX11_takesOut 188 = .ok (.getfield 36, 3) := by decide +kernel
theorem dX11_takesOut_191 : decode cX11_takesOut 191 = .ok (.iload 5, 2) := by decide +kernel
theorem dX11_takesOut_193 : decode cX11_takesOut 193 = .ok (.aload_n 0, 1) := by decide +kernel
theorem dX11_takesOut_194 : decode cX11_takesOut 194 = .ok (.getfield 30, 3) := by decide +kernel
theorem dX11_takesOut_197 : decode cX11_takesOut 197 = .ok (.iload 5, 2) := by decide +kernel
theorem dX11_takesOut_199 : decode cX11_takesOut 199 = .ok (.laload, 1) := by decide +kernel
theorem dX11_takesOut_200 : decode cX11_takesOut 200 = .ok (.lastore, 1) := by decide +kernel
theorem dX11_takesOut_201 : decode cX11_takesOut 201 = .ok (.iinc 5 1, 3) := by decide +kernel
theorem dX11_takesOut_204 : decode cX11_takesOut 204 = .ok (.goto (-23), 3) := by decide +kernel
theorem dX11_takesOut_207 : decode cX11_takesOut 207 = .ok (.iconst 1, 1) := by decide +kernel
theorem dX11_takesOut_208 : decode cX11_takesOut 208 = .ok (.ireturn, 1) := by decide +kernel
theorem dX11_times_0 : decode cX11_times 0 = .ok (.aload_n 0, 1) := by decide +kernel
theorem dX11_times_1 : decode cX11_times 1 = .ok (.aload_n 3, 1) := by decide +kernel
theorem dX11_times_2 : decode cX11_times 2 = .ok (.invokevirtual 90, 3) := by decide +kernel
theorem dX11_times_5 : decode cX11_times 5 = .ok (.iconst 0, 1) := by decide +kernel
theorem dX11_times_6 : decode cX11_times 6 = .ok (.istore 4, 2) := by decide +kernel
theorem dX11_times_8 : decode cX11_times 8 = .ok (.iload 4, 2) := by decide +kernel
theorem dX11_times_10 : decode cX11_times 10 = .ok (.aload_n 0, 1) := by decide +kernel
theorem dX11_times_11 : decode cX11_times 11 = .ok (.getfield 7, 3) := by decide +kernel
theorem dX11_times_14 : decode cX11_times 14 = .ok (.if_icmp .ge 76, 3) := by decide +kernel
theorem dX11_times_17 : decode cX11_times 17 = .ok (.iconst 0, 1) := by decide +kernel
theorem dX11_times_18 : decode cX11_times 18 = .ok (.istore 5, 2) := by decide +kernel
theorem dX11_times_20 : decode cX11_times 20 = .ok (.iload 5, 2) := by decide +kernel
theorem dX11_times_22 : decode cX11_times 22 = .ok (.aload_n 0, 1) := by decide +kernel
theorem dX11_times_23 : decode cX11_times 23 = .ok (.getfield 7, 3) := by decide +kernel
theorem dX11_times_26 : decode cX11_times 26 = .ok (.if_icmp .ge 58, 3) := by decide +kernel
theorem dX11_times_29 : decode cX11_times 29 = .ok (.iconst 0, 1) := by decide +kernel
theorem dX11_times_30 : decode cX11_times 30 = .ok (.istore 6, 2) := by decide +kernel
theorem dX11_times_32 : decode cX11_times 32 = .ok (.iload 6, 2) := by decide +kernel
theorem dX11_times_34 : decode cX11_times 34 = .ok (.aload_n 0, 1) := by decide +kernel
theorem dX11_times_35 : decode cX11_times 35 = .ok (.getfield 7, 3) := by decide +kernel
theorem dX11_times_38 : decode cX11_times 38 = .ok (.if_icmp .ge 40, 3) := by decide +kernel
theorem dX11_times_41 : decode cX11_times 41 = .ok (.aload_n 3, 1) := by decide +kernel
theorem dX11_times_42 : decode cX11_times 42 = .ok (.iconst 3, 1) := by decide +kernel
theorem dX11_times_43 : decode cX11_times 43 = .ok (.iload 4, 2) := by decide +kernel
theorem dX11_times_45 : decode cX11_times 45 = .ok (.imul, 1) := by decide +kernel
theorem dX11_times_46 : decode cX11_times 46 = .ok (.iload 5, 2) := by decide +kernel
theorem dX11_times_48 : decode cX11_times 48 = .ok (.iadd, 1) := by decide +kernel
theorem dX11_times_49 : decode cX11_times 49 = .ok (.dup2, 1) := by decide +kernel
theorem dX11_times_50 : decode cX11_times 50 = .ok (.laload, 1) := by decide +kernel
theorem dX11_times_51 : decode cX11_times 51 = .ok (.aload_n 1, 1) := by decide +kernel
theorem dX11_times_52 : decode cX11_times 52 = .ok (.iconst 3, 1) := by decide +kernel
theorem dX11_times_53 : decode cX11_times 53 = .ok (.iload 4, 2) := by decide +kernel
theorem dX11_times_55 : decode cX11_times 55 = .ok (.imul, 1) := by decide +kernel
theorem dX11_times_56 : decode cX11_times 56 = .ok (.iload 6, 2) := by decide +kernel
theorem dX11_times_58 : decode cX11_times 58 = .ok (.iadd, 1) := by decide +kernel
theorem dX11_times_59 : decode cX11_times 59 = .ok (.laload, 1) := by decide +kernel
theorem dX11_times_60 : decode cX11_times 60 = .ok (.aload_n 2, 1) := by decide +kernel
theorem dX11_times_61 : decode cX11_times 61 = .ok (.iconst 3, 1) := by decide +kernel
theorem dX11_times_62 : decode cX11_times 62 = .ok (.iload 6, 2) := by decide +kernel
theorem dX11_times_64 : decode cX11_times 64 = .ok (.imul, 1) := by decide +kernel
theorem dX11_times_65 : decode cX11_times 65 = .ok (.iload 5, 2) := by decide +kernel
theorem dX11_times_67 : decode cX11_times 67 = .ok (.iadd, 1) := by decide +kernel
theorem dX11_times_68 : decode cX11_times 68 = .ok (.laload, 1) := by decide +kernel
theorem dX11_times_69 : decode cX11_times 69 = .ok (.lmul, 1) := by decide +kernel
theorem dX11_times_70 : decode cX11_times 70 = .ok (.ladd, 1) := by decide +kernel
theorem dX11_times_71 : decode cX11_times 71 = .ok (.lastore, 1) := by decide +kernel
theorem dX11_times_72 : decode cX11_times 72 = .ok (.iinc 6 1, 3) := by decide +kernel
theorem dX11_times_75 : decode cX11_times 75 = .ok (.goto (-43), 3) := by decide +kernel
theorem dX11_times_78 : decode cX11_times 78 = .ok (.iinc 5 1, 3) := by decide +kernel
theorem dX11_times_81 : decode cX11_times 81 = .ok (.goto (-61), 3) := by decide +kernel
theorem dX11_times_84 : decode cX11_times 84 = .ok (.iinc 4 1, 3) := by decide +kernel
theorem dX11_times_87 : decode cX11_times 87 = .ok (.goto (-79), 3) := by decide +kernel
theorem dX11_times_90 : decode cX11_times 90 = .ok (.return_, 1) := by decide +kernel
theorem dX11_without_0 : decode cX11_without 0 = .ok (.aload_n 0, 1) := by decide +kernel
theorem dX11_without_1 : decode cX11_without 1 = .ok (.getfield 7, 3) := by decide +kernel
theorem dX11_without_4 : decode cX11_without 4 = .ok (.iconst 1, 1) := by decide +kernel
theorem dX11_without_5 : decode cX11_without 5 = .ok (.if_icmp .ne 5, 3) := by decide +kernel
theorem dX11_without_8 : decode cX11_without 8 = .ok (.lconst 1, 1) := by decide +kernel
theorem dX11_without_9 : decode cX11_without 9 = .ok (.lreturn, 1) := by decide +kernel
theorem dX11_without_10 : decode cX11_without 10 = .ok (.iload_n 2, 1) := by decide +kernel
theorem dX11_without_11 : decode cX11_without 11 = .ok (.ifCond .ne 7, 3) := by decide +kernel
theorem dX11_without_14 : decode cX11_without 14 = .ok (.iconst 1, 1) := by decide +kernel
theorem dX11_without_15 : decode cX11_without 15 = .ok (.goto 4, 3) := by decide +kernel
theorem dX11_without_18 : decode cX11_without 18 = .ok (.iconst 0, 1) := by decide +kernel
theorem dX11_without_19 : decode cX11_without 19 = .ok (.istore 4, 2) := by decide +kernel
theorem dX11_without_21 : decode cX11_without 21 = .ok (.iload_n 3, 1) := by decide +kernel
theorem dX11_without_22 : decode cX11_without 22 = .ok (.ifCond .ne 7, 3) := by decide +kernel
theorem dX11_without_25 : decode cX11_without 25 = .ok (.iconst 1, 1) := by decide +kernel
theorem dX11_without_26 : decode cX11_without 26 = .ok (.goto 4, 3) := by decide +kernel
theorem dX11_without_29 : decode cX11_without 29 = .ok (.iconst 0, 1) := by decide +kernel
theorem dX11_without_30 : decode cX11_without 30 = .ok (.istore 5, 2) := by decide +kernel
theorem dX11_without_32 : decode cX11_without 32 = .ok (.aload_n 0, 1) := by decide +kernel
theorem dX11_without_33 : decode cX11_without 33 = .ok (.getfield 7, 3) := by decide +kernel
theorem dX11_without_36 : decode cX11_without 36 = .ok (.iconst 2, 1) := by decide +kernel
theorem dX11_without_37 : decode cX11_without 37 = .ok (.if_icmp .ne 13, 3) := by decide +kernel
theorem dX11_without_40 : decode cX11_without 40 = .ok (.aload_n 1, 1) := by decide +kernel
theorem dX11_without_41 : decode cX11_without 41 = .ok (.iconst 3, 1) := by decide +kernel
theorem dX11_without_42 : decode cX11_without 42 = .ok (.iload 4, 2) := by decide +kernel
theorem dX11_without_44 : decode cX11_without 44 = .ok (.imul, 1) := by decide +kernel
theorem dX11_without_45 : decode cX11_without 45 = .ok (.iload 5, 2) := by decide +kernel
theorem dX11_without_47 : decode cX11_without 47 = .ok (.iadd, 1) := by decide +kernel
theorem dX11_without_48 : decode cX11_without 48 = .ok (.laload, 1) := by decide +kernel
theorem dX11_without_49 : decode cX11_without 49 = .ok (.lreturn, 1) := by decide +kernel
theorem dX11_without_50 : decode cX11_without 50 = .ok (.iload_n 2, 1) := by decide +kernel
theorem dX11_without_51 : decode cX11_without 51 = .ok (.iconst 2, 1) := by decide +kernel
theorem dX11_without_52 : decode cX11_without 52 = .ok (.if_icmp .ne 7, 3) := by decide +kernel
theorem dX11_without_55 : decode cX11_without 55 = .ok (.iconst 1, 1) := by decide +kernel
theorem dX11_without_56 : decode cX11_without 56 = .ok (.goto 4, 3) := by decide +kernel
theorem dX11_without_59 : decode cX11_without 59 = .ok (.iconst 2, 1) := by decide +kernel
theorem dX11_without_60 : decode cX11_without 60 = .ok (.istore 6, 2) := by decide +kernel
theorem dX11_without_62 : decode cX11_without 62 = .ok (.iload_n 3, 1) := by decide +kernel
theorem dX11_without_63 : decode cX11_without 63 = .ok (.iconst 2, 1) := by decide +kernel
theorem dX11_without_64 : decode cX11_without 64 = .ok (.if_icmp .ne 7, 3) := by decide +kernel
theorem dX11_without_67 : decode cX11_without 67 = .ok (.iconst 1, 1) := by decide +kernel
theorem dX11_without_68 : decode cX11_without 68 = .ok (.goto 4, 3) := by decide +kernel
theorem dX11_without_71 : decode cX11_without 71 = .ok (.iconst 2, 1) := by decide +kernel
theorem dX11_without_72 : decode cX11_without 72 = .ok (.istore 7, 2) := by decide +kernel
theorem dX11_without_74 : decode cX11_without 74 = .ok (.aload_n 1, 1) := by decide +kernel
theorem dX11_without_75 : decode cX11_without 75 = .ok (.iconst 3, 1) := by decide +kernel
theorem dX11_without_76 : decode cX11_without 76 = .ok (.iload 4, 2) := by decide +kernel
theorem dX11_without_78 : decode cX11_without 78 = .ok (.imul, 1) := by decide +kernel
theorem dX11_without_79 : decode cX11_without 79 = .ok (.iload 5, 2) := by decide +kernel
theorem dX11_without_81 : decode cX11_without 81 = .ok (.iadd, 1) := by decide +kernel
theorem dX11_without_82 : decode cX11_without 82 = .ok (.laload, 1) := by decide +kernel
theorem dX11_without_83 : decode cX11_without 83 = .ok (.aload_n 1, 1) := by decide +kernel
theorem dX11_without_84 : decode cX11_without 84 = .ok (.iconst 3, 1) := by decide +kernel
theorem dX11_without_85 : decode cX11_without 85 = .ok (.iload 6, 2) := by decide +kernel
theorem dX11_without_87 : decode cX11_without 87 = .ok (.imul, 1) := by decide +kernel
theorem dX11_without_88 : decode cX11_without 88 = .ok (.iload 7, 2) := by decide +kernel
theorem dX11_without_90 : decode cX11_without 90 = .ok (.iadd, 1) := by decide +kernel
theorem dX11_without_91 : decode cX11_without 91 = .ok (.laload, 1) := by decide +kernel
theorem dX11_without_92 : decode cX11_without 92 = .ok (.lmul, 1) := by decide +kernel
theorem dX11_without_93 : decode cX11_without 93 = .ok (.aload_n 1, 1) := by decide +kernel
theorem dX11_without_94 : decode cX11_without 94 = .ok (.iconst 3, 1) := by decide +kernel
theorem dX11_without_95 : decode cX11_without 95 = .ok (.iload 4, 2) := by decide +kernel
theorem dX11_without_97 : decode cX11_without 97 = .ok (.imul, 1) := by decide +kernel
theorem dX11_without_98 : decode cX11_without 98 = .ok (.iload 7, 2) := by decide +kernel
theorem dX11_without_100 : decode cX11_without 100 = .ok (.iadd, 1) := by decide +kernel
theorem dX11_without_101 : decode cX11_without 101 = .ok (.laload, 1) := by decide +kernel
theorem dX11_without_102 : decode cX11_without 102 = .ok (.aload_n 1, 1) := by decide +kernel
theorem dX11_without_103 : decode cX11_without 103 = .ok (.iconst 3, 1) := by decide +kernel
theorem dX11_without_104 : decode cX11_without 104 = .ok (.iload 6, 2) := by decide +kernel
theorem dX11_without_106 : decode cX11_without 106 = .ok (.imul, 1) := by decide +kernel
theorem dX11_without_107 : decode cX11_without 107 = .ok (.iload 5, 2) := by decide +kernel
theorem dX11_without_109 : decode cX11_without 109 = .ok (.iadd, 1) := by decide +kernel
theorem dX11_without_110 : decode cX11_without 110 = .ok (.laload, 1) := by decide +kernel
theorem dX11_without_111 : decode cX11_without 111 = .ok (.lmul, 1) := by decide +kernel
theorem dX11_without_112 : decode cX11_without 112 = .ok (.lsub, 1) := by decide +kernel
theorem dX11_without_113 : decode cX11_without 113 = .ok (.lreturn, 1) := by decide +kernel
theorem dX3_characterOf_0 : decode cX3_characterOf 0 = .ok (.iconst 4, 1) := by decide +kernel
theorem dX3_characterOf_1 : decode cX3_characterOf 1 = .ok (.newarray .long, 2) := by decide +kernel
theorem dX3_characterOf_3 : decode cX3_characterOf 3 = .ok (.astore_n 3, 1) := by decide +kernel
theorem dX3_characterOf_4 : decode cX3_characterOf 4 = .ok (.aload_n 0, 1) := by decide +kernel
theorem dX3_characterOf_5 : decode cX3_characterOf 5 = .ok (.iload_n 1, 1) := by decide +kernel
theorem dX3_characterOf_6 : decode cX3_characterOf 6 = .ok (.iload_n 2, 1) := by decide +kernel
theorem dX3_characterOf_7 : decode cX3_characterOf 7 = .ok (.iload_n 2, 1) := by decide +kernel
theorem dX3_characterOf_8 : decode cX3_characterOf 8 = .ok (.invokestatic 15, 3) := by decide +kernel
theorem dX3_characterOf_11 : decode cX3_characterOf 11 = .ok (.lstore 4, 2) := by decide +kernel
theorem dX3_characterOf_13 : decode cX3_characterOf 13 = .ok (.aload_n 3, 1) := by decide +kernel
theorem dX3_characterOf_14 : decode cX3_characterOf 14 = .ok (.iconst 0, 1) := by decide +kernel
theorem dX3_characterOf_15 : decode cX3_characterOf 15 = .ok (.iload_n 2, 1) := by decide +kernel
theorem dX3_characterOf_16 : decode cX3_characterOf 16 = .ok (.iconst 2, 1) := by decide +kernel
theorem dX3_characterOf_17 : decode cX3_characterOf 17 = .ok (.if_icmp .ne 8, 3) := by decide +kernel
theorem dX3_characterOf_20 : decode cX3_characterOf 20 = .ok (.lload 4, 2) := by decide +kernel
theorem dX3_characterOf_22 : decode cX3_characterOf 22 = .ok (.goto 6, 3) := by decide +kernel
theorem dX3_characterOf_25 : decode cX3_characterOf 25 = .ok (.lload 4, 2) := by decide +kernel
theorem dX3_characterOf_27 : decode cX3_characterOf 27 = .ok (.lneg, 1) := by decide +kernel
theorem dX3_characterOf_28 : decode cX3_characterOf 28 = .ok (.lastore, 1) := by decide +kernel
theorem dX3_characterOf_29 : decode cX3_characterOf 29 = .ok (.iload_n 2, 1) := by decide +kernel
theorem dX3_characterOf_30 : decode cX3_characterOf 30 = .ok (.iconst 3, 1) := by decide +kernel
theorem dX3_characterOf_31 : decode cX3_characterOf 31 = .ok (.if_icmp .ne 34, 3) := by decide +kernel
theorem dX3_characterOf_34 : decode cX3_characterOf 34 = .ok (.iconst 0, 1) := by decide +kernel
theorem dX3_characterOf_35 : decode cX3_characterOf 35 = .ok (.istore 6, 2) := by decide +kernel
theorem dX3_characterOf_37 : decode cX3_characterOf 37 = .ok (.iload 6, 2) := by decide +kernel
theorem dX3_characterOf_39 : decode cX3_characterOf 39 = .ok (.iconst 3, 1) := by decide +kernel
theorem dX3_characterOf_40 : decode cX3_characterOf 40 = .ok (.if_icmp .ge 25, 3) := by decide +kernel
theorem dX3_characterOf_43 : decode cX3_characterOf 43 = .ok (.aload_n 3, 1) := by decide +kernel
theorem dX3_characterOf_44 : decode cX3_characterOf 44 = .ok (.iconst 1, 1) := by decide +kernel
theorem dX3_characterOf_45 : decode cX3_characterOf 45 = .ok (.dup2, 1) := by decide +kernel
theorem dX3_characterOf_46 : decode cX3_characterOf 46 = .ok (.laload, 1) := by decide +kernel
theorem dX3_characterOf_47 : decode cX3_characterOf 47 = .ok (.aload_n 0, 1) := by decide +kernel
theorem dX3_characterOf_48 : decode cX3_characterOf 48 = .ok (.iload_n 1, 1) := by decide +kernel
theorem dX3_characterOf_49 : decode cX3_characterOf 49 = .ok (.iconst 3, 1) := by decide +kernel
theorem dX3_characterOf_50 : decode cX3_characterOf 50 = .ok (.iload 6, 2) := by decide +kernel
theorem dX3_characterOf_52 : decode cX3_characterOf 52 = .ok (.iload 6, 2) := by decide +kernel
theorem dX3_characterOf_54 : decode cX3_characterOf 54 = .ok (.invokestatic 21, 3) := by decide +kernel
theorem dX3_characterOf_57 : decode cX3_characterOf 57 = .ok (.ladd, 1) := by decide +kernel
theorem dX3_characterOf_58 : decode cX3_characterOf 58 = .ok (.lastore, 1) := by decide +kernel
theorem dX3_characterOf_59 : decode cX3_characterOf 59 = .ok (.iinc 6 1, 3) := by decide +kernel
theorem dX3_characterOf_62 : decode cX3_characterOf 62 = .ok (.goto (-25), 3) := by decide +kernel
theorem dX3_characterOf_65 : decode cX3_characterOf 65 = .ok (.iload_n 2, 1) := by decide +kernel
theorem dX3_characterOf_66 : decode cX3_characterOf 66 = .ok (.iconst 1, 1) := by decide +kernel
theorem dX3_characterOf_67 : decode cX3_characterOf 67 = .ok (.if_icmp .le 15, 3) := by decide +kernel
theorem dX3_characterOf_70 : decode cX3_characterOf 70 = .ok (.aload_n 3, 1) := by decide +kernel
theorem dX3_characterOf_71 : decode cX3_characterOf 71 = .ok (.iload_n 2, 1) := by decide +kernel
theorem dX3_characterOf_72 : decode cX3_characterOf 72 = .ok (.iconst 1, 1) := by decide +kernel
theorem dX3_characterOf_73 : decode cX3_characterOf 73 = .ok (.isub, 1) := by decide +kernel
theorem dX3_characterOf_74 : decode cX3_characterOf 74 = .ok (.aload_n 0, 1) := by decide +kernel
theorem dX3_characterOf_75 : decode cX3_characterOf 75 = .ok (.iload_n 1, 1) := by decide +kernel
theorem dX3_characterOf_76 : decode cX3_characterOf 76 = .ok (.iload_n 2, 1) := by decide +kernel
theorem dX3_characterOf_77 : decode cX3_characterOf 77 = .ok (.invokestatic 25, 3) := by decide +kernel
theorem dX3_characterOf_80 : decode cX3_characterOf 80 = .ok (.lneg, 1) := by decide +kernel
theorem dX3_characterOf_81 : decode cX3_characterOf 81 = .ok (.lastore, 1) := by decide +kernel
theorem dX3_characterOf_82 : decode cX3_characterOf 82 = .ok (.aload_n 3, 1) := by decide +kernel
theorem dX3_characterOf_83 : decode cX3_characterOf 83 = .ok (.iload_n 2, 1) := by decide +kernel
theorem dX3_characterOf_84 : decode cX3_characterOf 84 = .ok (.lconst 1, 1) := by decide +kernel
theorem dX3_characterOf_85 : decode cX3_characterOf 85 = .ok (.lastore, 1) := by decide +kernel
theorem dX3_characterOf_86 : decode cX3_characterOf 86 = .ok (.aload_n 3, 1) := by decide +kernel
theorem dX3_characterOf_87 : decode cX3_characterOf 87 = .ok (.areturn, 1) := by decide +kernel
theorem dX3_howOften_0 : decode cX3_howOften 0 = .ok (.iconst 0, 1) := by decide +kernel
theorem dX3_howOften_1 : decode cX3_howOften 1 = .ok (.istore_n 3, 1) := by decide +kernel
theorem dX3_howOften_2 : decode cX3_howOften 2 = .ok (.iload_n 1, 1) := by decide +kernel
theorem dX3_howOften_3 : decode cX3_howOften 3 = .ok (.istore 4, 2) := by decide +kernel
theorem dX3_howOften_5 : decode cX3_howOften 5 = .ok (.iload_n 3, 1) := by decide +kernel
theorem dX3_howOften_6 : decode cX3_howOften 6 = .ok (.iload_n 1, 1) := by decide +kernel
theorem dX3_howOften_7 : decode cX3_howOften 7 = .ok (.if_icmp .ge 29, 3) := by decide +kernel
theorem dX3_howOften_10 : decode cX3_howOften 10 = .ok (.aload_n 0, 1) := by decide +kernel
theorem dX3_howOften_11 : decode cX3_howOften 11 = .ok (.iload 4, 2) := by decide +kernel
theorem dX3_howOften_13 : decode cX3_howOften 13 = .ok (.iload_n 2, 1) := by decide +kernel
theorem dX3_howOften_14 : decode cX3_howOften 14 = .ok (.invokestatic 29, 3) := by decide +kernel
theorem dX3_howOften_17 : decode cX3_howOften 17 = .ok (.ifCond .eq 19, 3) := by decide +kernel
theorem dX3_howOften_20 : decode cX3_howOften 20 = .ok (.iload 4, 2) := by decide +kernel
theorem dX3_howOften_22 : decode cX3_howOften 22 = .ok (.getstatic 9, 3) := by decide +kernel
theorem dX3_howOften_25 : decode cX3_howOften 25 = .ok (.iload_n 2, 1) := by decide +kernel
theorem dX3_howOften_26 : decode cX3_howOften 26 = .ok (.iaload, 1) := by decide +kernel
theorem dX3_howOften_27 : decode cX3_howOften 27 = .ok (.isub, 1) := by decide +kernel
theorem dX3_howOften_28 : decode cX3_howOften 28 = .ok (.istore 4, 2) := by decide +kernel
theorem dX3_howOften_30 : decode cX3_howOften 30 = .ok (.iinc 3 1, 3) := by decide +kernel
theorem dX3_howOften_33 : decode cX3_howOften 33 = .ok (.goto (-28), 3) := by decide +kernel
theorem dX3_howOften_36 : decode cX3_howOften 36 = .ok (.iload_n 3, 1) := by decide +kernel
theorem dX3_howOften_37 : decode cX3_howOften 37 = .ok (.ireturn, 1) := by decide +kernel
theorem dX3_isFactor_0 : decode cX3_isFactor 0 = .ok (.iload_n 0, 1) := by decide +kernel
theorem dX3_isFactor_1 : decode cX3_isFactor 1 = .ok (.ifCond .lt 23, 3) := by decide +kernel
theorem dX3_isFactor_4 : decode cX3_isFactor 4 = .ok (.iload_n 0, 1) := by decide +kernel
theorem dX3_isFactor_5 : decode cX3_isFactor 5 = .ok (.getstatic 9, 3) := by decide +kernel
theorem dX3_isFactor_8 : decode cX3_isFactor 8 = .ok (.arraylength, 1) := by decide +kernel
theorem dX3_isFactor_9 : decode cX3_isFactor 9 = .ok (.if_icmp .ge 15, 3) := by decide +kernel
theorem dX3_isFactor_12 : decode cX3_isFactor 12 = .ok (.getstatic 9, 3) := by decide +kernel
theorem dX3_isFactor_15 : decode cX3_isFactor 15 = .ok (.iload_n 0, 1) := by decide +kernel
theorem dX3_isFactor_16 : decode cX3_isFactor 16 = .ok (.iaload, 1) := by decide +kernel
theorem dX3_isFactor_17 : decode cX3_isFactor 17 = .ok (.ifCond .le 7, 3) := by decide +kernel
theorem dX3_isFactor_20 : decode cX3_isFactor 20 = .ok (.iconst 1, 1) := by decide +kernel
theorem dX3_isFactor_21 : decode cX3_isFactor 21 = .ok (.goto 4, 3) := by decide +kernel
theorem dX3_isFactor_24 : decode cX3_isFactor 24 = .ok (.iconst 0, 1) := by decide +kernel
theorem dX3_isFactor_25 : decode cX3_isFactor 25 = .ok (.ireturn, 1) := by decide +kernel
theorem dX3_takeOut_0 : decode cX3_takeOut 0 = .ok (.getstatic 9, 3) := by decide +kernel
theorem dX3_takeOut_3 : decode cX3_takeOut 3 = .ok (.iload_n 2, 1) := by decide +kernel
theorem dX3_takeOut_4 : decode cX3_takeOut 4 = .ok (.iaload, 1) := by decide +kernel
theorem dX3_takeOut_5 : decode cX3_takeOut 5 = .ok (.istore_n 3, 1) := by decide +kernel
theorem dX3_takeOut_6 : decode cX3_takeOut 6 = .ok (.iload_n 1, 1) := by decide +kernel
theorem dX3_takeOut_7 : decode cX3_takeOut 7 = .ok (.iload_n 3, 1) := by decide +kernel
theorem dX3_takeOut_8 : decode cX3_takeOut 8 = .ok (.if_icmp .ge 5, 3) := by decide +kernel
theorem dX3_takeOut_11 : decode cX3_takeOut 11 = .ok (.iconst 0, 1) := by decide +kernel
theorem dX3_takeOut_12 : decode cX3_takeOut 12 = .ok (.ireturn, 1) := by decide +kernel
theorem dX3_takeOut_13 : decode cX3_takeOut 13 = .ok (.iload_n 1, 1) := by decide +kernel
theorem dX3_takeOut_14 : decode cX3_takeOut 14 = .ok (.istore 4, 2) := by decide +kernel
theorem dX3_takeOut_16 : decode cX3_takeOut 16 = .ok (.iload 4, 2) := by decide +kernel
theorem dX3_takeOut_18 : decode cX3_takeOut 18 = .ok (.iload_n 3, 1) := by decide +kernel
theorem dX3_takeOut_19 : decode cX3_takeOut 19 = .ok (.if_icmp .lt 54, 3) := by decide +kernel
theorem dX3_takeOut_22 : decode cX3_takeOut 22 = .ok (.aload_n 0, 1) := by decide +kernel
theorem dX3_takeOut_23 : decode cX3_takeOut 23 = .ok (.iload 4, 2) := by decide +kernel
theorem dX3_takeOut_25 : decode cX3_takeOut 25 = .ok (.iload_n 3, 1) := by decide +kernel
theorem dX3_takeOut_26 : decode cX3_takeOut 26 = .ok (.isub, 1) := by decide +kernel
theorem dX3_takeOut_27 : decode cX3_takeOut 27 = .ok (.dup2, 1) := by decide +kernel
theorem dX3_takeOut_28 : decode cX3_takeOut 28 = .ok (.laload, 1) := by decide +kernel
theorem dX3_takeOut_29 : decode cX3_takeOut 29 = .ok (.aload_n 0, 1) := by decide +kernel
theorem dX3_takeOut_30 : decode cX3_takeOut 30 = .ok (.iload 4, 2) := by decide +kernel
theorem dX3_takeOut_32 : decode cX3_takeOut 32 = .ok (.laload, 1) := by decide +kernel
theorem dX3_takeOut_33 : decode cX3_takeOut 33 = .ok (.getstatic 33, 3) := by decide +kernel
theorem dX3_takeOut_36 : decode cX3_takeOut 36 = .ok (.iload_n 2, 1) := by decide +kernel
theorem dX3_takeOut_37 : decode cX3_takeOut 37 = .ok (.iaload, 1) := by decide +kernel
theorem dX3_takeOut_38 : decode cX3_takeOut 38 = .ok (.i2l, 1) := by decide +kernel
theorem dX3_takeOut_39 : decode cX3_takeOut 39 = .ok (.lmul, 1) := by decide +kernel
theorem dX3_takeOut_40 : decode cX3_takeOut 40 = .ok (.lsub, 1) := by decide +kernel
theorem dX3_takeOut_41 : decode cX3_takeOut 41 = .ok (.lastore, 1) := by decide +kernel
theorem dX3_takeOut_42 : decode cX3_takeOut 42 = .ok (.iload_n 3, 1) := by decide +kernel
theorem dX3_takeOut_43 : decode cX3_takeOut 43 = .ok (.iconst 2, 1) := by decide +kernel
theorem dX3_takeOut_44 : decode cX3_takeOut 44 = .ok (.if_icmp .ne 23, 3) := by decide +kernel
theorem dX3_takeOut_47 : decode cX3_takeOut 47 = .ok (.aload_n 0, 1) := by decide +kernel
theorem dX3_takeOut_48 : decode cX3_takeOut 48 = .ok (.iload 4, 2) := by decide +kernel
theorem dX3_takeOut_50 : decode cX3_takeOut 50 = .ok (.iconst 1, 1) := by decide +kernel
theorem dX3_takeOut_51 : decode cX3_takeOut 51 = .ok (.isub, 1) := by decide +kernel
theorem dX3_takeOut_52 : decode cX3_takeOut 52 = .ok (.dup2, 1) := by decide +kernel
theorem dX3_takeOut_53 : decode cX3_takeOut 53 = .ok (.laload, 1) := by decide +kernel
theorem dX3_takeOut_54 : decode cX3_takeOut 54 = .ok (.aload_n 0, 1) := by decide +kernel
theorem dX3_takeOut_55 : decode cX3_takeOut 55 = .ok (.iload 4, 2) := by decide +kernel
theorem dX3_takeOut_57 : decode cX3_takeOut 57 = .ok (.laload, 1) := by decide +kernel
theorem dX3_takeOut_58 : decode cX3_takeOut 58 = .ok (.getstatic 36, 3) := by decide +kernel
theorem dX3_takeOut_61 : decode cX3_takeOut 61 = .ok (.iload_n 2, 1) := by decide +kernel
theorem dX3_takeOut_62 : decode cX3_takeOut 62 = .ok (.iaload, 1) := by decide +kernel
theorem dX3_takeOut_63 : decode cX3_takeOut 63 = .ok (.i2l, 1) := by decide +kernel
theorem dX3_takeOut_64 : decode cX3_takeOut 64 = .ok (.lmul, 1) := by decide +kernel
theorem dX3_takeOut_65 : decode cX3_takeOut 65 = .ok (.lsub, 1) := by decide +kernel
theorem dX3_takeOut_66 : decode cX3_takeOut 66 = .ok (.lastore, 1) := by decide +kernel
theorem dX3_takeOut_67 : decode cX3_takeOut 67 = .ok (.iinc 4 (-1), 3) := by decide +kernel
theorem dX3_takeOut_70 : decode cX3_takeOut 70 = .ok (.goto (-54), 3) := by decide +kernel
theorem dX3_takeOut_73 : decode cX3_takeOut 73 = .ok (.iconst 0, 1) := by decide +kernel
theorem dX3_takeOut_74 : decode cX3_takeOut 74 = .ok (.istore 4, 2) := by decide +kernel
theorem dX3_takeOut_76 : decode cX3_takeOut 76 = .ok (.iload 4, 2) := by decide +kernel
theorem dX3_takeOut_78 : decode cX3_takeOut 78 = .ok (.iload_n 3, 1) := by decide +kernel
theorem dX3_takeOut_79 : decode cX3_takeOut 79 = .ok (.if_icmp .ge 20, 3) := by decide +kernel
theorem dX3_takeOut_82 : decode cX3_takeOut 82 = .ok (.aload_n 0, 1) := by decide +kernel
theorem dX3_takeOut_83 : decode cX3_takeOut 83 = .ok (.iload 4, 2) := by decide +kernel
theorem dX3_takeOut_85 : decode cX3_takeOut 85 = .ok (.laload, 1) := by decide +kernel
theorem dX3_takeOut_86 : decode cX3_takeOut 86 = .ok (.lconst 0, 1) := by decide +kernel
theorem dX3_takeOut_87 : decode cX3_takeOut 87 = .ok (.lcmp, 1) := by decide +kernel
theorem dX3_takeOut_88 : decode cX3_takeOut 88 = .ok (.ifCond .eq 5, 3) := by decide +kernel
theorem dX3_takeOut_91 : decode cX3_takeOut 91 = .ok (.iconst 0, 1) := by decide +kernel
theorem dX3_takeOut_92 : decode cX3_takeOut 92 = .ok (.ireturn, 1) := by decide +kernel
theorem dX3_takeOut_93 : decode cX3_takeOut 93 = .ok (.iinc 4 1, 3) := by decide +kernel
theorem dX3_takeOut_96 : decode cX3_takeOut 96 = .ok (.goto (-20), 3) := by decide +kernel
theorem dX3_takeOut_99 : decode cX3_takeOut 99 = .ok (.iload_n 3, 1) := by decide +kernel
theorem dX3_takeOut_100 : decode cX3_takeOut 100 = .ok (.istore 4, 2) := by decide +kernel
theorem dX3_takeOut_102 : decode cX3_takeOut 102 = .ok (.iload 4, 2) := by decide +kernel
theorem dX3_takeOut_104 : decode cX3_takeOut 104 = .ok (.iload_n 1, 1) := by decide +kernel
theorem dX3_takeOut_105 : decode cX3_takeOut 105 = .ok (.if_icmp .gt 19, 3) := by decide +kernel
theorem dX3_takeOut_108 : decode cX3_takeOut 108 = .ok (.aload_n 0, 1) := by decide +kernel
theorem dX3_takeOut_109 : decode cX3_takeOut 109 = .ok (.iload 4, 2) := by decide +kernel
theorem dX3_takeOut_111 : decode cX3_takeOut 111 = .ok (.iload_n 3, 1) := by decide +kernel
theorem dX3_takeOut_112 : decode cX3_takeOut 112 = .ok (.isub, 1) := by decide +kernel
theorem dX3_takeOut_113 : decode cX3_takeOut 113 = .ok (.aload_n 0, 1) := by decide +kernel
theorem dX3_takeOut_114 : decode cX3_takeOut 114 = .ok (.iload 4, 2) := by decide +kernel
theorem dX3_takeOut_116 : decode cX3_takeOut 116 = .ok (.laload, 1) := by decide +kernel
theorem dX3_takeOut_117 : decode cX3_takeOut 117 = .ok (.lastore, 1) := by decide +kernel
theorem dX3_takeOut_118 : decode cX3_takeOut 118 = .ok (.iinc 4 1, 3) := by decide +kernel
theorem dX3_takeOut_121 : decode cX3_takeOut 121 = .ok (.goto (-19), 3) := by decide +kernel
theorem dX3_takeOut_124 : decode cX3_takeOut 124 = .ok (.iconst 1, 1) := by decide +kernel
theorem dX3_takeOut_125 : decode cX3_takeOut 125 = .ok (.ireturn, 1) := by decide +kernel
theorem dX4_append_0 : decode cX4_append 0 = .ok (.aload_n 0, 1) := by decide +kernel
theorem dX4_append_1 : decode cX4_append 1 = .ok (.getfield 22, 3) := by decide +kernel
theorem dX4_append_4 : decode cX4_append 4 = .ok (.aload_n 0, 1) := by decide +kernel
theorem dX4_append_5 : decode cX4_append 5 = .ok (.getfield 19, 3) := by decide +kernel
theorem dX4_append_8 : decode cX4_append 8 = .ok (.if_icmp .lt 5, 3) := by decide +kernel
theorem dX4_append_11 : decode cX4_append 11 = .ok (.iconst (-1), 1) := by decide +kernel
theorem dX4_append_12 : decode cX4_append 12 = .ok (.ireturn, 1) := by decide +kernel
theorem dX4_append_13 : decode cX4_append 13 = .ok (.aload_n 0, 1) := by decide +kernel
theorem dX4_append_14 : decode cX4_append 14 = .ok (.getfield 22, 3) := by decide +kernel
theorem dX4_append_17 : decode cX4_append 17 = .ok (.istore 4, 2) := by decide +kernel
theorem dX4_append_19 : decode cX4_append 19 = .ok (.aload_n 1, 1) := by decide +kernel
theorem dX4_append_20 : decode cX4_append 20 = .ok (.iconst 0, 1) := by decide +kernel
theorem dX4_append_21 : decode cX4_append 21 = .ok (.aload_n 0, 1) := by decide +kernel
theorem dX4_append_22 : decode cX4_append 22 = .ok (.getfield 29, 3) := by decide +kernel
theorem dX4_append_25 : decode cX4_append 25 = .ok (.aload_n 0, 1) := by decide +kernel
theorem dX4_append_26 : decode cX4_append 26 = .ok (.iload 4, 2) := by decide +kernel
theorem dX4_append_28 : decode cX4_append 28 = .ok (.invokevirtual 65, 3) := by decide +kernel
theorem dX4_append_31 : decode cX4_append 31 = .ok (.aload_n 0, 1) := by decide +kernel
theorem dX4_append_32 : decode cX4_append 32 = .ok (.getfield 15, 3) := by decide +kernel
theorem dX4_append_35 : decode cX4_append 35 = .ok (.invokestatic 69, 3) := by decide +kernel
theorem dX4_append_38 : decode cX4_append 38 = .ok (.aload_n 0, 1) := by decide +kernel
theorem dX4_append_39 : decode cX4_append 39 = .ok (.getfield 32, 3) := by decide +kernel
theorem dX4_append_42 : decode cX4_append 42 = .ok (.iload 4, 2) := by decide +kernel
theorem dX4_append_44 : decode cX4_append 44 = .ok (.iload_n 2, 1) := by decide +kernel
theorem dX4_append_45 : decode cX4_append 45 = .ok (.iastore, 1) := by decide +kernel
theorem dX4_append_46 : decode cX4_append 46 = .ok (.aload_n 0, 1) := by decide +kernel
theorem dX4_append_47 : decode cX4_append 47 = .ok (.getfield 36, 3) := by decide +kernel
theorem dX4_append_50 : decode cX4_append 50 = .ok (.iload 4, 2) := by decide +kernel
theorem dX4_append_52 : decode cX4_append 52 = .ok (.iload_n 3, 1) := by decide +kernel
theorem dX4_append_53 : decode cX4_append 53 = .ok (.iastore, 1) := by decide +kernel
theorem dX4_append_54 : decode cX4_append 54 = .ok (.aload_n 0, 1) := by decide +kernel
theorem dX4_append_55 : decode cX4_append 55 = .ok (.getfield 39, 3) := by decide +kernel
theorem dX4_append_58 : decode cX4_append 58 = .ok (.iload 4, 2) := by decide +kernel
theorem dX4_append_60 : decode cX4_append 60 = .ok (.aload_n 0, 1) := by decide +kernel
theorem dX4_append_61 : decode cX4_append 61 = .ok (.iload_n 2, 1) := by decide +kernel
theorem dX4_append_62 : decode cX4_append 62 = .ok (.invokevirtual 75, 3) := by decide +kernel
theorem dX4_append_65 : decode cX4_append 65 = .ok (.ifCond .eq 14, 3) := by decide +kernel
theorem dX4_append_68 : decode cX4_append 68 = .ok (.aload_n 0, 1) := by decide +kernel
theorem dX4_append_69 : decode cX4_append 69 = .ok (.getfield 39, 3) := by decide +kernel
theorem dX4_append_72 : decode cX4_append 72 = .ok (.iload_n 2, 1) := by decide +kernel
theorem dX4_append_73 : decode cX4_append 73 = .ok (.iaload, 1) := by decide +kernel
theorem dX4_append_74 : decode cX4_append 74 = .ok (.iconst 1, 1) := by decide +kernel
theorem dX4_append_75 : decode cX4_append 75 = .ok (.iadd, 1) := by decide +kernel
theorem dX4_append_76 : decode cX4_append 76 = .ok (.goto 4, 3) := by decide +kernel
theorem dX4_append_79 : decode cX4_append 79 = .ok (.iconst 0, 1) := by decide +kernel
theorem dX4_append_80 : decode cX4_append 80 = .ok (.iastore, 1) := by decide +kernel
theorem dX4_append_81 : decode cX4_append 81 = .ok (.aload_n 0, 1) := by decide +kernel
theorem dX4_append_82 : decode cX4_append 82 = .ok (.aload_n 1, 1) := by decide +kernel
theorem dX4_append_83 : decode cX4_append 83 = .ok (.invokevirtual 57, 3) := by decide +kernel
theorem dX4_append_86 : decode cX4_append 86 = .ok (.istore 5, 2) := by decide +kernel
theorem dX4_append_88 : decode cX4_append 88 = .ok (.aload_n 0, 1) := by decide +kernel
theorem dX4_append_89 : decode cX4_append 89 = .ok (.getfield 48, 3) := by decide +kernel
theorem dX4_append_92 : decode cX4_append 92 = .ok (.iload 4, 2) := by decide +kernel
theorem dX4_append_94 : decode cX4_append 94 = .ok (.aload_n 0, 1) := by decide +kernel
theorem dX4_append_95 : decode cX4_append 95 = .ok (.getfield 45, 3) := by decide +kernel
theorem dX4_append_98 : decode cX4_append 98 = .ok (.iload 5, 2) := by decide +kernel
theorem dX4_append_100 : decode cX4_append 100 = .ok (.iaload, 1) := by decide +kernel
theorem dX4_append_101 : decode cX4_append 101 = .ok (.iastore, 1) := by decide +kernel
theorem dX4_append_102 : decode cX4_append 102 = .ok (.aload_n 0, 1) := by decide +kernel
theorem dX4_append_103 : decode cX4_append 103 = .ok (.getfield 45, 3) := by decide +kernel
theorem dX4_append_106 : decode cX4_append 106 = .ok (.iload 5, 2) := by decide +kernel
theorem dX4_append_108 : decode cX4_append 108 = .ok (.iload 4, 2) := by decide +kernel
theorem dX4_append_110 : decode cX4_append 110 = .ok (.iastore, 1) := by decide +kernel
theorem dX4_append_111 : decode cX4_append 111 = .ok (.aload_n 0, 1) := by decide +kernel
theorem dX4_append_112 : decode cX4_append 112 = .ok (.dup, 1) := by decide +kernel
theorem dX4_append_113 : decode cX4_append 113 = .ok (.getfield 22, 3) := by decide +kernel
theorem dX4_append_116 : decode cX4_append 116 = .ok (.iconst 1, 1) := by decide +kernel
theorem dX4_append_117 : decode cX4_append 117 = .ok (.iadd, 1) := by decide +kernel
theorem dX4_append_118 : decode cX4_append 118 = .ok (.putfield 22, 3) := by decide +kernel
theorem dX4_append_121 : decode cX4_append 121 = .ok (.iload 4, 2) := by decide +kernel
theorem dX4_append_123 : decode cX4_append 123 = .ok (.ireturn, 1) := by decide +kernel
theorem dX4_clear_0 : decode cX4_clear 0 = .ok (.aload_n 0, 1) := by decide +kernel
theorem dX4_clear_1 : decode cX4_clear 1 = .ok (.iload_n 1, 1) := by decide +kernel
theorem dX4_clear_2 : decode cX4_clear 2 = .ok (.putfield 15, 3) := by decide +kernel
theorem dX4_clear_5 : decode cX4_clear 5 = .ok (.aload_n 0, 1) := by decide +kernel
theorem dX4_clear_6 : decode cX4_clear 6 = .ok (.iload_n 2, 1) := by decide +kernel
theorem dX4_clear_7 : decode cX4_clear 7 = .ok (.putfield 19, 3) := by decide +kernel
theorem dX4_clear_10 : decode cX4_clear 10 = .ok (.aload_n 0, 1) := by decide +kernel
theorem dX4_clear_11 : decode cX4_clear 11 = .ok (.iconst 0, 1) := by decide +kernel
