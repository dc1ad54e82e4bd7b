theorem dX11_feed_55 : decode cX11_feed 55 = .ok (.land, 1) := by decide +kernel
theorem dX11_feed_56 : decode cX11_feed 56 = .ok (.l2i, 1) := by decide +kernel
theorem dX11_feed_57 : decode cX11_feed 57 = .ok (.iastore, 1) := by decide +kernel
theorem dX11_feed_58 : decode cX11_feed 58 = .ok (.aload_n 0, 1) := by decide +kernel
theorem dX11_feed_59 : decode cX11_feed 59 = .ok (.dup, 1) := by decide +kernel
theorem dX11_feed_60 : decode cX11_feed 60 = .ok (.getfield 171, 3) := by decide +kernel
theorem dX11_feed_63 : decode cX11_feed 63 = .ok (.iconst 1, 1) := by decide +kernel
theorem dX11_feed_64 : decode cX11_feed 64 = .ok (.iadd, 1) := by decide +kernel
theorem dX11_feed_65 : decode cX11_feed 65 = .ok (.putfield 171, 3) := by decide +kernel
theorem dX11_feed_68 : decode cX11_feed 68 = .ok (.iinc 4 1, 3) := by decide +kernel
theorem dX11_feed_71 : decode cX11_feed 71 = .ok (.goto (-40), 3) := by decide +kernel
theorem dX11_feed_74 : decode cX11_feed 74 = .ok (.aload_n 0, 1) := by decide +kernel
theorem dX11_feed_75 : decode cX11_feed 75 = .ok (.getfield 171, 3) := by decide +kernel
theorem dX11_feed_78 : decode cX11_feed 78 = .ok (.ireturn, 1) := by decide +kernel
theorem dX11_findForm_0 : decode cX11_findForm 0 = .ok (.aload_n 0, 1) := by decide +kernel
theorem dX11_findForm_1 : decode cX11_findForm 1 = .ok (.aload_n 0, 1) := by decide +kernel
theorem dX11_findForm_2 : decode cX11_findForm 2 = .ok (.getfield 27, 3) := by decide +kernel
theorem dX11_findForm_5 : decode cX11_findForm 5 = .ok (.invokevirtual 90, 3) := by decide +kernel
theorem dX11_findForm_8 : decode cX11_findForm 8 = .ok (.iconst 1, 1) := by decide +kernel
theorem dX11_findForm_9 : decode cX11_findForm 9 = .ok (.istore_n 1, 1) := by decide +kernel
theorem dX11_findForm_10 : decode cX11_findForm 10 = .ok (.iconst 0, 1) := by decide +kernel
theorem dX11_findForm_11 : decode cX11_findForm 11 = .ok (.istore_n 2, 1) := by decide +kernel
theorem dX11_findForm_12 : decode cX11_findForm 12 = .ok (.iload_n 2, 1) := by decide +kernel
theorem dX11_findForm_13 : decode cX11_findForm 13 = .ok (.aload_n 0, 1) := by decide +kernel
theorem dX11_findForm_14 : decode cX11_findForm 14 = .ok (.getfield 202, 3) := by decide +kernel
theorem dX11_findForm_17 : decode cX11_findForm 17 = .ok (.if_icmp .ge 204, 3) := by decide +kernel
theorem dX11_findForm_20 : decode cX11_findForm 20 = .ok (.aload_n 0, 1) := by decide +kernel
theorem dX11_findForm_21 : decode cX11_findForm 21 = .ok (.iload_n 2, 1) := by decide +kernel
theorem dX11_findForm_22 : decode cX11_findForm 22 = .ok (.aload_n 0, 1) := by decide +kernel
theorem dX11_findForm_23 : decode cX11_findForm 23 = .ok (.getfield 30, 3) := by decide +kernel
theorem dX11_findForm_26 : decode cX11_findForm 26 = .ok (.invokevirtual 209, 3) := by decide +kernel
theorem dX11_findForm_29 : decode cX11_findForm 29 = .ok (.iconst 0, 1) := by decide +kernel
theorem dX11_findForm_30 : decode cX11_findForm 30 = .ok (.istore_n 3, 1) := by decide +kernel
theorem dX11_findForm_31 : decode cX11_findForm 31 = .ok (.iload_n 3, 1) := by decide +kernel
theorem dX11_findForm_32 : decode cX11_findForm 32 = .ok (.aload_n 0, 1) := by decide +kernel
theorem dX11_findForm_33 : decode cX11_findForm 33 = .ok (.getfield 7, 3) := by decide +kernel
theorem dX11_findForm_36 : decode cX11_findForm 36 = .ok (.if_icmp .ge 179, 3) := by decide +kernel
theorem dX11_findForm_39 : decode cX11_findForm 39 = .ok (.iconst 0, 1) := by decide +kernel
theorem dX11_findForm_40 : decode cX11_findForm 40 = .ok (.istore 4, 2) := by decide +kernel
theorem dX11_findForm_42 : decode cX11_findForm 42 = .ok (.iload 4, 2) := by decide +kernel
theorem dX11_findForm_44 : decode cX11_findForm 44 = .ok (.aload_n 0, 1) := by decide +kernel
theorem dX11_findForm_45 : decode cX11_findForm 45 = .ok (.getfield 7, 3) := by decide +kernel
theorem dX11_findForm_48 : decode cX11_findForm 48 = .ok (.if_icmp .ge 161, 3) := by decide +kernel
theorem dX11_findForm_51 : decode cX11_findForm 51 = .ok (.lconst 0, 1) := by decide +kernel
theorem dX11_findForm_52 : decode cX11_findForm 52 = .ok (.lstore 5, 2) := by decide +kernel
theorem dX11_findForm_54 : decode cX11_findForm 54 = .ok (.iconst 0, 1) := by decide +kernel
theorem dX11_findForm_55 : decode cX11_findForm 55 = .ok (.istore 7, 2) := by decide +kernel
theorem dX11_findForm_57 : decode cX11_findForm 57 = .ok (.iload 7, 2) := by decide +kernel
theorem dX11_findForm_59 : decode cX11_findForm 59 = .ok (.aload_n 0, 1) := by decide +kernel
theorem dX11_findForm_60 : decode cX11_findForm 60 = .ok (.getfield 7, 3) := by decide +kernel
theorem dX11_findForm_63 : decode cX11_findForm 63 = .ok (.if_icmp .ge 38, 3) := by decide +kernel
theorem dX11_findForm_66 : decode cX11_findForm 66 = .ok (.lload 5, 2) := by decide +kernel
theorem dX11_findForm_68 : decode cX11_findForm 68 = .ok (.aload_n 0, 1) := by decide +kernel
theorem dX11_findForm_69 : decode cX11_findForm 69 = .ok (.getfield 30, 3) := by decide +kernel
theorem dX11_findForm_72 : decode cX11_findForm 72 = .ok (.iconst 3, 1) := by decide +kernel
theorem dX11_findForm_73 : decode cX11_findForm 73 = .ok (.iload 7, 2) := by decide +kernel
theorem dX11_findForm_75 : decode cX11_findForm 75 = .ok (.imul, 1) := by decide +kernel
theorem dX11_findForm_76 : decode cX11_findForm 76 = .ok (.iload_n 3, 1) := by decide +kernel
theorem dX11_findForm_77 : decode cX11_findForm 77 = .ok (.iadd, 1) := by decide +kernel
theorem dX11_findForm_78 : decode cX11_findForm 78 = .ok (.laload, 1) := by decide +kernel
theorem dX11_findForm_79 : decode cX11_findForm 79 = .ok (.aload_n 0, 1) := by decide +kernel
theorem dX11_findForm_80 : decode cX11_findForm 80 = .ok (.getfield 30, 3) := by decide +kernel
theorem dX11_findForm_83 : decode cX11_findForm 83 = .ok (.iconst 3, 1) := by decide +kernel
theorem dX11_findForm_84 : decode cX11_findForm 84 = .ok (.iload 7, 2) := by decide +kernel
theorem dX11_findForm_86 : decode cX11_findForm 86 = .ok (.imul, 1) := by decide +kernel
theorem dX11_findForm_87 : decode cX11_findForm 87 = .ok (.iload 4, 2) := by decide +kernel
theorem dX11_findForm_89 : decode cX11_findForm 89 = .ok (.iadd, 1) := by decide +kernel
theorem dX11_findForm_90 : decode cX11_findForm 90 = .ok (.laload, 1) := by decide +kernel
theorem dX11_findForm_91 : decode cX11_findForm 91 = .ok (.lmul, 1) := by decide +kernel
theorem dX11_findForm_92 : decode cX11_findForm 92 = .ok (.ladd, 1) := by decide +kernel
theorem dX11_findForm_93 : decode cX11_findForm 93 = .ok (.lstore 5, 2) := by decide +kernel
theorem dX11_findForm_95 : decode cX11_findForm 95 = .ok (.iinc 7 1, 3) := by decide +kernel
theorem dX11_findForm_98 : decode cX11_findForm 98 = .ok (.goto (-41), 3) := by decide +kernel
theorem dX11_findForm_101 : decode cX11_findForm 101 = .ok (.aload_n 0, 1) := by decide +kernel
theorem dX11_findForm_102 : decode cX11_findForm 102 = .ok (.getfield 27, 3) := by decide +kernel
theorem dX11_findForm_105 : decode cX11_findForm 105 = .ok (.iconst 3, 1) := by decide +kernel
theorem dX11_findForm_106 : decode cX11_findForm 106 = .ok (.iload_n 3, 1) := by decide +kernel
theorem dX11_findForm_107 : decode cX11_findForm 107 = .ok (.imul, 1) := by decide +kernel
theorem dX11_findForm_108 : decode cX11_findForm 108 = .ok (.iload 4, 2) := by decide +kernel
theorem dX11_findForm_110 : decode cX11_findForm 110 = .ok (.iadd, 1) := by decide +kernel
theorem dX11_findForm_111 : decode cX11_findForm 111 = .ok (.laload, 1) := by decide +kernel
theorem dX11_findForm_112 : decode cX11_findForm 112 = .ok (.lload 5, 2) := by decide +kernel
theorem dX11_findForm_114 : decode cX11_findForm 114 = .ok (.ladd, 1) := by decide +kernel
theorem dX11_findForm_115 : decode cX11_findForm 115 = .ok (.lstore 7, 2) := by decide +kernel
theorem dX11_findForm_117 : decode cX11_findForm 117 = .ok (.iload_n 1, 1) := by decide +kernel
theorem dX11_findForm_118 : decode cX11_findForm 118 = .ok (.ifCond .eq 70, 3) := by decide +kernel
theorem dX11_findForm_121 : decode cX11_findForm 121 = .ok (.aload_n 0, 1) := by decide +kernel
theorem dX11_findForm_122 : decode cX11_findForm 122 = .ok (.getfield 27, 3) := by decide +kernel
theorem dX11_findForm_125 : decode cX11_findForm 125 = .ok (.iconst 3, 1) := by decide +kernel
theorem dX11_findForm_126 : decode cX11_findForm 126 = .ok (.iload_n 3, 1) := by decide +kernel
theorem dX11_findForm_127 : decode cX11_findForm 127 = .ok (.imul, 1) := by decide +kernel
theorem dX11_findForm_128 : decode cX11_findForm 128 = .ok (.iload 4, 2) := by decide +kernel
theorem dX11_findForm_130 : decode cX11_findForm 130 = .ok (.iadd, 1) := by decide +kernel
theorem dX11_findForm_131 : decode cX11_findForm 131 = .ok (.laload, 1) := by decide +kernel
theorem dX11_findForm_132 : decode cX11_findForm 132 = .ok (.lconst 0, 1) := by decide +kernel
theorem dX11_findForm_133 : decode cX11_findForm 133 = .ok (.lcmp, 1) := by decide +kernel
theorem dX11_findForm_134 : decode cX11_findForm 134 = .ok (.ifCond .lt 7, 3) := by decide +kernel
theorem dX11_findForm_137 : decode cX11_findForm 137 = .ok (.iconst 1, 1) := by decide +kernel
theorem dX11_findForm_138 : decode cX11_findForm 138 = .ok (.goto 4, 3) := by decide +kernel
theorem dX11_findForm_141 : decode cX11_findForm 141 = .ok (.iconst 0, 1) := by decide +kernel
theorem dX11_findForm_142 : decode cX11_findForm 142 = .ok (.lload 5, 2) := by decide +kernel
theorem dX11_findForm_144 : decode cX11_findForm 144 = .ok (.lconst 0, 1) := by decide +kernel
theorem dX11_findForm_145 : decode cX11_findForm 145 = .ok (.lcmp, 1) := by decide +kernel
theorem dX11_findForm_146 : decode cX11_findForm 146 = .ok (.ifCond .lt 7, 3) := by decide +kernel
theorem dX11_findForm_149 : decode cX11_findForm 149 = .ok (.iconst 1, 1) := by decide +kernel
theorem dX11_findForm_150 : decode cX11_findForm 150 = .ok (.goto 4, 3) := by decide +kernel
theorem dX11_findForm_153 : decode cX11_findForm 153 = .ok (.iconst 0, 1) := by decide +kernel
theorem dX11_findForm_154 : decode cX11_findForm 154 = .ok (.if_icmp .ne 30, 3) := by decide +kernel
theorem dX11_findForm_157 : decode cX11_findForm 157 = .ok (.lload 7, 2) := by decide +kernel
theorem dX11_findForm_159 : decode cX11_findForm 159 = .ok (.lconst 0, 1) := by decide +kernel
theorem dX11_findForm_160 : decode cX11_findForm 160 = .ok (.lcmp, 1) := by decide +kernel
theorem dX11_findForm_161 : decode cX11_findForm 161 = .ok (.ifCond .lt 7, 3) := by decide +kernel
theorem dX11_findForm_164 : decode cX11_findForm 164 = .ok (.iconst 1, 1) := by decide +kernel
theorem dX11_findForm_165 : decode cX11_findForm 165 = .ok (.goto 4, 3) := by decide +kernel
theorem dX11_findForm_168 : decode cX11_findForm 168 = .ok (.iconst 0, 1) := by decide +kernel
theorem dX11_findForm_169 : decode cX11_findForm 169 = .ok (.lload 5, 2) := by decide +kernel
theorem dX11_findForm_171 : decode cX11_findForm 171 = .ok (.lconst 0, 1) := by decide +kernel
theorem dX11_findForm_172 : decode cX11_findForm 172 = .ok (.lcmp, 1) := by decide +kernel
theorem dX11_findForm_173 : decode cX11_findForm 173 = .ok (.ifCond .lt 7, 3) := by decide +kernel
theorem dX11_findForm_176 : decode cX11_findForm 176 = .ok (.iconst 1, 1) := by decide +kernel
theorem dX11_findForm_177 : decode cX11_findForm 177 = .ok (.goto 4, 3) := by decide +kernel
theorem dX11_findForm_180 : decode cX11_findForm 180 = .ok (.iconst 0, 1) := by decide +kernel
theorem dX11_findForm_181 : decode cX11_findForm 181 = .ok (.if_icmp .ne 7, 3) := by decide +kernel
theorem dX11_findForm_184 : decode cX11_findForm 184 = .ok (.iconst 1, 1) := by decide +kernel
theorem dX11_findForm_185 : decode cX11_findForm 185 = .ok (.goto 4, 3) := by decide +kernel
theorem dX11_findForm_188 : decode cX11_findForm 188 = .ok (.iconst 0, 1) := by decide +kernel
theorem dX11_findForm_189 : decode cX11_findForm 189 = .ok (.istore_n 1, 1) := by decide +kernel
theorem dX11_findForm_190 : decode cX11_findForm 190 = .ok (.aload_n 0, 1) := by decide +kernel
theorem dX11_findForm_191 : decode cX11_findForm 191 = .ok (.getfield 27, 3) := by decide +kernel
theorem dX11_findForm_194 : decode cX11_findForm 194 = .ok (.iconst 3, 1) := by decide +kernel
theorem dX11_findForm_195 : decode cX11_findForm 195 = .ok (.iload_n 3, 1) := by decide +kernel
theorem dX11_findForm_196 : decode cX11_findForm 196 = .ok (.imul, 1) := by decide +kernel
theorem dX11_findForm_197 : decode cX11_findForm 197 = .ok (.iload 4, 2) := by decide +kernel
theorem dX11_findForm_199 : decode cX11_findForm 199 = .ok (.iadd, 1) := by decide +kernel
theorem dX11_findForm_200 : decode cX11_findForm 200 = .ok (.lload 7, 2) := by decide +kernel
theorem dX11_findForm_202 : decode cX11_findForm 202 = .ok (.lastore, 1) := by decide +kernel
theorem dX11_findForm_203 : decode cX11_findForm 203 = .ok (.iinc 4 1, 3) := by decide +kernel
theorem dX11_findForm_206 : decode cX11_findForm 206 = .ok (.goto (-164), 3) := by decide +kernel
theorem dX11_findForm_209 : decode cX11_findForm 209 = .ok (.iinc 3 1, 3) := by decide +kernel
theorem dX11_findForm_212 : decode cX11_findForm 212 = .ok (.goto (-181), 3) := by decide +kernel
theorem dX11_findForm_215 : decode cX11_findForm 215 = .ok (.iinc 2 1, 3) := by decide +kernel
theorem dX11_findForm_218 : decode cX11_findForm 218 = .ok (.goto (-206), 3) := by decide +kernel
theorem dX11_findForm_221 : decode cX11_findForm 221 = .ok (.iload_n 1, 1) := by decide +kernel
theorem dX11_findForm_222 : decode cX11_findForm 222 = .ok (.ireturn, 1) := by decide +kernel
theorem dX11_findList_0 : decode cX11_findList 0 = .ok (.aload_n 0, 1) := by decide +kernel
theorem dX11_findList_1 : decode cX11_findList 1 = .ok (.getfield 98, 3) := by decide +kernel
theorem dX11_findList_4 : decode cX11_findList 4 = .ok (.ifCond .eq 4, 3) := by decide +kernel
theorem dX11_findList_7 : decode cX11_findList 7 = .ok (.return_, 1) := by decide +kernel
theorem dX11_findList_8 : decode cX11_findList 8 = .ok (.aload_n 0, 1) := by decide +kernel
theorem dX11_findList_9 : decode cX11_findList 9 = .ok (.iconst 0, 1) := by decide +kernel
theorem dX11_findList_10 : decode cX11_findList 10 = .ok (.putfield 202, 3) := by decide +kernel
theorem dX11_findList_13 : decode cX11_findList 13 = .ok (.aload_n 0, 1) := by decide +kernel
theorem dX11_findList_14 : decode cX11_findList 14 = .ok (.aload_n 0, 1) := by decide +kernel
theorem dX11_findList_15 : decode cX11_findList 15 = .ok (.getfield 27, 3) := by decide +kernel
theorem dX11_findList_18 : decode cX11_findList 18 = .ok (.invokevirtual 107, 3) := by decide +kernel
theorem dX11_findList_21 : decode cX11_findList 21 = .ok (.aload_n 0, 1) := by decide +kernel
theorem dX11_findList_22 : decode cX11_findList 22 = .ok (.aload_n 0, 1) := by decide +kernel
theorem dX11_findList_23 : decode cX11_findList 23 = .ok (.getfield 27, 3) := by decide +kernel
theorem dX11_findList_26 : decode cX11_findList 26 = .ok (.bipush (-3), 2) := by decide +kernel
theorem dX11_findList_28 : decode cX11_findList 28 = .ok (.bipush (-3), 2) := by decide +kernel
theorem dX11_findList_30 : decode cX11_findList 30 = .ok (.invokevirtual 205, 3) := by decide +kernel
theorem dX11_findList_33 : decode cX11_findList 33 = .ok (.iconst 0, 1) := by decide +kernel
theorem dX11_findList_34 : decode cX11_findList 34 = .ok (.istore_n 1, 1) := by decide +kernel
theorem dX11_findList_35 : decode cX11_findList 35 = .ok (.iload_n 1, 1) := by decide +kernel
theorem dX11_findList_36 : decode cX11_findList 36 = .ok (.aload_n 0, 1) := by decide +kernel
theorem dX11_findList_37 : decode cX11_findList 37 = .ok (.getfield 202, 3) := by decide +kernel
theorem dX11_findList_40 : decode cX11_findList 40 = .ok (.if_icmp .ge 100, 3) := by decide +kernel
theorem dX11_findList_43 : decode cX11_findList 43 = .ok (.iconst 0, 1) := by decide +kernel
theorem dX11_findList_44 : decode cX11_findList 44 = .ok (.istore_n 2, 1) := by decide +kernel
theorem dX11_findList_45 : decode cX11_findList 45 = .ok (.iload_n 2, 1) := by decide +kernel
theorem dX11_findList_46 : decode cX11_findList 46 = .ok (.aload_n 0, 1) := by decide +kernel
theorem dX11_findList_47 : decode cX11_findList 47 = .ok (.getfield 85, 3) := by decide +kernel
theorem dX11_findList_50 : decode cX11_findList 50 = .ok (.if_icmp .ge 84, 3) := by decide +kernel
theorem dX11_findList_53 : decode cX11_findList 53 = .ok (.aload_n 0, 1) := by decide +kernel
theorem dX11_findList_54 : decode cX11_findList 54 = .ok (.getfield 202, 3) := by decide +kernel
theorem dX11_findList_57 : decode cX11_findList 57 = .ok (.bipush 100, 2) := by decide +kernel
theorem dX11_findList_59 : decode cX11_findList 59 = .ok (.if_icmp .ge 75, 3) := by decide +kernel
theorem dX11_findList_62 : decode cX11_findList 62 = .ok (.aload_n 0, 1) := by decide +kernel
theorem dX11_findList_63 : decode cX11_findList 63 = .ok (.iload_n 1, 1) := by decide +kernel
theorem dX11_findList_64 : decode cX11_findList 64 = .ok (.aload_n 0, 1) := by decide +kernel
theorem dX11_findList_65 : decode cX11_findList 65 = .ok (.getfield 27, 3) := by decide +kernel
theorem dX11_findList_68 : decode cX11_findList 68 = .ok (.invokevirtual 209, 3) := by decide +kernel
theorem dX11_findList_71 : decode cX11_findList 71 = .ok (.aload_n 0, 1) := by decide +kernel
theorem dX11_findList_72 : decode cX11_findList 72 = .ok (.iload_n 2, 1) := by decide +kernel
theorem dX11_findList_73 : decode cX11_findList 73 = .ok (.aload_n 0, 1) := by decide +kernel
theorem dX11_findList_74 : decode cX11_findList 74 = .ok (.getfield 30, 3) := by decide +kernel
theorem dX11_findList_77 : decode cX11_findList 77 = .ok (.invokevirtual 125, 3) := by decide +kernel
theorem dX11_findList_80 : decode cX11_findList 80 = .ok (.aload_n 0, 1) := by decide +kernel
theorem dX11_findList_81 : decode cX11_findList 81 = .ok (.aload_n 0, 1) := by decide +kernel
theorem dX11_findList_82 : decode cX11_findList 82 = .ok (.getfield 27, 3) := by decide +kernel
theorem dX11_findList_85 : decode cX11_findList 85 = .ok (.aload_n 0, 1) := by decide +kernel
theorem dX11_findList_86 : decode cX11_findList 86 = .ok (.getfield 30, 3) := by decide +kernel
theorem dX11_findList_89 : decode cX11_findList 89 = .ok (.aload_n 0, 1) := by decide +kernel
theorem dX11_findList_90 : decode cX11_findList 90 = .ok (.getfield 33, 3) := by decide +kernel
theorem dX11_findList_93 : decode cX11_findList 93 = .ok (.invokevirtual 129, 3) := by decide +kernel
theorem dX11_findList_96 : decode cX11_findList 96 = .ok (.aload_n 0, 1) := by decide +kernel
theorem dX11_findList_97 : decode cX11_findList 97 = .ok (.aload_n 0, 1) := by decide +kernel
theorem dX11_findList_98 : decode cX11_findList 98 = .ok (.getfield 33, 3) := by decide +kernel
theorem dX11_findList_101 : decode cX11_findList 101 = .ok (.invokevirtual 212, 3) := by decide +kernel
theorem dX11_findList_104 : decode cX11_findList 104 = .ok (.ifCond .ge 24, 3) := by decide +kernel
theorem dX11_findList_107 : decode cX11_findList 107 = .ok (.aload_n 0, 1) := by decide +kernel
theorem dX11_findList_108 : decode cX11_findList 108 = .ok (.aload_n 0, 1) := by decide +kernel
theorem dX11_findList_109 : decode cX11_findList 109 = .ok (.getfield 33, 3) := by decide +kernel
theorem dX11_findList_112 : decode cX11_findList 112 = .ok (.invokevirtual 154, 3) := by decide +kernel
theorem dX11_findList_115 : decode cX11_findList 115 = .ok (.ifCond .ne 13, 3) := by decide +kernel
theorem dX11_findList_118 : decode cX11_findList 118 = .ok (.aload_n 0, 1) := by decide +kernel
theorem dX11_findList_119 : decode cX11_findList 119 = .ok (.aload_n 0, 1) := by decide +kernel
theorem dX11_findList_120 : decode cX11_findList 120 = .ok (.getfield 33, 3) := by decide +kernel
theorem dX11_findList_123 : decode cX11_findList 123 = .ok (.iload_n 1, 1) := by decide +kernel
theorem dX11_findList_124 : decode cX11_findList 124 = .ok (.iload_n 2, 1) := by decide +kernel
theorem dX11_findList_125 : decode cX11_findList 125 = .ok (.invokevirtual 205, 3) := by decide +kernel
theorem dX11_findList_128 : decode cX11_findList 128 = .ok (.iinc 2 1, 3) := by decide +kernel
theorem dX11_findList_131 : decode cX11_findList 131 = .ok (.goto (-86), 3) := by decide +kernel
theorem dX11_findList_134 : decode cX11_findList 134 = .ok (.iinc 1 1, 3) := by decide +kernel
theorem dX11_findList_137 : decode cX11_findList 137 = .ok (.goto (-102), 3) := by decide +kernel
theorem dX11_findList_140 : decode cX11_findList 140 = .ok (.aload_n 0, 1) := by decide +kernel
theorem dX11_findList_141 : decode cX11_findList 141 = .ok (.iconst 1, 1) := by decide +kernel
theorem dX11_findList_142 : decode cX11_findList 142 = .ok (.putfield 216, 3) := by decide +kernel
theorem dX11_findList_145 : decode cX11_findList 145 = .ok (.iconst 0, 1) := by decide +kernel
theorem dX11_findList_146 : decode cX11_findList 146 = .ok (.istore_n 1, 1) := by decide +kernel
theorem dX11_findList_147 : decode cX11_findList 147 = .ok (.iload_n 1, 1) := by decide +kernel
theorem dX11_findList_148 : decode cX11_findList 148 = .ok (.aload_n 0, 1) := by decide +kernel
theorem dX11_findList_149 : decode cX11_findList 149 = .ok (.getfield 202, 3) := by decide +kernel
theorem dX11_findList_152 : decode cX11_findList 152 = .ok (.if_icmp .ge 86, 3) := by decide +kernel
theorem dX11_findList_155 : decode cX11_findList 155 = .ok (.iconst 0, 1) := by decide +kernel
theorem dX11_findList_156 : decode cX11_findList 156 = .ok (.istore_n 2, 1) := by decide +kernel
theorem dX11_findList_157 : decode cX11_findList 157 = .ok (.iload_n 2, 1) := by decide +kernel
theorem dX11_findList_158 : decode cX11_findList 158 = .ok (.aload_n 0, 1) := by decide +kernel
theorem dX11_findList_159 : decode cX11_findList 159 = .ok (.getfield 85, 3) := by decide +kernel
theorem dX11_findList_162 : decode cX11_findList 162 = .ok (.if_icmp .ge 70, 3) := by decide +kernel
theorem dX11_findList_165 : decode cX11_findList 165 = .ok (.aload_n 0, 1) := by decide +kernel
theorem dX11_findList_166 : decode cX11_findList 166 = .ok (.iload_n 1, 1) := by decide +kernel
theorem dX11_findList_167 : decode cX11_findList 167 = .ok (.aload_n 0, 1) := by decide +kernel
theorem dX11_findList_168 : decode cX11_findList 168 = .ok (.getfield 27, 3) := by decide +kernel
theorem dX11_findList_171 : decode cX11_findList 171 = .ok (.invokevirtual 209, 3) := by decide +kernel
theorem dX11_findList_174 : decode cX11_findList 174 = .ok (.aload_n 0, 1) := by decide +kernel
theorem dX11_findList_175 : decode cX11_findList 175 = .ok (.iload_n 2, 1) := by decide +kernel
theorem dX11_findList_176 : decode cX11_findList 176 = .ok (.aload_n 0, 1) := by decide +kernel
theorem dX11_findList_177 : decode cX11_findList 177 = .ok (.getfield 30, 3) := by decide +kernel
theorem dX11_findList_180 : decode cX11_findList 180 = .ok (.invokevirtual 125, 3) := by decide +kernel
theorem dX11_findList_183 : decode cX11_findList 183 = .ok (.aload_n 0, 1) := by decide +kernel
theorem dX11_findList_184 : decode cX11_findList 184 = .ok (.aload_n 0, 1) := by decide +kernel
theorem dX11_findList_185 : decode cX11_findList 185 = .ok (.getfield 27, 3) := by decide +kernel
theorem dX11_findList_188 : decode cX11_findList 188 = .ok (.aload_n 0, 1) := by decide +kernel
theorem dX11_findList_189 : decode cX11_findList 189 = .ok (.getfield 30, 3) := by decide +kernel
theorem dX11_findList_192 : decode cX11_findList 192 = .ok (.aload_n 0, 1) := by decide +kernel
theorem dX11_findList_193 : decode cX11_findList 193 = .ok (.getfield 33, 3) := by decide +kernel
theorem dX11_findList_196 : decode cX11_findList 196 = .ok (.invokevirtual 129, 3) := by decide +kernel
theorem dX11_findList_199 : decode cX11_findList 199 = .ok (.aload_n 0, 1) := by decide +kernel
theorem dX11_findList_200 : decode cX11_findList 200 = .ok (.aload_n 0, 1) := by decide +kernel
theorem dX11_findList_201 : decode cX11_findList 201 = .ok (.getfield 216, 3) := by decide +kernel
theorem dX11_findList_204 : decode cX11_findList 204 = .ok (.ifCond .eq 18, 3) := by decide +kernel
theorem dX11_findList_207 : decode cX11_findList 207 = .ok (.aload_n 0, 1) := by decide +kernel
theorem dX11_findList_208 : decode cX11_findList 208 = .ok (.aload_n 0, 1) := by decide +kernel
theorem dX11_findList_209 : decode cX11_findList 209 = .ok (.getfield 33, 3) := by decide +kernel
theorem dX11_findList_212 : decode cX11_findList 212 = .ok (.invokevirtual 212, 3) := by decide +kernel
theorem dX11_findList_215 : decode cX11_findList 215 = .ok (.ifCond .lt 7, 3) := by decide +kernel
theorem dX11_findList_218 : decode cX11_findList 218 = .ok (.iconst 1, 1) := by decide +kernel
theorem dX11_findList_219 : decode cX11_findList 219 = .ok (.goto 4, 3) := by decide +kernel
theorem dX11_findList_222 : decode cX11_findList 222 = .ok (.iconst 0, 1) := by decide +kernel
theorem dX11_findList_223 : decode cX11_findList 223 = .ok (.putfield 216, 3) := by decide +kernel
theorem dX11_findList_226 : decode cX11_findList 226 = .ok (.iinc 2 1, 3) := by decide +kernel
theorem dX11_findList_229 : decode cX11_findList 229 = .ok (.goto (-72), 3) := by decide +kernel
theorem dX11_findList_232 : decode cX11_findList 232 = .ok (.iinc 1 1, 3) := by decide +kernel
theorem dX11_findList_235 : decode cX11_findList 235 = .ok (.goto (-88), 3) := by decide +kernel
theorem dX11_findList_238 : decode cX11_findList 238 = .ok (.aload_n 0, 1) := by decide +kernel
theorem dX11_findList_239 : decode cX11_findList 239 = .ok (.iconst 1, 1) := by decide +kernel
theorem dX11_findList_240 : decode cX11_findList 240 = .ok (.putfield 98, 3) := by decide +kernel
theorem dX11_findList_243 : decode cX11_findList 243 = .ok (.return_, 1) := by decide +kernel
theorem dX11_finds_0 : decode cX11_finds 0 = .ok (.aload_n 0, 1) := by decide +kernel
theorem dX11_finds_1 : decode cX11_finds 1 = .ok (.iload_n 1, 1) := by decide +kernel
theorem dX11_finds_2 : decode cX11_finds 2 = .ok (.aload_n 0, 1) := by decide +kernel
theorem dX11_finds_3 : decode cX11_finds 3 = .ok (.getfield 27, 3) := by decide +kernel
theorem dX11_finds_6 : decode cX11_finds 6 = .ok (.invokevirtual 125, 3) := by decide +kernel
theorem dX11_finds_9 : decode cX11_finds 9 = .ok (.aload_n 0, 1) := by decide +kernel
theorem dX11_finds_10 : decode cX11_finds 10 = .ok (.getfield 27, 3) := by decide +kernel
theorem dX11_finds_13 : decode cX11_finds 13 = .ok (.iconst 0, 1) := by decide +kernel
theorem dX11_finds_14 : decode cX11_finds 14 = .ok (.laload, 1) := by decide +kernel
theorem dX11_finds_15 : decode cX11_finds 15 = .ok (.aload_n 0, 1) := by decide +kernel
theorem dX11_finds_16 : decode cX11_finds 16 = .ok (.getfield 27, 3) := by decide +kernel
theorem dX11_finds_19 : decode cX11_finds 19 = .ok (.iconst 4, 1) := by decide +kernel
theorem dX11_finds_20 : decode cX11_finds 20 = .ok (.laload, 1) := by decide +kernel
theorem dX11_finds_21 : decode cX11_finds 21 = .ok (.ladd, 1) := by decide +kernel
theorem dX11_finds_22 : decode cX11_finds 22 = .ok (.aload_n 0, 1) := by decide +kernel
theorem dX11_finds_23 : decode cX11_finds 23 = .ok (.getfield 27, 3) := by decide +kernel
theorem dX11_finds_26 : decode cX11_finds 26 = .ok (.bipush 8, 2) := by decide +kernel
theorem dX11_finds_28 : decode cX11_finds 28 = .ok (.laload, 1) := by decide +kernel
theorem dX11_finds_29 : decode cX11_finds 29 = .ok (.ladd, 1) := by decide +kernel
theorem dX11_finds_30 : decode cX11_finds 30 = .ok (.lstore_n 2, 1) := by decide +kernel
theorem dX11_finds_31 : decode cX11_finds 31 = .ok (.aload_n 0, 1) := by decide +kernel
theorem dX11_finds_32 : decode cX11_finds 32 = .ok (.getfield 36, 3) := by decide +kernel
theorem dX11_finds_35 : decode cX11_finds 35 = .ok (.iconst 0, 1) := by decide +kernel
theorem dX11_finds_36 : decode cX11_finds 36 = .ok (.aload_n 0, 1) := by decide +kernel
theorem dX11_finds_37 : decode cX11_finds 37 = .ok (.getfield 7, 3) := by decide +kernel
theorem dX11_finds_40 : decode cX11_finds 40 = .ok (.iconst 2, 1) := by decide +kernel
theorem dX11_finds_41 : decode cX11_finds 41 = .ok (.irem, 1) := by decide +kernel
theorem dX11_finds_42 : decode cX11_finds 42 = .ok (.ifCond .ne 14, 3) := by decide +kernel
theorem dX11_finds_45 : decode cX11_finds 45 = .ok (.aload_n 0, 1) := by decide +kernel
theorem dX11_finds_46 : decode cX11_finds 46 = .ok (.aload_n 0, 1) := by decide +kernel
theorem dX11_finds_47 : decode cX11_finds 47 = .ok (.getfield 27, 3) := by decide +kernel
theorem dX11_finds_50 : decode cX11_finds 50 = .ok (.invokevirtual 139, 3) := by decide +kernel
theorem dX11_finds_53 : decode cX11_finds 53 = .ok (.goto 12, 3) := by decide +kernel
theorem dX11_finds_56 : decode cX11_finds 56 = .ok (.aload_n 0, 1) := by decide +kernel
theorem dX11_finds_57 : decode cX11_finds 57 = .ok (.aload_n 0, 1) := by decide +kernel
theorem dX11_finds_58 : decode cX11_finds 58 = .ok (.getfield 27, 3) := by decide +kernel
theorem dX11_finds_61 : decode cX11_finds 61 = .ok (.invokevirtual 139, 3) := by decide +kernel
theorem dX11_finds_64 : decode cX11_finds 64 = .ok (.lneg, 1) := by decide +kernel
theorem dX11_finds_65 : decode cX11_finds 65 = .ok (.lastore, 1) := by decide +kernel
theorem dX11_finds_66 : decode cX11_finds 66 = .ok (.aload_n 0, 1) := by decide +kernel
theorem dX11_finds_67 : decode cX11_finds 67 = .ok (.getfield 36, 3) := by decide +kernel
theorem dX11_finds_70 : decode cX11_finds 70 = .ok (.iconst 1, 1) := by decide +kernel
theorem dX11_finds_71 : decode cX11_finds 71 = .ok (.aload_n 0, 1) := by decide +kernel
theorem dX11_finds_72 : decode cX11_finds 72 = .ok (.getfield 7, 3) := by decide +kernel
theorem dX11_finds_75 : decode cX11_finds 75 = .ok (.iconst 1, 1) := by decide +kernel
theorem dX11_finds_76 : decode cX11_finds 76 = .ok (.if_icmp .ne 7, 3) := by decide +kernel
theorem dX11_finds_79 : decode cX11_finds 79 = .ok (.lconst 1, 1) := by decide +kernel
theorem dX11_finds_80 : decode cX11_finds 80 = .ok (.goto 48, 3) := by decide +kernel
theorem dX11_finds_83 : decode cX11_finds 83 = .ok (.aload_n 0, 1) := by decide +kernel
theorem dX11_finds_84 : decode cX11_finds 84 = .ok (.getfield 7, 3) := by decide +kernel
theorem dX11_finds_87 : decode cX11_finds 87 = .ok (.iconst 2, 1) := by decide +kernel
theorem dX11_finds_88 : decode cX11_finds 88 = .ok (.if_icmp .ne 8, 3) := by decide +kernel
theorem dX11_finds_91 : decode cX11_finds 91 = .ok (.lload_n 2, 1) := by decide +kernel
theorem dX11_finds_92 : decode cX11_finds 92 = .ok (.lneg, 1) := by decide +kernel
theorem dX11_finds_93 : decode cX11_finds 93 = .ok (.goto 35, 3) := by decide +kernel
theorem dX11_finds_96 : decode cX11_finds 96 = .ok (.aload_n 0, 1) := by decide +kernel
theorem dX11_finds_97 : decode cX11_finds 97 = .ok (.aload_n 0, 1) := by decide +kernel
theorem dX11_finds_98 : decode cX11_finds 98 = .ok (.getfield 27, 3) := by decide +kernel
theorem dX11_finds_101 : decode cX11_finds 101 = .ok (.iconst 0, 1) := by decide +kernel
theorem dX11_finds_102 : decode cX11_finds 102 = .ok (.iconst 0, 1) := by decide +kernel
theorem dX11_finds_103 : decode cX11_finds 103 = .ok (.invokevirtual 135, 3) := by decide +kernel
theorem dX11_finds_106 : decode cX11_finds 106 = .ok (.aload_n 0, 1) := by decide +kernel
theorem dX11_finds_107 : decode cX11_finds 107 = .ok (.aload_n 0, 1) := by decide +kernel
theorem dX11_finds_108 : decode cX11_finds 108 = .ok (.getfield 27, 3) := by decide +kernel
theorem dX11_finds_111 : decode cX11_finds 111 = .ok (.iconst 1, 1) := by decide +kernel
theorem dX11_finds_112 : decode cX11_finds 112 = .ok (.iconst 1, 1) := by decide +kernel
theorem dX11_finds_113 : decode cX11_finds 113 = .ok (.invokevirtual 135, 3) := by decide +kernel
theorem dX11_finds_116 : decode cX11_finds 116 = .ok (.ladd, 1) := by decide +kernel
theorem dX11_finds_117 : decode cX11_finds 117 = .ok (.aload_n 0, 1) := by decide +kernel
theorem dX11_finds_118 : decode cX11_finds 118 = .ok (.aload_n 0, 1) := by decide +kernel
theorem dX11_finds_119 : decode cX11_finds 119 = .ok (.getfield 27, 3) := by decide +kernel
theorem dX11_finds_122 : decode cX11_finds 122 = .ok (.iconst 2, 1) := by decide +kernel
theorem dX11_finds_123 : decode cX11_finds 123 = .ok (.iconst 2, 1) := by decide +kernel
theorem dX11_finds_124 : decode cX11_finds 124 = .ok (.invokevirtual 135, 3) := by decide +kernel
theorem dX11_finds_127 : decode cX11_finds 127 = .ok (.ladd, 1) := by decide +kernel
theorem dX11_finds_128 : decode cX11_finds 128 = .ok (.lastore, 1) := by decide +kernel
theorem dX11_finds_129 : decode cX11_finds 129 = .ok (.aload_n 0, 1) := by decide +kernel
theorem dX11_finds_130 : decode cX11_finds 130 = .ok (.getfield 36, 3) := by decide +kernel
theorem dX11_finds_133 : decode cX11_finds 133 = .ok (.iconst 2, 1) := by decide +kernel
theorem dX11_finds_134 : decode cX11_finds 134 = .ok (.aload_n 0, 1) := by decide +kernel
theorem dX11_finds_135 : decode cX11_finds 135 = .ok (.getfield 7, 3) := by decide +kernel
theorem dX11_finds_138 : decode cX11_finds 138 = .ok (.iconst 2, 1) := by decide +kernel
theorem dX11_finds_139 : decode cX11_finds 139 = .ok (.if_icmp .ne 7, 3) := by decide +kernel
theorem dX11_finds_142 : decode cX11_finds 142 = .ok (.lconst 1, 1) := by decide +kernel
theorem dX11_finds_143 : decode cX11_finds 143 = .ok (.goto 17, 3) := by decide +kernel
theorem dX11_finds_146 : decode cX11_finds 146 = .ok (.aload_n 0, 1) := by decide +kernel
theorem dX11_finds_147 : decode cX11_finds 147 = .ok (.getfield 7, 3) := by decide +kernel
theorem dX11_finds_150 : decode cX11_finds 150 = .ok (.iconst 3, 1) := by decide +kernel
theorem dX11_finds_151 : decode cX11_finds 151 = .ok (.if_icmp .ne 8, 3) := by decide +kernel
theorem dX11_finds_154 : decode cX11_finds 154 = .ok (.lload_n 2, 1) := by decide +kernel
theorem dX11_finds_155 : decode cX11_finds 155 = .ok (.lneg, 1) := by decide +kernel
theorem dX11_finds_156 : decode cX11_finds 156 = .ok (.goto 4, 3) := by decide +kernel
theorem dX11_finds_159 : decode cX11_finds 159 = .ok (.lconst 0, 1) := by decide +kernel
theorem dX11_finds_160 : decode cX11_finds 160 = .ok (.lastore, 1) := by decide +kernel
theorem dX11_finds_161 : decode cX11_finds 161 = .ok (.aload_n 0, 1) := by decide +kernel
theorem dX11_finds_162 : decode cX11_finds 162 = .ok (.getfield 36, 3) := by decide +kernel
theorem dX11_finds_165 : decode cX11_finds 165 = .ok (.iconst 3, 1) := by decide +kernel
theorem dX11_finds_166 : decode cX11_finds 166 = .ok (.aload_n 0, 1) := by decide +kernel
theorem dX11_finds_167 : decode cX11_finds 167 = .ok (.getfield 7, 3) := by decide +kernel
theorem dX11_finds_170 : decode cX11_finds 170 = .ok (.iconst 3, 1) := by decide +kernel
theorem dX11_finds_171 : decode cX11_finds 171 = .ok (.if_icmp .ne 7, 3) := by decide +kernel
theorem dX11_finds_174 : decode cX11_finds 174 = .ok (.lconst 1, 1) := by decide +kernel
theorem dX11_finds_175 : decode cX11_finds 175 = .ok (.goto 4, 3) := by decide +kernel
theorem dX11_finds_178 : decode cX11_finds 178 = .ok (.lconst 0, 1) := by decide +kernel
theorem dX11_finds_179 : decode cX11_finds 179 = .ok (.lastore, 1) := by decide +kernel
theorem dX11_finds_180 : decode cX11_finds 180 = .ok (.return_, 1) := by decide +kernel
theorem dX11_first_0 : decode cX11_first 0 = .ok (.aload_n 0, 1) := by decide +kernel
theorem dX11_first_1 : decode cX11_first 1 = .ok (.aload_n 1, 1) := by decide +kernel
theorem dX11_first_2 : decode cX11_first 2 = .ok (.invokevirtual 90, 3) := by decide +kernel
theorem dX11_first_5 : decode cX11_first 5 = .ok (.iconst 0, 1) := by decide +kernel
theorem dX11_first_6 : decode cX11_first 6 = .ok (.istore_n 2, 1) := by decide +kernel
theorem dX11_first_7 : decode cX11_first 7 = .ok (.iload_n 2, 1) := by decide +kernel
theorem dX11_first_8 : decode cX11_first 8 = .ok (.aload_n 0, 1) := by decide +kernel
theorem dX11_first_9 : decode cX11_first 9 = .ok (.getfield 7, 3) := by decide +kernel
theorem dX11_first_12 : decode cX11_first 12 = .ok (.if_icmp .ge 15, 3) := by decide +kernel
theorem dX11_first_15 : decode cX11_first 15 = .ok (.aload_n 1, 1) := by decide +kernel
theorem dX11_first_16 : decode cX11_first 16 = .ok (.iconst 4, 1) := by decide +kernel
theorem dX11_first_17 : decode cX11_first 17 = .ok (.iload_n 2, 1) := by decide +kernel
theorem dX11_first_18 : decode cX11_first 18 = .ok (.imul, 1) := by decide +kernel
theorem dX11_first_19 : decode cX11_first 19 = .ok (.lconst 1, 1) := by decide +kernel
theorem dX11_first_20 : decode cX11_first 20 = .ok (.lastore, 1) := by decide +kernel
theorem dX11_first_21 : decode cX11_first 21 = .ok (.iinc 2 1, 3) := by decide +kernel
theorem dX11_first_24 : decode cX11_first 24 = .ok (.goto (-17), 3) := by decide +kernel
theorem dX11_first_27 : decode cX11_first 27 = .ok (.return_, 1) := by decide +kernel
theorem dX11_form_0 : decode cX11_form 0 = .ok (.aload_n 0, 1) := by decide +kernel
theorem dX11_form_1 : decode cX11_form 1 = .ok (.iload_n 1, 1) := by decide +kernel
theorem dX11_form_2 : decode cX11_form 2 = .ok (.invokevirtual 110, 3) := by decide +kernel
theorem dX11_form_5 : decode cX11_form 5 = .ok (.ifCond .eq 11, 3) := by decide +kernel
theorem dX11_form_8 : decode cX11_form 8 = .ok (.aload_n 0, 1) := by decide +kernel
theorem dX11_form_9 : decode cX11_form 9 = .ok (.iload_n 2, 1) := by decide +kernel
theorem dX11_form_10 : decode cX11_form 10 = .ok (.invokevirtual 110, 3) := by decide +kernel
theorem dX11_form_13 : decode cX11_form 13 = .ok (.ifCond .ne 8, 3) := by decide +kernel
theorem dX11_form_16 : decode cX11_form 16 = .ok (.iconst (-1), 1) := by decide +kernel
theorem dX11_form_17 : decode cX11_form 17 = .ok (.invokestatic 222, 3) := by decide +kernel
theorem dX11_form_20 : decode cX11_form 20 = .ok (.lreturn, 1) := by decide +kernel
theorem dX11_form_21 : decode cX11_form 21 = .ok (.aload_n 0, 1) := by decide +kernel
theorem dX11_form_22 : decode cX11_form 22 = .ok (.invokevirtual 219, 3) := by decide +kernel
theorem dX11_form_25 : decode cX11_form 25 = .ok (.aload_n 0, 1) := by decide +kernel
theorem dX11_form_26 : decode cX11_form 26 = .ok (.getfield 216, 3) := by decide +kernel
theorem dX11_form_29 : decode cX11_form 29 = .ok (.ifCond .ne 9, 3) := by decide +kernel
theorem dX11_form_32 : decode cX11_form 32 = .ok (.bipush (-3), 2) := by decide +kernel
theorem dX11_form_34 : decode cX11_form 34 = .ok (.invokestatic 222, 3) := by decide +kernel
theorem dX11_form_37 : decode cX11_form 37 = .ok (.lreturn, 1) := by decide +kernel
theorem dX11_form_38 : decode cX11_form 38 = .ok (.aload_n 0, 1) := by decide +kernel
theorem dX11_form_39 : decode cX11_form 39 = .ok (.invokevirtual 230, 3) := by decide +kernel
theorem dX11_form_42 : decode cX11_form 42 = .ok (.ifCond .ne 9, 3) := by decide +kernel
theorem dX11_form_45 : decode cX11_form 45 = .ok (.bipush (-16), 2) := by decide +kernel
theorem dX11_form_47 : decode cX11_form 47 = .ok (.invokestatic 222, 3) := by decide +kernel
theorem dX11_form_50 : decode cX11_form 50 = .ok (.lreturn, 1) := by decide +kernel
theorem dX11_form_51 : decode cX11_form 51 = .ok (.lconst 0, 1) := by decide +kernel
theorem dX11_form_52 : decode cX11_form 52 = .ok (.lstore_n 3, 1) := by decide +kernel
theorem dX11_form_53 : decode cX11_form 53 = .ok (.iconst 0, 1) := by decide +kernel
theorem dX11_form_54 : decode cX11_form 54 = .ok (.istore 5, 2) := by decide +kernel
theorem dX11_form_56 : decode cX11_form 56 = .ok (.iload 5, 2) := by decide +kernel
theorem dX11_form_58 : decode cX11_form 58 = .ok (.bipush 9, 2) := by decide +kernel
theorem dX11_form_60 : decode cX11_form 60 = .ok (.if_icmp .ge 21, 3) := by decide +kernel
theorem dX11_form_63 : decode cX11_form 63 = .ok (.lload_n 3, 1) := by decide +kernel
theorem dX11_form_64 : decode cX11_form 64 = .ok (.aload_n 0, 1) := by decide +kernel
theorem dX11_form_65 : decode cX11_form 65 = .ok (.getfield 27, 3) := by decide +kernel
theorem dX11_form_68 : decode cX11_form 68 = .ok (.iload 5, 2) := by decide +kernel
theorem dX11_form_70 : decode cX11_form 70 = .ok (.laload, 1) := by decide +kernel
theorem dX11_form_71 : decode cX11_form 71 = .ok (.invokestatic 233, 3) := by decide +kernel
theorem dX11_form_74 : decode cX11_form 74 = .ok (.lstore_n 3, 1) := by decide +kernel
theorem dX11_form_75 : decode cX11_form 75 = .ok (.iinc 5 1, 3) := by decide +kernel
theorem dX11_form_78 : decode cX11_form 78 = .ok (.goto (-22), 3) := by decide +kernel
theorem dX11_form_81 : decode cX11_form 81 = .ok (.aload_n 0, 1) := by decide +kernel
theorem dX11_form_82 : decode cX11_form 82 = .ok (.getfield 27, 3) := by decide +kernel
theorem dX11_form_85 : decode cX11_form 85 = .ok (.iconst 3, 1) := by decide +kernel
theorem dX11_form_86 : decode cX11_form 86 = .ok (.iload_n 1, 1) := by decide +kernel
theorem dX11_form_87 : decode cX11_form 87 = .ok (.imul, 1) := by decide +kernel
theorem dX11_form_88 : decode cX11_form 88 = .ok (.iload_n 2, 1) := by decide +kernel
theorem dX11_form_89 : decode cX11_form 89 = .ok (.iadd, 1) := by decide +kernel
theorem dX11_form_90 : decode cX11_form 90 = .ok (.laload, 1) := by decide +kernel
theorem dX11_form_91 : decode cX11_form 91 = .ok (.lload_n 3, 1) := by decide +kernel
theorem dX11_form_92 : decode cX11_form 92 = .ok (.ldiv, 1) := by decide +kernel
theorem dX11_form_93 : decode cX11_form 93 = .ok (.lreturn, 1) := by decide +kernel
theorem dX11_found_0 : decode cX11_found 0 = .ok (.iconst 0, 1) := by decide +kernel
theorem dX11_found_1 : decode cX11_found 1 = .ok (.istore_n 2, 1) := by decide +kernel
theorem dX11_found_2 : decode cX11_found 2 = .ok (.iload_n 1, 1) := by decide +kernel
theorem dX11_found_3 : decode cX11_found 3 = .ok (.ifCond .lt 7, 3) := by decide +kernel
theorem dX11_found_6 : decode cX11_found 6 = .ok (.iconst 1, 1) := by decide +kernel
theorem dX11_found_7 : decode cX11_found 7 = .ok (.goto 4, 3) := by decide +kernel
theorem dX11_found_10 : decode cX11_found 10 = .ok (.iconst 0, 1) := by decide +kernel
theorem dX11_found_11 : decode cX11_found 11 = .ok (.istore_n 3, 1) := by decide +kernel
theorem dX11_found_12 : decode cX11_found 12 = .ok (.iload_n 1, 1) := by decide +kernel
theorem dX11_found_13 : decode cX11_found 13 = .ok (.istore 4, 2) := by decide +kernel
theorem dX11_found_15 : decode cX11_found 15 = .ok (.iload 4, 2) := by decide +kernel
theorem dX11_found_17 : decode cX11_found 17 = .ok (.ifCond .le 44, 3) := by decide +kernel
theorem dX11_found_20 : decode cX11_found 20 = .ok (.iload_n 3, 1) := by decide +kernel
theorem dX11_found_21 : decode cX11_found 21 = .ok (.ifCond .eq 25, 3) := by decide +kernel
theorem dX11_found_24 : decode cX11_found 24 = .ok (.iload 4, 2) := by decide +kernel
theorem dX11_found_26 : decode cX11_found 26 = .ok (.bipush 10, 2) := by decide +kernel
theorem dX11_found_28 : decode cX11_found 28 = .ok (.irem, 1) := by decide +kernel
theorem dX11_found_29 : decode cX11_found 29 = .ok (.i2l, 1) := by decide +kernel
theorem dX11_found_30 : decode cX11_found 30 = .ok (.lconst 1, 1) := by decide +kernel
theorem dX11_found_31 : decode cX11_found 31 = .ok (.aload_n 0, 1) := by decide +kernel
theorem dX11_found_32 : decode cX11_found 32 = .ok (.getfield 85, 3) := by decide +kernel
theorem dX11_found_35 : decode cX11_found 35 = .ok (.i2l, 1) := by decide +kernel
theorem dX11_found_36 : decode cX11_found 36 = .ok (.invokestatic 81, 3) := by decide +kernel
theorem dX11_found_39 : decode cX11_found 39 = .ok (.ifCond .eq 7, 3) := by decide +kernel
theorem dX11_found_42 : decode cX11_found 42 = .ok (.iconst 1, 1) := by decide +kernel
theorem dX11_found_43 : decode cX11_found 43 = .ok (.goto 4, 3) := by decide +kernel
theorem dX11_found_46 : decode cX11_found 46 = .ok (.iconst 0, 1) := by decide +kernel
theorem dX11_found_47 : decode cX11_found 47 = .ok (.istore_n 3, 1) := by decide +kernel
theorem dX11_found_48 : decode cX11_found 48 = .ok (.iinc 2 1, 3) := by decide +kernel
theorem dX11_found_51 : decode cX11_found 51 = .ok (.iload 4, 2) := by decide +kernel
theorem dX11_found_53 : decode cX11_found 53 = .ok (.bipush 10, 2) := by decide +kernel
theorem dX11_found_55 : decode cX11_found 55 = .ok (.idiv, 1) := by decide +kernel
theorem dX11_found_56 : decode cX11_found 56 = .ok (.istore 4, 2) := by decide +kernel
theorem dX11_found_58 : decode cX11_found 58 = .ok (.goto (-43), 3) := by decide +kernel
theorem dX11_found_61 : decode cX11_found 61 = .ok (.iload_n 3, 1) := by decide +kernel
theorem dX11_found_62 : decode cX11_found 62 = .ok (.ifCond .eq 9, 3) := by decide +kernel
theorem dX11_found_65 : decode cX11_found 65 = .ok (.iload_n 2, 1) := by decide +kernel
theorem dX11_found_66 : decode cX11_found 66 = .ok (.bipush 9, 2) := by decide +kernel
theorem dX11_found_68 : decode cX11_found 68 = .ok (.if_icmp .le 5, 3) := by decide +kernel
theorem dX11_found_71 : decode cX11_found 71 = .ok (.iconst (-1), 1) := by decide +kernel
theorem dX11_found_72 : decode cX11_found 72 = .ok (.ireturn, 1) := by decide +kernel
theorem dX11_found_73 : decode cX11_found 73 = .ok (.aload_n 0, 1) := by decide +kernel
theorem dX11_found_74 : decode cX11_found 74 = .ok (.invokevirtual 219, 3) := by decide +kernel
theorem dX11_found_77 : decode cX11_found 77 = .ok (.aload_n 0, 1) := by decide +kernel
theorem dX11_found_78 : decode cX11_found 78 = .ok (.aload_n 0, 1) := by decide +kernel
theorem dX11_found_79 : decode cX11_found 79 = .ok (.getfield 27, 3) := by decide +kernel
theorem dX11_found_82 : decode cX11_found 82 = .ok (.invokevirtual 107, 3) := by decide +kernel
theorem dX11_found_85 : decode cX11_found 85 = .ok (.iconst 1, 1) := by decide +kernel
theorem dX11_found_86 : decode cX11_found 86 = .ok (.istore 4, 2) := by decide +kernel
theorem dX11_found_88 : decode cX11_found 88 = .ok (.iconst 1, 1) := by decide +kernel
theorem dX11_found_89 : decode cX11_found 89 = .ok (.istore 5, 2) := by decide +kernel
theorem dX11_found_91 : decode cX11_found 91 = .ok (.iload 5, 2) := by decide +kernel
theorem dX11_found_93 : decode cX11_found 93 = .ok (.iload_n 2, 1) := by decide +kernel
theorem dX11_found_94 : decode cX11_found 94 = .ok (.if_icmp .ge 16, 3) := by decide +kernel
theorem dX11_found_97 : decode cX11_found 97 = .ok (.iload 4, 2) := by decide +kernel
theorem dX11_found_99 : decode cX11_found 99 = .ok (.bipush 10, 2) := by decide +kernel
theorem dX11_found_101 : decode cX11_found 101 = .ok (.imul, 1) := by decide +kernel
theorem dX11_found_102 : decode cX11_found 102 = .ok (.istore 4, 2) := by decide +kernel
theorem dX11_found_104 : decode cX11_found 104 = .ok (.iinc 5 1, 3) := by decide +kernel
theorem dX11_found_107 : decode cX11_found 107 = .ok (.goto (-16), 3) := by decide +kernel
theorem dX11_found_110 : decode cX11_found 110 = .ok (.iconst 0, 1) := by decide +kernel
theorem dX11_found_111 : decode cX11_found 111 = .ok (.istore 5, 2) := by decide +kernel
theorem dX11_found_113 : decode cX11_found 113 = .ok (.iload 5, 2) := by decide +kernel
theorem dX11_found_115 : decode cX11_found 115 = .ok (.iload_n 2, 1) := by decide +kernel
theorem dX11_found_116 : decode cX11_found 116 = .ok (.if_icmp .ge 93, 3) := by decide +kernel
theorem dX11_found_119 : decode cX11_found 119 = .ok (.aload_n 0, 1) := by decide +kernel
theorem dX11_found_120 : decode cX11_found 120 = .ok (.iload_n 1, 1) := by decide +kernel
theorem dX11_found_121 : decode cX11_found 121 = .ok (.iload 4, 2) := by decide +kernel
theorem dX11_found_123 : decode cX11_found 123 = .ok (.idiv, 1) := by decide +kernel
theorem dX11_found_124 : decode cX11_found 124 = .ok (.bipush 10, 2) := by decide +kernel
theorem dX11_found_126 : decode cX11_found 126 = .ok (.irem, 1) := by decide +kernel
theorem dX11_found_127 : decode cX11_found 127 = .ok (.iconst 1, 1) := by decide +kernel
theorem dX11_found_128 : decode cX11_found 128 = .ok (.isub, 1) := by decide +kernel
theorem dX11_found_129 : decode cX11_found 129 = .ok (.aload_n 0, 1) := by decide +kernel
theorem dX11_found_130 : decode cX11_found 130 = .ok (.getfield 30, 3) := by decide +kernel
theorem dX11_found_133 : decode cX11_found 133 = .ok (.invokevirtual 125, 3) := by decide +kernel
theorem dX11_found_136 : decode cX11_found 136 = .ok (.aload_n 0, 1) := by decide +kernel
theorem dX11_found_137 : decode cX11_found 137 = .ok (.aload_n 0, 1) := by decide +kernel
theorem dX11_found_138 : decode cX11_found 138 = .ok (.getfield 27, 3) := by decide +kernel
theorem dX11_found_141 : decode cX11_found 141 = .ok (.aload_n 0, 1) := by decide +kernel
theorem dX11_found_142 : decode cX11_found 142 = .ok (.getfield 30, 3) := by decide +kernel
theorem dX11_found_145 : decode cX11_found 145 = .ok (.aload_n 0, 1) := by decide +kernel
theorem dX11_found_146 : decode cX11_found 146 = .ok (.getfield 33, 3) := by decide +kernel
theorem dX11_found_149 : decode cX11_found 149 = .ok (.invokevirtual 129, 3) := by decide +kernel
theorem dX11_found_152 : decode cX11_found 152 = .ok (.aload_n 0, 1) := by decide +kernel
theorem dX11_found_153 : decode cX11_found 153 = .ok (.aload_n 0, 1) := by decide +kernel
theorem dX11_found_154 : decode cX11_found 154 = .ok (.getfield 33, 3) := by decide +kernel
theorem dX11_found_157 : decode cX11_found 157 = .ok (.invokevirtual 154, 3) := by decide +kernel
theorem dX11_found_160 : decode cX11_found 160 = .ok (.ifCond .eq 6, 3) := by decide +kernel
theorem dX11_found_163 : decode cX11_found 163 = .ok (.bipush (-16), 2) := by decide +kernel
theorem dX11_found_165 : decode cX11_found 165 = .ok (.ireturn, 1) := by decide +kernel
theorem dX11_found_166 : decode cX11_found 166 = .ok (.iconst 0, 1) := by decide +kernel
theorem dX11_found_167 : decode cX11_found 167 = .ok (.istore 6, 2) := by decide +kernel
theorem dX11_found_169 : decode cX11_found 169 = .ok (.iload 6, 2) := by decide +kernel
theorem dX11_found_171 : decode cX11_found 171 = .ok (.bipush 9, 2) := by decide +kernel
theorem dX11_found_173 : decode cX11_found 173 = .ok (.if_icmp .ge 23, 3) := by decide +kernel
theorem dX11_found_176 : decode cX11_found 176 = .ok (.aload_n 0, 1) := by decide +kernel
theorem dX11_found_177 : decode cX11_found 177 = .ok (.getfield 27, 3) := by decide +kernel
theorem dX11_found_180 : decode cX11_found 180 = .ok (.iload 6, 2) := by decide +kernel
theorem dX11_found_182 : decode cX11_found 182 = .ok (.aload_n 0, 1) := by decide +kernel
theorem dX11_found_183 : decode cX11_found 183 = .ok (.getfield 33, 3) := by decide +kernel
theorem dX11_found_186 : decode cX11_found 186 = .ok (.iload 6, 2) := by decide +kernel
theorem dX11_found_188 : decode cX11_found 188 = .ok (.laload, 1) := by decide +kernel
theorem dX11_found_189 : decode cX11_found 189 = .ok (.lastore, 1) := by decide +kernel
theorem dX11_found_190 : decode cX11_found 190 = .ok (.iinc 6 1, 3) := by decide +kernel
theorem dX11_found_193 : decode cX11_found 193 = .ok (.goto (-24), 3) := by decide +kernel
theorem dX11_found_196 : decode cX11_found 196 = .ok (.iload 4, 2) := by decide +kernel
theorem dX11_found_198 : decode cX11_found 198 = .ok (.bipush 10, 2) := by decide +kernel
theorem dX11_found_200 : decode cX11_found 200 = .ok (.idiv, 1) := by decide +kernel
theorem dX11_found_201 : decode cX11_found 201 = .ok (.istore 4, 2) := by decide +kernel
theorem dX11_found_203 : decode cX11_found 203 = .ok (.iinc 5 1, 3) := by decide +kernel
theorem dX11_found_206 : decode cX11_found 206 = .ok (.goto (-93), 3) := by decide +kernel
theorem dX11_found_209 : decode cX11_found 209 = .ok (.aload_n 0, 1) := by decide +kernel
theorem dX11_found_210 : decode cX11_found 210 = .ok (.aload_n 0, 1) := by decide +kernel
theorem dX11_found_211 : decode cX11_found 211 = .ok (.getfield 27, 3) := by decide +kernel
theorem dX11_found_214 : decode cX11_found 214 = .ok (.invokevirtual 212, 3) := by decide +kernel
theorem dX11_found_217 : decode cX11_found 217 = .ok (.istore 5, 2) := by decide +kernel
theorem dX11_found_219 : decode cX11_found 219 = .ok (.iload 5, 2) := by decide +kernel
theorem dX11_found_221 : decode cX11_found 221 = .ok (.ifCond .ge 8, 3) := by decide +kernel
theorem dX11_found_224 : decode cX11_found 224 = .ok (.bipush (-3), 2) := by decide +kernel
theorem dX11_found_226 : decode cX11_found 226 = .ok (.goto 5, 3) := by decide +kernel
theorem dX11_found_229 : decode cX11_found 229 = .ok (.iload 5, 2) := by decide +kernel
theorem dX11_found_231 : decode cX11_found 231 = .ok (.ireturn, 1) := by decide +kernel
theorem dX11_goes_0 : decode cX11_goes 0 = .ok (.aload_n 0, 1) := by decide +kernel
theorem dX11_goes_1 : decode cX11_goes 1 = .ok (.iload_n 1, 1) := by decide +kernel
theorem dX11_goes_2 : decode cX11_goes 2 = .ok (.aload_n 0, 1) := by decide +kernel
theorem dX11_goes_3 : decode cX11_goes 3 = .ok (.getfield 30, 3) := by decide +kernel
theorem dX11_goes_6 : decode cX11_goes 6 = .ok (.invokevirtual 125, 3) := by decide +kernel
theorem dX11_goes_9 : decode cX11_goes 9 = .ok (.iconst 0, 1) := by decide +kernel
theorem dX11_goes_10 : decode cX11_goes 10 = .ok (.istore_n 3, 1) := by decide +kernel
theorem dX11_goes_11 : decode cX11_goes 11 = .ok (.iload_n 3, 1) := by decide +kernel
theorem dX11_goes_12 : decode cX11_goes 12 = .ok (.iconst 3, 1) := by decide +kernel
theorem dX11_goes_13 : decode cX11_goes 13 = .ok (.if_icmp .ge 66, 3) := by decide +kernel
theorem dX11_goes_16 : decode cX11_goes 16 = .ok (.aload_n 0, 1) := by decide +kernel
theorem dX11_goes_17 : decode cX11_goes 17 = .ok (.getfield 27, 3) := by decide +kernel
theorem dX11_goes_20 : decode cX11_goes 20 = .ok (.iload_n 3, 1) := by decide +kernel
theorem dX11_goes_21 : decode cX11_goes 21 = .ok (.lconst 0, 1) := by decide +kernel
theorem dX11_goes_22 : decode cX11_goes 22 = .ok (.lastore, 1) := by decide +kernel
theorem dX11_goes_23 : decode cX11_goes 23 = .ok (.iconst 0, 1) := by decide +kernel
theorem dX11_goes_24 : decode cX11_goes 24 = .ok (.istore 4, 2) := by decide +kernel
theorem dX11_goes_26 : decode cX11_goes 26 = .ok (.iload 4, 2) := by decide +kernel
theorem dX11_goes_28 : decode cX11_goes 28 = .ok (.aload_n 0, 1) := by decide +kernel
theorem dX11_goes_29 : decode cX11_goes 29 = .ok (.getfield 7, 3) := by decide +kernel
theorem dX11_goes_32 : decode cX11_goes 32 = .ok (.if_icmp .ge 41, 3) := by decide +kernel
theorem dX11_goes_35 : decode cX11_goes 35 = .ok (.aload_n 0, 1) := by decide +kernel
theorem dX11_goes_36 : decode cX11_goes 36 = .ok (.getfield 27, 3) := by decide +kernel
theorem dX11_goes_39 : decode cX11_goes 39 = .ok (.iload_n 3, 1) := by decide +kernel
theorem dX11_goes_40 : decode cX11_goes 40 = .ok (.dup2, 1) := by decide +kernel
theorem dX11_goes_41 : decode cX11_goes 41 = .ok (.laload, 1) := by decide +kernel
theorem dX11_goes_42 : decode cX11_goes 42 = .ok (.aload_n 0, 1) := by decide +kernel
theorem dX11_goes_43 : decode cX11_goes 43 = .ok (.getfield 30, 3) := by decide +kernel
theorem dX11_goes_46 : decode cX11_goes 46 = .ok (.iconst 3, 1) := by decide +kernel
theorem dX11_goes_47 : decode cX11_goes 47 = .ok (.iload_n 3, 1) := by decide +kernel
theorem dX11_goes_48 : decode cX11_goes 48 = .ok (.imul, 1) := by decide +kernel
theorem dX11_goes_49 : decode cX11_goes 49 = .ok (.iload 4, 2) := by decide +kernel
theorem dX11_goes_51 : decode cX11_goes 51 = .ok (.iadd, 1) := by decide +kernel
theorem dX11_goes_52 : decode cX11_goes 52 = .ok (.laload, 1) := by decide +kernel
theorem dX11_goes_53 : decode cX11_goes 53 = .ok (.aload_n 0, 1) := by decide +kernel
theorem dX11_goes_54 : decode cX11_goes 54 = .ok (.getfield 60, 3) := by decide +kernel
theorem dX11_goes_57 : decode cX11_goes 57 = .ok (.iconst 3, 1) := by decide +kernel
theorem dX11_goes_58 : decode cX11_goes 58 = .ok (.iload_n 2, 1) := by decide +kernel
theorem dX11_goes_59 : decode cX11_goes 59 = .ok (.imul, 1) := by decide +kernel
theorem dX11_goes_60 : decode cX11_goes 60 = .ok (.iload 4, 2) := by decide +kernel
theorem dX11_goes_62 : decode cX11_goes 62 = .ok (.iadd, 1) := by decide +kernel
theorem dX11_goes_63 : decode cX11_goes 63 = .ok (.laload, 1) := by decide +kernel
theorem dX11_goes_64 : decode cX11_goes 64 = .ok (.lmul, 1) := by decide +kernel
theorem dX11_goes_65 : decode cX11_goes 65 = .ok (.ladd, 1) := by decide +kernel
theorem dX11_goes_66 : decode cX11_goes 66 = .ok (.lastore, 1) := by decide +kernel
theorem dX11_goes_67 : decode cX11_goes 67 = .ok (.iinc 4 1, 3) := by decide +kernel
theorem dX11_goes_70 : decode cX11_goes 70 = .ok (.goto (-44), 3) := by decide +kernel
theorem dX11_goes_73 : decode cX11_goes 73 = .ok (.iinc 3 1, 3) := by decide +kernel
theorem dX11_goes_76 : decode cX11_goes 76 = .ok (.goto (-65), 3) := by decide +kernel
theorem dX11_goes_79 : decode cX11_goes 79 = .ok (.return_, 1) := by decide +kernel
theorem dX11_here_0 : decode cX11_here 0 = .ok (.aload_n 0, 1) := by decide +kernel
theorem dX11_here_1 : decode cX11_here 1 = .ok (.getfield 176, 3) := by decide +kernel
theorem dX11_here_4 : decode cX11_here 4 = .ok (.aload_n 0, 1) := by decide +kernel
theorem dX11_here_5 : decode cX11_here 5 = .ok (.getfield 171, 3) := by decide +kernel
theorem dX11_here_8 : decode cX11_here 8 = .ok (.if_icmp .ge 30, 3) := by decide +kernel
theorem dX11_here_11 : decode cX11_here 11 = .ok (.aload_n 0, 1) := by decide +kernel
theorem dX11_here_12 : decode cX11_here 12 = .ok (.getfield 39, 3) := by decide +kernel
theorem dX11_here_15 : decode cX11_here 15 = .ok (.aload_n 0, 1) := by decide +kernel
theorem dX11_here_16 : decode cX11_here 16 = .ok (.getfield 176, 3) := by decide +kernel
theorem dX11_here_19 : decode cX11_here 19 = .ok (.iaload, 1) := by decide +kernel
theorem dX11_here_20 : decode cX11_here 20 = .ok (.bipush 32, 2) := by decide +kernel
theorem dX11_here_22 : decode cX11_here 22 = .ok (.if_icmp .ne 16, 3) := by decide +kernel
theorem dX11_here_25 : decode cX11_here 25 = .ok (.aload_n 0, 1) := by decide +kernel
theorem dX11_here_26 : decode cX11_here 26 = .ok (.dup, 1) := by decide +kernel
theorem dX11_here_27 : decode cX11_here 27 = .ok (.getfield 176, 3) := by decide +kernel
theorem dX11_here_30 : decode cX11_here 30 = .ok (.iconst 1, 1) := by decide +kernel
theorem dX11_here_31 : decode cX11_here 31 = .ok (.iadd, 1) := by decide +kernel
theorem dX11_here_32 : decode cX11_here 32 = .ok (.putfield 176, 3) := by decide +kernel
theorem dX11_here_35 : decode cX11_here 35 = .ok (.goto (-35), 3) := by decide +kernel
theorem dX11_here_38 : decode cX11_here 38 = .ok (.aload_n 0, 1) := by decide +kernel
theorem dX11_here_39 : decode cX11_here 39 = .ok (.getfield 176, 3) := by decide +kernel
theorem dX11_here_42 : decode cX11_here 42 = .ok (.aload_n 0, 1) := by decide +kernel
theorem dX11_here_43 : decode cX11_here 43 = .ok (.getfield 171, 3) := by decide +kernel
theorem dX11_here_46 : decode cX11_here 46 = .ok (.if_icmp .ge 15, 3) := by decide +kernel
theorem dX11_here_49 : decode cX11_here 49 = .ok (.aload_n 0, 1) := by decide +kernel
theorem dX11_here_50 : decode cX11_here 50 = .ok (.getfield 39, 3) := by decide +kernel
theorem dX11_here_53 : decode cX11_here 53 = .ok (.aload_n 0, 1) := by decide +kernel
theorem dX11_here_54 : decode cX11_here 54 = .ok (.getfield 176, 3) := by decide +kernel
theorem dX11_here_57 : decode cX11_here 57 = .ok (.iaload, 1) := by decide +kernel
theorem dX11_here_58 : decode cX11_here 58 = .ok (.goto 4, 3) := by decide +kernel
theorem dX11_here_61 : decode cX11_here 61 = .ok (.iconst (-1), 1) := by decide +kernel
theorem dX11_here_62 : decode cX11_here 62 = .ok (.ireturn, 1) := by decide +kernel
theorem dX11_image_0 : decode cX11_image 0 = .ok (.iload_n 1, 1) := by decide +kernel
theorem dX11_image_1 : decode cX11_image 1 = .ok (.invokestatic 250, 3) := by decide +kernel
theorem dX11_image_4 : decode cX11_image 4 = .ok (.ifCond .ne 5, 3) := by decide +kernel
theorem dX11_image_7 : decode cX11_image 7 = .ok (.iconst (-1), 1) := by decide +kernel
theorem dX11_image_8 : decode cX11_image 8 = .ok (.ireturn, 1) := by decide +kernel
theorem dX11_image_9 : decode cX11_image 9 = .ok (.aload_n 0, 1) := by decide +kernel
theorem dX11_image_10 : decode cX11_image 10 = .ok (.aload_n 0, 1) := by decide +kernel
theorem dX11_image_11 : decode cX11_image 11 = .ok (.getfield 27, 3) := by decide +kernel
theorem dX11_image_14 : decode cX11_image 14 = .ok (.invokevirtual 107, 3) := by decide +kernel
theorem dX11_image_17 : decode cX11_image 17 = .ok (.aload_n 0, 1) := by decide +kernel
theorem dX11_image_18 : decode cX11_image 18 = .ok (.getfield 57, 3) := by decide +kernel
theorem dX11_image_21 : decode cX11_image 21 = .ok (.iconst 0, 1) := by decide +kernel
theorem dX11_image_22 : decode cX11_image 22 = .ok (.aload_n 0, 1) := by decide +kernel
theorem dX11_image_23 : decode cX11_image 23 = .ok (.aload_n 0, 1) := by decide +kernel
theorem dX11_image_24 : decode cX11_image 24 = .ok (.getfield 27, 3) := by decide +kernel
theorem dX11_image_27 : decode cX11_image 27 = .ok (.iload_n 1, 1) := by decide +kernel
theorem dX11_image_28 : decode cX11_image 28 = .ok (.invokevirtual 253, 3) := by decide +kernel
theorem dX11_image_31 : decode cX11_image 31 = .ok (.iastore, 1) := by decide +kernel
theorem dX11_image_32 : decode cX11_image 32 = .ok (.iconst 1, 1) := by decide +kernel
theorem dX11_image_33 : decode cX11_image 33 = .ok (.istore_n 2, 1) := by decide +kernel
theorem dX11_image_34 : decode cX11_image 34 = .ok (.iconst 0, 1) := by decide +kernel
theorem dX11_image_35 : decode cX11_image 35 = .ok (.istore_n 3, 1) := by decide +kernel
theorem dX11_image_36 : decode cX11_image 36 = .ok (.iload_n 3, 1) := by decide +kernel
theorem dX11_image_37 : decode cX11_image 37 = .ok (.iload_n 2, 1) := by decide +kernel
theorem dX11_image_38 : decode cX11_image 38 = .ok (.if_icmp .ge 144, 3) := by decide +kernel
theorem dX11_image_41 : decode cX11_image 41 = .ok (.iconst 0, 1) := by decide +kernel
theorem dX11_image_42 : decode cX11_image 42 = .ok (.istore 4, 2) := by decide +kernel
theorem dX11_image_44 : decode cX11_image 44 = .ok (.iload 4, 2) := by decide +kernel
theorem dX11_image_46 : decode cX11_image 46 = .ok (.aload_n 0, 1) := by decide +kernel
theorem dX11_image_47 : decode cX11_image 47 = .ok (.getfield 85, 3) := by decide +kernel
theorem dX11_image_50 : decode cX11_image 50 = .ok (.if_icmp .ge 126, 3) := by decide +kernel
theorem dX11_image_53 : decode cX11_image 53 = .ok (.iload_n 2, 1) := by decide +kernel
theorem dX11_image_54 : decode cX11_image 54 = .ok (.sipush 400, 3) := by decide +kernel
theorem dX11_image_57 : decode cX11_image 57 = .ok (.if_icmp .ge 119, 3) := by decide +kernel
theorem dX11_image_60 : decode cX11_image 60 = .ok (.aload_n 0, 1) := by decide +kernel
theorem dX11_image_61 : decode cX11_image 61 = .ok (.aload_n 0, 1) := by decide +kernel
theorem dX11_image_62 : decode cX11_image 62 = .ok (.getfield 57, 3) := by decide +kernel
theorem dX11_image_65 : decode cX11_image 65 = .ok (.iload_n 3, 1) := by decide +kernel
theorem dX11_image_66 : decode cX11_image 66 = .ok (.iaload, 1) := by decide +kernel
theorem dX11_image_67 : decode cX11_image 67 = .ok (.iload_n 1, 1) := by decide +kernel
theorem dX11_image_68 : decode cX11_image 68 = .ok (.aload_n 0, 1) := by decide +kernel
theorem dX11_image_69 : decode cX11_image 69 = .ok (.getfield 27, 3) := by decide +kernel
theorem dX11_image_72 : decode cX11_image 72 = .ok (.invokevirtual 256, 3) := by decide +kernel
theorem dX11_image_75 : decode cX11_image 75 = .ok (.aload_n 0, 1) := by decide +kernel
theorem dX11_image_76 : decode cX11_image 76 = .ok (.iload 4, 2) := by decide +kernel
theorem dX11_image_78 : decode cX11_image 78 = .ok (.aload_n 0, 1) := by decide +kernel
theorem dX11_image_79 : decode cX11_image 79 = .ok (.getfield 30, 3) := by decide +kernel
theorem dX11_image_82 : decode cX11_image 82 = .ok (.invokevirtual 125, 3) := by decide +kernel
theorem dX11_image_85 : decode cX11_image 85 = .ok (.aload_n 0, 1) := by decide +kernel
theorem dX11_image_86 : decode cX11_image 86 = .ok (.aload_n 0, 1) := by decide +kernel
