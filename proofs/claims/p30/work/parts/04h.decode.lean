theorem dX11_put_0 : decode cX11_put 0 = .ok (.iload_n 1, 1) := by decide +kernel
theorem dX11_put_1 : decode cX11_put 1 = .ok (.invokestatic 237, 3) := by decide +kernel
theorem dX11_put_4 : decode cX11_put 4 = .ok (.ifCond .ne 5, 3) := by decide +kernel
theorem dX11_put_7 : decode cX11_put 7 = .ok (.iconst (-1), 1) := by decide +kernel
theorem dX11_put_8 : decode cX11_put 8 = .ok (.ireturn, 1) := by decide +kernel
theorem dX11_put_9 : decode cX11_put 9 = .ok (.aload_n 0, 1) := by decide +kernel
theorem dX11_put_10 : decode cX11_put 10 = .ok (.getfield 69, 3) := by decide +kernel
theorem dX11_put_13 : decode cX11_put 13 = .ok (.iload_n 1, 1) := by decide +kernel
theorem dX11_put_14 : decode cX11_put 14 = .ok (.iaload, 1) := by decide +kernel
theorem dX11_put_15 : decode cX11_put 15 = .ok (.ifCond .ge 6, 3) := by decide +kernel
theorem dX11_put_18 : decode cX11_put 18 = .ok (.bipush (-11), 2) := by decide +kernel
theorem dX11_put_20 : decode cX11_put 20 = .ok (.ireturn, 1) := by decide +kernel
theorem dX11_put_21 : decode cX11_put 21 = .ok (.iload_n 2, 1) := by decide +kernel
theorem dX11_put_22 : decode cX11_put 22 = .ok (.i2l, 1) := by decide +kernel
theorem dX11_put_23 : decode cX11_put 23 = .ok (.lconst 0, 1) := by decide +kernel
theorem dX11_put_24 : decode cX11_put 24 = .ok (.aload_n 0, 1) := by decide +kernel
theorem dX11_put_25 : decode cX11_put 25 = .ok (.getfield 72, 3) := by decide +kernel
theorem dX11_put_28 : decode cX11_put 28 = .ok (.iload_n 1, 1) := by decide +kernel
theorem dX11_put_29 : decode cX11_put 29 = .ok (.iaload, 1) := by decide +kernel
theorem dX11_put_30 : decode cX11_put 30 = .ok (.iconst 1, 1) := by decide +kernel
theorem dX11_put_31 : decode cX11_put 31 = .ok (.isub, 1) := by decide +kernel
theorem dX11_put_32 : decode cX11_put 32 = .ok (.i2l, 1) := by decide +kernel
theorem dX11_put_33 : decode cX11_put 33 = .ok (.invokestatic 81, 3) := by decide +kernel
theorem dX11_put_36 : decode cX11_put 36 = .ok (.ifCond .ne 6, 3) := by decide +kernel
theorem dX11_put_39 : decode cX11_put 39 = .ok (.bipush (-12), 2) := by decide +kernel
theorem dX11_put_41 : decode cX11_put 41 = .ok (.ireturn, 1) := by decide +kernel
theorem dX11_put_42 : decode cX11_put 42 = .ok (.aload_n 0, 1) := by decide +kernel
theorem dX11_put_43 : decode cX11_put 43 = .ok (.getfield 75, 3) := by decide +kernel
theorem dX11_put_46 : decode cX11_put 46 = .ok (.bipush 40, 2) := by decide +kernel
theorem dX11_put_48 : decode cX11_put 48 = .ok (.iload_n 1, 1) := by decide +kernel
theorem dX11_put_49 : decode cX11_put 49 = .ok (.imul, 1) := by decide +kernel
theorem dX11_put_50 : decode cX11_put 50 = .ok (.iload_n 2, 1) := by decide +kernel
theorem dX11_put_51 : decode cX11_put 51 = .ok (.iadd, 1) := by decide +kernel
theorem dX11_put_52 : decode cX11_put 52 = .ok (.aload_n 0, 1) := by decide +kernel
theorem dX11_put_53 : decode cX11_put 53 = .ok (.getfield 69, 3) := by decide +kernel
theorem dX11_put_56 : decode cX11_put 56 = .ok (.iload_n 1, 1) := by decide +kernel
theorem dX11_put_57 : decode cX11_put 57 = .ok (.iaload, 1) := by decide +kernel
theorem dX11_put_58 : decode cX11_put 58 = .ok (.lload_n 3, 1) := by decide +kernel
theorem dX11_put_59 : decode cX11_put 59 = .ok (.invokestatic 289, 3) := by decide +kernel
theorem dX11_put_62 : decode cX11_put 62 = .ok (.lastore, 1) := by decide +kernel
theorem dX11_put_63 : decode cX11_put 63 = .ok (.iconst 1, 1) := by decide +kernel
theorem dX11_put_64 : decode cX11_put 64 = .ok (.ireturn, 1) := by decide +kernel
theorem dX11_readsMatrix_0 : decode cX11_readsMatrix 0 = .ok (.aload_n 0, 1) := by decide +kernel
theorem dX11_readsMatrix_1 : decode cX11_readsMatrix 1 = .ok (.getfield 190, 3) := by decide +kernel
theorem dX11_readsMatrix_4 : decode cX11_readsMatrix 4 = .ok (.iconst 4, 1) := by decide +kernel
theorem dX11_readsMatrix_5 : decode cX11_readsMatrix 5 = .ok (.if_icmp .ne 5, 3) := by decide +kernel
theorem dX11_readsMatrix_8 : decode cX11_readsMatrix 8 = .ok (.iconst 0, 1) := by decide +kernel
theorem dX11_readsMatrix_9 : decode cX11_readsMatrix 9 = .ok (.ireturn, 1) := by decide +kernel
theorem dX11_readsMatrix_10 : decode cX11_readsMatrix 10 = .ok (.aload_n 0, 1) := by decide +kernel
theorem dX11_readsMatrix_11 : decode cX11_readsMatrix 11 = .ok (.aload_n 0, 1) := by decide +kernel
theorem dX11_readsMatrix_12 : decode cX11_readsMatrix 12 = .ok (.getfield 23, 3) := by decide +kernel
theorem dX11_readsMatrix_15 : decode cX11_readsMatrix 15 = .ok (.invokevirtual 90, 3) := by decide +kernel
theorem dX11_readsMatrix_18 : decode cX11_readsMatrix 18 = .ok (.iconst 0, 1) := by decide +kernel
theorem dX11_readsMatrix_19 : decode cX11_readsMatrix 19 = .ok (.istore_n 1, 1) := by decide +kernel
theorem dX11_readsMatrix_20 : decode cX11_readsMatrix 20 = .ok (.iload_n 1, 1) := by decide +kernel
theorem dX11_readsMatrix_21 : decode cX11_readsMatrix 21 = .ok (.aload_n 0, 1) := by decide +kernel
theorem dX11_readsMatrix_22 : decode cX11_readsMatrix 22 = .ok (.getfield 7, 3) := by decide +kernel
theorem dX11_readsMatrix_25 : decode cX11_readsMatrix 25 = .ok (.if_icmp .ge 54, 3) := by decide +kernel
theorem dX11_readsMatrix_28 : decode cX11_readsMatrix 28 = .ok (.iload_n 1, 1) := by decide +kernel
theorem dX11_readsMatrix_29 : decode cX11_readsMatrix 29 = .ok (.ifCond .le 14, 3) := by decide +kernel
theorem dX11_readsMatrix_32 : decode cX11_readsMatrix 32 = .ok (.aload_n 0, 1) := by decide +kernel
theorem dX11_readsMatrix_33 : decode cX11_readsMatrix 33 = .ok (.bipush 47, 2) := by decide +kernel
theorem dX11_readsMatrix_35 : decode cX11_readsMatrix 35 = .ok (.invokevirtual 193, 3) := by decide +kernel
theorem dX11_readsMatrix_38 : decode cX11_readsMatrix 38 = .ok (.ifCond .ne 5, 3) := by decide +kernel
theorem dX11_readsMatrix_41 : decode cX11_readsMatrix 41 = .ok (.iconst 0, 1) := by decide +kernel
theorem dX11_readsMatrix_42 : decode cX11_readsMatrix 42 = .ok (.ireturn, 1) := by decide +kernel
theorem dX11_readsMatrix_43 : decode cX11_readsMatrix 43 = .ok (.iconst 0, 1) := by decide +kernel
theorem dX11_readsMatrix_44 : decode cX11_readsMatrix 44 = .ok (.istore_n 2, 1) := by decide +kernel
theorem dX11_readsMatrix_45 : decode cX11_readsMatrix 45 = .ok (.iload_n 2, 1) := by decide +kernel
theorem dX11_readsMatrix_46 : decode cX11_readsMatrix 46 = .ok (.aload_n 0, 1) := by decide +kernel
theorem dX11_readsMatrix_47 : decode cX11_readsMatrix 47 = .ok (.getfield 7, 3) := by decide +kernel
theorem dX11_readsMatrix_50 : decode cX11_readsMatrix 50 = .ok (.if_icmp .ge 23, 3) := by decide +kernel
theorem dX11_readsMatrix_53 : decode cX11_readsMatrix 53 = .ok (.aload_n 0, 1) := by decide +kernel
theorem dX11_readsMatrix_54 : decode cX11_readsMatrix 54 = .ok (.iconst 3, 1) := by decide +kernel
theorem dX11_readsMatrix_55 : decode cX11_readsMatrix 55 = .ok (.iload_n 1, 1) := by decide +kernel
theorem dX11_readsMatrix_56 : decode cX11_readsMatrix 56 = .ok (.imul, 1) := by decide +kernel
theorem dX11_readsMatrix_57 : decode cX11_readsMatrix 57 = .ok (.iload_n 2, 1) := by decide +kernel
theorem dX11_readsMatrix_58 : decode cX11_readsMatrix 58 = .ok (.iadd, 1) := by decide +kernel
theorem dX11_readsMatrix_59 : decode cX11_readsMatrix 59 = .ok (.invokevirtual 196, 3) := by decide +kernel
theorem dX11_readsMatrix_62 : decode cX11_readsMatrix 62 = .ok (.ifCond .ne 5, 3) := by decide +kernel
theorem dX11_readsMatrix_65 : decode cX11_readsMatrix 65 = .ok (.iconst 0, 1) := by decide +kernel
theorem dX11_readsMatrix_66 : decode cX11_readsMatrix 66 = .ok (.ireturn, 1) := by decide +kernel
theorem dX11_readsMatrix_67 : decode cX11_readsMatrix 67 = .ok (.iinc 2 1, 3) := by decide +kernel
theorem dX11_readsMatrix_70 : decode cX11_readsMatrix 70 = .ok (.goto (-25), 3) := by decide +kernel
theorem dX11_readsMatrix_73 : decode cX11_readsMatrix 73 = .ok (.iinc 1 1, 3) := by decide +kernel
theorem dX11_readsMatrix_76 : decode cX11_readsMatrix 76 = .ok (.goto (-56), 3) := by decide +kernel
theorem dX11_readsMatrix_79 : decode cX11_readsMatrix 79 = .ok (.aload_n 0, 1) := by decide +kernel
theorem dX11_readsMatrix_80 : decode cX11_readsMatrix 80 = .ok (.invokevirtual 183, 3) := by decide +kernel
theorem dX11_readsMatrix_83 : decode cX11_readsMatrix 83 = .ok (.bipush 59, 2) := by decide +kernel
theorem dX11_readsMatrix_85 : decode cX11_readsMatrix 85 = .ok (.if_icmp .ne 31, 3) := by decide +kernel
theorem dX11_readsMatrix_88 : decode cX11_readsMatrix 88 = .ok (.aload_n 0, 1) := by decide +kernel
theorem dX11_readsMatrix_89 : decode cX11_readsMatrix 89 = .ok (.aload_n 0, 1) := by decide +kernel
theorem dX11_readsMatrix_90 : decode cX11_readsMatrix 90 = .ok (.getfield 23, 3) := by decide +kernel
theorem dX11_readsMatrix_93 : decode cX11_readsMatrix 93 = .ok (.invokevirtual 139, 3) := by decide +kernel
theorem dX11_readsMatrix_96 : decode cX11_readsMatrix 96 = .ok (.lconst 1, 1) := by decide +kernel
theorem dX11_readsMatrix_97 : decode cX11_readsMatrix 97 = .ok (.lcmp, 1) := by decide +kernel
theorem dX11_readsMatrix_98 : decode cX11_readsMatrix 98 = .ok (.ifCond .eq 20, 3) := by decide +kernel
theorem dX11_readsMatrix_101 : decode cX11_readsMatrix 101 = .ok (.aload_n 0, 1) := by decide +kernel
theorem dX11_readsMatrix_102 : decode cX11_readsMatrix 102 = .ok (.aload_n 0, 1) := by decide +kernel
theorem dX11_readsMatrix_103 : decode cX11_readsMatrix 103 = .ok (.getfield 23, 3) := by decide +kernel
theorem dX11_readsMatrix_106 : decode cX11_readsMatrix 106 = .ok (.invokevirtual 139, 3) := by decide +kernel
theorem dX11_readsMatrix_109 : decode cX11_readsMatrix 109 = .ok (.ldc2_w 133, 3) := by decide +kernel
theorem dX11_readsMatrix_112 : decode cX11_readsMatrix 112 = .ok (.lcmp, 1) := by decide +kernel
theorem dX11_readsMatrix_113 : decode cX11_readsMatrix 113 = .ok (.ifCond .eq 5, 3) := by decide +kernel
theorem dX11_readsMatrix_116 : decode cX11_readsMatrix 116 = .ok (.iconst 0, 1) := by decide +kernel
theorem dX11_readsMatrix_117 : decode cX11_readsMatrix 117 = .ok (.ireturn, 1) := by decide +kernel
theorem dX11_readsMatrix_118 : decode cX11_readsMatrix 118 = .ok (.aload_n 0, 1) := by decide +kernel
theorem dX11_readsMatrix_119 : decode cX11_readsMatrix 119 = .ok (.dup, 1) := by decide +kernel
theorem dX11_readsMatrix_120 : decode cX11_readsMatrix 120 = .ok (.getfield 176, 3) := by decide +kernel
theorem dX11_readsMatrix_123 : decode cX11_readsMatrix 123 = .ok (.iconst 1, 1) := by decide +kernel
theorem dX11_readsMatrix_124 : decode cX11_readsMatrix 124 = .ok (.iadd, 1) := by decide +kernel
theorem dX11_readsMatrix_125 : decode cX11_readsMatrix 125 = .ok (.putfield 176, 3) := by decide +kernel
theorem dX11_readsMatrix_128 : decode cX11_readsMatrix 128 = .ok (.iconst 0, 1) := by decide +kernel
theorem dX11_readsMatrix_129 : decode cX11_readsMatrix 129 = .ok (.istore_n 1, 1) := by decide +kernel
theorem dX11_readsMatrix_130 : decode cX11_readsMatrix 130 = .ok (.iload_n 1, 1) := by decide +kernel
theorem dX11_readsMatrix_131 : decode cX11_readsMatrix 131 = .ok (.bipush 9, 2) := by decide +kernel
theorem dX11_readsMatrix_133 : decode cX11_readsMatrix 133 = .ok (.if_icmp .ge 30, 3) := by decide +kernel
theorem dX11_readsMatrix_136 : decode cX11_readsMatrix 136 = .ok (.aload_n 0, 1) := by decide +kernel
theorem dX11_readsMatrix_137 : decode cX11_readsMatrix 137 = .ok (.getfield 42, 3) := by decide +kernel
theorem dX11_readsMatrix_140 : decode cX11_readsMatrix 140 = .ok (.bipush 9, 2) := by decide +kernel
theorem dX11_readsMatrix_142 : decode cX11_readsMatrix 142 = .ok (.aload_n 0, 1) := by decide +kernel
theorem dX11_readsMatrix_143 : decode cX11_readsMatrix 143 = .ok (.getfield 190, 3) := by decide +kernel
theorem dX11_readsMatrix_146 : decode cX11_readsMatrix 146 = .ok (.imul, 1) := by decide +kernel
theorem dX11_readsMatrix_147 : decode cX11_readsMatrix 147 = .ok (.iload_n 1, 1) := by decide +kernel
theorem dX11_readsMatrix_148 : decode cX11_readsMatrix 148 = .ok (.iadd, 1) := by decide +kernel
theorem dX11_readsMatrix_149 : decode cX11_readsMatrix 149 = .ok (.aload_n 0, 1) := by decide +kernel
theorem dX11_readsMatrix_150 : decode cX11_readsMatrix 150 = .ok (.getfield 23, 3) := by decide +kernel
theorem dX11_readsMatrix_153 : decode cX11_readsMatrix 153 = .ok (.iload_n 1, 1) := by decide +kernel
theorem dX11_readsMatrix_154 : decode cX11_readsMatrix 154 = .ok (.laload, 1) := by decide +kernel
theorem dX11_readsMatrix_155 : decode cX11_readsMatrix 155 = .ok (.l2i, 1) := by decide +kernel
theorem dX11_readsMatrix_156 : decode cX11_readsMatrix 156 = .ok (.iastore, 1) := by decide +kernel
theorem dX11_readsMatrix_157 : decode cX11_readsMatrix 157 = .ok (.iinc 1 1, 3) := by decide +kernel
theorem dX11_readsMatrix_160 : decode cX11_readsMatrix 160 = .ok (.goto (-30), 3) := by decide +kernel
theorem dX11_readsMatrix_163 : decode cX11_readsMatrix 163 = .ok (.aload_n 0, 1) := by decide +kernel
theorem dX11_readsMatrix_164 : decode cX11_readsMatrix 164 = .ok (.dup, 1) := by decide +kernel
theorem dX11_readsMatrix_165 : decode cX11_readsMatrix 165 = .ok (.getfield 190, 3) := by decide +kernel
theorem dX11_readsMatrix_168 : decode cX11_readsMatrix 168 = .ok (.iconst 1, 1) := by decide +kernel
theorem dX11_readsMatrix_169 : decode cX11_readsMatrix 169 = .ok (.iadd, 1) := by decide +kernel
theorem dX11_readsMatrix_170 : decode cX11_readsMatrix 170 = .ok (.putfield 190, 3) := by decide +kernel
theorem dX11_readsMatrix_173 : decode cX11_readsMatrix 173 = .ok (.iconst 1, 1) := by decide +kernel
theorem dX11_readsMatrix_174 : decode cX11_readsMatrix 174 = .ok (.ireturn, 1) := by decide +kernel
theorem dX11_readsNumber_0 : decode cX11_readsNumber 0 = .ok (.aload_n 0, 1) := by decide +kernel
theorem dX11_readsNumber_1 : decode cX11_readsNumber 1 = .ok (.invokevirtual 183, 3) := by decide +kernel
theorem dX11_readsNumber_4 : decode cX11_readsNumber 4 = .ok (.bipush 45, 2) := by decide +kernel
theorem dX11_readsNumber_6 : decode cX11_readsNumber 6 = .ok (.if_icmp .ne 7, 3) := by decide +kernel
theorem dX11_readsNumber_9 : decode cX11_readsNumber 9 = .ok (.iconst 1, 1) := by decide +kernel
theorem dX11_readsNumber_10 : decode cX11_readsNumber 10 = .ok (.goto 4, 3) := by decide +kernel
theorem dX11_readsNumber_13 : decode cX11_readsNumber 13 = .ok (.iconst 0, 1) := by decide +kernel
theorem dX11_readsNumber_14 : decode cX11_readsNumber 14 = .ok (.istore_n 2, 1) := by decide +kernel
theorem dX11_readsNumber_15 : decode cX11_readsNumber 15 = .ok (.aload_n 0, 1) := by decide +kernel
theorem dX11_readsNumber_16 : decode cX11_readsNumber 16 = .ok (.dup, 1) := by decide +kernel
theorem dX11_readsNumber_17 : decode cX11_readsNumber 17 = .ok (.getfield 176, 3) := by decide +kernel
theorem dX11_readsNumber_20 : decode cX11_readsNumber 20 = .ok (.iload_n 2, 1) := by decide +kernel
theorem dX11_readsNumber_21 : decode cX11_readsNumber 21 = .ok (.ifCond .eq 7, 3) := by decide +kernel
theorem dX11_readsNumber_24 : decode cX11_readsNumber 24 = .ok (.iconst 1, 1) := by decide +kernel
theorem dX11_readsNumber_25 : decode cX11_readsNumber 25 = .ok (.goto 4, 3) := by decide +kernel
theorem dX11_readsNumber_28 : decode cX11_readsNumber 28 = .ok (.iconst 0, 1) := by decide +kernel
theorem dX11_readsNumber_29 : decode cX11_readsNumber 29 = .ok (.iadd, 1) := by decide +kernel
theorem dX11_readsNumber_30 : decode cX11_readsNumber 30 = .ok (.putfield 176, 3) := by decide +kernel
theorem dX11_readsNumber_33 : decode cX11_readsNumber 33 = .ok (.iconst 0, 1) := by decide +kernel
theorem dX11_readsNumber_34 : decode cX11_readsNumber 34 = .ok (.istore_n 3, 1) := by decide +kernel
theorem dX11_readsNumber_35 : decode cX11_readsNumber 35 = .ok (.iconst 0, 1) := by decide +kernel
theorem dX11_readsNumber_36 : decode cX11_readsNumber 36 = .ok (.istore 4, 2) := by decide +kernel
theorem dX11_readsNumber_38 : decode cX11_readsNumber 38 = .ok (.aload_n 0, 1) := by decide +kernel
theorem dX11_readsNumber_39 : decode cX11_readsNumber 39 = .ok (.invokevirtual 186, 3) := by decide +kernel
theorem dX11_readsNumber_42 : decode cX11_readsNumber 42 = .ok (.ifCond .eq 43, 3) := by decide +kernel
theorem dX11_readsNumber_45 : decode cX11_readsNumber 45 = .ok (.iload 4, 2) := by decide +kernel
theorem dX11_readsNumber_47 : decode cX11_readsNumber 47 = .ok (.iconst 2, 1) := by decide +kernel
theorem dX11_readsNumber_48 : decode cX11_readsNumber 48 = .ok (.if_icmp .ge 37, 3) := by decide +kernel
theorem dX11_readsNumber_51 : decode cX11_readsNumber 51 = .ok (.bipush 10, 2) := by decide +kernel
theorem dX11_readsNumber_53 : decode cX11_readsNumber 53 = .ok (.iload_n 3, 1) := by decide +kernel
theorem dX11_readsNumber_54 : decode cX11_readsNumber 54 = .ok (.imul, 1) := by decide +kernel
theorem dX11_readsNumber_55 : decode cX11_readsNumber 55 = .ok (.aload_n 0, 1) := by decide +kernel
theorem dX11_readsNumber_56 : decode cX11_readsNumber 56 = .ok (.getfield 39, 3) := by decide +kernel
theorem dX11_readsNumber_59 : decode cX11_readsNumber 59 = .ok (.aload_n 0, 1) := by decide +kernel
theorem dX11_readsNumber_60 : decode cX11_readsNumber 60 = .ok (.getfield 176, 3) := by decide +kernel
theorem dX11_readsNumber_63 : decode cX11_readsNumber 63 = .ok (.iaload, 1) := by decide +kernel
theorem dX11_readsNumber_64 : decode cX11_readsNumber 64 = .ok (.iadd, 1) := by decide +kernel
theorem dX11_readsNumber_65 : decode cX11_readsNumber 65 = .ok (.bipush 48, 2) := by decide +kernel
theorem dX11_readsNumber_67 : decode cX11_readsNumber 67 = .ok (.isub, 1) := by decide +kernel
theorem dX11_readsNumber_68 : decode cX11_readsNumber 68 = .ok (.istore_n 3, 1) := by decide +kernel
theorem dX11_readsNumber_69 : decode cX11_readsNumber 69 = .ok (.iinc 4 1, 3) := by decide +kernel
theorem dX11_readsNumber_72 : decode cX11_readsNumber 72 = .ok (.aload_n 0, 1) := by decide +kernel
theorem dX11_readsNumber_73 : decode cX11_readsNumber 73 = .ok (.dup, 1) := by decide +kernel
theorem dX11_readsNumber_74 : decode cX11_readsNumber 74 = .ok (.getfield 176, 3) := by decide +kernel
theorem dX11_readsNumber_77 : decode cX11_readsNumber 77 = .ok (.iconst 1, 1) := by decide +kernel
theorem dX11_readsNumber_78 : decode cX11_readsNumber 78 = .ok (.iadd, 1) := by decide +kernel
theorem dX11_readsNumber_79 : decode cX11_readsNumber 79 = .ok (.putfield 176, 3) := by decide +kernel
theorem dX11_readsNumber_82 : decode cX11_readsNumber 82 = .ok (.goto (-44), 3) := by decide +kernel
theorem dX11_readsNumber_85 : decode cX11_readsNumber 85 = .ok (.aload_n 0, 1) := by decide +kernel
theorem dX11_readsNumber_86 : decode cX11_readsNumber 86 = .ok (.getfield 23, 3) := by decide +kernel
theorem dX11_readsNumber_89 : decode cX11_readsNumber 89 = .ok (.iload_n 1, 1) := by decide +kernel
theorem dX11_readsNumber_90 : decode cX11_readsNumber 90 = .ok (.iload_n 2, 1) := by decide +kernel
theorem dX11_readsNumber_91 : decode cX11_readsNumber 91 = .ok (.ifCond .eq 9, 3) := by decide +kernel
theorem dX11_readsNumber_94 : decode cX11_readsNumber 94 = .ok (.iload_n 3, 1) := by decide +kernel
theorem dX11_readsNumber_95 : decode cX11_readsNumber 95 = .ok (.ineg, 1) := by decide +kernel
theorem dX11_readsNumber_96 : decode cX11_readsNumber 96 = .ok (.i2l, 1) := by decide +kernel
theorem dX11_readsNumber_97 : decode cX11_readsNumber 97 = .ok (.goto 5, 3) := by decide +kernel
theorem dX11_readsNumber_100 : decode cX11_readsNumber 100 = .ok (.iload_n 3, 1) := by decide +kernel
theorem dX11_readsNumber_101 : decode cX11_readsNumber 101 = .ok (.i2l, 1) := by decide +kernel
theorem dX11_readsNumber_102 : decode cX11_readsNumber 102 = .ok (.lastore, 1) := by decide +kernel
theorem dX11_readsNumber_103 : decode cX11_readsNumber 103 = .ok (.iload 4, 2) := by decide +kernel
theorem dX11_readsNumber_105 : decode cX11_readsNumber 105 = .ok (.ifCond .le 14, 3) := by decide +kernel
theorem dX11_readsNumber_108 : decode cX11_readsNumber 108 = .ok (.aload_n 0, 1) := by decide +kernel
theorem dX11_readsNumber_109 : decode cX11_readsNumber 109 = .ok (.invokevirtual 186, 3) := by decide +kernel
theorem dX11_readsNumber_112 : decode cX11_readsNumber 112 = .ok (.ifCond .ne 7, 3) := by decide +kernel
theorem dX11_readsNumber_115 : decode cX11_readsNumber 115 = .ok (.iconst 1, 1) := by decide +kernel
theorem dX11_readsNumber_116 : decode cX11_readsNumber 116 = .ok (.goto 4, 3) := by decide +kernel
theorem dX11_readsNumber_119 : decode cX11_readsNumber 119 = .ok (.iconst 0, 1) := by decide +kernel
theorem dX11_readsNumber_120 : decode cX11_readsNumber 120 = .ok (.ireturn, 1) := by decide +kernel
theorem dX11_readsSign_0 : decode cX11_readsSign 0 = .ok (.aload_n 0, 1) := by decide +kernel
theorem dX11_readsSign_1 : decode cX11_readsSign 1 = .ok (.invokevirtual 183, 3) := by decide +kernel
theorem dX11_readsSign_4 : decode cX11_readsSign 4 = .ok (.iload_n 1, 1) := by decide +kernel
theorem dX11_readsSign_5 : decode cX11_readsSign 5 = .ok (.if_icmp .eq 5, 3) := by decide +kernel
theorem dX11_readsSign_8 : decode cX11_readsSign 8 = .ok (.iconst 0, 1) := by decide +kernel
theorem dX11_readsSign_9 : decode cX11_readsSign 9 = .ok (.ireturn, 1) := by decide +kernel
theorem dX11_readsSign_10 : decode cX11_readsSign 10 = .ok (.aload_n 0, 1) := by decide +kernel
theorem dX11_readsSign_11 : decode cX11_readsSign 11 = .ok (.dup, 1) := by decide +kernel
theorem dX11_readsSign_12 : decode cX11_readsSign 12 = .ok (.getfield 176, 3) := by decide +kernel
theorem dX11_readsSign_15 : decode cX11_readsSign 15 = .ok (.iconst 1, 1) := by decide +kernel
theorem dX11_readsSign_16 : decode cX11_readsSign 16 = .ok (.iadd, 1) := by decide +kernel
theorem dX11_readsSign_17 : decode cX11_readsSign 17 = .ok (.putfield 176, 3) := by decide +kernel
theorem dX11_readsSign_20 : decode cX11_readsSign 20 = .ok (.iconst 1, 1) := by decide +kernel
theorem dX11_readsSign_21 : decode cX11_readsSign 21 = .ok (.ireturn, 1) := by decide +kernel
theorem dX11_round_0 : decode cX11_round 0 = .ok (.iload_n 1, 1) := by decide +kernel
theorem dX11_round_1 : decode cX11_round 1 = .ok (.i2l, 1) := by decide +kernel
theorem dX11_round_2 : decode cX11_round 2 = .ok (.lconst 0, 1) := by decide +kernel
theorem dX11_round_3 : decode cX11_round 3 = .ok (.ldc2_w 278, 3) := by decide +kernel
theorem dX11_round_6 : decode cX11_round 6 = .ok (.invokestatic 81, 3) := by decide +kernel
theorem dX11_round_9 : decode cX11_round 9 = .ok (.ifCond .ne 5, 3) := by decide +kernel
theorem dX11_round_12 : decode cX11_round 12 = .ok (.iconst (-1), 1) := by decide +kernel
theorem dX11_round_13 : decode cX11_round 13 = .ok (.ireturn, 1) := by decide +kernel
theorem dX11_round_14 : decode cX11_round 14 = .ok (.aload_n 0, 1) := by decide +kernel
theorem dX11_round_15 : decode cX11_round 15 = .ok (.getfield 102, 3) := by decide +kernel
theorem dX11_round_18 : decode cX11_round 18 = .ok (.ifCond .ne 6, 3) := by decide +kernel
theorem dX11_round_21 : decode cX11_round 21 = .ok (.bipush (-3), 2) := by decide +kernel
theorem dX11_round_23 : decode cX11_round 23 = .ok (.ireturn, 1) := by decide +kernel
theorem dX11_round_24 : decode cX11_round 24 = .ok (.iload_n 1, 1) := by decide +kernel
theorem dX11_round_25 : decode cX11_round 25 = .ok (.ifCond .ne 10, 3) := by decide +kernel
theorem dX11_round_28 : decode cX11_round 28 = .ok (.aload_n 0, 1) := by decide +kernel
theorem dX11_round_29 : decode cX11_round 29 = .ok (.getfield 102, 3) := by decide +kernel
theorem dX11_round_32 : decode cX11_round 32 = .ok (.goto 39, 3) := by decide +kernel
theorem dX11_round_35 : decode cX11_round 35 = .ok (.iload_n 1, 1) := by decide +kernel
theorem dX11_round_36 : decode cX11_round 36 = .ok (.iconst 1, 1) := by decide +kernel
theorem dX11_round_37 : decode cX11_round 37 = .ok (.if_icmp .ne 18, 3) := by decide +kernel
theorem dX11_round_40 : decode cX11_round 40 = .ok (.aload_n 0, 1) := by decide +kernel
theorem dX11_round_41 : decode cX11_round 41 = .ok (.getfield 275, 3) := by decide +kernel
theorem dX11_round_44 : decode cX11_round 44 = .ok (.ifCond .eq 7, 3) := by decide +kernel
theorem dX11_round_47 : decode cX11_round 47 = .ok (.iconst 1, 1) := by decide +kernel
theorem dX11_round_48 : decode cX11_round 48 = .ok (.goto 23, 3) := by decide +kernel
theorem dX11_round_51 : decode cX11_round 51 = .ok (.iconst 0, 1) := by decide +kernel
theorem dX11_round_52 : decode cX11_round 52 = .ok (.goto 19, 3) := by decide +kernel
theorem dX11_round_55 : decode cX11_round 55 = .ok (.aload_n 0, 1) := by decide +kernel
theorem dX11_round_56 : decode cX11_round 56 = .ok (.getfield 275, 3) := by decide +kernel
theorem dX11_round_59 : decode cX11_round 59 = .ok (.ifCond .eq 10, 3) := by decide +kernel
theorem dX11_round_62 : decode cX11_round 62 = .ok (.aload_n 0, 1) := by decide +kernel
theorem dX11_round_63 : decode cX11_round 63 = .ok (.invokevirtual 280, 3) := by decide +kernel
theorem dX11_round_66 : decode cX11_round 66 = .ok (.goto 5, 3) := by decide +kernel
theorem dX11_round_69 : decode cX11_round 69 = .ok (.bipush (-3), 2) := by decide +kernel
theorem dX11_round_71 : decode cX11_round 71 = .ok (.ireturn, 1) := by decide +kernel
theorem dX11_roundNow_0 : decode cX11_roundNow 0 = .ok (.iconst 0, 1) := by decide +kernel
theorem dX11_roundNow_1 : decode cX11_roundNow 1 = .ok (.istore_n 1, 1) := by decide +kernel
theorem dX11_roundNow_2 : decode cX11_roundNow 2 = .ok (.iload_n 1, 1) := by decide +kernel
theorem dX11_roundNow_3 : decode cX11_roundNow 3 = .ok (.aload_n 0, 1) := by decide +kernel
theorem dX11_roundNow_4 : decode cX11_roundNow 4 = .ok (.getfield 102, 3) := by decide +kernel
theorem dX11_roundNow_7 : decode cX11_roundNow 7 = .ok (.if_icmp .ge 16, 3) := by decide +kernel
theorem dX11_roundNow_10 : decode cX11_roundNow 10 = .ok (.aload_n 0, 1) := by decide +kernel
theorem dX11_roundNow_11 : decode cX11_roundNow 11 = .ok (.getfield 66, 3) := by decide +kernel
theorem dX11_roundNow_14 : decode cX11_roundNow 14 = .ok (.iload_n 1, 1) := by decide +kernel
theorem dX11_roundNow_15 : decode cX11_roundNow 15 = .ok (.iload_n 1, 1) := by decide +kernel
theorem dX11_roundNow_16 : decode cX11_roundNow 16 = .ok (.iastore, 1) := by decide +kernel
theorem dX11_roundNow_17 : decode cX11_roundNow 17 = .ok (.iinc 1 1, 3) := by decide +kernel
theorem dX11_roundNow_20 : decode cX11_roundNow 20 = .ok (.goto (-18), 3) := by decide +kernel
theorem dX11_roundNow_23 : decode cX11_roundNow 23 = .ok (.iconst 1, 1) := by decide +kernel
theorem dX11_roundNow_24 : decode cX11_roundNow 24 = .ok (.istore_n 1, 1) := by decide +kernel
theorem dX11_roundNow_25 : decode cX11_roundNow 25 = .ok (.iconst 0, 1) := by decide +kernel
theorem dX11_roundNow_26 : decode cX11_roundNow 26 = .ok (.istore_n 2, 1) := by decide +kernel
theorem dX11_roundNow_27 : decode cX11_roundNow 27 = .ok (.iload_n 2, 1) := by decide +kernel
theorem dX11_roundNow_28 : decode cX11_roundNow 28 = .ok (.iload_n 1, 1) := by decide +kernel
theorem dX11_roundNow_29 : decode cX11_roundNow 29 = .ok (.if_icmp .ge 193, 3) := by decide +kernel
theorem dX11_roundNow_32 : decode cX11_roundNow 32 = .ok (.iconst 0, 1) := by decide +kernel
theorem dX11_roundNow_33 : decode cX11_roundNow 33 = .ok (.istore_n 3, 1) := by decide +kernel
theorem dX11_roundNow_34 : decode cX11_roundNow 34 = .ok (.iload_n 3, 1) := by decide +kernel
theorem dX11_roundNow_35 : decode cX11_roundNow 35 = .ok (.aload_n 0, 1) := by decide +kernel
theorem dX11_roundNow_36 : decode cX11_roundNow 36 = .ok (.getfield 85, 3) := by decide +kernel
theorem dX11_roundNow_39 : decode cX11_roundNow 39 = .ok (.if_icmp .ge 177, 3) := by decide +kernel
theorem dX11_roundNow_42 : decode cX11_roundNow 42 = .ok (.iload_n 1, 1) := by decide +kernel
theorem dX11_roundNow_43 : decode cX11_roundNow 43 = .ok (.sipush 200, 3) := by decide +kernel
theorem dX11_roundNow_46 : decode cX11_roundNow 46 = .ok (.if_icmp .ge 170, 3) := by decide +kernel
theorem dX11_roundNow_49 : decode cX11_roundNow 49 = .ok (.iconst 0, 1) := by decide +kernel
theorem dX11_roundNow_50 : decode cX11_roundNow 50 = .ok (.istore 4, 2) := by decide +kernel
theorem dX11_roundNow_52 : decode cX11_roundNow 52 = .ok (.iload 4, 2) := by decide +kernel
theorem dX11_roundNow_54 : decode cX11_roundNow 54 = .ok (.aload_n 0, 1) := by decide +kernel
theorem dX11_roundNow_55 : decode cX11_roundNow 55 = .ok (.getfield 102, 3) := by decide +kernel
theorem dX11_roundNow_58 : decode cX11_roundNow 58 = .ok (.if_icmp .ge 43, 3) := by decide +kernel
theorem dX11_roundNow_61 : decode cX11_roundNow 61 = .ok (.aload_n 0, 1) := by decide +kernel
theorem dX11_roundNow_62 : decode cX11_roundNow 62 = .ok (.getfield 66, 3) := by decide +kernel
theorem dX11_roundNow_65 : decode cX11_roundNow 65 = .ok (.bipush 60, 2) := by decide +kernel
theorem dX11_roundNow_67 : decode cX11_roundNow 67 = .ok (.iload_n 1, 1) := by decide +kernel
theorem dX11_roundNow_68 : decode cX11_roundNow 68 = .ok (.imul, 1) := by decide +kernel
theorem dX11_roundNow_69 : decode cX11_roundNow 69 = .ok (.iload 4, 2) := by decide +kernel
theorem dX11_roundNow_71 : decode cX11_roundNow 71 = .ok (.iadd, 1) := by decide +kernel
theorem dX11_roundNow_72 : decode cX11_roundNow 72 = .ok (.aload_n 0, 1) := by decide +kernel
theorem dX11_roundNow_73 : decode cX11_roundNow 73 = .ok (.getfield 63, 3) := by decide +kernel
theorem dX11_roundNow_76 : decode cX11_roundNow 76 = .ok (.bipush 60, 2) := by decide +kernel
theorem dX11_roundNow_78 : decode cX11_roundNow 78 = .ok (.iload_n 3, 1) := by decide +kernel
theorem dX11_roundNow_79 : decode cX11_roundNow 79 = .ok (.imul, 1) := by decide +kernel
theorem dX11_roundNow_80 : decode cX11_roundNow 80 = .ok (.aload_n 0, 1) := by decide +kernel
theorem dX11_roundNow_81 : decode cX11_roundNow 81 = .ok (.getfield 66, 3) := by decide +kernel
theorem dX11_roundNow_84 : decode cX11_roundNow 84 = .ok (.bipush 60, 2) := by decide +kernel
theorem dX11_roundNow_86 : decode cX11_roundNow 86 = .ok (.iload_n 2, 1) := by decide +kernel
theorem dX11_roundNow_87 : decode cX11_roundNow 87 = .ok (.imul, 1) := by decide +kernel
theorem dX11_roundNow_88 : decode cX11_roundNow 88 = .ok (.iload 4, 2) := by decide +kernel
theorem dX11_roundNow_90 : decode cX11_roundNow 90 = .ok (.iadd, 1) := by decide +kernel
theorem dX11_roundNow_91 : decode cX11_roundNow 91 = .ok (.iaload, 1) := by decide +kernel
theorem dX11_roundNow_92 : decode cX11_roundNow 92 = .ok (.iadd, 1) := by decide +kernel
theorem dX11_roundNow_93 : decode cX11_roundNow 93 = .ok (.iaload, 1) := by decide +kernel
theorem dX11_roundNow_94 : decode cX11_roundNow 94 = .ok (.iastore, 1) := by decide +kernel
theorem dX11_roundNow_95 : decode cX11_roundNow 95 = .ok (.iinc 4 1, 3) := by decide +kernel
theorem dX11_roundNow_98 : decode cX11_roundNow 98 = .ok (.goto (-46), 3) := by decide +kernel
theorem dX11_roundNow_101 : decode cX11_roundNow 101 = .ok (.iconst 1, 1) := by decide +kernel
theorem dX11_roundNow_102 : decode cX11_roundNow 102 = .ok (.istore 4, 2) := by decide +kernel
theorem dX11_roundNow_104 : decode cX11_roundNow 104 = .ok (.iconst 0, 1) := by decide +kernel
theorem dX11_roundNow_105 : decode cX11_roundNow 105 = .ok (.istore 5, 2) := by decide +kernel
theorem dX11_roundNow_107 : decode cX11_roundNow 107 = .ok (.iload 5, 2) := by decide +kernel
theorem dX11_roundNow_109 : decode cX11_roundNow 109 = .ok (.iload_n 1, 1) := by decide +kernel
theorem dX11_roundNow_110 : decode cX11_roundNow 110 = .ok (.if_icmp .ge 87, 3) := by decide +kernel
theorem dX11_roundNow_113 : decode cX11_roundNow 113 = .ok (.iload 4, 2) := by decide +kernel
theorem dX11_roundNow_115 : decode cX11_roundNow 115 = .ok (.ifCond .eq 82, 3) := by decide +kernel
theorem dX11_roundNow_118 : decode cX11_roundNow 118 = .ok (.iconst 1, 1) := by decide +kernel
theorem dX11_roundNow_119 : decode cX11_roundNow 119 = .ok (.istore 6, 2) := by decide +kernel
theorem dX11_roundNow_121 : decode cX11_roundNow 121 = .ok (.iconst 0, 1) := by decide +kernel
theorem dX11_roundNow_122 : decode cX11_roundNow 122 = .ok (.istore 7, 2) := by decide +kernel
theorem dX11_roundNow_124 : decode cX11_roundNow 124 = .ok (.iload 7, 2) := by decide +kernel
theorem dX11_roundNow_126 : decode cX11_roundNow 126 = .ok (.aload_n 0, 1) := by decide +kernel
theorem dX11_roundNow_127 : decode cX11_roundNow 127 = .ok (.getfield 102, 3) := by decide +kernel
theorem dX11_roundNow_130 : decode cX11_roundNow 130 = .ok (.if_icmp .ge 49, 3) := by decide +kernel
theorem dX11_roundNow_133 : decode cX11_roundNow 133 = .ok (.iload 6, 2) := by decide +kernel
theorem dX11_roundNow_135 : decode cX11_roundNow 135 = .ok (.ifCond .eq 44, 3) := by decide +kernel
theorem dX11_roundNow_138 : decode cX11_roundNow 138 = .ok (.aload_n 0, 1) := by decide +kernel
theorem dX11_roundNow_139 : decode cX11_roundNow 139 = .ok (.getfield 66, 3) := by decide +kernel
theorem dX11_roundNow_142 : decode cX11_roundNow 142 = .ok (.bipush 60, 2) := by decide +kernel
theorem dX11_roundNow_144 : decode cX11_roundNow 144 = .ok (.iload 5, 2) := by decide +kernel
theorem dX11_roundNow_146 : decode cX11_roundNow 146 = .ok (.imul, 1) := by decide +kernel
theorem dX11_roundNow_147 : decode cX11_roundNow 147 = .ok (.iload 7, 2) := by decide +kernel
theorem dX11_roundNow_149 : decode cX11_roundNow 149 = .ok (.iadd, 1) := by decide +kernel
theorem dX11_roundNow_150 : decode cX11_roundNow 150 = .ok (.iaload, 1) := by decide +kernel
theorem dX11_roundNow_151 : decode cX11_roundNow 151 = .ok (.aload_n 0, 1) := by decide +kernel
theorem dX11_roundNow_152 : decode cX11_roundNow 152 = .ok (.getfield 66, 3) := by decide +kernel
theorem dX11_roundNow_155 : decode cX11_roundNow 155 = .ok (.bipush 60, 2) := by decide +kernel
theorem dX11_roundNow_157 : decode cX11_roundNow 157 = .ok (.iload_n 1, 1) := by decide +kernel
theorem dX11_roundNow_158 : decode cX11_roundNow 158 = .ok (.imul, 1) := by decide +kernel
theorem dX11_roundNow_159 : decode cX11_roundNow 159 = .ok (.iload 7, 2) := by decide +kernel
theorem dX11_roundNow_161 : decode cX11_roundNow 161 = .ok (.iadd, 1) := by decide +kernel
theorem dX11_roundNow_162 : decode cX11_roundNow 162 = .ok (.iaload, 1) := by decide +kernel
theorem dX11_roundNow_163 : decode cX11_roundNow 163 = .ok (.if_icmp .ne 7, 3) := by decide +kernel
theorem dX11_roundNow_166 : decode cX11_roundNow 166 = .ok (.iconst 1, 1) := by decide +kernel
theorem dX11_roundNow_167 : decode cX11_roundNow 167 = .ok (.goto 4, 3) := by decide +kernel
theorem dX11_roundNow_170 : decode cX11_roundNow 170 = .ok (.iconst 0, 1) := by decide +kernel
theorem dX11_roundNow_171 : decode cX11_roundNow 171 = .ok (.istore 6, 2) := by decide +kernel
theorem dX11_roundNow_173 : decode cX11_roundNow 173 = .ok (.iinc 7 1, 3) := by decide +kernel
theorem dX11_roundNow_176 : decode cX11_roundNow 176 = .ok (.goto (-52), 3) := by decide +kernel
theorem dX11_roundNow_179 : decode cX11_roundNow 179 = .ok (.iload 6, 2) := by decide +kernel
theorem dX11_roundNow_181 : decode cX11_roundNow 181 = .ok (.ifCond .ne 7, 3) := by decide +kernel
theorem dX11_roundNow_184 : decode cX11_roundNow 184 = .ok (.iconst 1, 1) := by decide +kernel
theorem dX11_roundNow_185 : decode cX11_roundNow 185 = .ok (.goto 4, 3) := by decide +kernel
theorem dX11_roundNow_188 : decode cX11_roundNow 188 = .ok (.iconst 0, 1) := by decide +kernel
theorem dX11_roundNow_189 : decode cX11_roundNow 189 = .ok (.istore 4, 2) := by decide +kernel
theorem dX11_roundNow_191 : decode cX11_roundNow 191 = .ok (.iinc 5 1, 3) := by decide +kernel
theorem dX11_roundNow_194 : decode cX11_roundNow 194 = .ok (.goto (-87), 3) := by decide +kernel
theorem dX11_roundNow_197 : decode cX11_roundNow 197 = .ok (.iload_n 1, 1) := by decide +kernel
theorem dX11_roundNow_198 : decode cX11_roundNow 198 = .ok (.iload 4, 2) := by decide +kernel
theorem dX11_roundNow_200 : decode cX11_roundNow 200 = .ok (.ifCond .eq 7, 3) := by decide +kernel
theorem dX11_roundNow_203 : decode cX11_roundNow 203 = .ok (.iconst 1, 1) := by decide +kernel
theorem dX11_roundNow_204 : decode cX11_roundNow 204 = .ok (.goto 4, 3) := by decide +kernel
theorem dX11_roundNow_207 : decode cX11_roundNow 207 = .ok (.iconst 0, 1) := by decide +kernel
theorem dX11_roundNow_208 : decode cX11_roundNow 208 = .ok (.iadd, 1) := by decide +kernel
theorem dX11_roundNow_209 : decode cX11_roundNow 209 = .ok (.istore_n 1, 1) := by decide +kernel
theorem dX11_roundNow_210 : decode cX11_roundNow 210 = .ok (.iinc 3 1, 3) := by decide +kernel
theorem dX11_roundNow_213 : decode cX11_roundNow 213 = .ok (.goto (-179), 3) := by decide +kernel
theorem dX11_roundNow_216 : decode cX11_roundNow 216 = .ok (.iinc 2 1, 3) := by decide +kernel
theorem dX11_roundNow_219 : decode cX11_roundNow 219 = .ok (.goto (-192), 3) := by decide +kernel
theorem dX11_roundNow_222 : decode cX11_roundNow 222 = .ok (.iload_n 1, 1) := by decide +kernel
theorem dX11_roundNow_223 : decode cX11_roundNow 223 = .ok (.ireturn, 1) := by decide +kernel
theorem dX11_seed_0 : decode cX11_seed 0 = .ok (.aload_n 0, 1) := by decide +kernel
theorem dX11_seed_1 : decode cX11_seed 1 = .ok (.getfield 13, 3) := by decide +kernel
theorem dX11_seed_4 : decode cX11_seed 4 = .ok (.istore_n 2, 1) := by decide +kernel
theorem dX11_seed_5 : decode cX11_seed 5 = .ok (.aload_n 0, 1) := by decide +kernel
theorem dX11_seed_6 : decode cX11_seed 6 = .ok (.iload_n 1, 1) := by decide +kernel
theorem dX11_seed_7 : decode cX11_seed 7 = .ok (.putfield 13, 3) := by decide +kernel
theorem dX11_seed_10 : decode cX11_seed 10 = .ok (.iload_n 2, 1) := by decide +kernel
theorem dX11_seed_11 : decode cX11_seed 11 = .ok (.ireturn, 1) := by decide +kernel
theorem dX11_sheet_0 : decode cX11_sheet 0 = .ok (.iload_n 1, 1) := by decide +kernel
theorem dX11_sheet_1 : decode cX11_sheet 1 = .ok (.invokestatic 237, 3) := by decide +kernel
theorem dX11_sheet_4 : decode cX11_sheet 4 = .ok (.ifCond .eq 27, 3) := by decide +kernel
theorem dX11_sheet_7 : decode cX11_sheet 7 = .ok (.iload_n 2, 1) := by decide +kernel
theorem dX11_sheet_8 : decode cX11_sheet 8 = .ok (.i2l, 1) := by decide +kernel
theorem dX11_sheet_9 : decode cX11_sheet 9 = .ok (.ldc2_w 133, 3) := by decide +kernel
theorem dX11_sheet_12 : decode cX11_sheet 12 = .ok (.ldc2_w 278, 3) := by decide +kernel
theorem dX11_sheet_15 : decode cX11_sheet 15 = .ok (.invokestatic 81, 3) := by decide +kernel
theorem dX11_sheet_18 : decode cX11_sheet 18 = .ok (.ifCond .eq 13, 3) := by decide +kernel
theorem dX11_sheet_21 : decode cX11_sheet 21 = .ok (.iload_n 2, 1) := by decide +kernel
theorem dX11_sheet_22 : decode cX11_sheet 22 = .ok (.ifCond .lt 11, 3) := by decide +kernel
theorem dX11_sheet_25 : decode cX11_sheet 25 = .ok (.iload_n 3, 1) := by decide +kernel
theorem dX11_sheet_26 : decode cX11_sheet 26 = .ok (.bipush 40, 2) := by decide +kernel
theorem dX11_sheet_28 : decode cX11_sheet 28 = .ok (.if_icmp .le 5, 3) := by decide +kernel
theorem dX11_sheet_31 : decode cX11_sheet 31 = .ok (.iconst (-1), 1) := by decide +kernel
theorem dX11_sheet_32 : decode cX11_sheet 32 = .ok (.ireturn, 1) := by decide +kernel
theorem dX11_sheet_33 : decode cX11_sheet 33 = .ok (.iload_n 2, 1) := by decide +kernel
theorem dX11_sheet_34 : decode cX11_sheet 34 = .ok (.ifCond .lt 10, 3) := by decide +kernel
theorem dX11_sheet_37 : decode cX11_sheet 37 = .ok (.iload_n 3, 1) := by decide +kernel
theorem dX11_sheet_38 : decode cX11_sheet 38 = .ok (.ifCond .ge 6, 3) := by decide +kernel
theorem dX11_sheet_41 : decode cX11_sheet 41 = .ok (.bipush (-14), 2) := by decide +kernel
theorem dX11_sheet_43 : decode cX11_sheet 43 = .ok (.ireturn, 1) := by decide +kernel
theorem dX11_sheet_44 : decode cX11_sheet 44 = .ok (.aload_n 0, 1) := by decide +kernel
theorem dX11_sheet_45 : decode cX11_sheet 45 = .ok (.getfield 69, 3) := by decide +kernel
theorem dX11_sheet_48 : decode cX11_sheet 48 = .ok (.iload_n 1, 1) := by decide +kernel
theorem dX11_sheet_49 : decode cX11_sheet 49 = .ok (.iload_n 2, 1) := by decide +kernel
theorem dX11_sheet_50 : decode cX11_sheet 50 = .ok (.iastore, 1) := by decide +kernel
theorem dX11_sheet_51 : decode cX11_sheet 51 = .ok (.aload_n 0, 1) := by decide +kernel
theorem dX11_sheet_52 : decode cX11_sheet 52 = .ok (.getfield 72, 3) := by decide +kernel
theorem dX11_sheet_55 : decode cX11_sheet 55 = .ok (.iload_n 1, 1) := by decide +kernel
theorem dX11_sheet_56 : decode cX11_sheet 56 = .ok (.iload_n 2, 1) := by decide +kernel
theorem dX11_sheet_57 : decode cX11_sheet 57 = .ok (.ifCond .ge 7, 3) := by decide +kernel
theorem dX11_sheet_60 : decode cX11_sheet 60 = .ok (.iconst 0, 1) := by decide +kernel
theorem dX11_sheet_61 : decode cX11_sheet 61 = .ok (.goto 4, 3) := by decide +kernel
theorem dX11_sheet_64 : decode cX11_sheet 64 = .ok (.iload_n 3, 1) := by decide +kernel
theorem dX11_sheet_65 : decode cX11_sheet 65 = .ok (.iastore, 1) := by decide +kernel
theorem dX11_sheet_66 : decode cX11_sheet 66 = .ok (.iconst 0, 1) := by decide +kernel
theorem dX11_sheet_67 : decode cX11_sheet 67 = .ok (.istore 4, 2) := by decide +kernel
theorem dX11_sheet_69 : decode cX11_sheet 69 = .ok (.iload 4, 2) := by decide +kernel
theorem dX11_sheet_71 : decode cX11_sheet 71 = .ok (.bipush 40, 2) := by decide +kernel
theorem dX11_sheet_73 : decode cX11_sheet 73 = .ok (.if_icmp .ge 22, 3) := by decide +kernel
theorem dX11_sheet_76 : decode cX11_sheet 76 = .ok (.aload_n 0, 1) := by decide +kernel
theorem dX11_sheet_77 : decode cX11_sheet 77 = .ok (.getfield 75, 3) := by decide +kernel
theorem dX11_sheet_80 : decode cX11_sheet 80 = .ok (.bipush 40, 2) := by decide +kernel
theorem dX11_sheet_82 : decode cX11_sheet 82 = .ok (.iload_n 1, 1) := by decide +kernel
theorem dX11_sheet_83 : decode cX11_sheet 83 = .ok (.imul, 1) := by decide +kernel
theorem dX11_sheet_84 : decode cX11_sheet 84 = .ok (.iload 4, 2) := by decide +kernel
theorem dX11_sheet_86 : decode cX11_sheet 86 = .ok (.iadd, 1) := by decide +kernel
theorem dX11_sheet_87 : decode cX11_sheet 87 = .ok (.lconst 0, 1) := by decide +kernel
theorem dX11_sheet_88 : decode cX11_sheet 88 = .ok (.lastore, 1) := by decide +kernel
theorem dX11_sheet_89 : decode cX11_sheet 89 = .ok (.iinc 4 1, 3) := by decide +kernel
theorem dX11_sheet_92 : decode cX11_sheet 92 = .ok (.goto (-23), 3) := by decide +kernel
theorem dX11_sheet_95 : decode cX11_sheet 95 = .ok (.iconst 1, 1) := by decide +kernel
theorem dX11_sheet_96 : decode cX11_sheet 96 = .ok (.ireturn, 1) := by decide +kernel
theorem dX11_size_0 : decode cX11_size 0 = .ok (.iload_n 1, 1) := by decide +kernel
theorem dX11_size_1 : decode cX11_size 1 = .ok (.i2l, 1) := by decide +kernel
theorem dX11_size_2 : decode cX11_size 2 = .ok (.lconst 1, 1) := by decide +kernel
theorem dX11_size_3 : decode cX11_size 3 = .ok (.ldc2_w 105, 3) := by decide +kernel
theorem dX11_size_6 : decode cX11_size 6 = .ok (.invokestatic 81, 3) := by decide +kernel
theorem dX11_size_9 : decode cX11_size 9 = .ok (.ifCond .ne 5, 3) := by decide +kernel
theorem dX11_size_12 : decode cX11_size 12 = .ok (.iconst (-1), 1) := by decide +kernel
theorem dX11_size_13 : decode cX11_size 13 = .ok (.ireturn, 1) := by decide +kernel
theorem dX11_size_14 : decode cX11_size 14 = .ok (.aload_n 0, 1) := by decide +kernel
theorem dX11_size_15 : decode cX11_size 15 = .ok (.getfield 7, 3) := by decide +kernel
theorem dX11_size_18 : decode cX11_size 18 = .ok (.istore_n 2, 1) := by decide +kernel
theorem dX11_size_19 : decode cX11_size 19 = .ok (.iload_n 1, 1) := by decide +kernel
theorem dX11_size_20 : decode cX11_size 20 = .ok (.iload_n 2, 1) := by decide +kernel
theorem dX11_size_21 : decode cX11_size 21 = .ok (.if_icmp .eq 23, 3) := by decide +kernel
theorem dX11_size_24 : decode cX11_size 24 = .ok (.aload_n 0, 1) := by decide +kernel
theorem dX11_size_25 : decode cX11_size 25 = .ok (.iload_n 1, 1) := by decide +kernel
theorem dX11_size_26 : decode cX11_size 26 = .ok (.putfield 7, 3) := by decide +kernel
theorem dX11_size_29 : decode cX11_size 29 = .ok (.aload_n 0, 1) := by decide +kernel
theorem dX11_size_30 : decode cX11_size 30 = .ok (.iconst 0, 1) := by decide +kernel
theorem dX11_size_31 : decode cX11_size 31 = .ok (.putfield 85, 3) := by decide +kernel
theorem dX11_size_34 : decode cX11_size 34 = .ok (.aload_n 0, 1) := by decide +kernel
theorem dX11_size_35 : decode cX11_size 35 = .ok (.iconst 0, 1) := by decide +kernel
theorem dX11_size_36 : decode cX11_size 36 = .ok (.putfield 98, 3) := by decide +kernel
theorem dX11_size_39 : decode cX11_size 39 = .ok (.aload_n 0, 1) := by decide +kernel
theorem dX11_size_40 : decode cX11_size 40 = .ok (.iconst 0, 1) := by decide +kernel
theorem dX11_size_41 : decode cX11_size 41 = .ok (.putfield 102, 3) := by decide +kernel
theorem dX11_size_44 : decode cX11_size 44 = .ok (.iload_n 2, 1) := by decide +kernel
theorem dX11_size_45 : decode cX11_size 45 = .ok (.ireturn, 1) := by decide +kernel
theorem dX11_still_0 : decode cX11_still 0 = .ok (.iload_n 1, 1) := by decide +kernel
theorem dX11_still_1 : decode cX11_still 1 = .ok (.iload_n 2, 1) := by decide +kernel
theorem dX11_still_2 : decode cX11_still 2 = .ok (.iload_n 3, 1) := by decide +kernel
theorem dX11_still_3 : decode cX11_still 3 = .ok (.invokestatic 264, 3) := by decide +kernel
theorem dX11_still_6 : decode cX11_still 6 = .ok (.ifCond .ne 5, 3) := by decide +kernel
theorem dX11_still_9 : decode cX11_still 9 = .ok (.iconst (-1), 1) := by decide +kernel
theorem dX11_still_10 : decode cX11_still 10 = .ok (.ireturn, 1) := by decide +kernel
theorem dX11_still_11 : decode cX11_still 11 = .ok (.aload_n 0, 1) := by decide +kernel
theorem dX11_still_12 : decode cX11_still 12 = .ok (.invokevirtual 219, 3) := by decide +kernel
theorem dX11_still_15 : decode cX11_still 15 = .ok (.aload_n 0, 1) := by decide +kernel
theorem dX11_still_16 : decode cX11_still 16 = .ok (.getfield 7, 3) := by decide +kernel
theorem dX11_still_19 : decode cX11_still 19 = .ok (.iconst 1, 1) := by decide +kernel
theorem dX11_still_20 : decode cX11_still 20 = .ok (.if_icmp .le 8, 3) := by decide +kernel
theorem dX11_still_23 : decode cX11_still 23 = .ok (.iload_n 2, 1) := by decide +kernel
theorem dX11_still_24 : decode cX11_still 24 = .ok (.i2l, 1) := by decide +kernel
theorem dX11_still_25 : decode cX11_still 25 = .ok (.goto 4, 3) := by decide +kernel
theorem dX11_still_28 : decode cX11_still 28 = .ok (.lconst 0, 1) := by decide +kernel
theorem dX11_still_29 : decode cX11_still 29 = .ok (.lstore 4, 2) := by decide +kernel
theorem dX11_still_31 : decode cX11_still 31 = .ok (.aload_n 0, 1) := by decide +kernel
theorem dX11_still_32 : decode cX11_still 32 = .ok (.getfield 7, 3) := by decide +kernel
theorem dX11_still_35 : decode cX11_still 35 = .ok (.iconst 2, 1) := by decide +kernel
theorem dX11_still_36 : decode cX11_still 36 = .ok (.if_icmp .le 8, 3) := by decide +kernel
theorem dX11_still_39 : decode cX11_still 39 = .ok (.iload_n 3, 1) := by decide +kernel
theorem dX11_still_40 : decode cX11_still 40 = .ok (.i2l, 1) := by decide +kernel
theorem dX11_still_41 : decode cX11_still 41 = .ok (.goto 4, 3) := by decide +kernel
theorem dX11_still_44 : decode cX11_still 44 = .ok (.lconst 0, 1) := by decide +kernel
theorem dX11_still_45 : decode cX11_still 45 = .ok (.lstore 6, 2) := by decide +kernel
theorem dX11_still_47 : decode cX11_still 47 = .ok (.iconst 0, 1) := by decide +kernel
theorem dX11_still_48 : decode cX11_still 48 = .ok (.istore 8, 2) := by decide +kernel
theorem dX11_still_50 : decode cX11_still 50 = .ok (.iconst 0, 1) := by decide +kernel
theorem dX11_still_51 : decode cX11_still 51 = .ok (.istore 9, 2) := by decide +kernel
theorem dX11_still_53 : decode cX11_still 53 = .ok (.iload 9, 2) := by decide +kernel
theorem dX11_still_55 : decode cX11_still 55 = .ok (.aload_n 0, 1) := by decide +kernel
theorem dX11_still_56 : decode cX11_still 56 = .ok (.getfield 202, 3) := by decide +kernel
theorem dX11_still_59 : decode cX11_still 59 = .ok (.if_icmp .ge 173, 3) := by decide +kernel
theorem dX11_still_62 : decode cX11_still 62 = .ok (.aload_n 0, 1) := by decide +kernel
theorem dX11_still_63 : decode cX11_still 63 = .ok (.iload 9, 2) := by decide +kernel
theorem dX11_still_65 : decode cX11_still 65 = .ok (.aload_n 0, 1) := by decide +kernel
theorem dX11_still_66 : decode cX11_still 66 = .ok (.getfield 27, 3) := by decide +kernel
theorem dX11_still_69 : decode cX11_still 69 = .ok (.invokevirtual 209, 3) := by decide +kernel
theorem dX11_still_72 : decode cX11_still 72 = .ok (.aload_n 0, 1) := by decide +kernel
theorem dX11_still_73 : decode cX11_still 73 = .ok (.getfield 27, 3) := by decide +kernel
theorem dX11_still_76 : decode cX11_still 76 = .ok (.iconst 0, 1) := by decide +kernel
theorem dX11_still_77 : decode cX11_still 77 = .ok (.laload, 1) := by decide +kernel
theorem dX11_still_78 : decode cX11_still 78 = .ok (.iload_n 1, 1) := by decide +kernel
theorem dX11_still_79 : decode cX11_still 79 = .ok (.i2l, 1) := by decide +kernel
theorem dX11_still_80 : decode cX11_still 80 = .ok (.lmul, 1) := by decide +kernel
theorem dX11_still_81 : decode cX11_still 81 = .ok (.aload_n 0, 1) := by decide +kernel
theorem dX11_still_82 : decode cX11_still 82 = .ok (.getfield 27, 3) := by decide +kernel
theorem dX11_still_85 : decode cX11_still 85 = .ok (.iconst 1, 1) := by decide +kernel
theorem dX11_still_86 : decode cX11_still 86 = .ok (.laload, 1) := by decide +kernel
theorem dX11_still_87 : decode cX11_still 87 = .ok (.lload 4, 2) := by decide +kernel
theorem dX11_still_89 : decode cX11_still 89 = .ok (.lmul, 1) := by decide +kernel
theorem dX11_still_90 : decode cX11_still 90 = .ok (.ladd, 1) := by decide +kernel
theorem dX11_still_91 : decode cX11_still 91 = .ok (.aload_n 0, 1) := by decide +kernel
theorem dX11_still_92 : decode cX11_still 92 = .ok (.getfield 27, 3) := by decide +kernel
theorem dX11_still_95 : decode cX11_still 95 = .ok (.iconst 2, 1) := by decide +kernel
theorem dX11_still_96 : decode cX11_still 96 = .ok (.laload, 1) := by decide +kernel
theorem dX11_still_97 : decode cX11_still 97 = .ok (.lload 6, 2) := by decide +kernel
theorem dX11_still_99 : decode cX11_still 99 = .ok (.lmul, 1) := by decide +kernel
theorem dX11_still_100 : decode cX11_still 100 = .ok (.ladd, 1) := by decide +kernel
theorem dX11_still_101 : decode cX11_still 101 = .ok (.iload_n 1, 1) := by decide +kernel
theorem dX11_still_102 : decode cX11_still 102 = .ok (.i2l, 1) := by decide +kernel
theorem dX11_still_103 : decode cX11_still 103 = .ok (.lcmp, 1) := by decide +kernel
theorem dX11_still_104 : decode cX11_still 104 = .ok (.ifCond .ne 7, 3) := by decide +kernel
theorem dX11_still_107 : decode cX11_still 107 = .ok (.iconst 1, 1) := by decide +kernel
theorem dX11_still_108 : decode cX11_still 108 = .ok (.goto 4, 3) := by decide +kernel
theorem dX11_still_111 : decode cX11_still 111 = .ok (.iconst 0, 1) := by decide +kernel
theorem dX11_still_112 : decode cX11_still 112 = .ok (.istore 10, 2) := by decide +kernel
theorem dX11_still_114 : decode cX11_still 114 = .ok (.iload 10, 2) := by decide +kernel
theorem dX11_still_116 : decode cX11_still 116 = .ok (.ifCond .eq 42, 3) := by decide +kernel
theorem dX11_still_119 : decode cX11_still 119 = .ok (.aload_n 0, 1) := by decide +kernel
theorem dX11_still_120 : decode cX11_still 120 = .ok (.getfield 27, 3) := by decide +kernel
theorem dX11_still_123 : decode cX11_still 123 = .ok (.iconst 3, 1) := by decide +kernel
theorem dX11_still_124 : decode cX11_still 124 = .ok (.laload, 1) := by decide +kernel
theorem dX11_still_125 : decode cX11_still 125 = .ok (.iload_n 1, 1) := by decide +kernel
theorem dX11_still_126 : decode cX11_still 126 = .ok (.i2l, 1) := by decide +kernel
theorem dX11_still_127 : decode cX11_still 127 = .ok (.lmul, 1) := by decide +kernel
theorem dX11_still_128 : decode cX11_still 128 = .ok (.aload_n 0, 1) := by decide +kernel
theorem dX11_still_129 : decode cX11_still 129 = .ok (.getfield 27, 3) := by decide +kernel
theorem dX11_still_132 : decode cX11_still 132 = .ok (.iconst 4, 1) := by decide +kernel
theorem dX11_still_133 : decode cX11_still 133 = .ok (.laload, 1) := by decide +kernel
theorem dX11_still_134 : decode cX11_still 134 = .ok (.lload 4, 2) := by decide +kernel
theorem dX11_still_136 : decode cX11_still 136 = .ok (.lmul, 1) := by decide +kernel
theorem dX11_still_137 : decode cX11_still 137 = .ok (.ladd, 1) := by decide +kernel
theorem dX11_still_138 : decode cX11_still 138 = .ok (.aload_n 0, 1) := by decide +kernel
theorem dX11_still_139 : decode cX11_still 139 = .ok (.getfield 27, 3) := by decide +kernel
theorem dX11_still_142 : decode cX11_still 142 = .ok (.iconst 5, 1) := by decide +kernel
theorem dX11_still_143 : decode cX11_still 143 = .ok (.laload, 1) := by decide +kernel
theorem dX11_still_144 : decode cX11_still 144 = .ok (.lload 6, 2) := by decide +kernel
theorem dX11_still_146 : decode cX11_still 146 = .ok (.lmul, 1) := by decide +kernel
theorem dX11_still_147 : decode cX11_still 147 = .ok (.ladd, 1) := by decide +kernel
theorem dX11_still_148 : decode cX11_still 148 = .ok (.lload 4, 2) := by decide +kernel
theorem dX11_still_150 : decode cX11_still 150 = .ok (.lcmp, 1) := by decide +kernel
theorem dX11_still_151 : decode cX11_still 151 = .ok (.ifCond .ne 7, 3) := by decide +kernel
theorem dX11_still_154 : decode cX11_still 154 = .ok (.iconst 1, 1) := by decide +kernel
theorem dX11_still_155 : decode cX11_still 155 = .ok (.goto 4, 3) := by decide +kernel
theorem dX11_still_158 : decode cX11_still 158 = .ok (.iconst 0, 1) := by decide +kernel
theorem dX11_still_159 : decode cX11_still 159 = .ok (.istore 10, 2) := by decide +kernel
theorem dX11_still_161 : decode cX11_still 161 = .ok (.iload 10, 2) := by decide +kernel
theorem dX11_still_163 : decode cX11_still 163 = .ok (.ifCond .eq 45, 3) := by decide +kernel
theorem dX11_still_166 : decode cX11_still 166 = .ok (.aload_n 0, 1) := by decide +kernel
theorem dX11_still_167 : decode cX11_still 167 = .ok (.getfield 27, 3) := by decide +kernel
theorem dX11_still_170 : decode cX11_still 170 = .ok (.bipush 6, 2) := by decide +kernel
theorem dX11_still_172 : decode cX11_still 172 = .ok (.laload, 1) := by decide +kernel
theorem dX11_still_173 : decode cX11_still 173 = .ok (.iload_n 1, 1) := by decide +kernel
theorem dX11_still_174 : decode cX11_still 174 = .ok (.i2l, 1) := by decide +kernel
theorem dX11_still_175 : decode cX11_still 175 = .ok (.lmul, 1) := by decide +kernel
theorem dX11_still_176 : decode cX11_still 176 = .ok (.aload_n 0, 1) := by decide +kernel
theorem dX11_still_177 : decode cX11_still 177 = .ok (.getfield 27, 3) := by decide +kernel
theorem dX11_still_180 : decode cX11_still 180 = .ok (.bipush 7, 2) := by decide +kernel
theorem dX11_still_182 : decode cX11_still 182 = .ok (.laload, 1) := by decide +kernel
theorem dX11_still_183 : decode cX11_still 183 = .ok (.lload 4, 2) := by decide +kernel
theorem dX11_still_185 : decode cX11_still 185 = .ok (.lmul, 1) := by decide +kernel
theorem dX11_still_186 : decode cX11_still 186 = .ok (.ladd, 1) := by decide +kernel
theorem dX11_still_187 : decode cX11_still 187 = .ok (.aload_n 0, 1) := by decide +kernel
theorem dX11_still_188 : decode cX11_still 188 = .ok (.getfield 27, 3) := by decide +kernel
theorem dX11_still_191 : decode cX11_still 191 = .ok (.bipush 8, 2) := by decide +kernel
theorem dX11_still_193 : decode cX11_still 193 = .ok (.laload, 1) := by decide +kernel
theorem dX11_still_194 : decode cX11_still 194 = .ok (.lload 6, 2) := by decide +kernel
theorem dX11_still_196 : decode cX11_still 196 = .ok (.lmul, 1) := by decide +kernel
theorem dX11_still_197 : decode cX11_still 197 = .ok (.ladd, 1) := by decide +kernel
theorem dX11_still_198 : decode cX11_still 198 = .ok (.lload 6, 2) := by decide +kernel
theorem dX11_still_200 : decode cX11_still 200 = .ok (.lcmp, 1) := by decide +kernel
theorem dX11_still_201 : decode cX11_still 201 = .ok (.ifCond .ne 7, 3) := by decide +kernel
theorem dX11_still_204 : decode cX11_still 204 = .ok (.iconst 1, 1) := by decide +kernel
theorem dX11_still_205 : decode cX11_still 205 = .ok (.goto 4, 3) := by decide +kernel
theorem dX11_still_208 : decode cX11_still 208 = .ok (.iconst 0, 1) := by decide +kernel
theorem dX11_still_209 : decode cX11_still 209 = .ok (.istore 10, 2) := by decide +kernel
theorem dX11_still_211 : decode cX11_still 211 = .ok (.iload 8, 2) := by decide +kernel
theorem dX11_still_213 : decode cX11_still 213 = .ok (.iload 10, 2) := by decide +kernel
theorem dX11_still_215 : decode cX11_still 215 = .ok (.ifCond .eq 7, 3) := by decide +kernel
theorem dX11_still_218 : decode cX11_still 218 = .ok (.iconst 1, 1) := by decide +kernel
theorem dX11_still_219 : decode cX11_still 219 = .ok (.goto 4, 3) := by decide +kernel
theorem dX11_still_222 : decode cX11_still 222 = .ok (.iconst 0, 1) := by decide +kernel
theorem dX11_still_223 : decode cX11_still 223 = .ok (.iadd, 1) := by decide +kernel
theorem dX11_still_224 : decode cX11_still 224 = .ok (.istore 8, 2) := by decide +kernel
theorem dX11_still_226 : decode cX11_still 226 = .ok (.iinc 9 1, 3) := by decide +kernel
theorem dX11_still_229 : decode cX11_still 229 = .ok (.goto (-176), 3) := by decide +kernel
theorem dX11_still_232 : decode cX11_still 232 = .ok (.iload 8, 2) := by decide +kernel
theorem dX11_still_234 : decode cX11_still 234 = .ok (.ireturn, 1) := by decide +kernel
theorem dX11_take_0 : decode cX11_take 0 = .ok (.iload_n 1, 1) := by decide +kernel
theorem dX11_take_1 : decode cX11_take 1 = .ok (.invokestatic 237, 3) := by decide +kernel
theorem dX11_take_4 : decode cX11_take 4 = .ok (.ifCond .ne 5, 3) := by decide +kernel
theorem dX11_take_7 : decode cX11_take 7 = .ok (.iconst (-1), 1) := by decide +kernel
theorem dX11_take_8 : decode cX11_take 8 = .ok (.ireturn, 1) := by decide +kernel
theorem dX11_take_9 : decode cX11_take 9 = .ok (.aload_n 0, 1) := by decide +kernel
theorem dX11_take_10 : decode cX11_take 10 = .ok (.iload_n 1, 1) := by decide +kernel
theorem dX11_take_11 : decode cX11_take 11 = .ok (.iload_n 2, 1) := by decide +kernel
theorem dX11_take_12 : decode cX11_take 12 = .ok (.invokevirtual 293, 3) := by decide +kernel
theorem dX11_take_15 : decode cX11_take 15 = .ok (.istore_n 3, 1) := by decide +kernel
theorem dX11_take_16 : decode cX11_take 16 = .ok (.iload_n 3, 1) := by decide +kernel
theorem dX11_take_17 : decode cX11_take 17 = .ok (.ifCond .eq 5, 3) := by decide +kernel
theorem dX11_take_20 : decode cX11_take 20 = .ok (.iload_n 3, 1) := by decide +kernel
theorem dX11_take_21 : decode cX11_take 21 = .ok (.ireturn, 1) := by decide +kernel
theorem dX11_take_22 : decode cX11_take 22 = .ok (.aload_n 0, 1) := by decide +kernel
theorem dX11_take_23 : decode cX11_take 23 = .ok (.aload_n 0, 1) := by decide +kernel
theorem dX11_take_24 : decode cX11_take 24 = .ok (.getfield 23, 3) := by decide +kernel
theorem dX11_take_27 : decode cX11_take 27 = .ok (.invokevirtual 90, 3) := by decide +kernel
theorem dX11_take_30 : decode cX11_take 30 = .ok (.iconst 1, 1) := by decide +kernel
theorem dX11_take_31 : decode cX11_take 31 = .ok (.istore 4, 2) := by decide +kernel
theorem dX11_take_33 : decode cX11_take 33 = .ok (.iconst 0, 1) := by decide +kernel
theorem dX11_take_34 : decode cX11_take 34 = .ok (.istore 5, 2) := by decide +kernel
theorem dX11_take_36 : decode cX11_take 36 = .ok (.iload 5, 2) := by decide +kernel
theorem dX11_take_38 : decode cX11_take 38 = .ok (.aload_n 0, 1) := by decide +kernel
theorem dX11_take_39 : decode cX11_take 39 = .ok (.getfield 7, 3) := by decide +kernel
theorem dX11_take_42 : decode cX11_take 42 = .ok (.aload_n 0, 1) := by decide +kernel
theorem dX11_take_43 : decode cX11_take 43 = .ok (.getfield 7, 3) := by decide +kernel
theorem dX11_take_46 : decode cX11_take 46 = .ok (.imul, 1) := by decide +kernel
theorem dX11_take_47 : decode cX11_take 47 = .ok (.if_icmp .ge 84, 3) := by decide +kernel
theorem dX11_take_50 : decode cX11_take 50 = .ok (.aload_n 0, 1) := by decide +kernel
theorem dX11_take_51 : decode cX11_take 51 = .ok (.getfield 75, 3) := by decide +kernel
theorem dX11_take_54 : decode cX11_take 54 = .ok (.bipush 40, 2) := by decide +kernel
theorem dX11_take_56 : decode cX11_take 56 = .ok (.iload_n 1, 1) := by decide +kernel
theorem dX11_take_57 : decode cX11_take 57 = .ok (.imul, 1) := by decide +kernel
theorem dX11_take_58 : decode cX11_take 58 = .ok (.iload_n 2, 1) := by decide +kernel
theorem dX11_take_59 : decode cX11_take 59 = .ok (.iadd, 1) := by decide +kernel
theorem dX11_take_60 : decode cX11_take 60 = .ok (.iload 5, 2) := by decide +kernel
theorem dX11_take_62 : decode cX11_take 62 = .ok (.iadd, 1) := by decide +kernel
theorem dX11_take_63 : decode cX11_take 63 = .ok (.laload, 1) := by decide +kernel
theorem dX11_take_64 : decode cX11_take 64 = .ok (.lstore 6, 2) := by decide +kernel
theorem dX11_take_66 : decode cX11_take 66 = .ok (.iload 4, 2) := by decide +kernel
theorem dX11_take_68 : decode cX11_take 68 = .ok (.ifCond .eq 21, 3) := by decide +kernel
theorem dX11_take_71 : decode cX11_take 71 = .ok (.lload 6, 2) := by decide +kernel
theorem dX11_take_73 : decode cX11_take 73 = .ok (.ldc2_w 94, 3) := by decide +kernel
theorem dX11_take_76 : decode cX11_take 76 = .ok (.ldc2_w 96, 3) := by decide +kernel
theorem dX11_take_79 : decode cX11_take 79 = .ok (.invokestatic 81, 3) := by decide +kernel
theorem dX11_take_82 : decode cX11_take 82 = .ok (.ifCond .eq 7, 3) := by decide +kernel
theorem dX11_take_85 : decode cX11_take 85 = .ok (.iconst 1, 1) := by decide +kernel
theorem dX11_take_86 : decode cX11_take 86 = .ok (.goto 4, 3) := by decide +kernel
theorem dX11_take_89 : decode cX11_take 89 = .ok (.iconst 0, 1) := by decide +kernel
theorem dX11_take_90 : decode cX11_take 90 = .ok (.istore 4, 2) := by decide +kernel
theorem dX11_take_92 : decode cX11_take 92 = .ok (.aload_n 0, 1) := by decide +kernel
theorem dX11_take_93 : decode cX11_take 93 = .ok (.getfield 23, 3) := by decide +kernel
theorem dX11_take_96 : decode cX11_take 96 = .ok (.iconst 3, 1) := by decide +kernel
theorem dX11_take_97 : decode cX11_take 97 = .ok (.iload 5, 2) := by decide +kernel
theorem dX11_take_99 : decode cX11_take 99 = .ok (.aload_n 0, 1) := by decide +kernel
theorem dX11_take_100 : decode cX11_take 100 = .ok (.getfield 7, 3) := by decide +kernel
theorem dX11_take_103 : decode cX11_take 103 = .ok (.idiv, 1) := by decide +kernel
theorem dX11_take_104 : decode cX11_take 104 = .ok (.imul, 1) := by decide +kernel
theorem dX11_take_105 : decode cX11_take 105 = .ok (.iload 5, 2) := by decide +kernel
theorem dX11_take_107 : decode cX11_take 107 = .ok (.aload_n 0, 1) := by decide +kernel
theorem dX11_take_108 : decode cX11_take 108 = .ok (.getfield 7, 3) := by decide +kernel
theorem dX11_take_111 : decode cX11_take 111 = .ok (.irem, 1) := by decide +kernel
theorem dX11_take_112 : decode cX11_take 112 = .ok (.iadd, 1) := by decide +kernel
theorem dX11_take_113 : decode cX11_take 113 = .ok (.iload 4, 2) := by decide +kernel
theorem dX11_take_115 : decode cX11_take 115 = .ok (.ifCond .eq 8, 3) := by decide +kernel
theorem dX11_take_118 : decode cX11_take 118 = .ok (.lload 6, 2) := by decide +kernel
theorem dX11_take_120 : decode cX11_take 120 = .ok (.goto 4, 3) := by decide +kernel
theorem dX11_take_123 : decode cX11_take 123 = .ok (.lconst 0, 1) := by decide +kernel
theorem dX11_take_124 : decode cX11_take 124 = .ok (.lastore, 1) := by decide +kernel
theorem dX11_take_125 : decode cX11_take 125 = .ok (.iinc 5 1, 3) := by decide +kernel
theorem dX11_take_128 : decode cX11_take 128 = .ok (.goto (-92), 3) := by decide +kernel
theorem dX11_take_131 : decode cX11_take 131 = .ok (.iload 4, 2) := by decide +kernel
theorem dX11_take_133 : decode cX11_take 133 = .ok (.ifCond .eq 31, 3) := by decide +kernel
theorem dX11_take_136 : decode cX11_take 136 = .ok (.aload_n 0, 1) := by decide +kernel
theorem dX11_take_137 : decode cX11_take 137 = .ok (.aload_n 0, 1) := by decide +kernel
theorem dX11_take_138 : decode cX11_take 138 = .ok (.getfield 23, 3) := by decide +kernel
theorem dX11_take_141 : decode cX11_take 141 = .ok (.invokevirtual 139, 3) := by decide +kernel
theorem dX11_take_144 : decode cX11_take 144 = .ok (.lconst 1, 1) := by decide +kernel
theorem dX11_take_145 : decode cX11_take 145 = .ok (.lcmp, 1) := by decide +kernel
theorem dX11_take_146 : decode cX11_take 146 = .ok (.ifCond .eq 20, 3) := by decide +kernel
theorem dX11_take_149 : decode cX11_take 149 = .ok (.aload_n 0, 1) := by decide +kernel
theorem dX11_take_150 : decode cX11_take 150 = .ok (.aload_n 0, 1) := by decide +kernel
theorem dX11_take_151 : decode cX11_take 151 = .ok (.getfield 23, 3) := by decide +kernel
theorem dX11_take_154 : decode cX11_take 154 = .ok (.invokevirtual 139, 3) := by decide +kernel
