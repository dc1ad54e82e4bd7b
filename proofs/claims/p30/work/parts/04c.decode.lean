theorem dX10_middle_4 : decode cX10_middle 4 = .ok (.iconst 0, 1) := by decide +kernel
theorem dX10_middle_5 : decode cX10_middle 5 = .ok (.istore_n 1, 1) := by decide +kernel
theorem dX10_middle_6 : decode cX10_middle 6 = .ok (.iconst 0, 1) := by decide +kernel
theorem dX10_middle_7 : decode cX10_middle 7 = .ok (.istore_n 2, 1) := by decide +kernel
theorem dX10_middle_8 : decode cX10_middle 8 = .ok (.iload_n 2, 1) := by decide +kernel
theorem dX10_middle_9 : decode cX10_middle 9 = .ok (.aload_n 0, 1) := by decide +kernel
theorem dX10_middle_10 : decode cX10_middle 10 = .ok (.getfield 41, 3) := by decide +kernel
theorem dX10_middle_13 : decode cX10_middle 13 = .ok (.getfield 198, 3) := by decide +kernel
theorem dX10_middle_16 : decode cX10_middle 16 = .ok (.if_icmp .ge 20, 3) := by decide +kernel
theorem dX10_middle_19 : decode cX10_middle 19 = .ok (.aload_n 0, 1) := by decide +kernel
theorem dX10_middle_20 : decode cX10_middle 20 = .ok (.iload_n 2, 1) := by decide +kernel
theorem dX10_middle_21 : decode cX10_middle 21 = .ok (.invokevirtual 231, 3) := by decide +kernel
theorem dX10_middle_24 : decode cX10_middle 24 = .ok (.ifCond .eq 6, 3) := by decide +kernel
theorem dX10_middle_27 : decode cX10_middle 27 = .ok (.iinc 1 1, 3) := by decide +kernel
theorem dX10_middle_30 : decode cX10_middle 30 = .ok (.iinc 2 1, 3) := by decide +kernel
theorem dX10_middle_33 : decode cX10_middle 33 = .ok (.goto (-25), 3) := by decide +kernel
theorem dX10_middle_36 : decode cX10_middle 36 = .ok (.iload_n 1, 1) := by decide +kernel
theorem dX10_middle_37 : decode cX10_middle 37 = .ok (.ireturn, 1) := by decide +kernel
theorem dX10_multiplyOut_0 : decode cX10_multiplyOut 0 = .ok (.aload_n 0, 1) := by decide +kernel
theorem dX10_multiplyOut_1 : decode cX10_multiplyOut 1 = .ok (.getfield 10, 3) := by decide +kernel
theorem dX10_multiplyOut_4 : decode cX10_multiplyOut 4 = .ok (.invokevirtual 130, 3) := by decide +kernel
theorem dX10_multiplyOut_7 : decode cX10_multiplyOut 7 = .ok (.istore_n 2, 1) := by decide +kernel
theorem dX10_multiplyOut_8 : decode cX10_multiplyOut 8 = .ok (.aload_n 0, 1) := by decide +kernel
theorem dX10_multiplyOut_9 : decode cX10_multiplyOut 9 = .ok (.getfield 90, 3) := by decide +kernel
theorem dX10_multiplyOut_12 : decode cX10_multiplyOut 12 = .ok (.aload_n 0, 1) := by decide +kernel
theorem dX10_multiplyOut_13 : decode cX10_multiplyOut 13 = .ok (.getfield 10, 3) := by decide +kernel
theorem dX10_multiplyOut_16 : decode cX10_multiplyOut 16 = .ok (.getfield 98, 3) := by decide +kernel
theorem dX10_multiplyOut_19 : decode cX10_multiplyOut 19 = .ok (.invokestatic 339, 3) := by decide +kernel
theorem dX10_multiplyOut_22 : decode cX10_multiplyOut 22 = .ok (.ldc_w 368, 3) := by decide +kernel
theorem dX10_multiplyOut_25 : decode cX10_multiplyOut 25 = .ok (.istore_n 3, 1) := by decide +kernel
theorem dX10_multiplyOut_26 : decode cX10_multiplyOut 26 = .ok (.iload_n 3, 1) := by decide +kernel
theorem dX10_multiplyOut_27 : decode cX10_multiplyOut 27 = .ok (.ifCond .le 94, 3) := by decide +kernel
theorem dX10_multiplyOut_30 : decode cX10_multiplyOut 30 = .ok (.iload_n 1, 1) := by decide +kernel
theorem dX10_multiplyOut_31 : decode cX10_multiplyOut 31 = .ok (.iload_n 3, 1) := by decide +kernel
theorem dX10_multiplyOut_32 : decode cX10_multiplyOut 32 = .ok (.idiv, 1) := by decide +kernel
theorem dX10_multiplyOut_33 : decode cX10_multiplyOut 33 = .ok (.bipush 10, 2) := by decide +kernel
theorem dX10_multiplyOut_35 : decode cX10_multiplyOut 35 = .ok (.irem, 1) := by decide +kernel
theorem dX10_multiplyOut_36 : decode cX10_multiplyOut 36 = .ok (.iconst 1, 1) := by decide +kernel
theorem dX10_multiplyOut_37 : decode cX10_multiplyOut 37 = .ok (.isub, 1) := by decide +kernel
theorem dX10_multiplyOut_38 : decode cX10_multiplyOut 38 = .ok (.istore 4, 2) := by decide +kernel
theorem dX10_multiplyOut_40 : decode cX10_multiplyOut 40 = .ok (.aload_n 0, 1) := by decide +kernel
theorem dX10_multiplyOut_41 : decode cX10_multiplyOut 41 = .ok (.getfield 10, 3) := by decide +kernel
theorem dX10_multiplyOut_44 : decode cX10_multiplyOut 44 = .ok (.iload 4, 2) := by decide +kernel
theorem dX10_multiplyOut_46 : decode cX10_multiplyOut 46 = .ok (.invokevirtual 123, 3) := by decide +kernel
theorem dX10_multiplyOut_49 : decode cX10_multiplyOut 49 = .ok (.ifCond .eq 64, 3) := by decide +kernel
theorem dX10_multiplyOut_52 : decode cX10_multiplyOut 52 = .ok (.aload_n 0, 1) := by decide +kernel
theorem dX10_multiplyOut_53 : decode cX10_multiplyOut 53 = .ok (.getfield 90, 3) := by decide +kernel
theorem dX10_multiplyOut_56 : decode cX10_multiplyOut 56 = .ok (.iconst 0, 1) := by decide +kernel
theorem dX10_multiplyOut_57 : decode cX10_multiplyOut 57 = .ok (.aload_n 0, 1) := by decide +kernel
theorem dX10_multiplyOut_58 : decode cX10_multiplyOut 58 = .ok (.getfield 10, 3) := by decide +kernel
theorem dX10_multiplyOut_61 : decode cX10_multiplyOut 61 = .ok (.getfield 145, 3) := by decide +kernel
theorem dX10_multiplyOut_64 : decode cX10_multiplyOut 64 = .ok (.iload 4, 2) := by decide +kernel
theorem dX10_multiplyOut_66 : decode cX10_multiplyOut 66 = .ok (.bipush 9, 2) := by decide +kernel
theorem dX10_multiplyOut_68 : decode cX10_multiplyOut 68 = .ok (.imul, 1) := by decide +kernel
theorem dX10_multiplyOut_69 : decode cX10_multiplyOut 69 = .ok (.aload_n 0, 1) := by decide +kernel
theorem dX10_multiplyOut_70 : decode cX10_multiplyOut 70 = .ok (.getfield 94, 3) := by decide +kernel
theorem dX10_multiplyOut_73 : decode cX10_multiplyOut 73 = .ok (.aload_n 0, 1) := by decide +kernel
theorem dX10_multiplyOut_74 : decode cX10_multiplyOut 74 = .ok (.getfield 10, 3) := by decide +kernel
theorem dX10_multiplyOut_77 : decode cX10_multiplyOut 77 = .ok (.getfield 98, 3) := by decide +kernel
theorem dX10_multiplyOut_80 : decode cX10_multiplyOut 80 = .ok (.invokestatic 345, 3) := by decide +kernel
theorem dX10_multiplyOut_83 : decode cX10_multiplyOut 83 = .ok (.aload_n 0, 1) := by decide +kernel
theorem dX10_multiplyOut_84 : decode cX10_multiplyOut 84 = .ok (.getfield 94, 3) := by decide +kernel
theorem dX10_multiplyOut_87 : decode cX10_multiplyOut 87 = .ok (.iconst 0, 1) := by decide +kernel
theorem dX10_multiplyOut_88 : decode cX10_multiplyOut 88 = .ok (.aload_n 0, 1) := by decide +kernel
theorem dX10_multiplyOut_89 : decode cX10_multiplyOut 89 = .ok (.getfield 90, 3) := by decide +kernel
theorem dX10_multiplyOut_92 : decode cX10_multiplyOut 92 = .ok (.iconst 0, 1) := by decide +kernel
theorem dX10_multiplyOut_93 : decode cX10_multiplyOut 93 = .ok (.iload_n 2, 1) := by decide +kernel
theorem dX10_multiplyOut_94 : decode cX10_multiplyOut 94 = .ok (.invokestatic 189, 3) := by decide +kernel
theorem dX10_multiplyOut_97 : decode cX10_multiplyOut 97 = .ok (.aload_n 0, 1) := by decide +kernel
theorem dX10_multiplyOut_98 : decode cX10_multiplyOut 98 = .ok (.getfield 90, 3) := by decide +kernel
theorem dX10_multiplyOut_101 : decode cX10_multiplyOut 101 = .ok (.iload_n 2, 1) := by decide +kernel
theorem dX10_multiplyOut_102 : decode cX10_multiplyOut 102 = .ok (.ldc2_w 362, 3) := by decide +kernel
theorem dX10_multiplyOut_105 : decode cX10_multiplyOut 105 = .ok (.invokestatic 136, 3) := by decide +kernel
theorem dX10_multiplyOut_108 : decode cX10_multiplyOut 108 = .ok (.ifCond .ne 5, 3) := by decide +kernel
theorem dX10_multiplyOut_111 : decode cX10_multiplyOut 111 = .ok (.iconst 0, 1) := by decide +kernel
theorem dX10_multiplyOut_112 : decode cX10_multiplyOut 112 = .ok (.ireturn, 1) := by decide +kernel
theorem dX10_multiplyOut_113 : decode cX10_multiplyOut 113 = .ok (.iload_n 3, 1) := by decide +kernel
theorem dX10_multiplyOut_114 : decode cX10_multiplyOut 114 = .ok (.bipush 10, 2) := by decide +kernel
theorem dX10_multiplyOut_116 : decode cX10_multiplyOut 116 = .ok (.idiv, 1) := by decide +kernel
theorem dX10_multiplyOut_117 : decode cX10_multiplyOut 117 = .ok (.istore_n 3, 1) := by decide +kernel
theorem dX10_multiplyOut_118 : decode cX10_multiplyOut 118 = .ok (.goto (-92), 3) := by decide +kernel
theorem dX10_multiplyOut_121 : decode cX10_multiplyOut 121 = .ok (.iconst 1, 1) := by decide +kernel
theorem dX10_multiplyOut_122 : decode cX10_multiplyOut 122 = .ok (.ireturn, 1) := by decide +kernel
theorem dX10_noGeneratorChangesForm_0 : decode cX10_noGeneratorChangesForm 0 = .ok (.bipush 9, 2) := by decide +kernel
theorem dX10_noGeneratorChangesForm_2 : decode cX10_noGeneratorChangesForm 2 = .ok (.newarray .long, 2) := by decide +kernel
theorem dX10_noGeneratorChangesForm_4 : decode cX10_noGeneratorChangesForm 4 = .ok (.astore_n 1, 1) := by decide +kernel
theorem dX10_noGeneratorChangesForm_5 : decode cX10_noGeneratorChangesForm 5 = .ok (.iconst 0, 1) := by decide +kernel
theorem dX10_noGeneratorChangesForm_6 : decode cX10_noGeneratorChangesForm 6 = .ok (.istore_n 2, 1) := by decide +kernel
theorem dX10_noGeneratorChangesForm_7 : decode cX10_noGeneratorChangesForm 7 = .ok (.iload_n 2, 1) := by decide +kernel
theorem dX10_noGeneratorChangesForm_8 : decode cX10_noGeneratorChangesForm 8 = .ok (.aload_n 0, 1) := by decide +kernel
theorem dX10_noGeneratorChangesForm_9 : decode cX10_noGeneratorChangesForm 9 = .ok (.getfield 10, 3) := by decide +kernel
theorem dX10_noGeneratorChangesForm_12 : decode cX10_noGeneratorChangesForm 12 = .ok (.getfield 101, 3) := by decide +kernel
theorem dX10_noGeneratorChangesForm_15 : decode cX10_noGeneratorChangesForm 15 = .ok (.if_icmp .ge 86, 3) := by decide +kernel
theorem dX10_noGeneratorChangesForm_18 : decode cX10_noGeneratorChangesForm 18 = .ok (.aload_n 0, 1) := by decide +kernel
theorem dX10_noGeneratorChangesForm_19 : decode cX10_noGeneratorChangesForm 19 = .ok (.getfield 10, 3) := by decide +kernel
theorem dX10_noGeneratorChangesForm_22 : decode cX10_noGeneratorChangesForm 22 = .ok (.getfield 145, 3) := by decide +kernel
theorem dX10_noGeneratorChangesForm_25 : decode cX10_noGeneratorChangesForm 25 = .ok (.iload_n 2, 1) := by decide +kernel
theorem dX10_noGeneratorChangesForm_26 : decode cX10_noGeneratorChangesForm 26 = .ok (.bipush 9, 2) := by decide +kernel
theorem dX10_noGeneratorChangesForm_28 : decode cX10_noGeneratorChangesForm 28 = .ok (.imul, 1) := by decide +kernel
theorem dX10_noGeneratorChangesForm_29 : decode cX10_noGeneratorChangesForm 29 = .ok (.aload_n 0, 1) := by decide +kernel
theorem dX10_noGeneratorChangesForm_30 : decode cX10_noGeneratorChangesForm 30 = .ok (.getfield 90, 3) := by decide +kernel
theorem dX10_noGeneratorChangesForm_33 : decode cX10_noGeneratorChangesForm 33 = .ok (.iconst 0, 1) := by decide +kernel
theorem dX10_noGeneratorChangesForm_34 : decode cX10_noGeneratorChangesForm 34 = .ok (.aload_n 0, 1) := by decide +kernel
theorem dX10_noGeneratorChangesForm_35 : decode cX10_noGeneratorChangesForm 35 = .ok (.getfield 94, 3) := by decide +kernel
theorem dX10_noGeneratorChangesForm_38 : decode cX10_noGeneratorChangesForm 38 = .ok (.aload_n 0, 1) := by decide +kernel
theorem dX10_noGeneratorChangesForm_39 : decode cX10_noGeneratorChangesForm 39 = .ok (.getfield 10, 3) := by decide +kernel
theorem dX10_noGeneratorChangesForm_42 : decode cX10_noGeneratorChangesForm 42 = .ok (.getfield 98, 3) := by decide +kernel
theorem dX10_noGeneratorChangesForm_45 : decode cX10_noGeneratorChangesForm 45 = .ok (.invokestatic 372, 3) := by decide +kernel
theorem dX10_noGeneratorChangesForm_48 : decode cX10_noGeneratorChangesForm 48 = .ok (.aload_n 0, 1) := by decide +kernel
theorem dX10_noGeneratorChangesForm_49 : decode cX10_noGeneratorChangesForm 49 = .ok (.getfield 94, 3) := by decide +kernel
theorem dX10_noGeneratorChangesForm_52 : decode cX10_noGeneratorChangesForm 52 = .ok (.iconst 0, 1) := by decide +kernel
theorem dX10_noGeneratorChangesForm_53 : decode cX10_noGeneratorChangesForm 53 = .ok (.aload_n 0, 1) := by decide +kernel
theorem dX10_noGeneratorChangesForm_54 : decode cX10_noGeneratorChangesForm 54 = .ok (.getfield 10, 3) := by decide +kernel
theorem dX10_noGeneratorChangesForm_57 : decode cX10_noGeneratorChangesForm 57 = .ok (.getfield 145, 3) := by decide +kernel
theorem dX10_noGeneratorChangesForm_60 : decode cX10_noGeneratorChangesForm 60 = .ok (.iload_n 2, 1) := by decide +kernel
theorem dX10_noGeneratorChangesForm_61 : decode cX10_noGeneratorChangesForm 61 = .ok (.bipush 9, 2) := by decide +kernel
theorem dX10_noGeneratorChangesForm_63 : decode cX10_noGeneratorChangesForm 63 = .ok (.imul, 1) := by decide +kernel
theorem dX10_noGeneratorChangesForm_64 : decode cX10_noGeneratorChangesForm 64 = .ok (.aload_n 1, 1) := by decide +kernel
theorem dX10_noGeneratorChangesForm_65 : decode cX10_noGeneratorChangesForm 65 = .ok (.aload_n 0, 1) := by decide +kernel
theorem dX10_noGeneratorChangesForm_66 : decode cX10_noGeneratorChangesForm 66 = .ok (.getfield 10, 3) := by decide +kernel
theorem dX10_noGeneratorChangesForm_69 : decode cX10_noGeneratorChangesForm 69 = .ok (.getfield 98, 3) := by decide +kernel
theorem dX10_noGeneratorChangesForm_72 : decode cX10_noGeneratorChangesForm 72 = .ok (.invokestatic 345, 3) := by decide +kernel
theorem dX10_noGeneratorChangesForm_75 : decode cX10_noGeneratorChangesForm 75 = .ok (.aload_n 0, 1) := by decide +kernel
theorem dX10_noGeneratorChangesForm_76 : decode cX10_noGeneratorChangesForm 76 = .ok (.getfield 90, 3) := by decide +kernel
theorem dX10_noGeneratorChangesForm_79 : decode cX10_noGeneratorChangesForm 79 = .ok (.aload_n 1, 1) := by decide +kernel
theorem dX10_noGeneratorChangesForm_80 : decode cX10_noGeneratorChangesForm 80 = .ok (.aload_n 0, 1) := by decide +kernel
theorem dX10_noGeneratorChangesForm_81 : decode cX10_noGeneratorChangesForm 81 = .ok (.getfield 10, 3) := by decide +kernel
theorem dX10_noGeneratorChangesForm_84 : decode cX10_noGeneratorChangesForm 84 = .ok (.invokevirtual 130, 3) := by decide +kernel
theorem dX10_noGeneratorChangesForm_87 : decode cX10_noGeneratorChangesForm 87 = .ok (.invokestatic 293, 3) := by decide +kernel
theorem dX10_noGeneratorChangesForm_90 : decode cX10_noGeneratorChangesForm 90 = .ok (.ifCond .ne 5, 3) := by decide +kernel
theorem dX10_noGeneratorChangesForm_93 : decode cX10_noGeneratorChangesForm 93 = .ok (.iconst 0, 1) := by decide +kernel
theorem dX10_noGeneratorChangesForm_94 : decode cX10_noGeneratorChangesForm 94 = .ok (.ireturn, 1) := by decide +kernel
theorem dX10_noGeneratorChangesForm_95 : decode cX10_noGeneratorChangesForm 95 = .ok (.iinc 2 1, 3) := by decide +kernel
theorem dX10_noGeneratorChangesForm_98 : decode cX10_noGeneratorChangesForm 98 = .ok (.goto (-91), 3) := by decide +kernel
theorem dX10_noGeneratorChangesForm_101 : decode cX10_noGeneratorChangesForm 101 = .ok (.iconst 1, 1) := by decide +kernel
theorem dX10_noGeneratorChangesForm_102 : decode cX10_noGeneratorChangesForm 102 = .ok (.ireturn, 1) := by decide +kernel
theorem dX10_of_0 : decode cX10_of 0 = .ok (.aload_n 0, 1) := by decide +kernel
theorem dX10_of_1 : decode cX10_of 1 = .ok (.getfield 10, 3) := by decide +kernel
theorem dX10_of_4 : decode cX10_of 4 = .ok (.iload_n 1, 1) := by decide +kernel
theorem dX10_of_5 : decode cX10_of 5 = .ok (.invokevirtual 123, 3) := by decide +kernel
theorem dX10_of_8 : decode cX10_of 8 = .ok (.ifCond .eq 12, 3) := by decide +kernel
theorem dX10_of_11 : decode cX10_of 11 = .ok (.iload_n 2, 1) := by decide +kernel
theorem dX10_of_12 : decode cX10_of 12 = .ok (.ifCond .lt 8, 3) := by decide +kernel
theorem dX10_of_15 : decode cX10_of 15 = .ok (.iload_n 2, 1) := by decide +kernel
theorem dX10_of_16 : decode cX10_of 16 = .ok (.iconst 2, 1) := by decide +kernel
theorem dX10_of_17 : decode cX10_of 17 = .ok (.if_icmp .le 5, 3) := by decide +kernel
theorem dX10_of_20 : decode cX10_of 20 = .ok (.iconst (-1), 1) := by decide +kernel
theorem dX10_of_21 : decode cX10_of 21 = .ok (.ireturn, 1) := by decide +kernel
theorem dX10_of_22 : decode cX10_of 22 = .ok (.iload_n 1, 1) := by decide +kernel
theorem dX10_of_23 : decode cX10_of 23 = .ok (.bipush 9, 2) := by decide +kernel
theorem dX10_of_25 : decode cX10_of 25 = .ok (.imul, 1) := by decide +kernel
theorem dX10_of_26 : decode cX10_of 26 = .ok (.istore_n 3, 1) := by decide +kernel
theorem dX10_of_27 : decode cX10_of 27 = .ok (.iload_n 2, 1) := by decide +kernel
theorem dX10_of_28 : decode cX10_of 28 = .ok (.ifCond .ne 34, 3) := by decide +kernel
theorem dX10_of_31 : decode cX10_of 31 = .ok (.sipush 1000, 3) := by decide +kernel
theorem dX10_of_34 : decode cX10_of 34 = .ok (.aload_n 0, 1) := by decide +kernel
theorem dX10_of_35 : decode cX10_of 35 = .ok (.getfield 10, 3) := by decide +kernel
theorem dX10_of_38 : decode cX10_of 38 = .ok (.getfield 145, 3) := by decide +kernel
theorem dX10_of_41 : decode cX10_of 41 = .ok (.iload_n 3, 1) := by decide +kernel
theorem dX10_of_42 : decode cX10_of 42 = .ok (.aload_n 0, 1) := by decide +kernel
theorem dX10_of_43 : decode cX10_of 43 = .ok (.getfield 10, 3) := by decide +kernel
theorem dX10_of_46 : decode cX10_of 46 = .ok (.getfield 98, 3) := by decide +kernel
theorem dX10_of_49 : decode cX10_of 49 = .ok (.aload_n 0, 1) := by decide +kernel
theorem dX10_of_50 : decode cX10_of 50 = .ok (.getfield 10, 3) := by decide +kernel
theorem dX10_of_53 : decode cX10_of 53 = .ok (.getfield 98, 3) := by decide +kernel
theorem dX10_of_56 : decode cX10_of 56 = .ok (.invokestatic 148, 3) := by decide +kernel
theorem dX10_of_59 : decode cX10_of 59 = .ok (.l2i, 1) := by decide +kernel
theorem dX10_of_60 : decode cX10_of 60 = .ok (.iadd, 1) := by decide +kernel
theorem dX10_of_61 : decode cX10_of 61 = .ok (.ireturn, 1) := by decide +kernel
theorem dX10_of_62 : decode cX10_of 62 = .ok (.iload_n 2, 1) := by decide +kernel
theorem dX10_of_63 : decode cX10_of 63 = .ok (.iconst 1, 1) := by decide +kernel
theorem dX10_of_64 : decode cX10_of 64 = .ok (.if_icmp .ne 27, 3) := by decide +kernel
theorem dX10_of_67 : decode cX10_of 67 = .ok (.sipush 1000, 3) := by decide +kernel
theorem dX10_of_70 : decode cX10_of 70 = .ok (.aload_n 0, 1) := by decide +kernel
theorem dX10_of_71 : decode cX10_of 71 = .ok (.getfield 10, 3) := by decide +kernel
theorem dX10_of_74 : decode cX10_of 74 = .ok (.getfield 145, 3) := by decide +kernel
theorem dX10_of_77 : decode cX10_of 77 = .ok (.iload_n 3, 1) := by decide +kernel
theorem dX10_of_78 : decode cX10_of 78 = .ok (.aload_n 0, 1) := by decide +kernel
theorem dX10_of_79 : decode cX10_of 79 = .ok (.getfield 10, 3) := by decide +kernel
theorem dX10_of_82 : decode cX10_of 82 = .ok (.getfield 98, 3) := by decide +kernel
theorem dX10_of_85 : decode cX10_of 85 = .ok (.invokestatic 152, 3) := by decide +kernel
theorem dX10_of_88 : decode cX10_of 88 = .ok (.l2i, 1) := by decide +kernel
theorem dX10_of_89 : decode cX10_of 89 = .ok (.iadd, 1) := by decide +kernel
theorem dX10_of_90 : decode cX10_of 90 = .ok (.ireturn, 1) := by decide +kernel
theorem dX10_of_91 : decode cX10_of 91 = .ok (.aload_n 0, 1) := by decide +kernel
theorem dX10_of_92 : decode cX10_of 92 = .ok (.aload_n 0, 1) := by decide +kernel
theorem dX10_of_93 : decode cX10_of 93 = .ok (.getfield 10, 3) := by decide +kernel
theorem dX10_of_96 : decode cX10_of 96 = .ok (.getfield 145, 3) := by decide +kernel
theorem dX10_of_99 : decode cX10_of 99 = .ok (.iload_n 3, 1) := by decide +kernel
theorem dX10_of_100 : decode cX10_of 100 = .ok (.invokevirtual 156, 3) := by decide +kernel
theorem dX10_of_103 : decode cX10_of 103 = .ok (.ireturn, 1) := by decide +kernel
theorem dX10_orbit_0 : decode cX10_orbit 0 = .ok (.iload_n 1, 1) := by decide +kernel
theorem dX10_orbit_1 : decode cX10_orbit 1 = .ok (.iload_n 2, 1) := by decide +kernel
theorem dX10_orbit_2 : decode cX10_orbit 2 = .ok (.iload_n 3, 1) := by decide +kernel
theorem dX10_orbit_3 : decode cX10_orbit 3 = .ok (.invokestatic 268, 3) := by decide +kernel
theorem dX10_orbit_6 : decode cX10_orbit 6 = .ok (.ifCond .ne 5, 3) := by decide +kernel
theorem dX10_orbit_9 : decode cX10_orbit 9 = .ok (.iconst (-1), 1) := by decide +kernel
theorem dX10_orbit_10 : decode cX10_orbit 10 = .ok (.ireturn, 1) := by decide +kernel
theorem dX10_orbit_11 : decode cX10_orbit 11 = .ok (.aload_n 0, 1) := by decide +kernel
theorem dX10_orbit_12 : decode cX10_orbit 12 = .ok (.iload_n 1, 1) := by decide +kernel
theorem dX10_orbit_13 : decode cX10_orbit 13 = .ok (.iload_n 2, 1) := by decide +kernel
theorem dX10_orbit_14 : decode cX10_orbit 14 = .ok (.iload_n 3, 1) := by decide +kernel
theorem dX10_orbit_15 : decode cX10_orbit 15 = .ok (.invokevirtual 272, 3) := by decide +kernel
theorem dX10_orbit_18 : decode cX10_orbit 18 = .ok (.aload_n 0, 1) := by decide +kernel
theorem dX10_orbit_19 : decode cX10_orbit 19 = .ok (.getfield 48, 3) := by decide +kernel
theorem dX10_orbit_22 : decode cX10_orbit 22 = .ok (.aload_n 0, 1) := by decide +kernel
theorem dX10_orbit_23 : decode cX10_orbit 23 = .ok (.getfield 10, 3) := by decide +kernel
theorem dX10_orbit_26 : decode cX10_orbit 26 = .ok (.getfield 98, 3) := by decide +kernel
theorem dX10_orbit_29 : decode cX10_orbit 29 = .ok (.bipush 60, 2) := by decide +kernel
theorem dX10_orbit_31 : decode cX10_orbit 31 = .ok (.invokevirtual 275, 3) := by decide +kernel
theorem dX10_orbit_34 : decode cX10_orbit 34 = .ok (.aload_n 0, 1) := by decide +kernel
theorem dX10_orbit_35 : decode cX10_orbit 35 = .ok (.getfield 48, 3) := by decide +kernel
theorem dX10_orbit_38 : decode cX10_orbit 38 = .ok (.aload_n 0, 1) := by decide +kernel
theorem dX10_orbit_39 : decode cX10_orbit 39 = .ok (.getfield 90, 3) := by decide +kernel
theorem dX10_orbit_42 : decode cX10_orbit 42 = .ok (.bipush (-3), 2) := by decide +kernel
theorem dX10_orbit_44 : decode cX10_orbit 44 = .ok (.bipush (-3), 2) := by decide +kernel
theorem dX10_orbit_46 : decode cX10_orbit 46 = .ok (.invokevirtual 279, 3) := by decide +kernel
theorem dX10_orbit_49 : decode cX10_orbit 49 = .ok (.pop, 1) := by decide +kernel
theorem dX10_orbit_50 : decode cX10_orbit 50 = .ok (.aload_n 0, 1) := by decide +kernel
theorem dX10_orbit_51 : decode cX10_orbit 51 = .ok (.getfield 48, 3) := by decide +kernel
theorem dX10_orbit_54 : decode cX10_orbit 54 = .ok (.aload_n 0, 1) := by decide +kernel
theorem dX10_orbit_55 : decode cX10_orbit 55 = .ok (.getfield 77, 3) := by decide +kernel
theorem dX10_orbit_58 : decode cX10_orbit 58 = .ok (.aload_n 0, 1) := by decide +kernel
theorem dX10_orbit_59 : decode cX10_orbit 59 = .ok (.getfield 10, 3) := by decide +kernel
theorem dX10_orbit_62 : decode cX10_orbit 62 = .ok (.getfield 101, 3) := by decide +kernel
theorem dX10_orbit_65 : decode cX10_orbit 65 = .ok (.invokevirtual 282, 3) := by decide +kernel
theorem dX10_orbit_68 : decode cX10_orbit 68 = .ok (.aload_n 0, 1) := by decide +kernel
theorem dX10_orbit_69 : decode cX10_orbit 69 = .ok (.iconst 1, 1) := by decide +kernel
theorem dX10_orbit_70 : decode cX10_orbit 70 = .ok (.putfield 51, 3) := by decide +kernel
theorem dX10_orbit_73 : decode cX10_orbit 73 = .ok (.aload_n 0, 1) := by decide +kernel
theorem dX10_orbit_74 : decode cX10_orbit 74 = .ok (.iconst 0, 1) := by decide +kernel
theorem dX10_orbit_75 : decode cX10_orbit 75 = .ok (.putfield 61, 3) := by decide +kernel
theorem dX10_orbit_78 : decode cX10_orbit 78 = .ok (.aload_n 0, 1) := by decide +kernel
theorem dX10_orbit_79 : decode cX10_orbit 79 = .ok (.getfield 48, 3) := by decide +kernel
theorem dX10_orbit_82 : decode cX10_orbit 82 = .ok (.getfield 198, 3) := by decide +kernel
theorem dX10_orbit_85 : decode cX10_orbit 85 = .ok (.ireturn, 1) := by decide +kernel
theorem dX10_orderOf_0 : decode cX10_orderOf 0 = .ok (.aload_n 0, 1) := by decide +kernel
theorem dX10_orderOf_1 : decode cX10_orderOf 1 = .ok (.getfield 10, 3) := by decide +kernel
theorem dX10_orderOf_4 : decode cX10_orderOf 4 = .ok (.invokevirtual 130, 3) := by decide +kernel
theorem dX10_orderOf_7 : decode cX10_orderOf 7 = .ok (.istore_n 3, 1) := by decide +kernel
theorem dX10_orderOf_8 : decode cX10_orderOf 8 = .ok (.aload_n 1, 1) := by decide +kernel
theorem dX10_orderOf_9 : decode cX10_orderOf 9 = .ok (.iload_n 2, 1) := by decide +kernel
theorem dX10_orderOf_10 : decode cX10_orderOf 10 = .ok (.aload_n 0, 1) := by decide +kernel
theorem dX10_orderOf_11 : decode cX10_orderOf 11 = .ok (.getfield 90, 3) := by decide +kernel
theorem dX10_orderOf_14 : decode cX10_orderOf 14 = .ok (.iconst 0, 1) := by decide +kernel
theorem dX10_orderOf_15 : decode cX10_orderOf 15 = .ok (.iload_n 3, 1) := by decide +kernel
theorem dX10_orderOf_16 : decode cX10_orderOf 16 = .ok (.invokestatic 189, 3) := by decide +kernel
theorem dX10_orderOf_19 : decode cX10_orderOf 19 = .ok (.iconst 1, 1) := by decide +kernel
theorem dX10_orderOf_20 : decode cX10_orderOf 20 = .ok (.istore 4, 2) := by decide +kernel
theorem dX10_orderOf_22 : decode cX10_orderOf 22 = .ok (.iload 4, 2) := by decide +kernel
theorem dX10_orderOf_24 : decode cX10_orderOf 24 = .ok (.bipush 12, 2) := by decide +kernel
theorem dX10_orderOf_26 : decode cX10_orderOf 26 = .ok (.if_icmp .gt 81, 3) := by decide +kernel
theorem dX10_orderOf_29 : decode cX10_orderOf 29 = .ok (.aload_n 0, 1) := by decide +kernel
theorem dX10_orderOf_30 : decode cX10_orderOf 30 = .ok (.getfield 90, 3) := by decide +kernel
theorem dX10_orderOf_33 : decode cX10_orderOf 33 = .ok (.aload_n 0, 1) := by decide +kernel
theorem dX10_orderOf_34 : decode cX10_orderOf 34 = .ok (.getfield 10, 3) := by decide +kernel
theorem dX10_orderOf_37 : decode cX10_orderOf 37 = .ok (.getfield 98, 3) := by decide +kernel
theorem dX10_orderOf_40 : decode cX10_orderOf 40 = .ok (.invokestatic 358, 3) := by decide +kernel
theorem dX10_orderOf_43 : decode cX10_orderOf 43 = .ok (.ifCond .eq 6, 3) := by decide +kernel
theorem dX10_orderOf_46 : decode cX10_orderOf 46 = .ok (.iload 4, 2) := by decide +kernel
theorem dX10_orderOf_48 : decode cX10_orderOf 48 = .ok (.ireturn, 1) := by decide +kernel
theorem dX10_orderOf_49 : decode cX10_orderOf 49 = .ok (.aload_n 0, 1) := by decide +kernel
theorem dX10_orderOf_50 : decode cX10_orderOf 50 = .ok (.getfield 90, 3) := by decide +kernel
theorem dX10_orderOf_53 : decode cX10_orderOf 53 = .ok (.iload_n 3, 1) := by decide +kernel
theorem dX10_orderOf_54 : decode cX10_orderOf 54 = .ok (.ldc2_w 362, 3) := by decide +kernel
theorem dX10_orderOf_57 : decode cX10_orderOf 57 = .ok (.invokestatic 136, 3) := by decide +kernel
theorem dX10_orderOf_60 : decode cX10_orderOf 60 = .ok (.ifCond .ne 6, 3) := by decide +kernel
theorem dX10_orderOf_63 : decode cX10_orderOf 63 = .ok (.bipush (-3), 2) := by decide +kernel
theorem dX10_orderOf_65 : decode cX10_orderOf 65 = .ok (.ireturn, 1) := by decide +kernel
theorem dX10_orderOf_66 : decode cX10_orderOf 66 = .ok (.aload_n 0, 1) := by decide +kernel
theorem dX10_orderOf_67 : decode cX10_orderOf 67 = .ok (.getfield 90, 3) := by decide +kernel
theorem dX10_orderOf_70 : decode cX10_orderOf 70 = .ok (.iconst 0, 1) := by decide +kernel
theorem dX10_orderOf_71 : decode cX10_orderOf 71 = .ok (.aload_n 1, 1) := by decide +kernel
theorem dX10_orderOf_72 : decode cX10_orderOf 72 = .ok (.iload_n 2, 1) := by decide +kernel
theorem dX10_orderOf_73 : decode cX10_orderOf 73 = .ok (.aload_n 0, 1) := by decide +kernel
theorem dX10_orderOf_74 : decode cX10_orderOf 74 = .ok (.getfield 94, 3) := by decide +kernel
theorem dX10_orderOf_77 : decode cX10_orderOf 77 = .ok (.aload_n 0, 1) := by decide +kernel
theorem dX10_orderOf_78 : decode cX10_orderOf 78 = .ok (.getfield 10, 3) := by decide +kernel
theorem dX10_orderOf_81 : decode cX10_orderOf 81 = .ok (.getfield 98, 3) := by decide +kernel
theorem dX10_orderOf_84 : decode cX10_orderOf 84 = .ok (.invokestatic 345, 3) := by decide +kernel
theorem dX10_orderOf_87 : decode cX10_orderOf 87 = .ok (.aload_n 0, 1) := by decide +kernel
theorem dX10_orderOf_88 : decode cX10_orderOf 88 = .ok (.getfield 94, 3) := by decide +kernel
theorem dX10_orderOf_91 : decode cX10_orderOf 91 = .ok (.iconst 0, 1) := by decide +kernel
theorem dX10_orderOf_92 : decode cX10_orderOf 92 = .ok (.aload_n 0, 1) := by decide +kernel
theorem dX10_orderOf_93 : decode cX10_orderOf 93 = .ok (.getfield 90, 3) := by decide +kernel
theorem dX10_orderOf_96 : decode cX10_orderOf 96 = .ok (.iconst 0, 1) := by decide +kernel
theorem dX10_orderOf_97 : decode cX10_orderOf 97 = .ok (.iload_n 3, 1) := by decide +kernel
theorem dX10_orderOf_98 : decode cX10_orderOf 98 = .ok (.invokestatic 189, 3) := by decide +kernel
theorem dX10_orderOf_101 : decode cX10_orderOf 101 = .ok (.iinc 4 1, 3) := by decide +kernel
theorem dX10_orderOf_104 : decode cX10_orderOf 104 = .ok (.goto (-82), 3) := by decide +kernel
theorem dX10_orderOf_107 : decode cX10_orderOf 107 = .ok (.bipush (-3), 2) := by decide +kernel
theorem dX10_orderOf_109 : decode cX10_orderOf 109 = .ok (.ireturn, 1) := by decide +kernel
theorem dX10_point_0 : decode cX10_point 0 = .ok (.aload_n 0, 1) := by decide +kernel
theorem dX10_point_1 : decode cX10_point 1 = .ok (.getfield 51, 3) := by decide +kernel
theorem dX10_point_4 : decode cX10_point 4 = .ok (.ifCond .eq 29, 3) := by decide +kernel
theorem dX10_point_7 : decode cX10_point 7 = .ok (.aload_n 0, 1) := by decide +kernel
theorem dX10_point_8 : decode cX10_point 8 = .ok (.getfield 48, 3) := by decide +kernel
theorem dX10_point_11 : decode cX10_point 11 = .ok (.iload_n 1, 1) := by decide +kernel
theorem dX10_point_12 : decode cX10_point 12 = .ok (.invokevirtual 202, 3) := by decide +kernel
theorem dX10_point_15 : decode cX10_point 15 = .ok (.ifCond .eq 18, 3) := by decide +kernel
theorem dX10_point_18 : decode cX10_point 18 = .ok (.iload_n 2, 1) := by decide +kernel
theorem dX10_point_19 : decode cX10_point 19 = .ok (.ifCond .lt 14, 3) := by decide +kernel
theorem dX10_point_22 : decode cX10_point 22 = .ok (.iload_n 2, 1) := by decide +kernel
theorem dX10_point_23 : decode cX10_point 23 = .ok (.aload_n 0, 1) := by decide +kernel
theorem dX10_point_24 : decode cX10_point 24 = .ok (.getfield 10, 3) := by decide +kernel
theorem dX10_point_27 : decode cX10_point 27 = .ok (.getfield 98, 3) := by decide +kernel
theorem dX10_point_30 : decode cX10_point 30 = .ok (.if_icmp .lt 8, 3) := by decide +kernel
theorem dX10_point_33 : decode cX10_point 33 = .ok (.iconst (-1), 1) := by decide +kernel
theorem dX10_point_34 : decode cX10_point 34 = .ok (.invokestatic 203, 3) := by decide +kernel
theorem dX10_point_37 : decode cX10_point 37 = .ok (.lreturn, 1) := by decide +kernel
theorem dX10_point_38 : decode cX10_point 38 = .ok (.aload_n 0, 1) := by decide +kernel
theorem dX10_point_39 : decode cX10_point 39 = .ok (.getfield 48, 3) := by decide +kernel
theorem dX10_point_42 : decode cX10_point 42 = .ok (.getfield 207, 3) := by decide +kernel
theorem dX10_point_45 : decode cX10_point 45 = .ok (.aload_n 0, 1) := by decide +kernel
theorem dX10_point_46 : decode cX10_point 46 = .ok (.getfield 48, 3) := by decide +kernel
theorem dX10_point_49 : decode cX10_point 49 = .ok (.iload_n 1, 1) := by decide +kernel
theorem dX10_point_50 : decode cX10_point 50 = .ok (.invokevirtual 208, 3) := by decide +kernel
theorem dX10_point_53 : decode cX10_point 53 = .ok (.iload_n 2, 1) := by decide +kernel
theorem dX10_point_54 : decode cX10_point 54 = .ok (.iadd, 1) := by decide +kernel
theorem dX10_point_55 : decode cX10_point 55 = .ok (.laload, 1) := by decide +kernel
theorem dX10_point_56 : decode cX10_point 56 = .ok (.lreturn, 1) := by decide +kernel
theorem dX10_put_0 : decode cX10_put 0 = .ok (.iload_n 1, 1) := by decide +kernel
theorem dX10_put_1 : decode cX10_put 1 = .ok (.invokestatic 303, 3) := by decide +kernel
theorem dX10_put_4 : decode cX10_put 4 = .ok (.ifCond .ne 5, 3) := by decide +kernel
theorem dX10_put_7 : decode cX10_put 7 = .ok (.iconst (-1), 1) := by decide +kernel
theorem dX10_put_8 : decode cX10_put 8 = .ok (.ireturn, 1) := by decide +kernel
theorem dX10_put_9 : decode cX10_put 9 = .ok (.aload_n 0, 1) := by decide +kernel
theorem dX10_put_10 : decode cX10_put 10 = .ok (.getfield 32, 3) := by decide +kernel
theorem dX10_put_13 : decode cX10_put 13 = .ok (.iload_n 1, 1) := by decide +kernel
theorem dX10_put_14 : decode cX10_put 14 = .ok (.aaload, 1) := by decide +kernel
theorem dX10_put_15 : decode cX10_put 15 = .ok (.astore 5, 2) := by decide +kernel
theorem dX10_put_17 : decode cX10_put 17 = .ok (.aload 5, 2) := by decide +kernel
theorem dX10_put_19 : decode cX10_put 19 = .ok (.invokevirtual 312, 3) := by decide +kernel
theorem dX10_put_22 : decode cX10_put 22 = .ok (.ifCond .eq 6, 3) := by decide +kernel
theorem dX10_put_25 : decode cX10_put 25 = .ok (.bipush (-11), 2) := by decide +kernel
theorem dX10_put_27 : decode cX10_put 27 = .ok (.ireturn, 1) := by decide +kernel
theorem dX10_put_28 : decode cX10_put 28 = .ok (.aload 5, 2) := by decide +kernel
theorem dX10_put_30 : decode cX10_put 30 = .ok (.iload_n 2, 1) := by decide +kernel
theorem dX10_put_31 : decode cX10_put 31 = .ok (.iconst 1, 1) := by decide +kernel
theorem dX10_put_32 : decode cX10_put 32 = .ok (.invokevirtual 315, 3) := by decide +kernel
theorem dX10_put_35 : decode cX10_put 35 = .ok (.ifCond .eq 6, 3) := by decide +kernel
theorem dX10_put_38 : decode cX10_put 38 = .ok (.bipush (-12), 2) := by decide +kernel
theorem dX10_put_40 : decode cX10_put 40 = .ok (.ireturn, 1) := by decide +kernel
theorem dX10_put_41 : decode cX10_put 41 = .ok (.aload 5, 2) := by decide +kernel
theorem dX10_put_43 : decode cX10_put 43 = .ok (.iload_n 2, 1) := by decide +kernel
theorem dX10_put_44 : decode cX10_put 44 = .ok (.lload_n 3, 1) := by decide +kernel
theorem dX10_put_45 : decode cX10_put 45 = .ok (.invokevirtual 318, 3) := by decide +kernel
theorem dX10_put_48 : decode cX10_put 48 = .ok (.iconst 1, 1) := by decide +kernel
theorem dX10_put_49 : decode cX10_put 49 = .ok (.ireturn, 1) := by decide +kernel
theorem dX10_refusalOfTable_0 : decode cX10_refusalOfTable 0 = .ok (.iload_n 1, 1) := by decide +kernel
theorem dX10_refusalOfTable_1 : decode cX10_refusalOfTable 1 = .ok (.invokestatic 303, 3) := by decide +kernel
theorem dX10_refusalOfTable_4 : decode cX10_refusalOfTable 4 = .ok (.ifCond .ne 5, 3) := by decide +kernel
theorem dX10_refusalOfTable_7 : decode cX10_refusalOfTable 7 = .ok (.iconst (-1), 1) := by decide +kernel
theorem dX10_refusalOfTable_8 : decode cX10_refusalOfTable 8 = .ok (.ireturn, 1) := by decide +kernel
theorem dX10_refusalOfTable_9 : decode cX10_refusalOfTable 9 = .ok (.aload_n 0, 1) := by decide +kernel
theorem dX10_refusalOfTable_10 : decode cX10_refusalOfTable 10 = .ok (.getfield 32, 3) := by decide +kernel
theorem dX10_refusalOfTable_13 : decode cX10_refusalOfTable 13 = .ok (.iload_n 1, 1) := by decide +kernel
theorem dX10_refusalOfTable_14 : decode cX10_refusalOfTable 14 = .ok (.aaload, 1) := by decide +kernel
theorem dX10_refusalOfTable_15 : decode cX10_refusalOfTable 15 = .ok (.astore 4, 2) := by decide +kernel
theorem dX10_refusalOfTable_17 : decode cX10_refusalOfTable 17 = .ok (.aload 4, 2) := by decide +kernel
theorem dX10_refusalOfTable_19 : decode cX10_refusalOfTable 19 = .ok (.invokevirtual 312, 3) := by decide +kernel
theorem dX10_refusalOfTable_22 : decode cX10_refusalOfTable 22 = .ok (.ifCond .eq 6, 3) := by decide +kernel
theorem dX10_refusalOfTable_25 : decode cX10_refusalOfTable 25 = .ok (.bipush (-11), 2) := by decide +kernel
theorem dX10_refusalOfTable_27 : decode cX10_refusalOfTable 27 = .ok (.ireturn, 1) := by decide +kernel
theorem dX10_refusalOfTable_28 : decode cX10_refusalOfTable 28 = .ok (.aload 4, 2) := by decide +kernel
theorem dX10_refusalOfTable_30 : decode cX10_refusalOfTable 30 = .ok (.getfield 322, 3) := by decide +kernel
theorem dX10_refusalOfTable_33 : decode cX10_refusalOfTable 33 = .ok (.iload_n 3, 1) := by decide +kernel
theorem dX10_refusalOfTable_34 : decode cX10_refusalOfTable 34 = .ok (.if_icmp .le 6, 3) := by decide +kernel
theorem dX10_refusalOfTable_37 : decode cX10_refusalOfTable 37 = .ok (.bipush (-13), 2) := by decide +kernel
theorem dX10_refusalOfTable_39 : decode cX10_refusalOfTable 39 = .ok (.ireturn, 1) := by decide +kernel
theorem dX10_refusalOfTable_40 : decode cX10_refusalOfTable 40 = .ok (.aload 4, 2) := by decide +kernel
theorem dX10_refusalOfTable_42 : decode cX10_refusalOfTable 42 = .ok (.iload_n 2, 1) := by decide +kernel
theorem dX10_refusalOfTable_43 : decode cX10_refusalOfTable 43 = .ok (.aload_n 0, 1) := by decide +kernel
theorem dX10_refusalOfTable_44 : decode cX10_refusalOfTable 44 = .ok (.getfield 10, 3) := by decide +kernel
theorem dX10_refusalOfTable_47 : decode cX10_refusalOfTable 47 = .ok (.invokevirtual 130, 3) := by decide +kernel
theorem dX10_refusalOfTable_50 : decode cX10_refusalOfTable 50 = .ok (.invokevirtual 315, 3) := by decide +kernel
theorem dX10_refusalOfTable_53 : decode cX10_refusalOfTable 53 = .ok (.ifCond .eq 8, 3) := by decide +kernel
theorem dX10_refusalOfTable_56 : decode cX10_refusalOfTable 56 = .ok (.bipush (-12), 2) := by decide +kernel
theorem dX10_refusalOfTable_58 : decode cX10_refusalOfTable 58 = .ok (.goto 4, 3) := by decide +kernel
theorem dX10_refusalOfTable_61 : decode cX10_refusalOfTable 61 = .ok (.iconst 0, 1) := by decide +kernel
theorem dX10_refusalOfTable_62 : decode cX10_refusalOfTable 62 = .ok (.ireturn, 1) := by decide +kernel
theorem dX10_round_0 : decode cX10_round 0 = .ok (.iload_n 1, 1) := by decide +kernel
theorem dX10_round_1 : decode cX10_round 1 = .ok (.ifCond .lt 8, 3) := by decide +kernel
theorem dX10_round_4 : decode cX10_round 4 = .ok (.iload_n 1, 1) := by decide +kernel
theorem dX10_round_5 : decode cX10_round 5 = .ok (.iconst 2, 1) := by decide +kernel
theorem dX10_round_6 : decode cX10_round 6 = .ok (.if_icmp .le 5, 3) := by decide +kernel
theorem dX10_round_9 : decode cX10_round 9 = .ok (.iconst (-1), 1) := by decide +kernel
theorem dX10_round_10 : decode cX10_round 10 = .ok (.ireturn, 1) := by decide +kernel
theorem dX10_round_11 : decode cX10_round 11 = .ok (.aload_n 0, 1) := by decide +kernel
theorem dX10_round_12 : decode cX10_round 12 = .ok (.getfield 51, 3) := by decide +kernel
theorem dX10_round_15 : decode cX10_round 15 = .ok (.ifCond .ne 6, 3) := by decide +kernel
theorem dX10_round_18 : decode cX10_round 18 = .ok (.bipush (-3), 2) := by decide +kernel
theorem dX10_round_20 : decode cX10_round 20 = .ok (.ireturn, 1) := by decide +kernel
theorem dX10_round_21 : decode cX10_round 21 = .ok (.iload_n 1, 1) := by decide +kernel
theorem dX10_round_22 : decode cX10_round 22 = .ok (.ifCond .ne 11, 3) := by decide +kernel
theorem dX10_round_25 : decode cX10_round 25 = .ok (.aload_n 0, 1) := by decide +kernel
theorem dX10_round_26 : decode cX10_round 26 = .ok (.getfield 48, 3) := by decide +kernel
theorem dX10_round_29 : decode cX10_round 29 = .ok (.getfield 198, 3) := by decide +kernel
theorem dX10_round_32 : decode cX10_round 32 = .ok (.ireturn, 1) := by decide +kernel
theorem dX10_round_33 : decode cX10_round 33 = .ok (.iload_n 1, 1) := by decide +kernel
theorem dX10_round_34 : decode cX10_round 34 = .ok (.iconst 1, 1) := by decide +kernel
theorem dX10_round_35 : decode cX10_round 35 = .ok (.if_icmp .ne 19, 3) := by decide +kernel
theorem dX10_round_38 : decode cX10_round 38 = .ok (.aload_n 0, 1) := by decide +kernel
theorem dX10_round_39 : decode cX10_round 39 = .ok (.getfield 48, 3) := by decide +kernel
theorem dX10_round_42 : decode cX10_round 42 = .ok (.getfield 199, 3) := by decide +kernel
theorem dX10_round_45 : decode cX10_round 45 = .ok (.ifCond .eq 7, 3) := by decide +kernel
theorem dX10_round_48 : decode cX10_round 48 = .ok (.iconst 1, 1) := by decide +kernel
theorem dX10_round_49 : decode cX10_round 49 = .ok (.goto 4, 3) := by decide +kernel
theorem dX10_round_52 : decode cX10_round 52 = .ok (.iconst 0, 1) := by decide +kernel
theorem dX10_round_53 : decode cX10_round 53 = .ok (.ireturn, 1) := by decide +kernel
theorem dX10_round_54 : decode cX10_round 54 = .ok (.aload_n 0, 1) := by decide +kernel
theorem dX10_round_55 : decode cX10_round 55 = .ok (.getfield 48, 3) := by decide +kernel
theorem dX10_round_58 : decode cX10_round 58 = .ok (.getfield 199, 3) := by decide +kernel
theorem dX10_round_61 : decode cX10_round 61 = .ok (.ifCond .eq 10, 3) := by decide +kernel
theorem dX10_round_64 : decode cX10_round 64 = .ok (.aload_n 0, 1) := by decide +kernel
theorem dX10_round_65 : decode cX10_round 65 = .ok (.invokevirtual 286, 3) := by decide +kernel
theorem dX10_round_68 : decode cX10_round 68 = .ok (.goto 5, 3) := by decide +kernel
theorem dX10_round_71 : decode cX10_round 71 = .ok (.bipush (-3), 2) := by decide +kernel
theorem dX10_round_73 : decode cX10_round 73 = .ok (.ireturn, 1) := by decide +kernel
theorem dX10_roundOfTrail_0 : decode cX10_roundOfTrail 0 = .ok (.aload_n 0, 1) := by decide +kernel
theorem dX10_roundOfTrail_1 : decode cX10_roundOfTrail 1 = .ok (.getfield 61, 3) := by decide +kernel
theorem dX10_roundOfTrail_4 : decode cX10_roundOfTrail 4 = .ok (.ifCond .ne 75, 3) := by decide +kernel
theorem dX10_roundOfTrail_7 : decode cX10_roundOfTrail 7 = .ok (.aload_n 0, 1) := by decide +kernel
theorem dX10_roundOfTrail_8 : decode cX10_roundOfTrail 8 = .ok (.aload_n 0, 1) := by decide +kernel
theorem dX10_roundOfTrail_9 : decode cX10_roundOfTrail 9 = .ok (.getfield 48, 3) := by decide +kernel
theorem dX10_roundOfTrail_12 : decode cX10_roundOfTrail 12 = .ok (.getfield 198, 3) := by decide +kernel
theorem dX10_roundOfTrail_15 : decode cX10_roundOfTrail 15 = .ok (.sipush 200, 3) := by decide +kernel
theorem dX10_roundOfTrail_18 : decode cX10_roundOfTrail 18 = .ok (.invokevirtual 375, 3) := by decide +kernel
theorem dX10_roundOfTrail_21 : decode cX10_roundOfTrail 21 = .ok (.astore_n 1, 1) := by decide +kernel
theorem dX10_roundOfTrail_22 : decode cX10_roundOfTrail 22 = .ok (.bipush 60, 2) := by decide +kernel
theorem dX10_roundOfTrail_24 : decode cX10_roundOfTrail 24 = .ok (.newarray .long, 2) := by decide +kernel
theorem dX10_roundOfTrail_26 : decode cX10_roundOfTrail 26 = .ok (.astore_n 2, 1) := by decide +kernel
theorem dX10_roundOfTrail_27 : decode cX10_roundOfTrail 27 = .ok (.iconst 0, 1) := by decide +kernel
theorem dX10_roundOfTrail_28 : decode cX10_roundOfTrail 28 = .ok (.istore_n 3, 1) := by decide +kernel
theorem dX10_roundOfTrail_29 : decode cX10_roundOfTrail 29 = .ok (.iload_n 3, 1) := by decide +kernel
theorem dX10_roundOfTrail_30 : decode cX10_roundOfTrail 30 = .ok (.bipush 60, 2) := by decide +kernel
theorem dX10_roundOfTrail_32 : decode cX10_roundOfTrail 32 = .ok (.if_icmp .ge 14, 3) := by decide +kernel
theorem dX10_roundOfTrail_35 : decode cX10_roundOfTrail 35 = .ok (.aload_n 2, 1) := by decide +kernel
theorem dX10_roundOfTrail_36 : decode cX10_roundOfTrail 36 = .ok (.iload_n 3, 1) := by decide +kernel
theorem dX10_roundOfTrail_37 : decode cX10_roundOfTrail 37 = .ok (.iload_n 3, 1) := by decide +kernel
theorem dX10_roundOfTrail_38 : decode cX10_roundOfTrail 38 = .ok (.i2l, 1) := by decide +kernel
theorem dX10_roundOfTrail_39 : decode cX10_roundOfTrail 39 = .ok (.lastore, 1) := by decide +kernel
theorem dX10_roundOfTrail_40 : decode cX10_roundOfTrail 40 = .ok (.iinc 3 1, 3) := by decide +kernel
theorem dX10_roundOfTrail_43 : decode cX10_roundOfTrail 43 = .ok (.goto (-14), 3) := by decide +kernel
theorem dX10_roundOfTrail_46 : decode cX10_roundOfTrail 46 = .ok (.aload_n 1, 1) := by decide +kernel
theorem dX10_roundOfTrail_47 : decode cX10_roundOfTrail 47 = .ok (.aload_n 2, 1) := by decide +kernel
theorem dX10_roundOfTrail_48 : decode cX10_roundOfTrail 48 = .ok (.bipush (-3), 2) := by decide +kernel
theorem dX10_roundOfTrail_50 : decode cX10_roundOfTrail 50 = .ok (.bipush (-3), 2) := by decide +kernel
theorem dX10_roundOfTrail_52 : decode cX10_roundOfTrail 52 = .ok (.invokevirtual 279, 3) := by decide +kernel
theorem dX10_roundOfTrail_55 : decode cX10_roundOfTrail 55 = .ok (.pop, 1) := by decide +kernel
theorem dX10_roundOfTrail_56 : decode cX10_roundOfTrail 56 = .ok (.aload_n 1, 1) := by decide +kernel
theorem dX10_roundOfTrail_57 : decode cX10_roundOfTrail 57 = .ok (.aload_n 0, 1) := by decide +kernel
theorem dX10_roundOfTrail_58 : decode cX10_roundOfTrail 58 = .ok (.getfield 86, 3) := by decide +kernel
theorem dX10_roundOfTrail_61 : decode cX10_roundOfTrail 61 = .ok (.aload_n 0, 1) := by decide +kernel
theorem dX10_roundOfTrail_62 : decode cX10_roundOfTrail 62 = .ok (.getfield 10, 3) := by decide +kernel
theorem dX10_roundOfTrail_65 : decode cX10_roundOfTrail 65 = .ok (.getfield 101, 3) := by decide +kernel
theorem dX10_roundOfTrail_68 : decode cX10_roundOfTrail 68 = .ok (.invokevirtual 282, 3) := by decide +kernel
theorem dX10_roundOfTrail_71 : decode cX10_roundOfTrail 71 = .ok (.aload_n 0, 1) := by decide +kernel
theorem dX10_roundOfTrail_72 : decode cX10_roundOfTrail 72 = .ok (.aload_n 1, 1) := by decide +kernel
theorem dX10_roundOfTrail_73 : decode cX10_roundOfTrail 73 = .ok (.getfield 198, 3) := by decide +kernel
theorem dX10_roundOfTrail_76 : decode cX10_roundOfTrail 76 = .ok (.putfield 61, 3) := by decide +kernel
theorem dX10_roundOfTrail_79 : decode cX10_roundOfTrail 79 = .ok (.aload_n 0, 1) := by decide +kernel
theorem dX10_roundOfTrail_80 : decode cX10_roundOfTrail 80 = .ok (.getfield 61, 3) := by decide +kernel
theorem dX10_roundOfTrail_83 : decode cX10_roundOfTrail 83 = .ok (.ireturn, 1) := by decide +kernel
theorem dX10_seed_0 : decode cX10_seed 0 = .ok (.aload_n 0, 1) := by decide +kernel
theorem dX10_seed_1 : decode cX10_seed 1 = .ok (.getfield 10, 3) := by decide +kernel
theorem dX10_seed_4 : decode cX10_seed 4 = .ok (.getfield 297, 3) := by decide +kernel
theorem dX10_seed_7 : decode cX10_seed 7 = .ok (.istore_n 2, 1) := by decide +kernel
theorem dX10_seed_8 : decode cX10_seed 8 = .ok (.aload_n 0, 1) := by decide +kernel
theorem dX10_seed_9 : decode cX10_seed 9 = .ok (.getfield 10, 3) := by decide +kernel
theorem dX10_seed_12 : decode cX10_seed 12 = .ok (.iload_n 1, 1) := by decide +kernel
theorem dX10_seed_13 : decode cX10_seed 13 = .ok (.putfield 297, 3) := by decide +kernel
theorem dX10_seed_16 : decode cX10_seed 16 = .ok (.iload_n 2, 1) := by decide +kernel
theorem dX10_seed_17 : decode cX10_seed 17 = .ok (.ireturn, 1) := by decide +kernel
theorem dX10_setPoint_0 : decode cX10_setPoint 0 = .ok (.aload_n 0, 1) := by decide +kernel
theorem dX10_setPoint_1 : decode cX10_setPoint 1 = .ok (.getfield 90, 3) := by decide +kernel
theorem dX10_setPoint_4 : decode cX10_setPoint 4 = .ok (.iconst 0, 1) := by decide +kernel
theorem dX10_setPoint_5 : decode cX10_setPoint 5 = .ok (.iload_n 1, 1) := by decide +kernel
theorem dX10_setPoint_6 : decode cX10_setPoint 6 = .ok (.i2l, 1) := by decide +kernel
theorem dX10_setPoint_7 : decode cX10_setPoint 7 = .ok (.lastore, 1) := by decide +kernel
theorem dX10_setPoint_8 : decode cX10_setPoint 8 = .ok (.aload_n 0, 1) := by decide +kernel
theorem dX10_setPoint_9 : decode cX10_setPoint 9 = .ok (.getfield 90, 3) := by decide +kernel
theorem dX10_setPoint_12 : decode cX10_setPoint 12 = .ok (.iconst 1, 1) := by decide +kernel
theorem dX10_setPoint_13 : decode cX10_setPoint 13 = .ok (.iload_n 2, 1) := by decide +kernel
theorem dX10_setPoint_14 : decode cX10_setPoint 14 = .ok (.i2l, 1) := by decide +kernel
theorem dX10_setPoint_15 : decode cX10_setPoint 15 = .ok (.lastore, 1) := by decide +kernel
theorem dX10_setPoint_16 : decode cX10_setPoint 16 = .ok (.aload_n 0, 1) := by decide +kernel
theorem dX10_setPoint_17 : decode cX10_setPoint 17 = .ok (.getfield 90, 3) := by decide +kernel
theorem dX10_setPoint_20 : decode cX10_setPoint 20 = .ok (.iconst 2, 1) := by decide +kernel
theorem dX10_setPoint_21 : decode cX10_setPoint 21 = .ok (.iload_n 3, 1) := by decide +kernel
theorem dX10_setPoint_22 : decode cX10_setPoint 22 = .ok (.i2l, 1) := by decide +kernel
theorem dX10_setPoint_23 : decode cX10_setPoint 23 = .ok (.lastore, 1) := by decide +kernel
theorem dX10_setPoint_24 : decode cX10_setPoint 24 = .ok (.return_, 1) := by decide +kernel
theorem dX10_sheet_0 : decode cX10_sheet 0 = .ok (.iload_n 1, 1) := by decide +kernel
theorem dX10_sheet_1 : decode cX10_sheet 1 = .ok (.invokestatic 303, 3) := by decide +kernel
theorem dX10_sheet_4 : decode cX10_sheet 4 = .ok (.ifCond .eq 15, 3) := by decide +kernel
theorem dX10_sheet_7 : decode cX10_sheet 7 = .ok (.iload_n 2, 1) := by decide +kernel
theorem dX10_sheet_8 : decode cX10_sheet 8 = .ok (.iconst (-1), 1) := by decide +kernel
theorem dX10_sheet_9 : decode cX10_sheet 9 = .ok (.if_icmp .eq 12, 3) := by decide +kernel
theorem dX10_sheet_12 : decode cX10_sheet 12 = .ok (.iload_n 2, 1) := by decide +kernel
theorem dX10_sheet_13 : decode cX10_sheet 13 = .ok (.invokestatic 306, 3) := by decide +kernel
theorem dX10_sheet_16 : decode cX10_sheet 16 = .ok (.ifCond .ne 5, 3) := by decide +kernel
theorem dX10_sheet_19 : decode cX10_sheet 19 = .ok (.iconst (-1), 1) := by decide +kernel
theorem dX10_sheet_20 : decode cX10_sheet 20 = .ok (.ireturn, 1) := by decide +kernel
theorem dX10_sheet_21 : decode cX10_sheet 21 = .ok (.iload_n 2, 1) := by decide +kernel
theorem dX10_sheet_22 : decode cX10_sheet 22 = .ok (.iconst (-1), 1) := by decide +kernel
theorem dX10_sheet_23 : decode cX10_sheet 23 = .ok (.if_icmp .ne 16, 3) := by decide +kernel
theorem dX10_sheet_26 : decode cX10_sheet 26 = .ok (.aload_n 0, 1) := by decide +kernel
theorem dX10_sheet_27 : decode cX10_sheet 27 = .ok (.getfield 32, 3) := by decide +kernel
theorem dX10_sheet_30 : decode cX10_sheet 30 = .ok (.iload_n 1, 1) := by decide +kernel
theorem dX10_sheet_31 : decode cX10_sheet 31 = .ok (.aaload, 1) := by decide +kernel
theorem dX10_sheet_32 : decode cX10_sheet 32 = .ok (.iconst (-1), 1) := by decide +kernel
theorem dX10_sheet_33 : decode cX10_sheet 33 = .ok (.iconst 0, 1) := by decide +kernel
theorem dX10_sheet_34 : decode cX10_sheet 34 = .ok (.invokevirtual 309, 3) := by decide +kernel
theorem dX10_sheet_37 : decode cX10_sheet 37 = .ok (.iconst 1, 1) := by decide +kernel
theorem dX10_sheet_38 : decode cX10_sheet 38 = .ok (.ireturn, 1) := by decide +kernel
theorem dX10_sheet_39 : decode cX10_sheet 39 = .ok (.iload_n 3, 1) := by decide +kernel
theorem dX10_sheet_40 : decode cX10_sheet 40 = .ok (.bipush 40, 2) := by decide +kernel
theorem dX10_sheet_42 : decode cX10_sheet 42 = .ok (.if_icmp .le 5, 3) := by decide +kernel
theorem dX10_sheet_45 : decode cX10_sheet 45 = .ok (.iconst (-1), 1) := by decide +kernel
theorem dX10_sheet_46 : decode cX10_sheet 46 = .ok (.ireturn, 1) := by decide +kernel
theorem dX10_sheet_47 : decode cX10_sheet 47 = .ok (.iload_n 3, 1) := by decide +kernel
theorem dX10_sheet_48 : decode cX10_sheet 48 = .ok (.ifCond .ge 6, 3) := by decide +kernel
theorem dX10_sheet_51 : decode cX10_sheet 51 = .ok (.bipush (-14), 2) := by decide +kernel
theorem dX10_sheet_53 : decode cX10_sheet 53 = .ok (.ireturn, 1) := by decide +kernel
theorem dX10_sheet_54 : decode cX10_sheet 54 = .ok (.aload_n 0, 1) := by decide +kernel
theorem dX10_sheet_55 : decode cX10_sheet 55 = .ok (.getfield 32, 3) := by decide +kernel
theorem dX10_sheet_58 : decode cX10_sheet 58 = .ok (.iload_n 1, 1) := by decide +kernel
theorem dX10_sheet_59 : decode cX10_sheet 59 = .ok (.aaload, 1) := by decide +kernel
theorem dX10_sheet_60 : decode cX10_sheet 60 = .ok (.iload_n 2, 1) := by decide +kernel
theorem dX10_sheet_61 : decode cX10_sheet 61 = .ok (.iload_n 3, 1) := by decide +kernel
theorem dX10_sheet_62 : decode cX10_sheet 62 = .ok (.invokevirtual 309, 3) := by decide +kernel
theorem dX10_sheet_65 : decode cX10_sheet 65 = .ok (.iconst 1, 1) := by decide +kernel
theorem dX10_sheet_66 : decode cX10_sheet 66 = .ok (.ireturn, 1) := by decide +kernel
theorem dX10_size_0 : decode cX10_size 0 = .ok (.iload_n 1, 1) := by decide +kernel
theorem dX10_size_1 : decode cX10_size 1 = .ok (.iconst 1, 1) := by decide +kernel
theorem dX10_size_2 : decode cX10_size 2 = .ok (.if_icmp .lt 8, 3) := by decide +kernel
theorem dX10_size_5 : decode cX10_size 5 = .ok (.iload_n 1, 1) := by decide +kernel
theorem dX10_size_6 : decode cX10_size 6 = .ok (.iconst 3, 1) := by decide +kernel
theorem dX10_size_7 : decode cX10_size 7 = .ok (.if_icmp .le 5, 3) := by decide +kernel
theorem dX10_size_10 : decode cX10_size 10 = .ok (.iconst (-1), 1) := by decide +kernel
theorem dX10_size_11 : decode cX10_size 11 = .ok (.ireturn, 1) := by decide +kernel
theorem dX10_size_12 : decode cX10_size 12 = .ok (.aload_n 0, 1) := by decide +kernel
theorem dX10_size_13 : decode cX10_size 13 = .ok (.getfield 10, 3) := by decide +kernel
theorem dX10_size_16 : decode cX10_size 16 = .ok (.getfield 98, 3) := by decide +kernel
theorem dX10_size_19 : decode cX10_size 19 = .ok (.istore_n 2, 1) := by decide +kernel
theorem dX10_size_20 : decode cX10_size 20 = .ok (.iload_n 1, 1) := by decide +kernel
theorem dX10_size_21 : decode cX10_size 21 = .ok (.iload_n 2, 1) := by decide +kernel
theorem dX10_size_22 : decode cX10_size 22 = .ok (.if_icmp .eq 23, 3) := by decide +kernel
theorem dX10_size_25 : decode cX10_size 25 = .ok (.aload_n 0, 1) := by decide +kernel
theorem dX10_size_26 : decode cX10_size 26 = .ok (.getfield 10, 3) := by decide +kernel
theorem dX10_size_29 : decode cX10_size 29 = .ok (.iload_n 1, 1) := by decide +kernel
theorem dX10_size_30 : decode cX10_size 30 = .ok (.putfield 98, 3) := by decide +kernel
theorem dX10_size_33 : decode cX10_size 33 = .ok (.aload_n 0, 1) := by decide +kernel
theorem dX10_size_34 : decode cX10_size 34 = .ok (.getfield 10, 3) := by decide +kernel
theorem dX10_size_37 : decode cX10_size 37 = .ok (.iconst 0, 1) := by decide +kernel
theorem dX10_size_38 : decode cX10_size 38 = .ok (.putfield 101, 3) := by decide +kernel
theorem dX10_size_41 : decode cX10_size 41 = .ok (.aload_n 0, 1) := by decide +kernel
theorem dX10_size_42 : decode cX10_size 42 = .ok (.invokevirtual 104, 3) := by decide +kernel
theorem dX10_size_45 : decode cX10_size 45 = .ok (.iload_n 2, 1) := by decide +kernel
theorem dX10_size_46 : decode cX10_size 46 = .ok (.ireturn, 1) := by decide +kernel
theorem dX10_still_0 : decode cX10_still 0 = .ok (.iload_n 1, 1) := by decide +kernel
theorem dX10_still_1 : decode cX10_still 1 = .ok (.iload_n 2, 1) := by decide +kernel
theorem dX10_still_2 : decode cX10_still 2 = .ok (.iload_n 3, 1) := by decide +kernel
theorem dX10_still_3 : decode cX10_still 3 = .ok (.invokestatic 268, 3) := by decide +kernel
theorem dX10_still_6 : decode cX10_still 6 = .ok (.ifCond .ne 5, 3) := by decide +kernel
theorem dX10_still_9 : decode cX10_still 9 = .ok (.iconst (-1), 1) := by decide +kernel
theorem dX10_still_10 : decode cX10_still 10 = .ok (.ireturn, 1) := by decide +kernel
theorem dX10_still_11 : decode cX10_still 11 = .ok (.aload_n 0, 1) := by decide +kernel
theorem dX10_still_12 : decode cX10_still 12 = .ok (.invokevirtual 195, 3) := by decide +kernel
theorem dX10_still_15 : decode cX10_still 15 = .ok (.aload_n 0, 1) := by decide +kernel
theorem dX10_still_16 : decode cX10_still 16 = .ok (.iload_n 1, 1) := by decide +kernel
theorem dX10_still_17 : decode cX10_still 17 = .ok (.iload_n 2, 1) := by decide +kernel
theorem dX10_still_18 : decode cX10_still 18 = .ok (.iload_n 3, 1) := by decide +kernel
theorem dX10_still_19 : decode cX10_still 19 = .ok (.invokevirtual 272, 3) := by decide +kernel
theorem dX10_still_22 : decode cX10_still 22 = .ok (.iconst 0, 1) := by decide +kernel
theorem dX10_still_23 : decode cX10_still 23 = .ok (.istore 4, 2) := by decide +kernel
theorem dX10_still_25 : decode cX10_still 25 = .ok (.iconst 0, 1) := by decide +kernel
theorem dX10_still_26 : decode cX10_still 26 = .ok (.istore 5, 2) := by decide +kernel
theorem dX10_still_28 : decode cX10_still 28 = .ok (.iload 5, 2) := by decide +kernel
theorem dX10_still_30 : decode cX10_still 30 = .ok (.aload_n 0, 1) := by decide +kernel
theorem dX10_still_31 : decode cX10_still 31 = .ok (.getfield 41, 3) := by decide +kernel
theorem dX10_still_34 : decode cX10_still 34 = .ok (.getfield 198, 3) := by decide +kernel
theorem dX10_still_37 : decode cX10_still 37 = .ok (.if_icmp .ge 68, 3) := by decide +kernel
theorem dX10_still_40 : decode cX10_still 40 = .ok (.aload_n 0, 1) := by decide +kernel
theorem dX10_still_41 : decode cX10_still 41 = .ok (.getfield 41, 3) := by decide +kernel
theorem dX10_still_44 : decode cX10_still 44 = .ok (.getfield 207, 3) := by decide +kernel
theorem dX10_still_47 : decode cX10_still 47 = .ok (.aload_n 0, 1) := by decide +kernel
theorem dX10_still_48 : decode cX10_still 48 = .ok (.getfield 41, 3) := by decide +kernel
theorem dX10_still_51 : decode cX10_still 51 = .ok (.iload 5, 2) := by decide +kernel
theorem dX10_still_53 : decode cX10_still 53 = .ok (.invokevirtual 208, 3) := by decide +kernel
theorem dX10_still_56 : decode cX10_still 56 = .ok (.aload_n 0, 1) := by decide +kernel
theorem dX10_still_57 : decode cX10_still 57 = .ok (.getfield 90, 3) := by decide +kernel
theorem dX10_still_60 : decode cX10_still 60 = .ok (.iconst 0, 1) := by decide +kernel
theorem dX10_still_61 : decode cX10_still 61 = .ok (.aload_n 0, 1) := by decide +kernel
theorem dX10_still_62 : decode cX10_still 62 = .ok (.getfield 94, 3) := by decide +kernel
theorem dX10_still_65 : decode cX10_still 65 = .ok (.aload_n 0, 1) := by decide +kernel
theorem dX10_still_66 : decode cX10_still 66 = .ok (.getfield 10, 3) := by decide +kernel
theorem dX10_still_69 : decode cX10_still 69 = .ok (.getfield 98, 3) := by decide +kernel
theorem dX10_still_72 : decode cX10_still 72 = .ok (.invokestatic 289, 3) := by decide +kernel
theorem dX10_still_75 : decode cX10_still 75 = .ok (.aload_n 0, 1) := by decide +kernel
theorem dX10_still_76 : decode cX10_still 76 = .ok (.getfield 90, 3) := by decide +kernel
theorem dX10_still_79 : decode cX10_still 79 = .ok (.aload_n 0, 1) := by decide +kernel
theorem dX10_still_80 : decode cX10_still 80 = .ok (.getfield 94, 3) := by decide +kernel
theorem dX10_still_83 : decode cX10_still 83 = .ok (.aload_n 0, 1) := by decide +kernel
theorem dX10_still_84 : decode cX10_still 84 = .ok (.getfield 10, 3) := by decide +kernel
theorem dX10_still_87 : decode cX10_still 87 = .ok (.getfield 98, 3) := by decide +kernel
theorem dX10_still_90 : decode cX10_still 90 = .ok (.invokestatic 293, 3) := by decide +kernel
theorem dX10_still_93 : decode cX10_still 93 = .ok (.ifCond .eq 6, 3) := by decide +kernel
theorem dX10_still_96 : decode cX10_still 96 = .ok (.iinc 4 1, 3) := by decide +kernel
theorem dX10_still_99 : decode cX10_still 99 = .ok (.iinc 5 1, 3) := by decide +kernel
theorem dX10_still_102 : decode cX10_still 102 = .ok (.goto (-74), 3) := by decide +kernel
theorem dX10_still_105 : decode cX10_still 105 = .ok (.iload 4, 2) := by decide +kernel
theorem dX10_still_107 : decode cX10_still 107 = .ok (.ireturn, 1) := by decide +kernel
theorem dX10_take_0 : decode cX10_take 0 = .ok (.aload_n 0, 1) := by decide +kernel
theorem dX10_take_1 : decode cX10_take 1 = .ok (.iload_n 1, 1) := by decide +kernel
theorem dX10_take_2 : decode cX10_take 2 = .ok (.iload_n 2, 1) := by decide +kernel
theorem dX10_take_3 : decode cX10_take 3 = .ok (.iconst 1, 1) := by decide +kernel
theorem dX10_take_4 : decode cX10_take 4 = .ok (.invokevirtual 247, 3) := by decide +kernel
theorem dX10_take_7 : decode cX10_take 7 = .ok (.istore_n 3, 1) := by decide +kernel
theorem dX10_take_8 : decode cX10_take 8 = .ok (.iload_n 3, 1) := by decide +kernel
theorem dX10_take_9 : decode cX10_take 9 = .ok (.ifCond .eq 5, 3) := by decide +kernel
theorem dX10_take_12 : decode cX10_take 12 = .ok (.iload_n 3, 1) := by decide +kernel
theorem dX10_take_13 : decode cX10_take 13 = .ok (.ireturn, 1) := by decide +kernel
theorem dX10_take_14 : decode cX10_take 14 = .ok (.aload_n 0, 1) := by decide +kernel
theorem dX10_take_15 : decode cX10_take 15 = .ok (.getfield 32, 3) := by decide +kernel
theorem dX10_take_18 : decode cX10_take 18 = .ok (.iload_n 1, 1) := by decide +kernel
theorem dX10_take_19 : decode cX10_take 19 = .ok (.aaload, 1) := by decide +kernel
theorem dX10_take_20 : decode cX10_take 20 = .ok (.getfield 250, 3) := by decide +kernel
theorem dX10_take_23 : decode cX10_take 23 = .ok (.iload_n 2, 1) := by decide +kernel
theorem dX10_take_24 : decode cX10_take 24 = .ok (.aload_n 0, 1) := by decide +kernel
theorem dX10_take_25 : decode cX10_take 25 = .ok (.getfield 90, 3) := by decide +kernel
theorem dX10_take_28 : decode cX10_take 28 = .ok (.iconst 0, 1) := by decide +kernel
theorem dX10_take_29 : decode cX10_take 29 = .ok (.aload_n 0, 1) := by decide +kernel
theorem dX10_take_30 : decode cX10_take 30 = .ok (.getfield 10, 3) := by decide +kernel
theorem dX10_take_33 : decode cX10_take 33 = .ok (.invokevirtual 130, 3) := by decide +kernel
theorem dX10_take_36 : decode cX10_take 36 = .ok (.invokestatic 189, 3) := by decide +kernel
theorem dX10_take_39 : decode cX10_take 39 = .ok (.aload_n 0, 1) := by decide +kernel
theorem dX10_take_40 : decode cX10_take 40 = .ok (.getfield 90, 3) := by decide +kernel
theorem dX10_take_43 : decode cX10_take 43 = .ok (.aload_n 0, 1) := by decide +kernel
theorem dX10_take_44 : decode cX10_take 44 = .ok (.getfield 10, 3) := by decide +kernel
theorem dX10_take_47 : decode cX10_take 47 = .ok (.invokevirtual 130, 3) := by decide +kernel
theorem dX10_take_50 : decode cX10_take 50 = .ok (.ldc2_w 134, 3) := by decide +kernel
theorem dX10_take_53 : decode cX10_take 53 = .ok (.invokestatic 136, 3) := by decide +kernel
theorem dX10_take_56 : decode cX10_take 56 = .ok (.ifCond .eq 21, 3) := by decide +kernel
theorem dX10_take_59 : decode cX10_take 59 = .ok (.aload_n 0, 1) := by decide +kernel
theorem dX10_take_60 : decode cX10_take 60 = .ok (.getfield 90, 3) := by decide +kernel
theorem dX10_take_63 : decode cX10_take 63 = .ok (.iconst 0, 1) := by decide +kernel
theorem dX10_take_64 : decode cX10_take 64 = .ok (.aload_n 0, 1) := by decide +kernel
theorem dX10_take_65 : decode cX10_take 65 = .ok (.getfield 10, 3) := by decide +kernel
theorem dX10_take_68 : decode cX10_take 68 = .ok (.getfield 98, 3) := by decide +kernel
theorem dX10_take_71 : decode cX10_take 71 = .ok (.invokestatic 325, 3) := by decide +kernel
theorem dX10_take_74 : decode cX10_take 74 = .ok (.ifCond .ne 5, 3) := by decide +kernel
theorem dX10_take_77 : decode cX10_take 77 = .ok (.iconst (-1), 1) := by decide +kernel
theorem dX10_take_78 : decode cX10_take 78 = .ok (.ireturn, 1) := by decide +kernel
theorem dX10_take_79 : decode cX10_take 79 = .ok (.aload_n 0, 1) := by decide +kernel
theorem dX10_take_80 : decode cX10_take 80 = .ok (.getfield 10, 3) := by decide +kernel
theorem dX10_take_83 : decode cX10_take 83 = .ok (.invokevirtual 115, 3) := by decide +kernel
theorem dX10_take_86 : decode cX10_take 86 = .ok (.ifCond .eq 6, 3) := by decide +kernel
theorem dX10_take_89 : decode cX10_take 89 = .ok (.bipush (-2), 2) := by decide +kernel
theorem dX10_take_91 : decode cX10_take 91 = .ok (.ireturn, 1) := by decide +kernel
theorem dX10_take_92 : decode cX10_take 92 = .ok (.aload_n 0, 1) := by decide +kernel
theorem dX10_take_93 : decode cX10_take 93 = .ok (.invokevirtual 142, 3) := by decide +kernel
theorem dX10_take_96 : decode cX10_take 96 = .ok (.ireturn, 1) := by decide +kernel
theorem dX10_text_0 : decode cX10_text 0 = .ok (.aload_n 0, 1) := by decide +kernel
theorem dX10_text_1 : decode cX10_text 1 = .ok (.getfield 26, 3) := by decide +kernel
theorem dX10_text_4 : decode cX10_text 4 = .ok (.aload_n 0, 1) := by decide +kernel
theorem dX10_text_5 : decode cX10_text 5 = .ok (.getfield 10, 3) := by decide +kernel
theorem dX10_text_8 : decode cX10_text 8 = .ok (.getfield 98, 3) := by decide +kernel
theorem dX10_text_11 : decode cX10_text 11 = .ok (.invokevirtual 179, 3) := by decide +kernel
theorem dX10_text_14 : decode cX10_text 14 = .ok (.istore_n 1, 1) := by decide +kernel
theorem dX10_text_15 : decode cX10_text 15 = .ok (.aload_n 0, 1) := by decide +kernel
theorem dX10_text_16 : decode cX10_text 16 = .ok (.getfield 26, 3) := by decide +kernel
theorem dX10_text_19 : decode cX10_text 19 = .ok (.iconst 0, 1) := by decide +kernel
theorem dX10_text_20 : decode cX10_text 20 = .ok (.putfield 174, 3) := by decide +kernel
theorem dX10_text_23 : decode cX10_text 23 = .ok (.iload_n 1, 1) := by decide +kernel
theorem dX10_text_24 : decode cX10_text 24 = .ok (.ifCond .ne 14, 3) := by decide +kernel
theorem dX10_text_27 : decode cX10_text 27 = .ok (.bipush (-100), 2) := by decide +kernel
theorem dX10_text_29 : decode cX10_text 29 = .ok (.aload_n 0, 1) := by decide +kernel
theorem dX10_text_30 : decode cX10_text 30 = .ok (.getfield 26, 3) := by decide +kernel
theorem dX10_text_33 : decode cX10_text 33 = .ok (.getfield 182, 3) := by decide +kernel
theorem dX10_text_36 : decode cX10_text 36 = .ok (.isub, 1) := by decide +kernel
theorem dX10_text_37 : decode cX10_text 37 = .ok (.ireturn, 1) := by decide +kernel
theorem dX10_text_38 : decode cX10_text 38 = .ok (.aload_n 0, 1) := by decide +kernel
theorem dX10_text_39 : decode cX10_text 39 = .ok (.getfield 10, 3) := by decide +kernel
theorem dX10_text_42 : decode cX10_text 42 = .ok (.aload_n 0, 1) := by decide +kernel
theorem dX10_text_43 : decode cX10_text 43 = .ok (.getfield 26, 3) := by decide +kernel
theorem dX10_text_46 : decode cX10_text 46 = .ok (.getfield 185, 3) := by decide +kernel
theorem dX10_text_49 : decode cX10_text 49 = .ok (.putfield 101, 3) := by decide +kernel
theorem dX10_text_52 : decode cX10_text 52 = .ok (.aload_n 0, 1) := by decide +kernel
theorem dX10_text_53 : decode cX10_text 53 = .ok (.getfield 26, 3) := by decide +kernel
theorem dX10_text_56 : decode cX10_text 56 = .ok (.getfield 188, 3) := by decide +kernel
theorem dX10_text_59 : decode cX10_text 59 = .ok (.iconst 0, 1) := by decide +kernel
theorem dX10_text_60 : decode cX10_text 60 = .ok (.aload_n 0, 1) := by decide +kernel
theorem dX10_text_61 : decode cX10_text 61 = .ok (.getfield 10, 3) := by decide +kernel
theorem dX10_text_64 : decode cX10_text 64 = .ok (.getfield 145, 3) := by decide +kernel
theorem dX10_text_67 : decode cX10_text 67 = .ok (.iconst 0, 1) := by decide +kernel
theorem dX10_text_68 : decode cX10_text 68 = .ok (.aload_n 0, 1) := by decide +kernel
theorem dX10_text_69 : decode cX10_text 69 = .ok (.getfield 26, 3) := by decide +kernel
theorem dX10_text_72 : decode cX10_text 72 = .ok (.getfield 185, 3) := by decide +kernel
