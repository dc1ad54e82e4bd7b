theorem dX4_append_61 : decode cX4_append 61 = .ok (.iload_n 2, 1) := by decide +kernel
theorem dX4_append_62 : decode cX4_append 62 = .ok (.invokevirtual 75, 3) := by decide +kernel
theorem dX4_append_65 : decode cX4_append 65 = .ok (.ifCond .eq 14, 3) := by decide +kernel
theorem dX4_append_79 : decode cX4_append 79 = .ok (.iconst 0, 1) := by decide +kernel
theorem dX4_append_80 : decode cX4_append 80 = .ok (.iastore, 1) := by decide +kernel
theorem dX4_append_81 : decode cX4_append 81 = .ok (.aload_n 0, 1) := by decide +kernel
theorem dX4_append_82 : decode cX4_append 82 = .ok (.aload_n 1, 1) := by decide +kernel
theorem dX4_append_83 : decode cX4_append 83 = .ok (.invokevirtual 57, 3) := by decide +kernel
theorem dX4_append_86 : decode cX4_append 86 = .ok (.istore 5, 2) := by decide +kernel
theorem dX4_append_88 : decode cX4_append 88 = .ok (.aload_n 0, 1) := by decide +kernel
theorem dX4_append_89 : decode cX4_append 89 = .ok (.getfield 48, 3) := by decide +kernel
theorem dX4_append_92 : decode cX4_append 92 = .ok (.iload 4, 2) := by decide +kernel
theorem dX4_append_94 : decode cX4_append 94 = .ok (.aload_n 0, 1) := by decide +kernel
theorem dX4_append_95 : decode cX4_append 95 = .ok (.getfield 45, 3) := by decide +kernel
theorem dX4_append_98 : decode cX4_append 98 = .ok (.iload 5, 2) := by decide +kernel
theorem dX4_append_100 : decode cX4_append 100 = .ok (.iaload, 1) := by decide +kernel
theorem dX4_append_101 : decode cX4_append 101 = .ok (.iastore, 1) := by decide +kernel
theorem dX4_append_102 : decode cX4_append 102 = .ok (.aload_n 0, 1) := by decide +kernel
theorem dX4_append_103 : decode cX4_append 103 = .ok (.getfield 45, 3) := by decide +kernel
theorem dX4_append_106 : decode cX4_append 106 = .ok (.iload 5, 2) := by decide +kernel
theorem dX4_append_108 : decode cX4_append 108 = .ok (.iload 4, 2) := by decide +kernel
theorem dX4_append_110 : decode cX4_append 110 = .ok (.iastore, 1) := by decide +kernel
theorem dX4_append_111 : decode cX4_append 111 = .ok (.aload_n 0, 1) := by decide +kernel
theorem dX4_append_112 : decode cX4_append 112 = .ok (.dup, 1) := by decide +kernel
theorem dX4_append_113 : decode cX4_append 113 = .ok (.getfield 22, 3) := by decide +kernel
theorem dX4_append_116 : decode cX4_append 116 = .ok (.iconst 1, 1) := by decide +kernel
theorem dX4_append_117 : decode cX4_append 117 = .ok (.iadd, 1) := by decide +kernel
theorem dX4_append_118 : decode cX4_append 118 = .ok (.putfield 22, 3) := by decide +kernel
theorem dX4_append_121 : decode cX4_append 121 = .ok (.iload 4, 2) := by decide +kernel
theorem dX4_append_123 : decode cX4_append 123 = .ok (.ireturn, 1) := by decide +kernel
theorem dX4_clear_0 : decode cX4_clear 0 = .ok (.aload_n 0, 1) := by decide +kernel
theorem dX4_clear_1 : decode cX4_clear 1 = .ok (.iload_n 1, 1) := by decide +kernel
theorem dX4_clear_2 : decode cX4_clear 2 = .ok (.putfield 15, 3) := by decide +kernel
theorem dX4_clear_5 : decode cX4_clear 5 = .ok (.aload_n 0, 1) := by decide +kernel
theorem dX4_clear_6 : decode cX4_clear 6 = .ok (.iload_n 2, 1) := by decide +kernel
theorem dX4_clear_7 : decode cX4_clear 7 = .ok (.putfield 19, 3) := by decide +kernel
theorem dX4_clear_10 : decode cX4_clear 10 = .ok (.aload_n 0, 1) := by decide +kernel
theorem dX4_clear_11 : decode cX4_clear 11 = .ok (.iconst 0, 1) := by decide +kernel
theorem dX4_clear_12 : decode cX4_clear 12 = .ok (.putfield 22, 3) := by decide +kernel
theorem dX4_clear_15 : decode cX4_clear 15 = .ok (.aload_n 0, 1) := by decide +kernel
theorem dX4_clear_16 : decode cX4_clear 16 = .ok (.iconst 0, 1) := by decide +kernel
theorem dX4_clear_17 : decode cX4_clear 17 = .ok (.putfield 25, 3) := by decide +kernel
theorem dX4_clear_20 : decode cX4_clear 20 = .ok (.aload_n 0, 1) := by decide +kernel
theorem dX4_clear_21 : decode cX4_clear 21 = .ok (.getfield 45, 3) := by decide +kernel
theorem dX4_clear_24 : decode cX4_clear 24 = .ok (.iconst (-1), 1) := by decide +kernel
theorem dX4_clear_25 : decode cX4_clear 25 = .ok (.invokestatic 51, 3) := by decide +kernel
theorem dX4_clear_28 : decode cX4_clear 28 = .ok (.return_, 1) := by decide +kernel
theorem dX4_has_0 : decode cX4_has 0 = .ok (.iload_n 1, 1) := by decide +kernel
theorem dX4_has_1 : decode cX4_has 1 = .ok (.ifCond .lt 15, 3) := by decide +kernel
theorem dX4_has_4 : decode cX4_has 4 = .ok (.iload_n 1, 1) := by decide +kernel
theorem dX4_has_5 : decode cX4_has 5 = .ok (.aload_n 0, 1) := by decide +kernel
theorem dX4_has_6 : decode cX4_has 6 = .ok (.getfield 22, 3) := by decide +kernel
theorem dX4_has_9 : decode cX4_has 9 = .ok (.if_icmp .ge 7, 3) := by decide +kernel
theorem dX4_has_12 : decode cX4_has 12 = .ok (.iconst 1, 1) := by decide +kernel
theorem dX4_has_13 : decode cX4_has 13 = .ok (.goto 4, 3) := by decide +kernel
theorem dX4_has_16 : decode cX4_has 16 = .ok (.iconst 0, 1) := by decide +kernel
theorem dX4_has_17 : decode cX4_has 17 = .ok (.ireturn, 1) := by decide +kernel
theorem dX4_init_0 : decode cX4_init 0 = .ok (.aload_n 0, 1) := by decide +kernel
theorem dX4_init_1 : decode cX4_init 1 = .ok (.invokespecial 3, 3) := by decide +kernel
theorem dX4_init_4 : decode cX4_init 4 = .ok (.aload_n 0, 1) := by decide +kernel
theorem dX4_init_5 : decode cX4_init 5 = .ok (.bipush 60, 2) := by decide +kernel
theorem dX4_init_7 : decode cX4_init 7 = .ok (.newarray .long, 2) := by decide +kernel
theorem dX4_init_9 : decode cX4_init 9 = .ok (.putfield 9, 3) := by decide +kernel
theorem dX4_init_12 : decode cX4_init 12 = .ok (.aload_n 0, 1) := by decide +kernel
theorem dX4_init_13 : decode cX4_init 13 = .ok (.iconst 0, 1) := by decide +kernel
theorem dX4_init_14 : decode cX4_init 14 = .ok (.putfield 15, 3) := by decide +kernel
theorem dX4_init_17 : decode cX4_init 17 = .ok (.aload_n 0, 1) := by decide +kernel
theorem dX4_init_18 : decode cX4_init 18 = .ok (.iconst 0, 1) := by decide +kernel
theorem dX4_init_19 : decode cX4_init 19 = .ok (.putfield 19, 3) := by decide +kernel
theorem dX4_init_22 : decode cX4_init 22 = .ok (.aload_n 0, 1) := by decide +kernel
theorem dX4_init_23 : decode cX4_init 23 = .ok (.iconst 0, 1) := by decide +kernel
theorem dX4_init_24 : decode cX4_init 24 = .ok (.putfield 22, 3) := by decide +kernel
theorem dX4_init_27 : decode cX4_init 27 = .ok (.aload_n 0, 1) := by decide +kernel
theorem dX4_init_28 : decode cX4_init 28 = .ok (.iconst 0, 1) := by decide +kernel
theorem dX4_init_29 : decode cX4_init 29 = .ok (.putfield 25, 3) := by decide +kernel
theorem dX4_init_32 : decode cX4_init 32 = .ok (.aload_n 0, 1) := by decide +kernel
theorem dX4_init_33 : decode cX4_init 33 = .ok (.iload_n 2, 1) := by decide +kernel
theorem dX4_init_34 : decode cX4_init 34 = .ok (.newarray .long, 2) := by decide +kernel
theorem dX4_init_36 : decode cX4_init 36 = .ok (.putfield 29, 3) := by decide +kernel
theorem dX4_init_39 : decode cX4_init 39 = .ok (.aload_n 0, 1) := by decide +kernel
theorem dX4_init_40 : decode cX4_init 40 = .ok (.iload_n 1, 1) := by decide +kernel
theorem dX4_init_41 : decode cX4_init 41 = .ok (.newarray .int, 2) := by decide +kernel
theorem dX4_init_43 : decode cX4_init 43 = .ok (.putfield 32, 3) := by decide +kernel
theorem dX4_init_46 : decode cX4_init 46 = .ok (.aload_n 0, 1) := by decide +kernel
theorem dX4_init_47 : decode cX4_init 47 = .ok (.iload_n 1, 1) := by decide +kernel
theorem dX4_init_48 : decode cX4_init 48 = .ok (.newarray .int, 2) := by decide +kernel
theorem dX4_init_50 : decode cX4_init 50 = .ok (.putfield 36, 3) := by decide +kernel
theorem dX4_init_53 : decode cX4_init 53 = .ok (.aload_n 0, 1) := by decide +kernel
theorem dX4_init_54 : decode cX4_init 54 = .ok (.iload_n 1, 1) := by decide +kernel
theorem dX4_init_55 : decode cX4_init 55 = .ok (.newarray .int, 2) := by decide +kernel
theorem dX4_init_57 : decode cX4_init 57 = .ok (.putfield 39, 3) := by decide +kernel
theorem dX4_init_60 : decode cX4_init 60 = .ok (.aload_n 0, 1) := by decide +kernel
theorem dX4_init_61 : decode cX4_init 61 = .ok (.iload_n 1, 1) := by decide +kernel
theorem dX4_init_62 : decode cX4_init 62 = .ok (.iconst 4, 1) := by decide +kernel
theorem dX4_init_63 : decode cX4_init 63 = .ok (.imul, 1) := by decide +kernel
theorem dX4_init_64 : decode cX4_init 64 = .ok (.newarray .int, 2) := by decide +kernel
theorem dX4_init_66 : decode cX4_init 66 = .ok (.putfield 42, 3) := by decide +kernel
theorem dX4_init_69 : decode cX4_init 69 = .ok (.aload_n 0, 1) := by decide +kernel
theorem dX4_init_70 : decode cX4_init 70 = .ok (.iload_n 3, 1) := by decide +kernel
theorem dX4_init_71 : decode cX4_init 71 = .ok (.newarray .int, 2) := by decide +kernel
theorem dX4_init_73 : decode cX4_init 73 = .ok (.putfield 45, 3) := by decide +kernel
theorem dX4_init_76 : decode cX4_init 76 = .ok (.aload_n 0, 1) := by decide +kernel
theorem dX4_init_77 : decode cX4_init 77 = .ok (.iload_n 1, 1) := by decide +kernel
theorem dX4_init_78 : decode cX4_init 78 = .ok (.newarray .int, 2) := by decide +kernel
theorem dX4_init_80 : decode cX4_init 80 = .ok (.putfield 48, 3) := by decide +kernel
theorem dX4_init_83 : decode cX4_init 83 = .ok (.return_, 1) := by decide +kernel
theorem dX4_isRow_0 : decode cX4_isRow 0 = .ok (.aload_n 0, 1) := by decide +kernel
theorem dX4_isRow_1 : decode cX4_isRow 1 = .ok (.iload_n 1, 1) := by decide +kernel
theorem dX4_isRow_2 : decode cX4_isRow 2 = .ok (.invokevirtual 65, 3) := by decide +kernel
theorem dX4_isRow_5 : decode cX4_isRow 5 = .ok (.istore_n 3, 1) := by decide +kernel
theorem dX4_isRow_6 : decode cX4_isRow 6 = .ok (.iconst 0, 1) := by decide +kernel
theorem dX4_isRow_7 : decode cX4_isRow 7 = .ok (.istore 4, 2) := by decide +kernel
theorem dX4_isRow_9 : decode cX4_isRow 9 = .ok (.iload 4, 2) := by decide +kernel
theorem dX4_isRow_11 : decode cX4_isRow 11 = .ok (.aload_n 0, 1) := by decide +kernel
theorem dX4_isRow_12 : decode cX4_isRow 12 = .ok (.getfield 15, 3) := by decide +kernel
theorem dX4_isRow_15 : decode cX4_isRow 15 = .ok (.if_icmp .ge 28, 3) := by decide +kernel
theorem dX4_isRow_18 : decode cX4_isRow 18 = .ok (.aload_n 0, 1) := by decide +kernel
theorem dX4_isRow_19 : decode cX4_isRow 19 = .ok (.getfield 29, 3) := by decide +kernel
theorem dX4_isRow_22 : decode cX4_isRow 22 = .ok (.iload_n 3, 1) := by decide +kernel
theorem dX4_isRow_23 : decode cX4_isRow 23 = .ok (.iload 4, 2) := by decide +kernel
theorem dX4_isRow_25 : decode cX4_isRow 25 = .ok (.iadd, 1) := by decide +kernel
theorem dX4_isRow_26 : decode cX4_isRow 26 = .ok (.laload, 1) := by decide +kernel
theorem dX4_isRow_27 : decode cX4_isRow 27 = .ok (.aload_n 2, 1) := by decide +kernel
theorem dX4_isRow_28 : decode cX4_isRow 28 = .ok (.iload 4, 2) := by decide +kernel
theorem dX4_isRow_30 : decode cX4_isRow 30 = .ok (.laload, 1) := by decide +kernel
theorem dX4_isRow_31 : decode cX4_isRow 31 = .ok (.lcmp, 1) := by decide +kernel
theorem dX4_isRow_32 : decode cX4_isRow 32 = .ok (.ifCond .eq 5, 3) := by decide +kernel
theorem dX4_isRow_37 : decode cX4_isRow 37 = .ok (.iinc 4 1, 3) := by decide +kernel
theorem dX4_isRow_40 : decode cX4_isRow 40 = .ok (.goto (-31), 3) := by decide +kernel
theorem dX4_isRow_43 : decode cX4_isRow 43 = .ok (.iconst 1, 1) := by decide +kernel
theorem dX4_isRow_44 : decode cX4_isRow 44 = .ok (.ireturn, 1) := by decide +kernel
theorem dX4_search_0 : decode cX4_search 0 = .ok (.aload_n 0, 1) := by decide +kernel
theorem dX4_search_1 : decode cX4_search 1 = .ok (.getfield 45, 3) := by decide +kernel
theorem dX4_search_4 : decode cX4_search 4 = .ok (.aload_n 0, 1) := by decide +kernel
theorem dX4_search_5 : decode cX4_search 5 = .ok (.aload_n 1, 1) := by decide +kernel
theorem dX4_search_6 : decode cX4_search 6 = .ok (.invokevirtual 57, 3) := by decide +kernel
theorem dX4_search_9 : decode cX4_search 9 = .ok (.iaload, 1) := by decide +kernel
theorem dX4_search_10 : decode cX4_search 10 = .ok (.istore_n 2, 1) := by decide +kernel
theorem dX4_search_11 : decode cX4_search 11 = .ok (.iconst 0, 1) := by decide +kernel
theorem dX4_search_12 : decode cX4_search 12 = .ok (.istore_n 3, 1) := by decide +kernel
theorem dX4_search_13 : decode cX4_search 13 = .ok (.iload_n 3, 1) := by decide +kernel
theorem dX4_search_14 : decode cX4_search 14 = .ok (.aload_n 0, 1) := by decide +kernel
theorem dX4_search_15 : decode cX4_search 15 = .ok (.getfield 22, 3) := by decide +kernel
theorem dX4_search_18 : decode cX4_search 18 = .ok (.if_icmp .ge 31, 3) := by decide +kernel
theorem dX4_search_21 : decode cX4_search 21 = .ok (.iload_n 2, 1) := by decide +kernel
theorem dX4_search_22 : decode cX4_search 22 = .ok (.ifCond .lt 27, 3) := by decide +kernel
theorem dX4_search_25 : decode cX4_search 25 = .ok (.aload_n 0, 1) := by decide +kernel
theorem dX4_search_26 : decode cX4_search 26 = .ok (.iload_n 2, 1) := by decide +kernel
theorem dX4_search_27 : decode cX4_search 27 = .ok (.aload_n 1, 1) := by decide +kernel
theorem dX4_search_28 : decode cX4_search 28 = .ok (.invokevirtual 61, 3) := by decide +kernel
theorem dX4_search_31 : decode cX4_search 31 = .ok (.ifCond .eq 5, 3) := by decide +kernel
theorem dX4_search_34 : decode cX4_search 34 = .ok (.iload_n 2, 1) := by decide +kernel
theorem dX4_search_35 : decode cX4_search 35 = .ok (.ireturn, 1) := by decide +kernel
theorem dX4_search_49 : decode cX4_search 49 = .ok (.iconst (-1), 1) := by decide +kernel
theorem dX4_search_50 : decode cX4_search 50 = .ok (.ireturn, 1) := by decide +kernel
theorem dX4_slotOf_0 : decode cX4_slotOf 0 = .ok (.lconst 0, 1) := by decide +kernel
theorem dX4_slotOf_1 : decode cX4_slotOf 1 = .ok (.lstore_n 2, 1) := by decide +kernel
theorem dX4_slotOf_2 : decode cX4_slotOf 2 = .ok (.iconst 0, 1) := by decide +kernel
theorem dX4_slotOf_3 : decode cX4_slotOf 3 = .ok (.istore 4, 2) := by decide +kernel
theorem dX4_slotOf_5 : decode cX4_slotOf 5 = .ok (.iload 4, 2) := by decide +kernel
theorem dX4_slotOf_7 : decode cX4_slotOf 7 = .ok (.aload_n 0, 1) := by decide +kernel
theorem dX4_slotOf_8 : decode cX4_slotOf 8 = .ok (.getfield 15, 3) := by decide +kernel
theorem dX4_slotOf_11 : decode cX4_slotOf 11 = .ok (.if_icmp .ge 20, 3) := by decide +kernel
theorem dX4_slotOf_14 : decode cX4_slotOf 14 = .ok (.lload_n 2, 1) := by decide +kernel
theorem dX4_slotOf_15 : decode cX4_slotOf 15 = .ok (.ldc2_w 96, 3) := by decide +kernel
theorem dX4_slotOf_18 : decode cX4_slotOf 18 = .ok (.lmul, 1) := by decide +kernel
theorem dX4_slotOf_19 : decode cX4_slotOf 19 = .ok (.aload_n 1, 1) := by decide +kernel
theorem dX4_slotOf_20 : decode cX4_slotOf 20 = .ok (.iload 4, 2) := by decide +kernel
theorem dX4_slotOf_22 : decode cX4_slotOf 22 = .ok (.laload, 1) := by decide +kernel
theorem dX4_slotOf_23 : decode cX4_slotOf 23 = .ok (.ladd, 1) := by decide +kernel
theorem dX4_slotOf_24 : decode cX4_slotOf 24 = .ok (.lstore_n 2, 1) := by decide +kernel
theorem dX4_slotOf_25 : decode cX4_slotOf 25 = .ok (.iinc 4 1, 3) := by decide +kernel
theorem dX4_slotOf_28 : decode cX4_slotOf 28 = .ok (.goto (-23), 3) := by decide +kernel
theorem dX4_slotOf_31 : decode cX4_slotOf 31 = .ok (.lload_n 2, 1) := by decide +kernel
theorem dX4_slotOf_32 : decode cX4_slotOf 32 = .ok (.lload_n 2, 1) := by decide +kernel
theorem dX4_slotOf_33 : decode cX4_slotOf 33 = .ok (.bipush 32, 2) := by decide +kernel
theorem dX4_slotOf_35 : decode cX4_slotOf 35 = .ok (.lushr, 1) := by decide +kernel
theorem dX4_slotOf_36 : decode cX4_slotOf 36 = .ok (.lxor, 1) := by decide +kernel
theorem dX4_slotOf_37 : decode cX4_slotOf 37 = .ok (.lstore_n 2, 1) := by decide +kernel
theorem dX4_slotOf_38 : decode cX4_slotOf 38 = .ok (.lload_n 2, 1) := by decide +kernel
theorem dX4_slotOf_39 : decode cX4_slotOf 39 = .ok (.lload_n 2, 1) := by decide +kernel
theorem dX4_slotOf_40 : decode cX4_slotOf 40 = .ok (.bipush 16, 2) := by decide +kernel
theorem dX4_slotOf_42 : decode cX4_slotOf 42 = .ok (.lushr, 1) := by decide +kernel
theorem dX4_slotOf_43 : decode cX4_slotOf 43 = .ok (.lxor, 1) := by decide +kernel
theorem dX4_slotOf_44 : decode cX4_slotOf 44 = .ok (.lstore_n 2, 1) := by decide +kernel
theorem dX4_slotOf_45 : decode cX4_slotOf 45 = .ok (.lload_n 2, 1) := by decide +kernel
theorem dX4_slotOf_46 : decode cX4_slotOf 46 = .ok (.l2i, 1) := by decide +kernel
theorem dX4_slotOf_47 : decode cX4_slotOf 47 = .ok (.aload_n 0, 1) := by decide +kernel
theorem dX4_slotOf_48 : decode cX4_slotOf 48 = .ok (.getfield 45, 3) := by decide +kernel
theorem dX4_slotOf_51 : decode cX4_slotOf 51 = .ok (.arraylength, 1) := by decide +kernel
theorem dX4_slotOf_52 : decode cX4_slotOf 52 = .ok (.iconst 1, 1) := by decide +kernel
theorem dX4_slotOf_53 : decode cX4_slotOf 53 = .ok (.isub, 1) := by decide +kernel
theorem dX4_slotOf_54 : decode cX4_slotOf 54 = .ok (.iand, 1) := by decide +kernel
theorem dX4_slotOf_55 : decode cX4_slotOf 55 = .ok (.ireturn, 1) := by decide +kernel
theorem dX4_spread_0 : decode cX4_spread 0 = .ok (.aload_n 0, 1) := by decide +kernel
theorem dX4_spread_1 : decode cX4_spread 1 = .ok (.iconst 1, 1) := by decide +kernel
theorem dX4_spread_2 : decode cX4_spread 2 = .ok (.putfield 25, 3) := by decide +kernel
theorem dX4_spread_5 : decode cX4_spread 5 = .ok (.iconst 0, 1) := by decide +kernel
theorem dX4_spread_6 : decode cX4_spread 6 = .ok (.istore_n 3, 1) := by decide +kernel
theorem dX4_spread_7 : decode cX4_spread 7 = .ok (.iload_n 3, 1) := by decide +kernel
theorem dX4_spread_8 : decode cX4_spread 8 = .ok (.aload_n 0, 1) := by decide +kernel
theorem dX4_spread_9 : decode cX4_spread 9 = .ok (.getfield 19, 3) := by decide +kernel
theorem dX4_spread_12 : decode cX4_spread 12 = .ok (.if_icmp .ge 84, 3) := by decide +kernel
theorem dX4_spread_15 : decode cX4_spread 15 = .ok (.iload_n 3, 1) := by decide +kernel
theorem dX4_spread_16 : decode cX4_spread 16 = .ok (.aload_n 0, 1) := by decide +kernel
theorem dX4_spread_17 : decode cX4_spread 17 = .ok (.getfield 22, 3) := by decide +kernel
theorem dX4_spread_20 : decode cX4_spread 20 = .ok (.if_icmp .ge 76, 3) := by decide +kernel
theorem dX4_spread_23 : decode cX4_spread 23 = .ok (.iconst 0, 1) := by decide +kernel
theorem dX4_spread_24 : decode cX4_spread 24 = .ok (.istore 4, 2) := by decide +kernel
theorem dX4_spread_26 : decode cX4_spread 26 = .ok (.iload 4, 2) := by decide +kernel
theorem dX4_spread_28 : decode cX4_spread 28 = .ok (.iload_n 2, 1) := by decide +kernel
theorem dX4_spread_29 : decode cX4_spread 29 = .ok (.if_icmp .ge 42, 3) := by decide +kernel
theorem dX4_spread_71 : decode cX4_spread 71 = .ok (.aload_n 0, 1) := by decide +kernel
theorem dX4_spread_72 : decode cX4_spread 72 = .ok (.getfield 25, 3) := by decide +kernel
theorem dX4_spread_75 : decode cX4_spread 75 = .ok (.ifCond .ne 15, 3) := by decide +kernel
theorem dX4_spread_90 : decode cX4_spread 90 = .ok (.iinc 3 1, 3) := by decide +kernel
theorem dX4_spread_93 : decode cX4_spread 93 = .ok (.goto (-86), 3) := by decide +kernel
theorem dX4_spread_96 : decode cX4_spread 96 = .ok (.return_, 1) := by decide +kernel
theorem dX4_start_0 : decode cX4_start 0 = .ok (.iload_n 1, 1) := by decide +kernel
theorem dX4_start_1 : decode cX4_start 1 = .ok (.aload_n 0, 1) := by decide +kernel
theorem dX4_start_2 : decode cX4_start 2 = .ok (.getfield 15, 3) := by decide +kernel
theorem dX4_start_5 : decode cX4_start 5 = .ok (.imul, 1) := by decide +kernel
theorem dX4_start_6 : decode cX4_start 6 = .ok (.ireturn, 1) := by decide +kernel
theorem dX5_append_0 : decode cX5_append 0 = .ok (.aload_n 0, 1) := by decide +kernel
theorem dX5_append_1 : decode cX5_append 1 = .ok (.invokevirtual 25, 3) := by decide +kernel
theorem dX5_append_4 : decode cX5_append 4 = .ok (.ifCond .eq 6, 3) := by decide +kernel
theorem dX5_append_10 : decode cX5_append 10 = .ok (.aload_n 1, 1) := by decide +kernel
theorem dX5_append_11 : decode cX5_append 11 = .ok (.iconst 0, 1) := by decide +kernel
theorem dX5_append_12 : decode cX5_append 12 = .ok (.aload_n 0, 1) := by decide +kernel
theorem dX5_append_13 : decode cX5_append 13 = .ok (.getfield 21, 3) := by decide +kernel
theorem dX5_append_16 : decode cX5_append 16 = .ok (.aload_n 0, 1) := by decide +kernel
theorem dX5_append_17 : decode cX5_append 17 = .ok (.getfield 15, 3) := by decide +kernel
theorem dX5_append_20 : decode cX5_append 20 = .ok (.bipush 9, 2) := by decide +kernel
theorem dX5_append_22 : decode cX5_append 22 = .ok (.imul, 1) := by decide +kernel
theorem dX5_append_23 : decode cX5_append 23 = .ok (.bipush 9, 2) := by decide +kernel
theorem dX5_append_25 : decode cX5_append 25 = .ok (.invokestatic 29, 3) := by decide +kernel
theorem dX5_append_28 : decode cX5_append 28 = .ok (.aload_n 0, 1) := by decide +kernel
theorem dX5_append_29 : decode cX5_append 29 = .ok (.dup, 1) := by decide +kernel
theorem dX5_append_30 : decode cX5_append 30 = .ok (.getfield 15, 3) := by decide +kernel
theorem dX5_append_33 : decode cX5_append 33 = .ok (.iconst 1, 1) := by decide +kernel
theorem dX5_append_34 : decode cX5_append 34 = .ok (.iadd, 1) := by decide +kernel
theorem dX5_append_35 : decode cX5_append 35 = .ok (.putfield 15, 3) := by decide +kernel
theorem dX5_append_38 : decode cX5_append 38 = .ok (.aload_n 0, 1) := by decide +kernel
theorem dX5_append_39 : decode cX5_append 39 = .ok (.getfield 15, 3) := by decide +kernel
theorem dX5_append_42 : decode cX5_append 42 = .ok (.iconst 1, 1) := by decide +kernel
theorem dX5_append_43 : decode cX5_append 43 = .ok (.isub, 1) := by decide +kernel
theorem dX5_append_44 : decode cX5_append 44 = .ok (.ireturn, 1) := by decide +kernel
theorem dX5_become_0 : decode cX5_become 0 = .ok (.aload_n 0, 1) := by decide +kernel
theorem dX5_become_1 : decode cX5_become 1 = .ok (.aload_n 1, 1) := by decide +kernel
theorem dX5_become_2 : decode cX5_become 2 = .ok (.getfield 9, 3) := by decide +kernel
theorem dX5_become_5 : decode cX5_become 5 = .ok (.putfield 9, 3) := by decide +kernel
theorem dX5_become_8 : decode cX5_become 8 = .ok (.aload_n 0, 1) := by decide +kernel
theorem dX5_become_9 : decode cX5_become 9 = .ok (.aload_n 1, 1) := by decide +kernel
theorem dX5_become_10 : decode cX5_become 10 = .ok (.getfield 15, 3) := by decide +kernel
theorem dX5_become_13 : decode cX5_become 13 = .ok (.putfield 15, 3) := by decide +kernel
theorem dX5_become_16 : decode cX5_become 16 = .ok (.aload_n 0, 1) := by decide +kernel
theorem dX5_become_17 : decode cX5_become 17 = .ok (.aload_n 1, 1) := by decide +kernel
theorem dX5_become_18 : decode cX5_become 18 = .ok (.getfield 18, 3) := by decide +kernel
theorem dX5_become_21 : decode cX5_become 21 = .ok (.putfield 18, 3) := by decide +kernel
theorem dX5_become_24 : decode cX5_become 24 = .ok (.aload_n 1, 1) := by decide +kernel
theorem dX5_become_25 : decode cX5_become 25 = .ok (.getfield 21, 3) := by decide +kernel
theorem dX5_become_28 : decode cX5_become 28 = .ok (.iconst 0, 1) := by decide +kernel
theorem dX5_become_29 : decode cX5_become 29 = .ok (.aload_n 0, 1) := by decide +kernel
theorem dX5_become_30 : decode cX5_become 30 = .ok (.getfield 21, 3) := by decide +kernel
theorem dX5_become_33 : decode cX5_become 33 = .ok (.iconst 0, 1) := by decide +kernel
theorem dX5_become_34 : decode cX5_become 34 = .ok (.aload_n 0, 1) := by decide +kernel
theorem dX5_become_35 : decode cX5_become 35 = .ok (.getfield 21, 3) := by decide +kernel
theorem dX5_become_38 : decode cX5_become 38 = .ok (.arraylength, 1) := by decide +kernel
theorem dX5_become_39 : decode cX5_become 39 = .ok (.invokestatic 29, 3) := by decide +kernel
theorem dX5_become_42 : decode cX5_become 42 = .ok (.return_, 1) := by decide +kernel
theorem dX5_cellCount_0 : decode cX5_cellCount 0 = .ok (.aload_n 0, 1) := by decide +kernel
theorem dX5_cellCount_1 : decode cX5_cellCount 1 = .ok (.getfield 9, 3) := by decide +kernel
theorem dX5_cellCount_4 : decode cX5_cellCount 4 = .ok (.aload_n 0, 1) := by decide +kernel
theorem dX5_cellCount_5 : decode cX5_cellCount 5 = .ok (.getfield 9, 3) := by decide +kernel
theorem dX5_cellCount_8 : decode cX5_cellCount 8 = .ok (.imul, 1) := by decide +kernel
theorem dX5_cellCount_9 : decode cX5_cellCount 9 = .ok (.ireturn, 1) := by decide +kernel
theorem dX5_draw_0 : decode cX5_draw 0 = .ok (.aload_n 0, 1) := by decide +kernel
theorem dX5_draw_1 : decode cX5_draw 1 = .ok (.aload_n 0, 1) := by decide +kernel
theorem dX5_draw_2 : decode cX5_draw 2 = .ok (.getfield 18, 3) := by decide +kernel
theorem dX5_draw_5 : decode cX5_draw 5 = .ok (.ldc 35, 2) := by decide +kernel
theorem dX5_draw_7 : decode cX5_draw 7 = .ok (.imul, 1) := by decide +kernel
theorem dX5_draw_8 : decode cX5_draw 8 = .ok (.sipush 12345, 3) := by decide +kernel
theorem dX5_draw_11 : decode cX5_draw 11 = .ok (.iadd, 1) := by decide +kernel
theorem dX5_draw_12 : decode cX5_draw 12 = .ok (.putfield 18, 3) := by decide +kernel
theorem dX5_draw_15 : decode cX5_draw 15 = .ok (.aload_n 0, 1) := by decide +kernel
theorem dX5_draw_16 : decode cX5_draw 16 = .ok (.getfield 18, 3) := by decide +kernel
theorem dX5_draw_19 : decode cX5_draw 19 = .ok (.bipush 16, 2) := by decide +kernel
theorem dX5_draw_21 : decode cX5_draw 21 = .ok (.iushr, 1) := by decide +kernel
theorem dX5_draw_22 : decode cX5_draw 22 = .ok (.ireturn, 1) := by decide +kernel
theorem dX5_has_0 : decode cX5_has 0 = .ok (.iload_n 1, 1) := by decide +kernel
theorem dX5_has_1 : decode cX5_has 1 = .ok (.ifCond .lt 15, 3) := by decide +kernel
theorem dX5_has_4 : decode cX5_has 4 = .ok (.iload_n 1, 1) := by decide +kernel
theorem dX5_has_5 : decode cX5_has 5 = .ok (.aload_n 0, 1) := by decide +kernel
theorem dX5_has_6 : decode cX5_has 6 = .ok (.getfield 15, 3) := by decide +kernel
theorem dX5_has_9 : decode cX5_has 9 = .ok (.if_icmp .ge 7, 3) := by decide +kernel
theorem dX5_has_16 : decode cX5_has 16 = .ok (.iconst 0, 1) := by decide +kernel
theorem dX5_has_17 : decode cX5_has 17 = .ok (.ireturn, 1) := by decide +kernel
theorem dX5_init_0 : decode cX5_init 0 = .ok (.aload_n 0, 1) := by decide +kernel
theorem dX5_init_1 : decode cX5_init 1 = .ok (.invokespecial 3, 3) := by decide +kernel
theorem dX5_init_4 : decode cX5_init 4 = .ok (.aload_n 0, 1) := by decide +kernel
theorem dX5_init_5 : decode cX5_init 5 = .ok (.iconst 2, 1) := by decide +kernel
theorem dX5_init_6 : decode cX5_init 6 = .ok (.putfield 9, 3) := by decide +kernel
theorem dX5_init_9 : decode cX5_init 9 = .ok (.aload_n 0, 1) := by decide +kernel
theorem dX5_init_10 : decode cX5_init 10 = .ok (.iconst 0, 1) := by decide +kernel
theorem dX5_init_11 : decode cX5_init 11 = .ok (.putfield 15, 3) := by decide +kernel
theorem dX5_init_14 : decode cX5_init 14 = .ok (.aload_n 0, 1) := by decide +kernel
theorem dX5_init_15 : decode cX5_init 15 = .ok (.iconst 1, 1) := by decide +kernel
theorem dX5_init_16 : decode cX5_init 16 = .ok (.putfield 18, 3) := by decide +kernel
theorem dX5_init_19 : decode cX5_init 19 = .ok (.aload_n 0, 1) := by decide +kernel
theorem dX5_init_20 : decode cX5_init 20 = .ok (.bipush 36, 2) := by decide +kernel
theorem dX5_init_22 : decode cX5_init 22 = .ok (.newarray .long, 2) := by decide +kernel
theorem dX5_init_24 : decode cX5_init 24 = .ok (.putfield 21, 3) := by decide +kernel
theorem dX5_init_27 : decode cX5_init 27 = .ok (.return_, 1) := by decide +kernel
theorem dX5_isFull_0 : decode cX5_isFull 0 = .ok (.aload_n 0, 1) := by decide +kernel
theorem dX5_isFull_1 : decode cX5_isFull 1 = .ok (.getfield 15, 3) := by decide +kernel
theorem dX5_isFull_4 : decode cX5_isFull 4 = .ok (.iconst 4, 1) := by decide +kernel
theorem dX5_isFull_5 : decode cX5_isFull 5 = .ok (.if_icmp .lt 7, 3) := by decide +kernel
theorem dX5_isFull_12 : decode cX5_isFull 12 = .ok (.iconst 0, 1) := by decide +kernel
theorem dX5_isFull_13 : decode cX5_isFull 13 = .ok (.ireturn, 1) := by decide +kernel
theorem dX5_isPlace_0 : decode cX5_isPlace 0 = .ok (.iload_n 1, 1) := by decide +kernel
theorem dX5_isPlace_1 : decode cX5_isPlace 1 = .ok (.ifCond .lt 27, 3) := by decide +kernel
theorem dX5_isPlace_4 : decode cX5_isPlace 4 = .ok (.iload_n 1, 1) := by decide +kernel
theorem dX5_isPlace_5 : decode cX5_isPlace 5 = .ok (.aload_n 0, 1) := by decide +kernel
theorem dX5_isPlace_6 : decode cX5_isPlace 6 = .ok (.getfield 9, 3) := by decide +kernel
theorem dX5_isPlace_9 : decode cX5_isPlace 9 = .ok (.if_icmp .ge 19, 3) := by decide +kernel
theorem dX5_isPlace_12 : decode cX5_isPlace 12 = .ok (.iload_n 2, 1) := by decide +kernel
theorem dX5_isPlace_13 : decode cX5_isPlace 13 = .ok (.ifCond .lt 15, 3) := by decide +kernel
theorem dX5_isPlace_16 : decode cX5_isPlace 16 = .ok (.iload_n 2, 1) := by decide +kernel
theorem dX5_isPlace_17 : decode cX5_isPlace 17 = .ok (.aload_n 0, 1) := by decide +kernel
theorem dX5_isPlace_18 : decode cX5_isPlace 18 = .ok (.getfield 9, 3) := by decide +kernel
theorem dX5_isPlace_21 : decode cX5_isPlace 21 = .ok (.if_icmp .ge 7, 3) := by decide +kernel
theorem dX5_isPlace_24 : decode cX5_isPlace 24 = .ok (.iconst 1, 1) := by decide +kernel
theorem dX5_isPlace_25 : decode cX5_isPlace 25 = .ok (.goto 4, 3) := by decide +kernel
theorem dX5_isPlace_28 : decode cX5_isPlace 28 = .ok (.iconst 0, 1) := by decide +kernel
theorem dX5_isPlace_29 : decode cX5_isPlace 29 = .ok (.ireturn, 1) := by decide +kernel
theorem dX6_become_0 : decode cX6_become 0 = .ok (.aload_n 0, 1) := by decide +kernel
theorem dX6_become_1 : decode cX6_become 1 = .ok (.iload_n 1, 1) := by decide +kernel
theorem dX6_become_2 : decode cX6_become 2 = .ok (.putfield 9, 3) := by decide +kernel
theorem dX6_become_5 : decode cX6_become 5 = .ok (.aload_n 0, 1) := by decide +kernel
theorem dX6_become_6 : decode cX6_become 6 = .ok (.iload_n 2, 1) := by decide +kernel
theorem dX6_become_7 : decode cX6_become 7 = .ok (.putfield 15, 3) := by decide +kernel
theorem dX6_become_10 : decode cX6_become 10 = .ok (.aload_n 0, 1) := by decide +kernel
theorem dX6_become_11 : decode cX6_become 11 = .ok (.getfield 18, 3) := by decide +kernel
theorem dX6_become_14 : decode cX6_become 14 = .ok (.lconst 0, 1) := by decide +kernel
theorem dX6_become_15 : decode cX6_become 15 = .ok (.invokestatic 22, 3) := by decide +kernel
theorem dX6_become_18 : decode cX6_become 18 = .ok (.return_, 1) := by decide +kernel
theorem dX6_init_0 : decode cX6_init 0 = .ok (.aload_n 0, 1) := by decide +kernel
theorem dX6_init_1 : decode cX6_init 1 = .ok (.invokespecial 3, 3) := by decide +kernel
theorem dX6_init_4 : decode cX6_init 4 = .ok (.aload_n 0, 1) := by decide +kernel
theorem dX6_init_5 : decode cX6_init 5 = .ok (.iconst (-1), 1) := by decide +kernel
theorem dX6_init_6 : decode cX6_init 6 = .ok (.putfield 9, 3) := by decide +kernel
theorem dX6_init_9 : decode cX6_init 9 = .ok (.aload_n 0, 1) := by decide +kernel
theorem dX6_init_10 : decode cX6_init 10 = .ok (.iconst 0, 1) := by decide +kernel
theorem dX6_init_11 : decode cX6_init 11 = .ok (.putfield 15, 3) := by decide +kernel
theorem dX6_init_14 : decode cX6_init 14 = .ok (.aload_n 0, 1) := by decide +kernel
theorem dX6_init_15 : decode cX6_init 15 = .ok (.bipush 40, 2) := by decide +kernel
theorem dX6_init_17 : decode cX6_init 17 = .ok (.newarray .long, 2) := by decide +kernel
theorem dX6_init_19 : decode cX6_init 19 = .ok (.putfield 18, 3) := by decide +kernel
theorem dX6_init_22 : decode cX6_init 22 = .ok (.return_, 1) := by decide +kernel
theorem dX6_isMissing_0 : decode cX6_isMissing 0 = .ok (.aload_n 0, 1) := by decide +kernel
theorem dX6_isMissing_1 : decode cX6_isMissing 1 = .ok (.getfield 9, 3) := by decide +kernel
theorem dX6_isMissing_4 : decode cX6_isMissing 4 = .ok (.iconst (-1), 1) := by decide +kernel
theorem dX6_isMissing_5 : decode cX6_isMissing 5 = .ok (.if_icmp .ne 7, 3) := by decide +kernel
theorem dX6_isMissing_8 : decode cX6_isMissing 8 = .ok (.iconst 1, 1) := by decide +kernel
theorem dX6_isMissing_9 : decode cX6_isMissing 9 = .ok (.goto 4, 3) := by decide +kernel
theorem dX6_isMissing_13 : decode cX6_isMissing 13 = .ok (.ireturn, 1) := by decide +kernel
theorem dX7_addUp_0 : decode cX7_addUp 0 = .ok (.lconst 0, 1) := by decide +kernel
theorem dX7_addUp_1 : decode cX7_addUp 1 = .ok (.lstore 7, 2) := by decide +kernel
theorem dX7_addUp_3 : decode cX7_addUp 3 = .ok (.iconst 0, 1) := by decide +kernel
theorem dX7_addUp_4 : decode cX7_addUp 4 = .ok (.istore 9, 2) := by decide +kernel
theorem dX7_addUp_6 : decode cX7_addUp 6 = .ok (.iload 9, 2) := by decide +kernel
theorem dX7_addUp_8 : decode cX7_addUp 8 = .ok (.iload 6, 2) := by decide +kernel
theorem dX7_addUp_10 : decode cX7_addUp 10 = .ok (.if_icmp .ge 33, 3) := by decide +kernel
theorem dX7_addUp_13 : decode cX7_addUp 13 = .ok (.lload 7, 2) := by decide +kernel
theorem dX7_addUp_15 : decode cX7_addUp 15 = .ok (.aload_n 0, 1) := by decide +kernel
theorem dX7_addUp_16 : decode cX7_addUp 16 = .ok (.iload_n 1, 1) := by decide +kernel
theorem dX7_addUp_17 : decode cX7_addUp 17 = .ok (.iload 9, 2) := by decide +kernel
theorem dX7_addUp_19 : decode cX7_addUp 19 = .ok (.iload_n 2, 1) := by decide +kernel
theorem dX7_addUp_20 : decode cX7_addUp 20 = .ok (.imul, 1) := by decide +kernel
theorem dX7_addUp_21 : decode cX7_addUp 21 = .ok (.iadd, 1) := by decide +kernel
theorem dX7_addUp_22 : decode cX7_addUp 22 = .ok (.laload, 1) := by decide +kernel
theorem dX7_addUp_23 : decode cX7_addUp 23 = .ok (.aload_n 3, 1) := by decide +kernel
theorem dX7_addUp_24 : decode cX7_addUp 24 = .ok (.iload 4, 2) := by decide +kernel
theorem dX7_addUp_26 : decode cX7_addUp 26 = .ok (.iload 9, 2) := by decide +kernel
theorem dX7_addUp_28 : decode cX7_addUp 28 = .ok (.iload 5, 2) := by decide +kernel
theorem dX7_addUp_30 : decode cX7_addUp 30 = .ok (.imul, 1) := by decide +kernel
theorem dX7_addUp_31 : decode cX7_addUp 31 = .ok (.iadd, 1) := by decide +kernel
theorem dX7_addUp_32 : decode cX7_addUp 32 = .ok (.laload, 1) := by decide +kernel
theorem dX7_addUp_33 : decode cX7_addUp 33 = .ok (.lmul, 1) := by decide +kernel
theorem dX7_addUp_34 : decode cX7_addUp 34 = .ok (.ladd, 1) := by decide +kernel
theorem dX7_addUp_35 : decode cX7_addUp 35 = .ok (.lstore 7, 2) := by decide +kernel
theorem dX7_addUp_37 : decode cX7_addUp 37 = .ok (.iinc 9 1, 3) := by decide +kernel
theorem dX7_addUp_40 : decode cX7_addUp 40 = .ok (.goto (-34), 3) := by decide +kernel
theorem dX7_addUp_43 : decode cX7_addUp 43 = .ok (.lload 7, 2) := by decide +kernel
theorem dX7_addUp_45 : decode cX7_addUp 45 = .ok (.lreturn, 1) := by decide +kernel
theorem dX7_areAlike_0 : decode cX7_areAlike 0 = .ok (.iconst 0, 1) := by decide +kernel
theorem dX7_areAlike_1 : decode cX7_areAlike 1 = .ok (.istore_n 3, 1) := by decide +kernel
theorem dX7_areAlike_2 : decode cX7_areAlike 2 = .ok (.iload_n 3, 1) := by decide +kernel
theorem dX7_areAlike_3 : decode cX7_areAlike 3 = .ok (.iload_n 2, 1) := by decide +kernel
theorem dX7_areAlike_4 : decode cX7_areAlike 4 = .ok (.if_icmp .ge 21, 3) := by decide +kernel
theorem dX7_areAlike_7 : decode cX7_areAlike 7 = .ok (.aload_n 0, 1) := by decide +kernel
theorem dX7_areAlike_8 : decode cX7_areAlike 8 = .ok (.iload_n 3, 1) := by decide +kernel
theorem dX7_areAlike_9 : decode cX7_areAlike 9 = .ok (.laload, 1) := by decide +kernel
theorem dX7_areAlike_10 : decode cX7_areAlike 10 = .ok (.aload_n 1, 1) := by decide +kernel
theorem dX7_areAlike_11 : decode cX7_areAlike 11 = .ok (.iload_n 3, 1) := by decide +kernel
theorem dX7_areAlike_12 : decode cX7_areAlike 12 = .ok (.laload, 1) := by decide +kernel
theorem dX7_areAlike_13 : decode cX7_areAlike 13 = .ok (.lcmp, 1) := by decide +kernel
theorem dX7_areAlike_14 : decode cX7_areAlike 14 = .ok (.ifCond .eq 5, 3) := by decide +kernel
theorem dX7_areAlike_19 : decode cX7_areAlike 19 = .ok (.iinc 3 1, 3) := by decide +kernel
theorem dX7_areAlike_22 : decode cX7_areAlike 22 = .ok (.goto (-20), 3) := by decide +kernel
theorem dX7_areAlike_25 : decode cX7_areAlike 25 = .ok (.iconst 1, 1) := by decide +kernel
theorem dX7_areAlike_26 : decode cX7_areAlike 26 = .ok (.ireturn, 1) := by decide +kernel
theorem dX7_becomeOne_0 : decode cX7_becomeOne 0 = .ok (.aload_n 0, 1) := by decide +kernel
theorem dX7_becomeOne_1 : decode cX7_becomeOne 1 = .ok (.lconst 0, 1) := by decide +kernel
theorem dX7_becomeOne_2 : decode cX7_becomeOne 2 = .ok (.invokestatic 7, 3) := by decide +kernel
theorem dX7_becomeOne_5 : decode cX7_becomeOne 5 = .ok (.iconst 0, 1) := by decide +kernel
theorem dX7_becomeOne_6 : decode cX7_becomeOne 6 = .ok (.istore_n 2, 1) := by decide +kernel
theorem dX7_becomeOne_7 : decode cX7_becomeOne 7 = .ok (.iload_n 2, 1) := by decide +kernel
theorem dX7_becomeOne_8 : decode cX7_becomeOne 8 = .ok (.iload_n 1, 1) := by decide +kernel
theorem dX7_becomeOne_9 : decode cX7_becomeOne 9 = .ok (.if_icmp .ge 17, 3) := by decide +kernel
theorem dX7_becomeOne_12 : decode cX7_becomeOne 12 = .ok (.aload_n 0, 1) := by decide +kernel
theorem dX7_becomeOne_13 : decode cX7_becomeOne 13 = .ok (.iload_n 2, 1) := by decide +kernel
theorem dX7_becomeOne_14 : decode cX7_becomeOne 14 = .ok (.iload_n 1, 1) := by decide +kernel
theorem dX7_becomeOne_15 : decode cX7_becomeOne 15 = .ok (.imul, 1) := by decide +kernel
theorem dX7_becomeOne_16 : decode cX7_becomeOne 16 = .ok (.iload_n 2, 1) := by decide +kernel
theorem dX7_becomeOne_17 : decode cX7_becomeOne 17 = .ok (.iadd, 1) := by decide +kernel
theorem dX7_becomeOne_18 : decode cX7_becomeOne 18 = .ok (.lconst 1, 1) := by decide +kernel
theorem dX7_becomeOne_19 : decode cX7_becomeOne 19 = .ok (.lastore, 1) := by decide +kernel
theorem dX7_becomeOne_20 : decode cX7_becomeOne 20 = .ok (.iinc 2 1, 3) := by decide +kernel
theorem dX7_becomeOne_23 : decode cX7_becomeOne 23 = .ok (.goto (-16), 3) := by decide +kernel
theorem dX7_becomeOne_26 : decode cX7_becomeOne 26 = .ok (.return_, 1) := by decide +kernel
theorem dX7_commonDivisor_0 : decode cX7_commonDivisor 0 = .ok (.lconst 0, 1) := by decide +kernel
theorem dX7_commonDivisor_1 : decode cX7_commonDivisor 1 = .ok (.lstore_n 2, 1) := by decide +kernel
theorem dX7_commonDivisor_2 : decode cX7_commonDivisor 2 = .ok (.iconst 0, 1) := by decide +kernel
theorem dX7_commonDivisor_3 : decode cX7_commonDivisor 3 = .ok (.istore 4, 2) := by decide +kernel
theorem dX7_commonDivisor_5 : decode cX7_commonDivisor 5 = .ok (.iload 4, 2) := by decide +kernel
theorem dX7_commonDivisor_7 : decode cX7_commonDivisor 7 = .ok (.iload_n 1, 1) := by decide +kernel
theorem dX7_commonDivisor_8 : decode cX7_commonDivisor 8 = .ok (.if_icmp .ge 52, 3) := by decide +kernel
theorem dX7_commonDivisor_11 : decode cX7_commonDivisor 11 = .ok (.aload_n 0, 1) := by decide +kernel
theorem dX7_commonDivisor_12 : decode cX7_commonDivisor 12 = .ok (.iload 4, 2) := by decide +kernel
theorem dX7_commonDivisor_14 : decode cX7_commonDivisor 14 = .ok (.laload, 1) := by decide +kernel
theorem dX7_commonDivisor_15 : decode cX7_commonDivisor 15 = .ok (.lstore 5, 2) := by decide +kernel
theorem dX7_commonDivisor_17 : decode cX7_commonDivisor 17 = .ok (.iconst 0, 1) := by decide +kernel
theorem dX7_commonDivisor_18 : decode cX7_commonDivisor 18 = .ok (.istore 7, 2) := by decide +kernel
theorem dX7_commonDivisor_20 : decode cX7_commonDivisor 20 = .ok (.iload 7, 2) := by decide +kernel
theorem dX7_commonDivisor_22 : decode cX7_commonDivisor 22 = .ok (.sipush 200, 3) := by decide +kernel
theorem dX7_commonDivisor_25 : decode cX7_commonDivisor 25 = .ok (.if_icmp .ge 29, 3) := by decide +kernel
theorem dX7_commonDivisor_28 : decode cX7_commonDivisor 28 = .ok (.lload 5, 2) := by decide +kernel
theorem dX7_commonDivisor_30 : decode cX7_commonDivisor 30 = .ok (.lconst 0, 1) := by decide +kernel
theorem dX7_commonDivisor_31 : decode cX7_commonDivisor 31 = .ok (.lcmp, 1) := by decide +kernel
theorem dX7_commonDivisor_32 : decode cX7_commonDivisor 32 = .ok (.ifCond .eq 22, 3) := by decide +kernel
theorem dX7_commonDivisor_35 : decode cX7_commonDivisor 35 = .ok (.lload_n 2, 1) := by decide +kernel
theorem dX7_commonDivisor_36 : decode cX7_commonDivisor 36 = .ok (.lload 5, 2) := by decide +kernel
theorem dX7_commonDivisor_38 : decode cX7_commonDivisor 38 = .ok (.lrem, 1) := by decide +kernel
theorem dX7_commonDivisor_39 : decode cX7_commonDivisor 39 = .ok (.lstore 8, 2) := by decide +kernel
theorem dX7_commonDivisor_41 : decode cX7_commonDivisor 41 = .ok (.lload 5, 2) := by decide +kernel
theorem dX7_commonDivisor_43 : decode cX7_commonDivisor 43 = .ok (.lstore_n 2, 1) := by decide +kernel
theorem dX7_commonDivisor_44 : decode cX7_commonDivisor 44 = .ok (.lload 8, 2) := by decide +kernel
theorem dX7_commonDivisor_46 : decode cX7_commonDivisor 46 = .ok (.lstore 5, 2) := by decide +kernel
theorem dX7_commonDivisor_48 : decode cX7_commonDivisor 48 = .ok (.iinc 7 1, 3) := by decide +kernel
theorem dX7_commonDivisor_51 : decode cX7_commonDivisor 51 = .ok (.goto (-31), 3) := by decide +kernel
theorem dX7_commonDivisor_54 : decode cX7_commonDivisor 54 = .ok (.iinc 4 1, 3) := by decide +kernel
theorem dX7_commonDivisor_57 : decode cX7_commonDivisor 57 = .ok (.goto (-52), 3) := by decide +kernel
theorem dX7_commonDivisor_60 : decode cX7_commonDivisor 60 = .ok (.lload_n 2, 1) := by decide +kernel
theorem dX7_commonDivisor_61 : decode cX7_commonDivisor 61 = .ok (.invokestatic 35, 3) := by decide +kernel
theorem dX7_commonDivisor_64 : decode cX7_commonDivisor 64 = .ok (.lreturn, 1) := by decide +kernel
theorem dX7_isOne_0 : decode cX7_isOne 0 = .ok (.iconst 0, 1) := by decide +kernel
theorem dX7_isOne_1 : decode cX7_isOne 1 = .ok (.istore_n 2, 1) := by decide +kernel
theorem dX7_isOne_2 : decode cX7_isOne 2 = .ok (.iload_n 2, 1) := by decide +kernel
theorem dX7_isOne_3 : decode cX7_isOne 3 = .ok (.iload_n 1, 1) := by decide +kernel
theorem dX7_isOne_4 : decode cX7_isOne 4 = .ok (.if_icmp .ge 46, 3) := by decide +kernel
theorem dX7_isOne_7 : decode cX7_isOne 7 = .ok (.iconst 0, 1) := by decide +kernel
theorem dX7_isOne_8 : decode cX7_isOne 8 = .ok (.istore_n 3, 1) := by decide +kernel
theorem dX7_isOne_9 : decode cX7_isOne 9 = .ok (.iload_n 3, 1) := by decide +kernel
theorem dX7_isOne_10 : decode cX7_isOne 10 = .ok (.iload_n 1, 1) := by decide +kernel
theorem dX7_isOne_11 : decode cX7_isOne 11 = .ok (.if_icmp .ge 33, 3) := by decide +kernel
theorem dX7_isOne_14 : decode cX7_isOne 14 = .ok (.aload_n 0, 1) := by decide +kernel
theorem dX7_isOne_15 : decode cX7_isOne 15 = .ok (.iload_n 2, 1) := by decide +kernel
theorem dX7_isOne_16 : decode cX7_isOne 16 = .ok (.iload_n 1, 1) := by decide +kernel
theorem dX7_isOne_17 : decode cX7_isOne 17 = .ok (.imul, 1) := by decide +kernel
theorem dX7_isOne_18 : decode cX7_isOne 18 = .ok (.iload_n 3, 1) := by decide +kernel
theorem dX7_isOne_19 : decode cX7_isOne 19 = .ok (.iadd, 1) := by decide +kernel
theorem dX7_isOne_20 : decode cX7_isOne 20 = .ok (.laload, 1) := by decide +kernel
theorem dX7_isOne_21 : decode cX7_isOne 21 = .ok (.iload_n 2, 1) := by decide +kernel
theorem dX7_isOne_22 : decode cX7_isOne 22 = .ok (.iload_n 3, 1) := by decide +kernel
theorem dX7_isOne_23 : decode cX7_isOne 23 = .ok (.if_icmp .ne 7, 3) := by decide +kernel
theorem dX7_isOne_26 : decode cX7_isOne 26 = .ok (.iconst 1, 1) := by decide +kernel
theorem dX7_isOne_27 : decode cX7_isOne 27 = .ok (.goto 4, 3) := by decide +kernel
theorem dX7_isOne_30 : decode cX7_isOne 30 = .ok (.iconst 0, 1) := by decide +kernel
theorem dX7_isOne_31 : decode cX7_isOne 31 = .ok (.i2l, 1) := by decide +kernel
theorem dX7_isOne_32 : decode cX7_isOne 32 = .ok (.lcmp, 1) := by decide +kernel
theorem dX7_isOne_33 : decode cX7_isOne 33 = .ok (.ifCond .eq 5, 3) := by decide +kernel
theorem dX7_isOne_38 : decode cX7_isOne 38 = .ok (.iinc 3 1, 3) := by decide +kernel
theorem dX7_isOne_41 : decode cX7_isOne 41 = .ok (.goto (-32), 3) := by decide +kernel
theorem dX7_isOne_44 : decode cX7_isOne 44 = .ok (.iinc 2 1, 3) := by decide +kernel
theorem dX7_isOne_47 : decode cX7_isOne 47 = .ok (.goto (-45), 3) := by decide +kernel
theorem dX7_isOne_50 : decode cX7_isOne 50 = .ok (.iconst 1, 1) := by decide +kernel
theorem dX7_isOne_51 : decode cX7_isOne 51 = .ok (.ireturn, 1) := by decide +kernel
theorem dX7_move_0 : decode cX7_move 0 = .ok (.iconst 0, 1) := by decide +kernel
theorem dX7_move_1 : decode cX7_move 1 = .ok (.istore 6, 2) := by decide +kernel
theorem dX7_move_3 : decode cX7_move 3 = .ok (.iload 6, 2) := by decide +kernel
theorem dX7_move_5 : decode cX7_move 5 = .ok (.iload 5, 2) := by decide +kernel
theorem dX7_move_7 : decode cX7_move 7 = .ok (.if_icmp .ge 31, 3) := by decide +kernel
theorem dX7_move_10 : decode cX7_move 10 = .ok (.aload 4, 2) := by decide +kernel
theorem dX7_move_12 : decode cX7_move 12 = .ok (.iload 6, 2) := by decide +kernel
theorem dX7_move_14 : decode cX7_move 14 = .ok (.aload_n 0, 1) := by decide +kernel
theorem dX7_move_15 : decode cX7_move 15 = .ok (.iload_n 1, 1) := by decide +kernel
theorem dX7_move_16 : decode cX7_move 16 = .ok (.iload 6, 2) := by decide +kernel
theorem dX7_move_18 : decode cX7_move 18 = .ok (.iload 5, 2) := by decide +kernel
theorem dX7_move_20 : decode cX7_move 20 = .ok (.imul, 1) := by decide +kernel
theorem dX7_move_21 : decode cX7_move 21 = .ok (.iadd, 1) := by decide +kernel
theorem dX7_move_22 : decode cX7_move 22 = .ok (.iconst 1, 1) := by decide +kernel
theorem dX7_move_23 : decode cX7_move 23 = .ok (.aload_n 2, 1) := by decide +kernel
theorem dX7_move_24 : decode cX7_move 24 = .ok (.iload_n 3, 1) := by decide +kernel
theorem dX7_move_25 : decode cX7_move 25 = .ok (.iconst 1, 1) := by decide +kernel
theorem dX7_move_26 : decode cX7_move 26 = .ok (.iload 5, 2) := by decide +kernel
theorem dX7_move_28 : decode cX7_move 28 = .ok (.invokestatic 13, 3) := by decide +kernel
theorem dX7_move_31 : decode cX7_move 31 = .ok (.lastore, 1) := by decide +kernel
theorem dX7_move_32 : decode cX7_move 32 = .ok (.iinc 6 1, 3) := by decide +kernel
theorem dX7_move_35 : decode cX7_move 35 = .ok (.goto (-32), 3) := by decide +kernel
theorem dX7_move_38 : decode cX7_move 38 = .ok (.return_, 1) := by decide +kernel
theorem dX7_multiplyTurned_0 : decode cX7_multiplyTurned 0 = .ok (.iconst 0, 1) := by decide +kernel
theorem dX7_multiplyTurned_1 : decode cX7_multiplyTurned 1 = .ok (.istore 6, 2) := by decide +kernel
theorem dX7_multiplyTurned_3 : decode cX7_multiplyTurned 3 = .ok (.iload 6, 2) := by decide +kernel
theorem dX7_multiplyTurned_5 : decode cX7_multiplyTurned 5 = .ok (.iload 5, 2) := by decide +kernel
theorem dX7_multiplyTurned_7 : decode cX7_multiplyTurned 7 = .ok (.if_icmp .ge 55, 3) := by decide +kernel
theorem dX7_multiplyTurned_10 : decode cX7_multiplyTurned 10 = .ok (.iconst 0, 1) := by decide +kernel
theorem dX7_multiplyTurned_11 : decode cX7_multiplyTurned 11 = .ok (.istore 7, 2) := by decide +kernel
theorem dX7_multiplyTurned_13 : decode cX7_multiplyTurned 13 = .ok (.iload 7, 2) := by decide +kernel
theorem dX7_multiplyTurned_15 : decode cX7_multiplyTurned 15 = .ok (.iload 5, 2) := by decide +kernel
theorem dX7_multiplyTurned_17 : decode cX7_multiplyTurned 17 = .ok (.if_icmp .ge 39, 3) := by decide +kernel
theorem dX7_multiplyTurned_20 : decode cX7_multiplyTurned 20 = .ok (.aload 4, 2) := by decide +kernel
theorem dX7_multiplyTurned_22 : decode cX7_multiplyTurned 22 = .ok (.iload 6, 2) := by decide +kernel
theorem dX7_multiplyTurned_24 : decode cX7_multiplyTurned 24 = .ok (.iload 5, 2) := by decide +kernel
theorem dX7_multiplyTurned_26 : decode cX7_multiplyTurned 26 = .ok (.imul, 1) := by decide +kernel
theorem dX7_multiplyTurned_27 : decode cX7_multiplyTurned 27 = .ok (.iload 7, 2) := by decide +kernel
theorem dX7_multiplyTurned_29 : decode cX7_multiplyTurned 29 = .ok (.iadd, 1) := by decide +kernel
theorem dX7_multiplyTurned_30 : decode cX7_multiplyTurned 30 = .ok (.aload_n 0, 1) := by decide +kernel
theorem dX7_multiplyTurned_31 : decode cX7_multiplyTurned 31 = .ok (.iload_n 1, 1) := by decide +kernel
theorem dX7_multiplyTurned_32 : decode cX7_multiplyTurned 32 = .ok (.iload 6, 2) := by decide +kernel
theorem dX7_multiplyTurned_34 : decode cX7_multiplyTurned 34 = .ok (.iadd, 1) := by decide +kernel
theorem dX7_multiplyTurned_35 : decode cX7_multiplyTurned 35 = .ok (.iload 5, 2) := by decide +kernel
theorem dX7_multiplyTurned_37 : decode cX7_multiplyTurned 37 = .ok (.aload_n 2, 1) := by decide +kernel
theorem dX7_multiplyTurned_38 : decode cX7_multiplyTurned 38 = .ok (.iload_n 3, 1) := by decide +kernel
theorem dX7_multiplyTurned_39 : decode cX7_multiplyTurned 39 = .ok (.iload 7, 2) := by decide +kernel
theorem dX7_multiplyTurned_41 : decode cX7_multiplyTurned 41 = .ok (.iadd, 1) := by decide +kernel
theorem dX7_multiplyTurned_42 : decode cX7_multiplyTurned 42 = .ok (.iload 5, 2) := by decide +kernel
theorem dX7_multiplyTurned_44 : decode cX7_multiplyTurned 44 = .ok (.iload 5, 2) := by decide +kernel
theorem dX7_multiplyTurned_46 : decode cX7_multiplyTurned 46 = .ok (.invokestatic 13, 3) := by decide +kernel
theorem dX7_multiplyTurned_49 : decode cX7_multiplyTurned 49 = .ok (.lastore, 1) := by decide +kernel
theorem dX7_multiplyTurned_50 : decode cX7_multiplyTurned 50 = .ok (.iinc 7 1, 3) := by decide +kernel
theorem dX7_multiplyTurned_53 : decode cX7_multiplyTurned 53 = .ok (.goto (-40), 3) := by decide +kernel
theorem dX7_multiplyTurned_56 : decode cX7_multiplyTurned 56 = .ok (.iinc 6 1, 3) := by decide +kernel
theorem dX7_multiplyTurned_59 : decode cX7_multiplyTurned 59 = .ok (.goto (-56), 3) := by decide +kernel
theorem dX7_multiplyTurned_62 : decode cX7_multiplyTurned 62 = .ok (.return_, 1) := by decide +kernel
theorem dX7_reduce_0 : decode cX7_reduce 0 = .ok (.iload_n 2, 1) := by decide +kernel
theorem dX7_reduce_1 : decode cX7_reduce 1 = .ok (.ifCond .gt 4, 3) := by decide +kernel
theorem dX7_reduce_5 : decode cX7_reduce 5 = .ok (.iconst 0, 1) := by decide +kernel
theorem dX7_reduce_6 : decode cX7_reduce 6 = .ok (.istore_n 3, 1) := by decide +kernel
theorem dX7_reduce_7 : decode cX7_reduce 7 = .ok (.iload_n 3, 1) := by decide +kernel
theorem dX7_reduce_8 : decode cX7_reduce 8 = .ok (.iload_n 1, 1) := by decide +kernel
theorem dX7_reduce_9 : decode cX7_reduce 9 = .ok (.if_icmp .ge 20, 3) := by decide +kernel
theorem dX7_reduce_12 : decode cX7_reduce 12 = .ok (.aload_n 0, 1) := by decide +kernel
theorem dX7_reduce_13 : decode cX7_reduce 13 = .ok (.iload_n 3, 1) := by decide +kernel
theorem dX7_reduce_14 : decode cX7_reduce 14 = .ok (.aload_n 0, 1) := by decide +kernel
theorem dX7_reduce_15 : decode cX7_reduce 15 = .ok (.iload_n 3, 1) := by decide +kernel
theorem dX7_reduce_16 : decode cX7_reduce 16 = .ok (.laload, 1) := by decide +kernel
theorem dX7_reduce_17 : decode cX7_reduce 17 = .ok (.iload_n 2, 1) := by decide +kernel
theorem dX7_reduce_18 : decode cX7_reduce 18 = .ok (.i2l, 1) := by decide +kernel
theorem dX7_reduce_19 : decode cX7_reduce 19 = .ok (.invokestatic 29, 3) := by decide +kernel
theorem dX7_reduce_22 : decode cX7_reduce 22 = .ok (.lastore, 1) := by decide +kernel
theorem dX7_reduce_23 : decode cX7_reduce 23 = .ok (.iinc 3 1, 3) := by decide +kernel
theorem dX7_reduce_26 : decode cX7_reduce 26 = .ok (.goto (-19), 3) := by decide +kernel
theorem dX7_reduce_29 : decode cX7_reduce 29 = .ok (.return_, 1) := by decide +kernel
theorem dX8_init_0 : decode cX8_init 0 = .ok (.aload_n 0, 1) := by decide +kernel
theorem dX8_init_1 : decode cX8_init 1 = .ok (.invokespecial 1, 3) := by decide +kernel
theorem dX8_init_4 : decode cX8_init 4 = .ok (.return_, 1) := by decide +kernel
theorem dX9_init_0 : decode cX9_init 0 = .ok (.aload_n 0, 1) := by decide +kernel
theorem dX9_init_1 : decode cX9_init 1 = .ok (.invokespecial 3, 3) := by decide +kernel
theorem dX9_init_4 : decode cX9_init 4 = .ok (.aload_n 0, 1) := by decide +kernel
theorem dX9_init_5 : decode cX9_init 5 = .ok (.bipush 120, 2) := by decide +kernel
theorem dX9_init_7 : decode cX9_init 7 = .ok (.newarray .byte, 2) := by decide +kernel
theorem dX9_init_9 : decode cX9_init 9 = .ok (.putfield 9, 3) := by decide +kernel
theorem dX9_init_12 : decode cX9_init 12 = .ok (.aload_n 0, 1) := by decide +kernel
theorem dX9_init_13 : decode cX9_init 13 = .ok (.iconst 0, 1) := by decide +kernel
theorem dX9_init_14 : decode cX9_init 14 = .ok (.putfield 15, 3) := by decide +kernel
theorem dX9_init_17 : decode cX9_init 17 = .ok (.aload_n 0, 1) := by decide +kernel
theorem dX9_init_18 : decode cX9_init 18 = .ok (.iconst 0, 1) := by decide +kernel
theorem dX9_init_19 : decode cX9_init 19 = .ok (.putfield 19, 3) := by decide +kernel
theorem dX9_init_22 : decode cX9_init 22 = .ok (.aload_n 0, 1) := by decide +kernel
theorem dX9_init_23 : decode cX9_init 23 = .ok (.iconst 0, 1) := by decide +kernel
theorem dX9_init_24 : decode cX9_init 24 = .ok (.putfield 22, 3) := by decide +kernel
theorem dX9_init_27 : decode cX9_init 27 = .ok (.aload_n 0, 1) := by decide +kernel
theorem dX9_init_28 : decode cX9_init 28 = .ok (.bipush 36, 2) := by decide +kernel
theorem dX9_init_30 : decode cX9_init 30 = .ok (.newarray .long, 2) := by decide +kernel
theorem dX9_init_32 : decode cX9_init 32 = .ok (.putfield 25, 3) := by decide +kernel
theorem dX9_init_35 : decode cX9_init 35 = .ok (.return_, 1) := by decide +kernel
theorem dX9_read_0 : decode cX9_read 0 = .ok (.aload_n 0, 1) := by decide +kernel
theorem dX9_read_1 : decode cX9_read 1 = .ok (.iconst 0, 1) := by decide +kernel
theorem dX9_read_2 : decode cX9_read 2 = .ok (.putfield 19, 3) := by decide +kernel
theorem dX9_read_5 : decode cX9_read 5 = .ok (.aload_n 0, 1) := by decide +kernel
theorem dX9_read_6 : decode cX9_read 6 = .ok (.iconst 0, 1) := by decide +kernel
theorem dX9_read_7 : decode cX9_read 7 = .ok (.putfield 22, 3) := by decide +kernel
theorem dX9_read_10 : decode cX9_read 10 = .ok (.aload_n 0, 1) := by decide +kernel
theorem dX9_read_11 : decode cX9_read 11 = .ok (.invokevirtual 29, 3) := by decide +kernel
theorem dX9_read_14 : decode cX9_read 14 = .ok (.aload_n 0, 1) := by decide +kernel
theorem dX9_read_15 : decode cX9_read 15 = .ok (.getfield 19, 3) := by decide +kernel
theorem dX9_read_18 : decode cX9_read 18 = .ok (.aload_n 0, 1) := by decide +kernel
theorem dX9_read_19 : decode cX9_read 19 = .ok (.getfield 15, 3) := by decide +kernel
theorem dX9_read_22 : decode cX9_read 22 = .ok (.if_icmp .ge 38, 3) := by decide +kernel
theorem dX9_read_60 : decode cX9_read 60 = .ok (.iconst 1, 1) := by decide +kernel
theorem dX9_read_61 : decode cX9_read 61 = .ok (.ireturn, 1) := by decide +kernel
theorem dX9_receive_0 : decode cX9_receive 0 = .ok (.iconst 0, 1) := by decide +kernel
theorem dX9_receive_1 : decode cX9_receive 1 = .ok (.istore 4, 2) := by decide +kernel
theorem dX9_receive_3 : decode cX9_receive 3 = .ok (.iload 4, 2) := by decide +kernel
theorem dX9_receive_5 : decode cX9_receive 5 = .ok (.iload_n 3, 1) := by decide +kernel
theorem dX9_receive_6 : decode cX9_receive 6 = .ok (.if_icmp .ge 46, 3) := by decide +kernel
theorem dX9_receive_9 : decode cX9_receive 9 = .ok (.aload_n 0, 1) := by decide +kernel
theorem dX9_receive_10 : decode cX9_receive 10 = .ok (.getfield 15, 3) := by decide +kernel
theorem dX9_receive_13 : decode cX9_receive 13 = .ok (.bipush 120, 2) := by decide +kernel
theorem dX9_receive_15 : decode cX9_receive 15 = .ok (.if_icmp .ge 37, 3) := by decide +kernel
theorem dX9_receive_18 : decode cX9_receive 18 = .ok (.aload_n 0, 1) := by decide +kernel
theorem dX9_receive_19 : decode cX9_receive 19 = .ok (.getfield 9, 3) := by decide +kernel
theorem dX9_receive_22 : decode cX9_receive 22 = .ok (.aload_n 0, 1) := by decide +kernel
theorem dX9_receive_23 : decode cX9_receive 23 = .ok (.getfield 15, 3) := by decide +kernel
theorem dX9_receive_26 : decode cX9_receive 26 = .ok (.lload_n 1, 1) := by decide +kernel
theorem dX9_receive_27 : decode cX9_receive 27 = .ok (.bipush 8, 2) := by decide +kernel
theorem dX9_receive_29 : decode cX9_receive 29 = .ok (.iload 4, 2) := by decide +kernel
theorem dX9_receive_31 : decode cX9_receive 31 = .ok (.imul, 1) := by decide +kernel
theorem dX9_receive_32 : decode cX9_receive 32 = .ok (.lushr, 1) := by decide +kernel
theorem dX9_receive_33 : decode cX9_receive 33 = .ok (.l2i, 1) := by decide +kernel
theorem dX9_receive_34 : decode cX9_receive 34 = .ok (.i2b, 1) := by decide +kernel
theorem dX9_receive_35 : decode cX9_receive 35 = .ok (.bastore, 1) := by decide +kernel
theorem dX9_receive_36 : decode cX9_receive 36 = .ok (.aload_n 0, 1) := by decide +kernel
theorem dX9_receive_37 : decode cX9_receive 37 = .ok (.dup, 1) := by decide +kernel
theorem dX9_receive_38 : decode cX9_receive 38 = .ok (.getfield 15, 3) := by decide +kernel
theorem dX9_receive_41 : decode cX9_receive 41 = .ok (.iconst 1, 1) := by decide +kernel
theorem dX9_receive_42 : decode cX9_receive 42 = .ok (.iadd, 1) := by decide +kernel
theorem dX9_receive_43 : decode cX9_receive 43 = .ok (.putfield 15, 3) := by decide +kernel
theorem dX9_receive_46 : decode cX9_receive 46 = .ok (.iinc 4 1, 3) := by decide +kernel
theorem dX9_receive_49 : decode cX9_receive 49 = .ok (.goto (-46), 3) := by decide +kernel
theorem dX9_receive_52 : decode cX9_receive 52 = .ok (.return_, 1) := by decide +kernel
theorem dX9_skipBlanks_0 : decode cX9_skipBlanks 0 = .ok (.aload_n 0, 1) := by decide +kernel
theorem dX9_skipBlanks_1 : decode cX9_skipBlanks 1 = .ok (.getfield 19, 3) := by decide +kernel
theorem dX9_skipBlanks_4 : decode cX9_skipBlanks 4 = .ok (.aload_n 0, 1) := by decide +kernel
theorem dX9_skipBlanks_5 : decode cX9_skipBlanks 5 = .ok (.getfield 15, 3) := by decide +kernel
theorem dX9_skipBlanks_8 : decode cX9_skipBlanks 8 = .ok (.if_icmp .ge 30, 3) := by decide +kernel
theorem dX9_skipBlanks_38 : decode cX9_skipBlanks 38 = .ok (.return_, 1) := by decide +kernel
