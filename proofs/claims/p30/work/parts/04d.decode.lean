theorem dX4_clear_12 : decode cX4_clear 12 = .ok (.putfield 22, 3) := by decide +kernel
theorem dX4_clear_15 : decode cX4_clear 15 = .ok (.aload_n 0, 1) := by decide +kernel
theorem dX4_clear_16 : decode cX4_clear 16 = .ok (.iconst 0, 1) := by decide +kernel
theorem dX4_clear_17 : decode cX4_clear 17 = .ok (.putfield 25, 3) := by decide +kernel
theorem dX4_clear_20 : decode cX4_clear 20 = .ok (.aload_n 0, 1) := by decide +kernel
theorem dX4_clear_21 : decode cX4_clear 21 = .ok (.getfield 45, 3) := by decide +kernel
theorem dX4_clear_24 : decode cX4_clear 24 = .ok (.iconst (-1), 1) := by decide +kernel
theorem dX4_clear_25 : decode cX4_clear 25 = .ok (.invokestatic 51, 3) := by decide +kernel
theorem dX4_clear_28 : decode cX4_clear 28 = .ok (.return_, 1) := by decide +kernel
theorem dX4_has_0 : decode cX4_has 0 = .ok (.iload_n 1, 1) := by decide +kernel
theorem dX4_has_1 : decode cX4_has 1 = .ok (.ifCond .lt 15, 3) := by decide +kernel
theorem dX4_has_4 : decode cX4_has 4 = .ok (.iload_n 1, 1) := by decide +kernel
theorem dX4_has_5 : decode cX4_has 5 = .ok (.aload_n 0, 1) := by decide +kernel
theorem dX4_has_6 : decode cX4_has 6 = .ok (.getfield 22, 3) := by decide +kernel
theorem dX4_has_9 : decode cX4_has 9 = .ok (.if_icmp .ge 7, 3) := by decide +kernel
theorem dX4_has_12 : decode cX4_has 12 = .ok (.iconst 1, 1) := by decide +kernel
theorem dX4_has_13 : decode cX4_has 13 = .ok (.goto 4, 3) := by decide +kernel
theorem dX4_has_16 : decode cX4_has 16 = .ok (.iconst 0, 1) := by decide +kernel
theorem dX4_has_17 : decode cX4_has 17 = .ok (.ireturn, 1) := by decide +kernel
theorem dX4_init_0 : decode cX4_init 0 = .ok (.aload_n 0, 1) := by decide +kernel
theorem dX4_init_1 : decode cX4_init 1 = .ok (.invokespecial 3, 3) := by decide +kernel
theorem dX4_init_4 : decode cX4_init 4 = .ok (.aload_n 0, 1) := by decide +kernel
theorem dX4_init_5 : decode cX4_init 5 = .ok (.bipush 60, 2) := by decide +kernel
theorem dX4_init_7 : decode cX4_init 7 = .ok (.newarray .long, 2) := by decide +kernel
theorem dX4_init_9 : decode cX4_init 9 = .ok (.putfield 9, 3) := by decide +kernel
theorem dX4_init_12 : decode cX4_init 12 = .ok (.aload_n 0, 1) := by decide +kernel
theorem dX4_init_13 : decode cX4_init 13 = .ok (.iconst 0, 1) := by decide +kernel
theorem dX4_init_14 : decode cX4_init 14 = .ok (.putfield 15, 3) := by decide +kernel
theorem dX4_init_17 : decode cX4_init 17 = .ok (.aload_n 0, 1) := by decide +kernel
theorem dX4_init_18 : decode cX4_init 18 = .ok (.iconst 0, 1) := by decide +kernel
theorem dX4_init_19 : decode cX4_init 19 = .ok (.putfield 19, 3) := by decide +kernel
theorem dX4_init_22 : decode cX4_init 22 = .ok (.aload_n 0, 1) := by decide +kernel
theorem dX4_init_23 : decode cX4_init 23 = .ok (.iconst 0, 1) := by decide +kernel
theorem dX4_init_24 : decode cX4_init 24 = .ok (.putfield 22, 3) := by decide +kernel
theorem dX4_init_27 : decode cX4_init 27 = .ok (.aload_n 0, 1) := by decide +kernel
theorem dX4_init_28 : decode cX4_init 28 = .ok (.iconst 0, 1) := by decide +kernel
theorem dX4_init_29 : decode cX4_init 29 = .ok (.putfield 25, 3) := by decide +kernel
theorem dX4_init_32 : decode cX4_init 32 = .ok (.aload_n 0, 1) := by decide +kernel
theorem dX4_init_33 : decode cX4_init 33 = .ok (.iload_n 2, 1) := by decide +kernel
theorem dX4_init_34 : decode cX4_init 34 = .ok (.newarray .long, 2) := by decide +kernel
theorem dX4_init_36 : decode cX4_init 36 = .ok (.putfield 29, 3) := by decide +kernel
theorem dX4_init_39 : decode cX4_init 39 = .ok (.aload_n 0, 1) := by decide +kernel
theorem dX4_init_40 : decode cX4_init 40 = .ok (.iload_n 1, 1) := by decide +kernel
theorem dX4_init_41 : decode cX4_init 41 = .ok (.newarray .int, 2) := by decide +kernel
theorem dX4_init_43 : decode cX4_init 43 = .ok (.putfield 32, 3) := by decide +kernel
theorem dX4_init_46 : decode cX4_init 46 = .ok (.aload_n 0, 1) := by decide +kernel
theorem dX4_init_47 : decode cX4_init 47 = .ok (.iload_n 1, 1) := by decide +kernel
theorem dX4_init_48 : decode cX4_init 48 = .ok (.newarray .int, 2) := by decide +kernel
theorem dX4_init_50 : decode cX4_init 50 = .ok (.putfield 36, 3) := by decide +kernel
theorem dX4_init_53 : decode cX4_init 53 = .ok (.aload_n 0, 1) := by decide +kernel
theorem dX4_init_54 : decode cX4_init 54 = .ok (.iload_n 1, 1) := by decide +kernel
theorem dX4_init_55 : decode cX4_init 55 = .ok (.newarray .int, 2) := by decide +kernel
theorem dX4_init_57 : decode cX4_init 57 = .ok (.putfield 39, 3) := by decide +kernel
theorem dX4_init_60 : decode cX4_init 60 = .ok (.aload_n 0, 1) := by decide +kernel
theorem dX4_init_61 : decode cX4_init 61 = .ok (.iload_n 1, 1) := by decide +kernel
theorem dX4_init_62 : decode cX4_init 62 = .ok (.iconst 4, 1) := by decide +kernel
theorem dX4_init_63 : decode cX4_init 63 = .ok (.imul, 1) := by decide +kernel
theorem dX4_init_64 : decode cX4_init 64 = .ok (.newarray .int, 2) := by decide +kernel
theorem dX4_init_66 : decode cX4_init 66 = .ok (.putfield 42, 3) := by decide +kernel
theorem dX4_init_69 : decode cX4_init 69 = .ok (.aload_n 0, 1) := by decide +kernel
theorem dX4_init_70 : decode cX4_init 70 = .ok (.iload_n 3, 1) := by decide +kernel
theorem dX4_init_71 : decode cX4_init 71 = .ok (.newarray .int, 2) := by decide +kernel
theorem dX4_init_73 : decode cX4_init 73 = .ok (.putfield 45, 3) := by decide +kernel
theorem dX4_init_76 : decode cX4_init 76 = .ok (.aload_n 0, 1) := by decide +kernel
theorem dX4_init_77 : decode cX4_init 77 = .ok (.iload_n 1, 1) := by decide +kernel
theorem dX4_init_78 : decode cX4_init 78 = .ok (.newarray .int, 2) := by decide +kernel
theorem dX4_init_80 : decode cX4_init 80 = .ok (.putfield 48, 3) := by decide +kernel
theorem dX4_init_83 : decode cX4_init 83 = .ok (.return_, 1) := by decide +kernel
theorem dX4_isRow_0 : decode cX4_isRow 0 = .ok (.aload_n 0, 1) := by decide +kernel
theorem dX4_isRow_1 : decode cX4_isRow 1 = .ok (.iload_n 1, 1) := by decide +kernel
theorem dX4_isRow_2 : decode cX4_isRow 2 = .ok (.invokevirtual 65, 3) := by decide +kernel
theorem dX4_isRow_5 : decode cX4_isRow 5 = .ok (.istore_n 3, 1) := by decide +kernel
theorem dX4_isRow_6 : decode cX4_isRow 6 = .ok (.iconst 0, 1) := by decide +kernel
theorem dX4_isRow_7 : decode cX4_isRow 7 = .ok (.istore 4, 2) := by decide +kernel
theorem dX4_isRow_9 : decode cX4_isRow 9 = .ok (.iload 4, 2) := by decide +kernel
theorem dX4_isRow_11 : decode cX4_isRow 11 = .ok (.aload_n 0, 1) := by decide +kernel
theorem dX4_isRow_12 : decode cX4_isRow 12 = .ok (.getfield 15, 3) := by decide +kernel
theorem dX4_isRow_15 : decode cX4_isRow 15 = .ok (.if_icmp .ge 28, 3) := by decide +kernel
theorem dX4_isRow_18 : decode cX4_isRow 18 = .ok (.aload_n 0, 1) := by decide +kernel
theorem dX4_isRow_19 : decode cX4_isRow 19 = .ok (.getfield 29, 3) := by decide +kernel
theorem dX4_isRow_22 : decode cX4_isRow 22 = .ok (.iload_n 3, 1) := by decide +kernel
theorem dX4_isRow_23 : decode cX4_isRow 23 = .ok (.iload 4, 2) := by decide +kernel
theorem dX4_isRow_25 : decode cX4_isRow 25 = .ok (.iadd, 1) := by decide +kernel
theorem dX4_isRow_26 : decode cX4_isRow 26 = .ok (.laload, 1) := by decide +kernel
theorem dX4_isRow_27 : decode cX4_isRow 27 = .ok (.aload_n 2, 1) := by decide +kernel
theorem dX4_isRow_28 : decode cX4_isRow 28 = .ok (.iload 4, 2) := by decide +kernel
theorem dX4_isRow_30 : decode cX4_isRow 30 = .ok (.laload, 1) := by decide +kernel
theorem dX4_isRow_31 : decode cX4_isRow 31 = .ok (.lcmp, 1) := by decide +kernel
theorem dX4_isRow_32 : decode cX4_isRow 32 = .ok (.ifCond .eq 5, 3) := by decide +kernel
theorem dX4_isRow_35 : decode cX4_isRow 35 = .ok (.iconst 0, 1) := by decide +kernel
theorem dX4_isRow_36 : decode cX4_isRow 36 = .ok (.ireturn, 1) := by decide +kernel
theorem dX4_isRow_37 : decode cX4_isRow 37 = .ok (.iinc 4 1, 3) := by decide +kernel
theorem dX4_isRow_40 : decode cX4_isRow 40 = .ok (.goto (-31), 3) := by decide +kernel
theorem dX4_isRow_43 : decode cX4_isRow 43 = .ok (.iconst 1, 1) := by decide +kernel
theorem dX4_isRow_44 : decode cX4_isRow 44 = .ok (.ireturn, 1) := by decide +kernel
theorem dX4_lead_0 : decode cX4_lead 0 = .ok (.aload_n 1, 1) := by decide +kernel
theorem dX4_lead_1 : decode cX4_lead 1 = .ok (.aload_n 0, 1) := by decide +kernel
theorem dX4_lead_2 : decode cX4_lead 2 = .ok (.getfield 29, 3) := by decide +kernel
theorem dX4_lead_5 : decode cX4_lead 5 = .ok (.aload_n 0, 1) := by decide +kernel
theorem dX4_lead_6 : decode cX4_lead 6 = .ok (.iload_n 2, 1) := by decide +kernel
theorem dX4_lead_7 : decode cX4_lead 7 = .ok (.invokevirtual 65, 3) := by decide +kernel
theorem dX4_lead_10 : decode cX4_lead 10 = .ok (.iload_n 3, 1) := by decide +kernel
theorem dX4_lead_11 : decode cX4_lead 11 = .ok (.aload_n 0, 1) := by decide +kernel
theorem dX4_lead_12 : decode cX4_lead 12 = .ok (.getfield 9, 3) := by decide +kernel
theorem dX4_lead_15 : decode cX4_lead 15 = .ok (.invokevirtual 83, 3) := by decide +kernel
theorem dX4_lead_18 : decode cX4_lead 18 = .ok (.ifCond .ne 5, 3) := by decide +kernel
theorem dX4_lead_21 : decode cX4_lead 21 = .ok (.iconst (-1), 1) := by decide +kernel
theorem dX4_lead_22 : decode cX4_lead 22 = .ok (.ireturn, 1) := by decide +kernel
theorem dX4_lead_23 : decode cX4_lead 23 = .ok (.aload_n 0, 1) := by decide +kernel
theorem dX4_lead_24 : decode cX4_lead 24 = .ok (.aload_n 0, 1) := by decide +kernel
theorem dX4_lead_25 : decode cX4_lead 25 = .ok (.getfield 9, 3) := by decide +kernel
theorem dX4_lead_28 : decode cX4_lead 28 = .ok (.invokevirtual 89, 3) := by decide +kernel
theorem dX4_lead_31 : decode cX4_lead 31 = .ok (.istore 4, 2) := by decide +kernel
theorem dX4_lead_33 : decode cX4_lead 33 = .ok (.iload 4, 2) := by decide +kernel
theorem dX4_lead_35 : decode cX4_lead 35 = .ok (.ifCond .lt 8, 3) := by decide +kernel
theorem dX4_lead_38 : decode cX4_lead 38 = .ok (.iload 4, 2) := by decide +kernel
theorem dX4_lead_40 : decode cX4_lead 40 = .ok (.goto 13, 3) := by decide +kernel
theorem dX4_lead_43 : decode cX4_lead 43 = .ok (.aload_n 0, 1) := by decide +kernel
theorem dX4_lead_44 : decode cX4_lead 44 = .ok (.aload_n 0, 1) := by decide +kernel
theorem dX4_lead_45 : decode cX4_lead 45 = .ok (.getfield 9, 3) := by decide +kernel
theorem dX4_lead_48 : decode cX4_lead 48 = .ok (.iload_n 2, 1) := by decide +kernel
theorem dX4_lead_49 : decode cX4_lead 49 = .ok (.iload_n 3, 1) := by decide +kernel
theorem dX4_lead_50 : decode cX4_lead 50 = .ok (.invokevirtual 92, 3) := by decide +kernel
theorem dX4_lead_53 : decode cX4_lead 53 = .ok (.ireturn, 1) := by decide +kernel
theorem dX4_search_0 : decode cX4_search 0 = .ok (.aload_n 0, 1) := by decide +kernel
theorem dX4_search_1 : decode cX4_search 1 = .ok (.getfield 45, 3) := by decide +kernel
theorem dX4_search_4 : decode cX4_search 4 = .ok (.aload_n 0, 1) := by decide +kernel
theorem dX4_search_5 : decode cX4_search 5 = .ok (.aload_n 1, 1) := by decide +kernel
theorem dX4_search_6 : decode cX4_search 6 = .ok (.invokevirtual 57, 3) := by decide +kernel
theorem dX4_search_9 : decode cX4_search 9 = .ok (.iaload, 1) := by decide +kernel
theorem dX4_search_10 : decode cX4_search 10 = .ok (.istore_n 2, 1) := by decide +kernel
theorem dX4_search_11 : decode cX4_search 11 = .ok (.iconst 0, 1) := by decide +kernel
theorem dX4_search_12 : decode cX4_search 12 = .ok (.istore_n 3, 1) := by decide +kernel
theorem dX4_search_13 : decode cX4_search 13 = .ok (.iload_n 3, 1) := by decide +kernel
theorem dX4_search_14 : decode cX4_search 14 = .ok (.aload_n 0, 1) := by decide +kernel
theorem dX4_search_15 : decode cX4_search 15 = .ok (.getfield 22, 3) := by decide +kernel
theorem dX4_search_18 : decode cX4_search 18 = .ok (.if_icmp .ge 31, 3) := by decide +kernel
theorem dX4_search_21 : decode cX4_search 21 = .ok (.iload_n 2, 1) := by decide +kernel
theorem dX4_search_22 : decode cX4_search 22 = .ok (.ifCond .lt 27, 3) := by decide +kernel
theorem dX4_search_25 : decode cX4_search 25 = .ok (.aload_n 0, 1) := by decide +kernel
theorem dX4_search_26 : decode cX4_search 26 = .ok (.iload_n 2, 1) := by decide +kernel
theorem dX4_search_27 : decode cX4_search 27 = .ok (.aload_n 1, 1) := by decide +kernel
theorem dX4_search_28 : decode cX4_search 28 = .ok (.invokevirtual 61, 3) := by decide +kernel
theorem dX4_search_31 : decode cX4_search 31 = .ok (.ifCond .eq 5, 3) := by decide +kernel
theorem dX4_search_34 : decode cX4_search 34 = .ok (.iload_n 2, 1) := by decide +kernel
theorem dX4_search_35 : decode cX4_search 35 = .ok (.ireturn, 1) := by decide +kernel
theorem dX4_search_36 : decode cX4_search 36 = .ok (.aload_n 0, 1) := by decide +kernel
theorem dX4_search_37 : decode cX4_search 37 = .ok (.getfield 48, 3) := by decide +kernel
theorem dX4_search_40 : decode cX4_search 40 = .ok (.iload_n 2, 1) := by decide +kernel
theorem dX4_search_41 : decode cX4_search 41 = .ok (.iaload, 1) := by decide +kernel
theorem dX4_search_42 : decode cX4_search 42 = .ok (.istore_n 2, 1) := by decide +kernel
theorem dX4_search_43 : decode cX4_search 43 = .ok (.iinc 3 1, 3) := by decide +kernel
theorem dX4_search_46 : decode cX4_search 46 = .ok (.goto (-33), 3) := by decide +kernel
theorem dX4_search_49 : decode cX4_search 49 = .ok (.iconst (-1), 1) := by decide +kernel
theorem dX4_search_50 : decode cX4_search 50 = .ok (.ireturn, 1) := by decide +kernel
theorem dX4_slotOf_0 : decode cX4_slotOf 0 = .ok (.lconst 0, 1) := by decide +kernel
theorem dX4_slotOf_1 : decode cX4_slotOf 1 = .ok (.lstore_n 2, 1) := by decide +kernel
theorem dX4_slotOf_2 : decode cX4_slotOf 2 = .ok (.iconst 0, 1) := by decide +kernel
theorem dX4_slotOf_3 : decode cX4_slotOf 3 = .ok (.istore 4, 2) := by decide +kernel
theorem dX4_slotOf_5 : decode cX4_slotOf 5 = .ok (.iload 4, 2) := by decide +kernel
theorem dX4_slotOf_7 : decode cX4_slotOf 7 = .ok (.aload_n 0, 1) := by decide +kernel
theorem dX4_slotOf_8 : decode cX4_slotOf 8 = .ok (.getfield 15, 3) := by decide +kernel
theorem dX4_slotOf_11 : decode cX4_slotOf 11 = .ok (.if_icmp .ge 20, 3) := by decide +kernel
theorem dX4_slotOf_14 : decode cX4_slotOf 14 = .ok (.lload_n 2, 1) := by decide +kernel
theorem dX4_slotOf_15 : decode cX4_slotOf 15 = .ok (.ldc2_w 96, 3) := by decide +kernel
theorem dX4_slotOf_18 : decode cX4_slotOf 18 = .ok (.lmul, 1) := by decide +kernel
theorem dX4_slotOf_19 : decode cX4_slotOf 19 = .ok (.aload_n 1, 1) := by decide +kernel
theorem dX4_slotOf_20 : decode cX4_slotOf 20 = .ok (.iload 4, 2) := by decide +kernel
theorem dX4_slotOf_22 : decode cX4_slotOf 22 = .ok (.laload, 1) := by decide +kernel
theorem dX4_slotOf_23 : decode cX4_slotOf 23 = .ok (.ladd, 1) := by decide +kernel
theorem dX4_slotOf_24 : decode cX4_slotOf 24 = .ok (.lstore_n 2, 1) := by decide +kernel
theorem dX4_slotOf_25 : decode cX4_slotOf 25 = .ok (.iinc 4 1, 3) := by decide +kernel
theorem dX4_slotOf_28 : decode cX4_slotOf 28 = .ok (.goto (-23), 3) := by decide +kernel
theorem dX4_slotOf_31 : decode cX4_slotOf 31 = .ok (.lload_n 2, 1) := by decide +kernel
theorem dX4_slotOf_32 : decode cX4_slotOf 32 = .ok (.lload_n 2, 1) := by decide +kernel
theorem dX4_slotOf_33 : decode cX4_slotOf 33 = .ok (.bipush 32, 2) := by decide +kernel
theorem dX4_slotOf_35 : decode cX4_slotOf 35 = .ok (.lushr, 1) := by decide +kernel
theorem dX4_slotOf_36 : decode cX4_slotOf 36 = .ok (.lxor, 1) := by decide +kernel
theorem dX4_slotOf_37 : decode cX4_slotOf 37 = .ok (.lstore_n 2, 1) := by decide +kernel
theorem dX4_slotOf_38 : decode cX4_slotOf 38 = .ok (.lload_n 2, 1) := by decide +kernel
theorem dX4_slotOf_39 : decode cX4_slotOf 39 = .ok (.lload_n 2, 1) := by decide +kernel
theorem dX4_slotOf_40 : decode cX4_slotOf 40 = .ok (.bipush 16, 2) := by decide +kernel
theorem dX4_slotOf_42 : decode cX4_slotOf 42 = .ok (.lushr, 1) := by decide +kernel
theorem dX4_slotOf_43 : decode cX4_slotOf 43 = .ok (.lxor, 1) := by decide +kernel
theorem dX4_slotOf_44 : decode cX4_slotOf 44 = .ok (.lstore_n 2, 1) := by decide +kernel
theorem dX4_slotOf_45 : decode cX4_slotOf 45 = .ok (.lload_n 2, 1) := by decide +kernel
theorem dX4_slotOf_46 : decode cX4_slotOf 46 = .ok (.l2i, 1) := by decide +kernel
theorem dX4_slotOf_47 : decode cX4_slotOf 47 = .ok (.aload_n 0, 1) := by decide +kernel
theorem dX4_slotOf_48 : decode cX4_slotOf 48 = .ok (.getfield 45, 3) := by decide +kernel
theorem dX4_slotOf_51 : decode cX4_slotOf 51 = .ok (.arraylength, 1) := by decide +kernel
theorem dX4_slotOf_52 : decode cX4_slotOf 52 = .ok (.iconst 1, 1) := by decide +kernel
theorem dX4_slotOf_53 : decode cX4_slotOf 53 = .ok (.isub, 1) := by decide +kernel
theorem dX4_slotOf_54 : decode cX4_slotOf 54 = .ok (.iand, 1) := by decide +kernel
theorem dX4_slotOf_55 : decode cX4_slotOf 55 = .ok (.ireturn, 1) := by decide +kernel
theorem dX4_spread_0 : decode cX4_spread 0 = .ok (.aload_n 0, 1) := by decide +kernel
theorem dX4_spread_1 : decode cX4_spread 1 = .ok (.iconst 1, 1) := by decide +kernel
theorem dX4_spread_2 : decode cX4_spread 2 = .ok (.putfield 25, 3) := by decide +kernel
theorem dX4_spread_5 : decode cX4_spread 5 = .ok (.iconst 0, 1) := by decide +kernel
theorem dX4_spread_6 : decode cX4_spread 6 = .ok (.istore_n 3, 1) := by decide +kernel
theorem dX4_spread_7 : decode cX4_spread 7 = .ok (.iload_n 3, 1) := by decide +kernel
theorem dX4_spread_8 : decode cX4_spread 8 = .ok (.aload_n 0, 1) := by decide +kernel
theorem dX4_spread_9 : decode cX4_spread 9 = .ok (.getfield 19, 3) := by decide +kernel
theorem dX4_spread_12 : decode cX4_spread 12 = .ok (.if_icmp .ge 84, 3) := by decide +kernel
theorem dX4_spread_15 : decode cX4_spread 15 = .ok (.iload_n 3, 1) := by decide +kernel
theorem dX4_spread_16 : decode cX4_spread 16 = .ok (.aload_n 0, 1) := by decide +kernel
theorem dX4_spread_17 : decode cX4_spread 17 = .ok (.getfield 22, 3) := by decide +kernel
theorem dX4_spread_20 : decode cX4_spread 20 = .ok (.if_icmp .ge 76, 3) := by decide +kernel
theorem dX4_spread_23 : decode cX4_spread 23 = .ok (.iconst 0, 1) := by decide +kernel
theorem dX4_spread_24 : decode cX4_spread 24 = .ok (.istore 4, 2) := by decide +kernel
theorem dX4_spread_26 : decode cX4_spread 26 = .ok (.iload 4, 2) := by decide +kernel
theorem dX4_spread_28 : decode cX4_spread 28 = .ok (.iload_n 2, 1) := by decide +kernel
theorem dX4_spread_29 : decode cX4_spread 29 = .ok (.if_icmp .ge 42, 3) := by decide +kernel
theorem dX4_spread_32 : decode cX4_spread 32 = .ok (.aload_n 0, 1) := by decide +kernel
theorem dX4_spread_33 : decode cX4_spread 33 = .ok (.aload_n 1, 1) := by decide +kernel
theorem dX4_spread_34 : decode cX4_spread 34 = .ok (.iload_n 3, 1) := by decide +kernel
theorem dX4_spread_35 : decode cX4_spread 35 = .ok (.iload 4, 2) := by decide +kernel
theorem dX4_spread_37 : decode cX4_spread 37 = .ok (.invokevirtual 79, 3) := by decide +kernel
theorem dX4_spread_40 : decode cX4_spread 40 = .ok (.istore 5, 2) := by decide +kernel
theorem dX4_spread_42 : decode cX4_spread 42 = .ok (.aload_n 0, 1) := by decide +kernel
theorem dX4_spread_43 : decode cX4_spread 43 = .ok (.getfield 42, 3) := by decide +kernel
theorem dX4_spread_46 : decode cX4_spread 46 = .ok (.iload_n 3, 1) := by decide +kernel
theorem dX4_spread_47 : decode cX4_spread 47 = .ok (.iconst 4, 1) := by decide +kernel
theorem dX4_spread_48 : decode cX4_spread 48 = .ok (.imul, 1) := by decide +kernel
theorem dX4_spread_49 : decode cX4_spread 49 = .ok (.iload 4, 2) := by decide +kernel
theorem dX4_spread_51 : decode cX4_spread 51 = .ok (.iadd, 1) := by decide +kernel
theorem dX4_spread_52 : decode cX4_spread 52 = .ok (.iload 5, 2) := by decide +kernel
theorem dX4_spread_54 : decode cX4_spread 54 = .ok (.iastore, 1) := by decide +kernel
theorem dX4_spread_55 : decode cX4_spread 55 = .ok (.iload 5, 2) := by decide +kernel
theorem dX4_spread_57 : decode cX4_spread 57 = .ok (.ifCond .ge 8, 3) := by decide +kernel
theorem dX4_spread_60 : decode cX4_spread 60 = .ok (.aload_n 0, 1) := by decide +kernel
theorem dX4_spread_61 : decode cX4_spread 61 = .ok (.iconst 0, 1) := by decide +kernel
theorem dX4_spread_62 : decode cX4_spread 62 = .ok (.putfield 25, 3) := by decide +kernel
theorem dX4_spread_65 : decode cX4_spread 65 = .ok (.iinc 4 1, 3) := by decide +kernel
theorem dX4_spread_68 : decode cX4_spread 68 = .ok (.goto (-42), 3) := by decide +kernel
theorem dX4_spread_71 : decode cX4_spread 71 = .ok (.aload_n 0, 1) := by decide +kernel
theorem dX4_spread_72 : decode cX4_spread 72 = .ok (.getfield 25, 3) := by decide +kernel
theorem dX4_spread_75 : decode cX4_spread 75 = .ok (.ifCond .ne 15, 3) := by decide +kernel
theorem dX4_spread_78 : decode cX4_spread 78 = .ok (.aload_n 0, 1) := by decide +kernel
theorem dX4_spread_79 : decode cX4_spread 79 = .ok (.getfield 22, 3) := by decide +kernel
theorem dX4_spread_82 : decode cX4_spread 82 = .ok (.aload_n 0, 1) := by decide +kernel
theorem dX4_spread_83 : decode cX4_spread 83 = .ok (.getfield 19, 3) := by decide +kernel
theorem dX4_spread_86 : decode cX4_spread 86 = .ok (.if_icmp .ne 4, 3) := by decide +kernel
theorem dX4_spread_89 : decode cX4_spread 89 = .ok (.return_, 1) := by decide +kernel
theorem dX4_spread_90 : decode cX4_spread 90 = .ok (.iinc 3 1, 3) := by decide +kernel
theorem dX4_spread_93 : decode cX4_spread 93 = .ok (.goto (-86), 3) := by decide +kernel
theorem dX4_spread_96 : decode cX4_spread 96 = .ok (.return_, 1) := by decide +kernel
theorem dX4_start_0 : decode cX4_start 0 = .ok (.iload_n 1, 1) := by decide +kernel
theorem dX4_start_1 : decode cX4_start 1 = .ok (.aload_n 0, 1) := by decide +kernel
theorem dX4_start_2 : decode cX4_start 2 = .ok (.getfield 15, 3) := by decide +kernel
theorem dX4_start_5 : decode cX4_start 5 = .ok (.imul, 1) := by decide +kernel
theorem dX4_start_6 : decode cX4_start 6 = .ok (.ireturn, 1) := by decide +kernel
theorem dX5_has_0 : decode cX5_has 0 = .ok (.iload_n 1, 1) := by decide +kernel
theorem dX5_has_1 : decode cX5_has 1 = .ok (.ifCond .lt 15, 3) := by decide +kernel
theorem dX5_has_4 : decode cX5_has 4 = .ok (.iload_n 1, 1) := by decide +kernel
theorem dX5_has_5 : decode cX5_has 5 = .ok (.aload_n 0, 1) := by decide +kernel
theorem dX5_has_6 : decode cX5_has 6 = .ok (.getfield 15, 3) := by decide +kernel
theorem dX5_has_9 : decode cX5_has 9 = .ok (.if_icmp .ge 7, 3) := by decide +kernel
theorem dX5_has_12 : decode cX5_has 12 = .ok (.iconst 1, 1) := by decide +kernel
theorem dX5_has_13 : decode cX5_has 13 = .ok (.goto 4, 3) := by decide +kernel
theorem dX5_has_16 : decode cX5_has 16 = .ok (.iconst 0, 1) := by decide +kernel
theorem dX5_has_17 : decode cX5_has 17 = .ok (.ireturn, 1) := by decide +kernel
theorem dX7_cofactor_0 : decode cX7_cofactor 0 = .ok (.iload_n 2, 1) := by decide +kernel
theorem dX7_cofactor_1 : decode cX7_cofactor 1 = .ok (.iconst 1, 1) := by decide +kernel
theorem dX7_cofactor_2 : decode cX7_cofactor 2 = .ok (.if_icmp .ne 5, 3) := by decide +kernel
theorem dX7_cofactor_5 : decode cX7_cofactor 5 = .ok (.lconst 1, 1) := by decide +kernel
theorem dX7_cofactor_6 : decode cX7_cofactor 6 = .ok (.lreturn, 1) := by decide +kernel
theorem dX7_cofactor_7 : decode cX7_cofactor 7 = .ok (.iload_n 2, 1) := by decide +kernel
theorem dX7_cofactor_8 : decode cX7_cofactor 8 = .ok (.iconst 2, 1) := by decide +kernel
theorem dX7_cofactor_9 : decode cX7_cofactor 9 = .ok (.if_icmp .ne 34, 3) := by decide +kernel
theorem dX7_cofactor_12 : decode cX7_cofactor 12 = .ok (.aload_n 0, 1) := by decide +kernel
theorem dX7_cofactor_13 : decode cX7_cofactor 13 = .ok (.iload_n 1, 1) := by decide +kernel
theorem dX7_cofactor_14 : decode cX7_cofactor 14 = .ok (.iconst 1, 1) := by decide +kernel
theorem dX7_cofactor_15 : decode cX7_cofactor 15 = .ok (.iload_n 3, 1) := by decide +kernel
theorem dX7_cofactor_16 : decode cX7_cofactor 16 = .ok (.isub, 1) := by decide +kernel
theorem dX7_cofactor_17 : decode cX7_cofactor 17 = .ok (.iconst 2, 1) := by decide +kernel
theorem dX7_cofactor_18 : decode cX7_cofactor 18 = .ok (.imul, 1) := by decide +kernel
theorem dX7_cofactor_19 : decode cX7_cofactor 19 = .ok (.iadd, 1) := by decide +kernel
theorem dX7_cofactor_20 : decode cX7_cofactor 20 = .ok (.iconst 1, 1) := by decide +kernel
theorem dX7_cofactor_21 : decode cX7_cofactor 21 = .ok (.iadd, 1) := by decide +kernel
theorem dX7_cofactor_22 : decode cX7_cofactor 22 = .ok (.iload 4, 2) := by decide +kernel
theorem dX7_cofactor_24 : decode cX7_cofactor 24 = .ok (.isub, 1) := by decide +kernel
theorem dX7_cofactor_25 : decode cX7_cofactor 25 = .ok (.laload, 1) := by decide +kernel
theorem dX7_cofactor_26 : decode cX7_cofactor 26 = .ok (.lstore 5, 2) := by decide +kernel
theorem dX7_cofactor_28 : decode cX7_cofactor 28 = .ok (.iload_n 3, 1) := by decide +kernel
theorem dX7_cofactor_29 : decode cX7_cofactor 29 = .ok (.iload 4, 2) := by decide +kernel
theorem dX7_cofactor_31 : decode cX7_cofactor 31 = .ok (.if_icmp .ne 8, 3) := by decide +kernel
theorem dX7_cofactor_34 : decode cX7_cofactor 34 = .ok (.lload 5, 2) := by decide +kernel
theorem dX7_cofactor_36 : decode cX7_cofactor 36 = .ok (.goto 6, 3) := by decide +kernel
theorem dX7_cofactor_39 : decode cX7_cofactor 39 = .ok (.lload 5, 2) := by decide +kernel
theorem dX7_cofactor_41 : decode cX7_cofactor 41 = .ok (.lneg, 1) := by decide +kernel
theorem dX7_cofactor_42 : decode cX7_cofactor 42 = .ok (.lreturn, 1) := by decide +kernel
theorem dX7_cofactor_43 : decode cX7_cofactor 43 = .ok (.iload_n 1, 1) := by decide +kernel
theorem dX7_cofactor_44 : decode cX7_cofactor 44 = .ok (.iload_n 3, 1) := by decide +kernel
theorem dX7_cofactor_45 : decode cX7_cofactor 45 = .ok (.iconst 1, 1) := by decide +kernel
theorem dX7_cofactor_46 : decode cX7_cofactor 46 = .ok (.iadd, 1) := by decide +kernel
theorem dX7_cofactor_47 : decode cX7_cofactor 47 = .ok (.iconst 3, 1) := by decide +kernel
theorem dX7_cofactor_48 : decode cX7_cofactor 48 = .ok (.irem, 1) := by decide +kernel
theorem dX7_cofactor_49 : decode cX7_cofactor 49 = .ok (.iconst 3, 1) := by decide +kernel
theorem dX7_cofactor_50 : decode cX7_cofactor 50 = .ok (.imul, 1) := by decide +kernel
theorem dX7_cofactor_51 : decode cX7_cofactor 51 = .ok (.iadd, 1) := by decide +kernel
theorem dX7_cofactor_52 : decode cX7_cofactor 52 = .ok (.istore 5, 2) := by decide +kernel
theorem dX7_cofactor_54 : decode cX7_cofactor 54 = .ok (.iload_n 1, 1) := by decide +kernel
theorem dX7_cofactor_55 : decode cX7_cofactor 55 = .ok (.iload_n 3, 1) := by decide +kernel
theorem dX7_cofactor_56 : decode cX7_cofactor 56 = .ok (.iconst 2, 1) := by decide +kernel
theorem dX7_cofactor_57 : decode cX7_cofactor 57 = .ok (.iadd, 1) := by decide +kernel
theorem dX7_cofactor_58 : decode cX7_cofactor 58 = .ok (.iconst 3, 1) := by decide +kernel
theorem dX7_cofactor_59 : decode cX7_cofactor 59 = .ok (.irem, 1) := by decide +kernel
theorem dX7_cofactor_60 : decode cX7_cofactor 60 = .ok (.iconst 3, 1) := by decide +kernel
theorem dX7_cofactor_61 : decode cX7_cofactor 61 = .ok (.imul, 1) := by decide +kernel
theorem dX7_cofactor_62 : decode cX7_cofactor 62 = .ok (.iadd, 1) := by decide +kernel
theorem dX7_cofactor_63 : decode cX7_cofactor 63 = .ok (.istore 6, 2) := by decide +kernel
theorem dX7_cofactor_65 : decode cX7_cofactor 65 = .ok (.iload 4, 2) := by decide +kernel
theorem dX7_cofactor_67 : decode cX7_cofactor 67 = .ok (.iconst 1, 1) := by decide +kernel
theorem dX7_cofactor_68 : decode cX7_cofactor 68 = .ok (.iadd, 1) := by decide +kernel
theorem dX7_cofactor_69 : decode cX7_cofactor 69 = .ok (.iconst 3, 1) := by decide +kernel
theorem dX7_cofactor_70 : decode cX7_cofactor 70 = .ok (.irem, 1) := by decide +kernel
theorem dX7_cofactor_71 : decode cX7_cofactor 71 = .ok (.istore 7, 2) := by decide +kernel
theorem dX7_cofactor_73 : decode cX7_cofactor 73 = .ok (.iload 4, 2) := by decide +kernel
theorem dX7_cofactor_75 : decode cX7_cofactor 75 = .ok (.iconst 2, 1) := by decide +kernel
theorem dX7_cofactor_76 : decode cX7_cofactor 76 = .ok (.iadd, 1) := by decide +kernel
theorem dX7_cofactor_77 : decode cX7_cofactor 77 = .ok (.iconst 3, 1) := by decide +kernel
theorem dX7_cofactor_78 : decode cX7_cofactor 78 = .ok (.irem, 1) := by decide +kernel
theorem dX7_cofactor_79 : decode cX7_cofactor 79 = .ok (.istore 8, 2) := by decide +kernel
theorem dX7_cofactor_81 : decode cX7_cofactor 81 = .ok (.aload_n 0, 1) := by decide +kernel
theorem dX7_cofactor_82 : decode cX7_cofactor 82 = .ok (.iload 5, 2) := by decide +kernel
theorem dX7_cofactor_84 : decode cX7_cofactor 84 = .ok (.iload 7, 2) := by decide +kernel
theorem dX7_cofactor_86 : decode cX7_cofactor 86 = .ok (.iadd, 1) := by decide +kernel
theorem dX7_cofactor_87 : decode cX7_cofactor 87 = .ok (.laload, 1) := by decide +kernel
theorem dX7_cofactor_88 : decode cX7_cofactor 88 = .ok (.aload_n 0, 1) := by decide +kernel
theorem dX7_cofactor_89 : decode cX7_cofactor 89 = .ok (.iload 6, 2) := by decide +kernel
theorem dX7_cofactor_91 : decode cX7_cofactor 91 = .ok (.iload 8, 2) := by decide +kernel
theorem dX7_cofactor_93 : decode cX7_cofactor 93 = .ok (.iadd, 1) := by decide +kernel
theorem dX7_cofactor_94 : decode cX7_cofactor 94 = .ok (.laload, 1) := by decide +kernel
theorem dX7_cofactor_95 : decode cX7_cofactor 95 = .ok (.lmul, 1) := by decide +kernel
theorem dX7_cofactor_96 : decode cX7_cofactor 96 = .ok (.aload_n 0, 1) := by decide +kernel
theorem dX7_cofactor_97 : decode cX7_cofactor 97 = .ok (.iload 5, 2) := by decide +kernel
theorem dX7_cofactor_99 : decode cX7_cofactor 99 = .ok (.iload 8, 2) := by decide +kernel
theorem dX7_cofactor_101 : decode cX7_cofactor 101 = .ok (.iadd, 1) := by decide +kernel
theorem dX7_cofactor_102 : decode cX7_cofactor 102 = .ok (.laload, 1) := by decide +kernel
theorem dX7_cofactor_103 : decode cX7_cofactor 103 = .ok (.aload_n 0, 1) := by decide +kernel
theorem dX7_cofactor_104 : decode cX7_cofactor 104 = .ok (.iload 6, 2) := by decide +kernel
theorem dX7_cofactor_106 : decode cX7_cofactor 106 = .ok (.iload 7, 2) := by decide +kernel
theorem dX7_cofactor_108 : decode cX7_cofactor 108 = .ok (.iadd, 1) := by decide +kernel
theorem dX7_cofactor_109 : decode cX7_cofactor 109 = .ok (.laload, 1) := by decide +kernel
theorem dX7_cofactor_110 : decode cX7_cofactor 110 = .ok (.lmul, 1) := by decide +kernel
theorem dX7_cofactor_111 : decode cX7_cofactor 111 = .ok (.lsub, 1) := by decide +kernel
theorem dX7_cofactor_112 : decode cX7_cofactor 112 = .ok (.lreturn, 1) := by decide +kernel
theorem dX7_determinant_0 : decode cX7_determinant 0 = .ok (.iload_n 3, 1) := by decide +kernel
theorem dX7_determinant_1 : decode cX7_determinant 1 = .ok (.iconst 1, 1) := by decide +kernel
theorem dX7_determinant_2 : decode cX7_determinant 2 = .ok (.if_icmp .ne 7, 3) := by decide +kernel
theorem dX7_determinant_5 : decode cX7_determinant 5 = .ok (.aload_n 0, 1) := by decide +kernel
theorem dX7_determinant_6 : decode cX7_determinant 6 = .ok (.iload_n 1, 1) := by decide +kernel
theorem dX7_determinant_7 : decode cX7_determinant 7 = .ok (.laload, 1) := by decide +kernel
theorem dX7_determinant_8 : decode cX7_determinant 8 = .ok (.lreturn, 1) := by decide +kernel
theorem dX7_determinant_9 : decode cX7_determinant 9 = .ok (.iload_n 3, 1) := by decide +kernel
theorem dX7_determinant_10 : decode cX7_determinant 10 = .ok (.iconst 2, 1) := by decide +kernel
theorem dX7_determinant_11 : decode cX7_determinant 11 = .ok (.if_icmp .ne 27, 3) := by decide +kernel
theorem dX7_determinant_14 : decode cX7_determinant 14 = .ok (.aload_n 0, 1) := by decide +kernel
theorem dX7_determinant_15 : decode cX7_determinant 15 = .ok (.iload_n 1, 1) := by decide +kernel
theorem dX7_determinant_16 : decode cX7_determinant 16 = .ok (.laload, 1) := by decide +kernel
theorem dX7_determinant_17 : decode cX7_determinant 17 = .ok (.aload_n 0, 1) := by decide +kernel
theorem dX7_determinant_18 : decode cX7_determinant 18 = .ok (.iload_n 1, 1) := by decide +kernel
theorem dX7_determinant_19 : decode cX7_determinant 19 = .ok (.iload_n 2, 1) := by decide +kernel
theorem dX7_determinant_20 : decode cX7_determinant 20 = .ok (.iadd, 1) := by decide +kernel
theorem dX7_determinant_21 : decode cX7_determinant 21 = .ok (.iconst 1, 1) := by decide +kernel
theorem dX7_determinant_22 : decode cX7_determinant 22 = .ok (.iadd, 1) := by decide +kernel
theorem dX7_determinant_23 : decode cX7_determinant 23 = .ok (.laload, 1) := by decide +kernel
theorem dX7_determinant_24 : decode cX7_determinant 24 = .ok (.lmul, 1) := by decide +kernel
theorem dX7_determinant_25 : decode cX7_determinant 25 = .ok (.aload_n 0, 1) := by decide +kernel
theorem dX7_determinant_26 : decode cX7_determinant 26 = .ok (.iload_n 1, 1) := by decide +kernel
theorem dX7_determinant_27 : decode cX7_determinant 27 = .ok (.iconst 1, 1) := by decide +kernel
theorem dX7_determinant_28 : decode cX7_determinant 28 = .ok (.iadd, 1) := by decide +kernel
theorem dX7_determinant_29 : decode cX7_determinant 29 = .ok (.laload, 1) := by decide +kernel
theorem dX7_determinant_30 : decode cX7_determinant 30 = .ok (.aload_n 0, 1) := by decide +kernel
theorem dX7_determinant_31 : decode cX7_determinant 31 = .ok (.iload_n 1, 1) := by decide +kernel
theorem dX7_determinant_32 : decode cX7_determinant 32 = .ok (.iload_n 2, 1) := by decide +kernel
theorem dX7_determinant_33 : decode cX7_determinant 33 = .ok (.iadd, 1) := by decide +kernel
theorem dX7_determinant_34 : decode cX7_determinant 34 = .ok (.laload, 1) := by decide +kernel
theorem dX7_determinant_35 : decode cX7_determinant 35 = .ok (.lmul, 1) := by decide +kernel
theorem dX7_determinant_36 : decode cX7_determinant 36 = .ok (.lsub, 1) := by decide +kernel
theorem dX7_determinant_37 : decode cX7_determinant 37 = .ok (.lreturn, 1) := by decide +kernel
theorem dX7_determinant_38 : decode cX7_determinant 38 = .ok (.lconst 0, 1) := by decide +kernel
theorem dX7_determinant_39 : decode cX7_determinant 39 = .ok (.lstore 4, 2) := by decide +kernel
theorem dX7_determinant_41 : decode cX7_determinant 41 = .ok (.iconst 0, 1) := by decide +kernel
theorem dX7_determinant_42 : decode cX7_determinant 42 = .ok (.istore 6, 2) := by decide +kernel
theorem dX7_determinant_44 : decode cX7_determinant 44 = .ok (.iload 6, 2) := by decide +kernel
theorem dX7_determinant_46 : decode cX7_determinant 46 = .ok (.iconst 3, 1) := by decide +kernel
theorem dX7_determinant_47 : decode cX7_determinant 47 = .ok (.if_icmp .ge 30, 3) := by decide +kernel
theorem dX7_determinant_50 : decode cX7_determinant 50 = .ok (.lload 4, 2) := by decide +kernel
theorem dX7_determinant_52 : decode cX7_determinant 52 = .ok (.aload_n 0, 1) := by decide +kernel
theorem dX7_determinant_53 : decode cX7_determinant 53 = .ok (.iload_n 1, 1) := by decide +kernel
theorem dX7_determinant_54 : decode cX7_determinant 54 = .ok (.iload 6, 2) := by decide +kernel
theorem dX7_determinant_56 : decode cX7_determinant 56 = .ok (.iadd, 1) := by decide +kernel
theorem dX7_determinant_57 : decode cX7_determinant 57 = .ok (.laload, 1) := by decide +kernel
theorem dX7_determinant_58 : decode cX7_determinant 58 = .ok (.aload_n 0, 1) := by decide +kernel
theorem dX7_determinant_59 : decode cX7_determinant 59 = .ok (.iload_n 1, 1) := by decide +kernel
theorem dX7_determinant_60 : decode cX7_determinant 60 = .ok (.iconst 3, 1) := by decide +kernel
theorem dX7_determinant_61 : decode cX7_determinant 61 = .ok (.iconst 0, 1) := by decide +kernel
theorem dX7_determinant_62 : decode cX7_determinant 62 = .ok (.iload 6, 2) := by decide +kernel
theorem dX7_determinant_64 : decode cX7_determinant 64 = .ok (.invokestatic 23, 3) := by decide +kernel
theorem dX7_determinant_67 : decode cX7_determinant 67 = .ok (.lmul, 1) := by decide +kernel
theorem dX7_determinant_68 : decode cX7_determinant 68 = .ok (.ladd, 1) := by decide +kernel
theorem dX7_determinant_69 : decode cX7_determinant 69 = .ok (.lstore 4, 2) := by decide +kernel
theorem dX7_determinant_71 : decode cX7_determinant 71 = .ok (.iinc 6 1, 3) := by decide +kernel
theorem dX7_determinant_74 : decode cX7_determinant 74 = .ok (.goto (-30), 3) := by decide +kernel
theorem dX7_determinant_77 : decode cX7_determinant 77 = .ok (.lload 4, 2) := by decide +kernel
theorem dX7_determinant_79 : decode cX7_determinant 79 = .ok (.lreturn, 1) := by decide +kernel
theorem dX7_trace_0 : decode cX7_trace 0 = .ok (.lconst 0, 1) := by decide +kernel
theorem dX7_trace_1 : decode cX7_trace 1 = .ok (.lstore_n 3, 1) := by decide +kernel
theorem dX7_trace_2 : decode cX7_trace 2 = .ok (.iconst 0, 1) := by decide +kernel
theorem dX7_trace_3 : decode cX7_trace 3 = .ok (.istore 5, 2) := by decide +kernel
theorem dX7_trace_5 : decode cX7_trace 5 = .ok (.iload 5, 2) := by decide +kernel
theorem dX7_trace_7 : decode cX7_trace 7 = .ok (.iload_n 2, 1) := by decide +kernel
theorem dX7_trace_8 : decode cX7_trace 8 = .ok (.if_icmp .ge 23, 3) := by decide +kernel
theorem dX7_trace_11 : decode cX7_trace 11 = .ok (.lload_n 3, 1) := by decide +kernel
theorem dX7_trace_12 : decode cX7_trace 12 = .ok (.aload_n 0, 1) := by decide +kernel
theorem dX7_trace_13 : decode cX7_trace 13 = .ok (.iload_n 1, 1) := by decide +kernel
theorem dX7_trace_14 : decode cX7_trace 14 = .ok (.iload 5, 2) := by decide +kernel
theorem dX7_trace_16 : decode cX7_trace 16 = .ok (.iload_n 2, 1) := by decide +kernel
theorem dX7_trace_17 : decode cX7_trace 17 = .ok (.imul, 1) := by decide +kernel
theorem dX7_trace_18 : decode cX7_trace 18 = .ok (.iadd, 1) := by decide +kernel
theorem dX7_trace_19 : decode cX7_trace 19 = .ok (.iload 5, 2) := by decide +kernel
theorem dX7_trace_21 : decode cX7_trace 21 = .ok (.iadd, 1) := by decide +kernel
theorem dX7_trace_22 : decode cX7_trace 22 = .ok (.laload, 1) := by decide +kernel
theorem dX7_trace_23 : decode cX7_trace 23 = .ok (.ladd, 1) := by decide +kernel
theorem dX7_trace_24 : decode cX7_trace 24 = .ok (.lstore_n 3, 1) := by decide +kernel
theorem dX7_trace_25 : decode cX7_trace 25 = .ok (.iinc 5 1, 3) := by decide +kernel
theorem dX7_trace_28 : decode cX7_trace 28 = .ok (.goto (-23), 3) := by decide +kernel
theorem dX7_trace_31 : decode cX7_trace 31 = .ok (.lload_n 3, 1) := by decide +kernel
theorem dX7_trace_32 : decode cX7_trace 32 = .ok (.lreturn, 1) := by decide +kernel
