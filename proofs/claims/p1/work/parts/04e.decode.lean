theorem dX11_orbit_85 : decode cX11_orbit 85 = .ok (.if_icmp .ge 182, 3) := by decide +kernel
theorem dX11_orbit_267 : decode cX11_orbit 267 = .ok (.iinc 4 1, 3) := by decide +kernel
theorem dX11_orbit_270 : decode cX11_orbit 270 = .ok (.goto (-203), 3) := by decide +kernel
theorem dX11_orbit_273 : decode cX11_orbit 273 = .ok (.aload_n 0, 1) := by decide +kernel
theorem dX11_orbit_274 : decode cX11_orbit 274 = .ok (.iconst 1, 1) := by decide +kernel
theorem dX11_orbit_275 : decode cX11_orbit 275 = .ok (.putfield 275, 3) := by decide +kernel
theorem dX11_orbit_278 : decode cX11_orbit 278 = .ok (.iconst 0, 1) := by decide +kernel
theorem dX11_orbit_279 : decode cX11_orbit 279 = .ok (.istore 4, 2) := by decide +kernel
theorem dX11_orbit_281 : decode cX11_orbit 281 = .ok (.iload 4, 2) := by decide +kernel
theorem dX11_orbit_283 : decode cX11_orbit 283 = .ok (.aload_n 0, 1) := by decide +kernel
theorem dX11_orbit_284 : decode cX11_orbit 284 = .ok (.getfield 102, 3) := by decide +kernel
theorem dX11_orbit_287 : decode cX11_orbit 287 = .ok (.if_icmp .ge 95, 3) := by decide +kernel
theorem dX11_orbit_290 : decode cX11_orbit 290 = .ok (.iconst 0, 1) := by decide +kernel
theorem dX11_orbit_291 : decode cX11_orbit 291 = .ok (.istore 5, 2) := by decide +kernel
theorem dX11_orbit_293 : decode cX11_orbit 293 = .ok (.iload 5, 2) := by decide +kernel
theorem dX11_orbit_295 : decode cX11_orbit 295 = .ok (.aload_n 0, 1) := by decide +kernel
theorem dX11_orbit_296 : decode cX11_orbit 296 = .ok (.getfield 85, 3) := by decide +kernel
theorem dX11_orbit_299 : decode cX11_orbit 299 = .ok (.if_icmp .ge 77, 3) := by decide +kernel
theorem dX11_orbit_376 : decode cX11_orbit 376 = .ok (.iinc 4 1, 3) := by decide +kernel
theorem dX11_orbit_379 : decode cX11_orbit 379 = .ok (.goto (-98), 3) := by decide +kernel
theorem dX11_orbit_382 : decode cX11_orbit 382 = .ok (.aload_n 0, 1) := by decide +kernel
theorem dX11_orbit_383 : decode cX11_orbit 383 = .ok (.getfield 102, 3) := by decide +kernel
theorem dX11_orbit_386 : decode cX11_orbit 386 = .ok (.ireturn, 1) := by decide +kernel
theorem dX11_order_0 : decode cX11_order 0 = .ok (.aload_n 0, 1) := by decide +kernel
theorem dX11_order_1 : decode cX11_order 1 = .ok (.getfield 30, 3) := by decide +kernel
theorem dX11_order_4 : decode cX11_order 4 = .ok (.astore_n 1, 1) := by decide +kernel
theorem dX11_order_5 : decode cX11_order 5 = .ok (.aload_n 0, 1) := by decide +kernel
theorem dX11_order_6 : decode cX11_order 6 = .ok (.getfield 23, 3) := by decide +kernel
theorem dX11_order_9 : decode cX11_order 9 = .ok (.astore_n 2, 1) := by decide +kernel
theorem dX11_order_10 : decode cX11_order 10 = .ok (.aload_n 0, 1) := by decide +kernel
theorem dX11_order_11 : decode cX11_order 11 = .ok (.aload_n 1, 1) := by decide +kernel
theorem dX11_order_12 : decode cX11_order 12 = .ok (.invokevirtual 107, 3) := by decide +kernel
theorem dX11_order_15 : decode cX11_order 15 = .ok (.iconst 1, 1) := by decide +kernel
theorem dX11_order_16 : decode cX11_order 16 = .ok (.istore_n 3, 1) := by decide +kernel
theorem dX11_order_17 : decode cX11_order 17 = .ok (.iload_n 3, 1) := by decide +kernel
theorem dX11_order_18 : decode cX11_order 18 = .ok (.bipush 12, 2) := by decide +kernel
theorem dX11_order_20 : decode cX11_order 20 = .ok (.if_icmp .gt 64, 3) := by decide +kernel
theorem dX11_order_23 : decode cX11_order 23 = .ok (.aload_n 0, 1) := by decide +kernel
theorem dX11_order_24 : decode cX11_order 24 = .ok (.aload_n 1, 1) := by decide +kernel
theorem dX11_order_25 : decode cX11_order 25 = .ok (.aload_n 0, 1) := by decide +kernel
theorem dX11_order_26 : decode cX11_order 26 = .ok (.getfield 27, 3) := by decide +kernel
theorem dX11_order_29 : decode cX11_order 29 = .ok (.aload_n 2, 1) := by decide +kernel
theorem dX11_order_30 : decode cX11_order 30 = .ok (.invokevirtual 129, 3) := by decide +kernel
theorem dX11_order_33 : decode cX11_order 33 = .ok (.iconst 0, 1) := by decide +kernel
theorem dX11_order_34 : decode cX11_order 34 = .ok (.istore 4, 2) := by decide +kernel
theorem dX11_order_36 : decode cX11_order 36 = .ok (.iload 4, 2) := by decide +kernel
theorem dX11_order_38 : decode cX11_order 38 = .ok (.bipush 9, 2) := by decide +kernel
theorem dX11_order_40 : decode cX11_order 40 = .ok (.if_icmp .ge 17, 3) := by decide +kernel
theorem dX11_order_43 : decode cX11_order 43 = .ok (.aload_n 1, 1) := by decide +kernel
theorem dX11_order_44 : decode cX11_order 44 = .ok (.iload 4, 2) := by decide +kernel
theorem dX11_order_46 : decode cX11_order 46 = .ok (.aload_n 2, 1) := by decide +kernel
theorem dX11_order_47 : decode cX11_order 47 = .ok (.iload 4, 2) := by decide +kernel
theorem dX11_order_49 : decode cX11_order 49 = .ok (.laload, 1) := by decide +kernel
theorem dX11_order_50 : decode cX11_order 50 = .ok (.lastore, 1) := by decide +kernel
theorem dX11_order_51 : decode cX11_order 51 = .ok (.iinc 4 1, 3) := by decide +kernel
theorem dX11_order_54 : decode cX11_order 54 = .ok (.goto (-18), 3) := by decide +kernel
theorem dX11_order_57 : decode cX11_order 57 = .ok (.aload_n 0, 1) := by decide +kernel
theorem dX11_order_58 : decode cX11_order 58 = .ok (.aload_n 1, 1) := by decide +kernel
theorem dX11_order_59 : decode cX11_order 59 = .ok (.invokevirtual 151, 3) := by decide +kernel
theorem dX11_order_62 : decode cX11_order 62 = .ok (.ifCond .eq 5, 3) := by decide +kernel
theorem dX11_order_65 : decode cX11_order 65 = .ok (.iload_n 3, 1) := by decide +kernel
theorem dX11_order_66 : decode cX11_order 66 = .ok (.ireturn, 1) := by decide +kernel
theorem dX11_orderOf_0 : decode cX11_orderOf 0 = .ok (.aload_n 0, 1) := by decide +kernel
theorem dX11_orderOf_1 : decode cX11_orderOf 1 = .ok (.iload_n 1, 1) := by decide +kernel
theorem dX11_orderOf_2 : decode cX11_orderOf 2 = .ok (.aload_n 0, 1) := by decide +kernel
theorem dX11_orderOf_3 : decode cX11_orderOf 3 = .ok (.getfield 27, 3) := by decide +kernel
theorem dX11_orderOf_6 : decode cX11_orderOf 6 = .ok (.invokevirtual 209, 3) := by decide +kernel
theorem dX11_orderOf_9 : decode cX11_orderOf 9 = .ok (.aload_n 0, 1) := by decide +kernel
theorem dX11_orderOf_10 : decode cX11_orderOf 10 = .ok (.invokevirtual 157, 3) := by decide +kernel
theorem dX11_orderOf_13 : decode cX11_orderOf 13 = .ok (.ireturn, 1) := by decide +kernel
theorem dX11_placeOf_0 : decode cX11_placeOf 0 = .ok (.iconst 0, 1) := by decide +kernel
theorem dX11_placeOf_1 : decode cX11_placeOf 1 = .ok (.istore_n 2, 1) := by decide +kernel
theorem dX11_placeOf_2 : decode cX11_placeOf 2 = .ok (.iload_n 2, 1) := by decide +kernel
theorem dX11_placeOf_3 : decode cX11_placeOf 3 = .ok (.aload_n 0, 1) := by decide +kernel
theorem dX11_placeOf_4 : decode cX11_placeOf 4 = .ok (.getfield 202, 3) := by decide +kernel
theorem dX11_placeOf_7 : decode cX11_placeOf 7 = .ok (.if_icmp .ge 63, 3) := by decide +kernel
theorem dX11_placeOf_10 : decode cX11_placeOf 10 = .ok (.iconst 1, 1) := by decide +kernel
theorem dX11_placeOf_11 : decode cX11_placeOf 11 = .ok (.istore_n 3, 1) := by decide +kernel
theorem dX11_placeOf_12 : decode cX11_placeOf 12 = .ok (.iconst 0, 1) := by decide +kernel
theorem dX11_placeOf_13 : decode cX11_placeOf 13 = .ok (.istore 4, 2) := by decide +kernel
theorem dX11_placeOf_15 : decode cX11_placeOf 15 = .ok (.iload 4, 2) := by decide +kernel
theorem dX11_placeOf_17 : decode cX11_placeOf 17 = .ok (.bipush 9, 2) := by decide +kernel
theorem dX11_placeOf_19 : decode cX11_placeOf 19 = .ok (.if_icmp .ge 39, 3) := by decide +kernel
theorem dX11_placeOf_22 : decode cX11_placeOf 22 = .ok (.iload_n 3, 1) := by decide +kernel
theorem dX11_placeOf_23 : decode cX11_placeOf 23 = .ok (.ifCond .eq 35, 3) := by decide +kernel
theorem dX11_placeOf_26 : decode cX11_placeOf 26 = .ok (.aload_n 0, 1) := by decide +kernel
theorem dX11_placeOf_27 : decode cX11_placeOf 27 = .ok (.getfield 45, 3) := by decide +kernel
theorem dX11_placeOf_30 : decode cX11_placeOf 30 = .ok (.bipush 9, 2) := by decide +kernel
theorem dX11_placeOf_32 : decode cX11_placeOf 32 = .ok (.iload_n 2, 1) := by decide +kernel
theorem dX11_placeOf_33 : decode cX11_placeOf 33 = .ok (.imul, 1) := by decide +kernel
theorem dX11_placeOf_34 : decode cX11_placeOf 34 = .ok (.iload 4, 2) := by decide +kernel
theorem dX11_placeOf_36 : decode cX11_placeOf 36 = .ok (.iadd, 1) := by decide +kernel
theorem dX11_placeOf_37 : decode cX11_placeOf 37 = .ok (.laload, 1) := by decide +kernel
theorem dX11_placeOf_38 : decode cX11_placeOf 38 = .ok (.aload_n 1, 1) := by decide +kernel
theorem dX11_placeOf_39 : decode cX11_placeOf 39 = .ok (.iload 4, 2) := by decide +kernel
theorem dX11_placeOf_41 : decode cX11_placeOf 41 = .ok (.laload, 1) := by decide +kernel
theorem dX11_placeOf_42 : decode cX11_placeOf 42 = .ok (.lcmp, 1) := by decide +kernel
theorem dX11_placeOf_43 : decode cX11_placeOf 43 = .ok (.ifCond .ne 7, 3) := by decide +kernel
theorem dX11_placeOf_46 : decode cX11_placeOf 46 = .ok (.iconst 1, 1) := by decide +kernel
theorem dX11_placeOf_47 : decode cX11_placeOf 47 = .ok (.goto 4, 3) := by decide +kernel
theorem dX11_placeOf_51 : decode cX11_placeOf 51 = .ok (.istore_n 3, 1) := by decide +kernel
theorem dX11_placeOf_52 : decode cX11_placeOf 52 = .ok (.iinc 4 1, 3) := by decide +kernel
theorem dX11_placeOf_55 : decode cX11_placeOf 55 = .ok (.goto (-40), 3) := by decide +kernel
theorem dX11_placeOf_58 : decode cX11_placeOf 58 = .ok (.iload_n 3, 1) := by decide +kernel
theorem dX11_placeOf_59 : decode cX11_placeOf 59 = .ok (.ifCond .eq 5, 3) := by decide +kernel
theorem dX11_placeOf_62 : decode cX11_placeOf 62 = .ok (.iload_n 2, 1) := by decide +kernel
theorem dX11_placeOf_63 : decode cX11_placeOf 63 = .ok (.ireturn, 1) := by decide +kernel
theorem dX11_point_0 : decode cX11_point 0 = .ok (.iload_n 1, 1) := by decide +kernel
theorem dX11_point_1 : decode cX11_point 1 = .ok (.i2l, 1) := by decide +kernel
theorem dX11_point_2 : decode cX11_point 2 = .ok (.lconst 0, 1) := by decide +kernel
theorem dX11_point_3 : decode cX11_point 3 = .ok (.aload_n 0, 1) := by decide +kernel
theorem dX11_point_4 : decode cX11_point 4 = .ok (.getfield 102, 3) := by decide +kernel
theorem dX11_point_7 : decode cX11_point 7 = .ok (.iconst 1, 1) := by decide +kernel
theorem dX11_point_8 : decode cX11_point 8 = .ok (.isub, 1) := by decide +kernel
theorem dX11_point_9 : decode cX11_point 9 = .ok (.i2l, 1) := by decide +kernel
theorem dX11_point_10 : decode cX11_point 10 = .ok (.invokestatic 81, 3) := by decide +kernel
theorem dX11_point_13 : decode cX11_point 13 = .ok (.ifCond .eq 24, 3) := by decide +kernel
theorem dX11_point_37 : decode cX11_point 37 = .ok (.iconst (-1), 1) := by decide +kernel
theorem dX11_point_38 : decode cX11_point 38 = .ok (.invokestatic 222, 3) := by decide +kernel
theorem dX11_point_41 : decode cX11_point 41 = .ok (.lreturn, 1) := by decide +kernel
theorem dX11_put_0 : decode cX11_put 0 = .ok (.iload_n 1, 1) := by decide +kernel
theorem dX11_put_1 : decode cX11_put 1 = .ok (.invokestatic 237, 3) := by decide +kernel
theorem dX11_put_4 : decode cX11_put 4 = .ok (.ifCond .ne 5, 3) := by decide +kernel
theorem dX11_put_7 : decode cX11_put 7 = .ok (.iconst (-1), 1) := by decide +kernel
theorem dX11_put_8 : decode cX11_put 8 = .ok (.ireturn, 1) := by decide +kernel
theorem dX11_put_9 : decode cX11_put 9 = .ok (.aload_n 0, 1) := by decide +kernel
theorem dX11_put_10 : decode cX11_put 10 = .ok (.getfield 69, 3) := by decide +kernel
theorem dX11_put_13 : decode cX11_put 13 = .ok (.iload_n 1, 1) := by decide +kernel
theorem dX11_put_14 : decode cX11_put 14 = .ok (.iaload, 1) := by decide +kernel
theorem dX11_put_15 : decode cX11_put 15 = .ok (.ifCond .ge 6, 3) := by decide +kernel
theorem dX11_put_18 : decode cX11_put 18 = .ok (.bipush (-11), 2) := by decide +kernel
theorem dX11_put_20 : decode cX11_put 20 = .ok (.ireturn, 1) := by decide +kernel
theorem dX11_round_0 : decode cX11_round 0 = .ok (.iload_n 1, 1) := by decide +kernel
theorem dX11_round_1 : decode cX11_round 1 = .ok (.i2l, 1) := by decide +kernel
theorem dX11_round_2 : decode cX11_round 2 = .ok (.lconst 0, 1) := by decide +kernel
theorem dX11_round_3 : decode cX11_round 3 = .ok (.ldc2_w 278, 3) := by decide +kernel
theorem dX11_round_6 : decode cX11_round 6 = .ok (.invokestatic 81, 3) := by decide +kernel
theorem dX11_round_9 : decode cX11_round 9 = .ok (.ifCond .ne 5, 3) := by decide +kernel
theorem dX11_round_12 : decode cX11_round 12 = .ok (.iconst (-1), 1) := by decide +kernel
theorem dX11_round_13 : decode cX11_round 13 = .ok (.ireturn, 1) := by decide +kernel
theorem dX11_round_14 : decode cX11_round 14 = .ok (.aload_n 0, 1) := by decide +kernel
theorem dX11_round_15 : decode cX11_round 15 = .ok (.getfield 102, 3) := by decide +kernel
theorem dX11_round_18 : decode cX11_round 18 = .ok (.ifCond .ne 6, 3) := by decide +kernel
theorem dX11_round_21 : decode cX11_round 21 = .ok (.bipush (-3), 2) := by decide +kernel
theorem dX11_round_23 : decode cX11_round 23 = .ok (.ireturn, 1) := by decide +kernel
theorem dX11_seed_0 : decode cX11_seed 0 = .ok (.aload_n 0, 1) := by decide +kernel
theorem dX11_seed_1 : decode cX11_seed 1 = .ok (.getfield 13, 3) := by decide +kernel
theorem dX11_seed_4 : decode cX11_seed 4 = .ok (.istore_n 2, 1) := by decide +kernel
theorem dX11_seed_5 : decode cX11_seed 5 = .ok (.aload_n 0, 1) := by decide +kernel
theorem dX11_seed_6 : decode cX11_seed 6 = .ok (.iload_n 1, 1) := by decide +kernel
theorem dX11_seed_7 : decode cX11_seed 7 = .ok (.putfield 13, 3) := by decide +kernel
theorem dX11_seed_10 : decode cX11_seed 10 = .ok (.iload_n 2, 1) := by decide +kernel
theorem dX11_seed_11 : decode cX11_seed 11 = .ok (.ireturn, 1) := by decide +kernel
theorem dX11_sheet_0 : decode cX11_sheet 0 = .ok (.iload_n 1, 1) := by decide +kernel
theorem dX11_sheet_1 : decode cX11_sheet 1 = .ok (.invokestatic 237, 3) := by decide +kernel
theorem dX11_sheet_4 : decode cX11_sheet 4 = .ok (.ifCond .eq 27, 3) := by decide +kernel
theorem dX11_sheet_7 : decode cX11_sheet 7 = .ok (.iload_n 2, 1) := by decide +kernel
theorem dX11_sheet_8 : decode cX11_sheet 8 = .ok (.i2l, 1) := by decide +kernel
theorem dX11_sheet_9 : decode cX11_sheet 9 = .ok (.ldc2_w 133, 3) := by decide +kernel
theorem dX11_sheet_12 : decode cX11_sheet 12 = .ok (.ldc2_w 278, 3) := by decide +kernel
theorem dX11_sheet_15 : decode cX11_sheet 15 = .ok (.invokestatic 81, 3) := by decide +kernel
theorem dX11_sheet_18 : decode cX11_sheet 18 = .ok (.ifCond .eq 13, 3) := by decide +kernel
theorem dX11_sheet_21 : decode cX11_sheet 21 = .ok (.iload_n 2, 1) := by decide +kernel
theorem dX11_sheet_22 : decode cX11_sheet 22 = .ok (.ifCond .lt 11, 3) := by decide +kernel
theorem dX11_sheet_25 : decode cX11_sheet 25 = .ok (.iload_n 3, 1) := by decide +kernel
theorem dX11_sheet_26 : decode cX11_sheet 26 = .ok (.bipush 40, 2) := by decide +kernel
theorem dX11_sheet_28 : decode cX11_sheet 28 = .ok (.if_icmp .le 5, 3) := by decide +kernel
theorem dX11_sheet_31 : decode cX11_sheet 31 = .ok (.iconst (-1), 1) := by decide +kernel
theorem dX11_sheet_32 : decode cX11_sheet 32 = .ok (.ireturn, 1) := by decide +kernel
theorem dX11_sheet_33 : decode cX11_sheet 33 = .ok (.iload_n 2, 1) := by decide +kernel
theorem dX11_sheet_34 : decode cX11_sheet 34 = .ok (.ifCond .lt 10, 3) := by decide +kernel
theorem dX11_sheet_37 : decode cX11_sheet 37 = .ok (.iload_n 3, 1) := by decide +kernel
theorem dX11_sheet_38 : decode cX11_sheet 38 = .ok (.ifCond .ge 6, 3) := by decide +kernel
theorem dX11_sheet_41 : decode cX11_sheet 41 = .ok (.bipush (-14), 2) := by decide +kernel
theorem dX11_sheet_43 : decode cX11_sheet 43 = .ok (.ireturn, 1) := by decide +kernel
theorem dX11_sheet_44 : decode cX11_sheet 44 = .ok (.aload_n 0, 1) := by decide +kernel
theorem dX11_sheet_45 : decode cX11_sheet 45 = .ok (.getfield 69, 3) := by decide +kernel
theorem dX11_sheet_48 : decode cX11_sheet 48 = .ok (.iload_n 1, 1) := by decide +kernel
theorem dX11_sheet_49 : decode cX11_sheet 49 = .ok (.iload_n 2, 1) := by decide +kernel
theorem dX11_sheet_50 : decode cX11_sheet 50 = .ok (.iastore, 1) := by decide +kernel
theorem dX11_sheet_51 : decode cX11_sheet 51 = .ok (.aload_n 0, 1) := by decide +kernel
theorem dX11_sheet_52 : decode cX11_sheet 52 = .ok (.getfield 72, 3) := by decide +kernel
theorem dX11_sheet_55 : decode cX11_sheet 55 = .ok (.iload_n 1, 1) := by decide +kernel
theorem dX11_sheet_56 : decode cX11_sheet 56 = .ok (.iload_n 2, 1) := by decide +kernel
theorem dX11_sheet_57 : decode cX11_sheet 57 = .ok (.ifCond .ge 7, 3) := by decide +kernel
theorem dX11_sheet_60 : decode cX11_sheet 60 = .ok (.iconst 0, 1) := by decide +kernel
theorem dX11_sheet_61 : decode cX11_sheet 61 = .ok (.goto 4, 3) := by decide +kernel
theorem dX11_sheet_64 : decode cX11_sheet 64 = .ok (.iload_n 3, 1) := by decide +kernel
theorem dX11_sheet_65 : decode cX11_sheet 65 = .ok (.iastore, 1) := by decide +kernel
theorem dX11_sheet_66 : decode cX11_sheet 66 = .ok (.iconst 0, 1) := by decide +kernel
theorem dX11_sheet_67 : decode cX11_sheet 67 = .ok (.istore 4, 2) := by decide +kernel
theorem dX11_sheet_69 : decode cX11_sheet 69 = .ok (.iload 4, 2) := by decide +kernel
theorem dX11_sheet_71 : decode cX11_sheet 71 = .ok (.bipush 40, 2) := by decide +kernel
theorem dX11_sheet_73 : decode cX11_sheet 73 = .ok (.if_icmp .ge 22, 3) := by decide +kernel
theorem dX11_sheet_76 : decode cX11_sheet 76 = .ok (.aload_n 0, 1) := by decide +kernel
theorem dX11_sheet_77 : decode cX11_sheet 77 = .ok (.getfield 75, 3) := by decide +kernel
theorem dX11_sheet_80 : decode cX11_sheet 80 = .ok (.bipush 40, 2) := by decide +kernel
theorem dX11_sheet_82 : decode cX11_sheet 82 = .ok (.iload_n 1, 1) := by decide +kernel
theorem dX11_sheet_83 : decode cX11_sheet 83 = .ok (.imul, 1) := by decide +kernel
theorem dX11_sheet_84 : decode cX11_sheet 84 = .ok (.iload 4, 2) := by decide +kernel
theorem dX11_sheet_86 : decode cX11_sheet 86 = .ok (.iadd, 1) := by decide +kernel
theorem dX11_sheet_87 : decode cX11_sheet 87 = .ok (.lconst 0, 1) := by decide +kernel
theorem dX11_sheet_88 : decode cX11_sheet 88 = .ok (.lastore, 1) := by decide +kernel
theorem dX11_sheet_89 : decode cX11_sheet 89 = .ok (.iinc 4 1, 3) := by decide +kernel
theorem dX11_sheet_92 : decode cX11_sheet 92 = .ok (.goto (-23), 3) := by decide +kernel
theorem dX11_sheet_95 : decode cX11_sheet 95 = .ok (.iconst 1, 1) := by decide +kernel
theorem dX11_sheet_96 : decode cX11_sheet 96 = .ok (.ireturn, 1) := by decide +kernel
theorem dX11_size_0 : decode cX11_size 0 = .ok (.iload_n 1, 1) := by decide +kernel
theorem dX11_size_1 : decode cX11_size 1 = .ok (.i2l, 1) := by decide +kernel
theorem dX11_size_2 : decode cX11_size 2 = .ok (.lconst 1, 1) := by decide +kernel
theorem dX11_size_3 : decode cX11_size 3 = .ok (.ldc2_w 105, 3) := by decide +kernel
theorem dX11_size_6 : decode cX11_size 6 = .ok (.invokestatic 81, 3) := by decide +kernel
theorem dX11_size_9 : decode cX11_size 9 = .ok (.ifCond .ne 5, 3) := by decide +kernel
theorem dX11_size_12 : decode cX11_size 12 = .ok (.iconst (-1), 1) := by decide +kernel
theorem dX11_size_13 : decode cX11_size 13 = .ok (.ireturn, 1) := by decide +kernel
theorem dX11_size_14 : decode cX11_size 14 = .ok (.aload_n 0, 1) := by decide +kernel
theorem dX11_size_15 : decode cX11_size 15 = .ok (.getfield 7, 3) := by decide +kernel
theorem dX11_size_18 : decode cX11_size 18 = .ok (.istore_n 2, 1) := by decide +kernel
theorem dX11_size_19 : decode cX11_size 19 = .ok (.iload_n 1, 1) := by decide +kernel
theorem dX11_size_20 : decode cX11_size 20 = .ok (.iload_n 2, 1) := by decide +kernel
theorem dX11_size_21 : decode cX11_size 21 = .ok (.if_icmp .eq 23, 3) := by decide +kernel
theorem dX11_size_24 : decode cX11_size 24 = .ok (.aload_n 0, 1) := by decide +kernel
theorem dX11_size_25 : decode cX11_size 25 = .ok (.iload_n 1, 1) := by decide +kernel
theorem dX11_size_26 : decode cX11_size 26 = .ok (.putfield 7, 3) := by decide +kernel
theorem dX11_size_29 : decode cX11_size 29 = .ok (.aload_n 0, 1) := by decide +kernel
theorem dX11_size_30 : decode cX11_size 30 = .ok (.iconst 0, 1) := by decide +kernel
theorem dX11_size_31 : decode cX11_size 31 = .ok (.putfield 85, 3) := by decide +kernel
theorem dX11_size_34 : decode cX11_size 34 = .ok (.aload_n 0, 1) := by decide +kernel
theorem dX11_size_35 : decode cX11_size 35 = .ok (.iconst 0, 1) := by decide +kernel
theorem dX11_size_36 : decode cX11_size 36 = .ok (.putfield 98, 3) := by decide +kernel
theorem dX11_size_39 : decode cX11_size 39 = .ok (.aload_n 0, 1) := by decide +kernel
theorem dX11_size_40 : decode cX11_size 40 = .ok (.iconst 0, 1) := by decide +kernel
theorem dX11_size_41 : decode cX11_size 41 = .ok (.putfield 102, 3) := by decide +kernel
theorem dX11_size_44 : decode cX11_size 44 = .ok (.iload_n 2, 1) := by decide +kernel
theorem dX11_size_45 : decode cX11_size 45 = .ok (.ireturn, 1) := by decide +kernel
theorem dX11_still_0 : decode cX11_still 0 = .ok (.iload_n 1, 1) := by decide +kernel
theorem dX11_still_1 : decode cX11_still 1 = .ok (.iload_n 2, 1) := by decide +kernel
theorem dX11_still_2 : decode cX11_still 2 = .ok (.iload_n 3, 1) := by decide +kernel
theorem dX11_still_3 : decode cX11_still 3 = .ok (.invokestatic 264, 3) := by decide +kernel
theorem dX11_still_6 : decode cX11_still 6 = .ok (.ifCond .ne 5, 3) := by decide +kernel
theorem dX11_still_9 : decode cX11_still 9 = .ok (.iconst (-1), 1) := by decide +kernel
theorem dX11_still_10 : decode cX11_still 10 = .ok (.ireturn, 1) := by decide +kernel
theorem dX11_still_11 : decode cX11_still 11 = .ok (.aload_n 0, 1) := by decide +kernel
theorem dX11_still_12 : decode cX11_still 12 = .ok (.invokevirtual 219, 3) := by decide +kernel
theorem dX11_still_15 : decode cX11_still 15 = .ok (.aload_n 0, 1) := by decide +kernel
theorem dX11_still_16 : decode cX11_still 16 = .ok (.getfield 7, 3) := by decide +kernel
theorem dX11_still_19 : decode cX11_still 19 = .ok (.iconst 1, 1) := by decide +kernel
theorem dX11_still_20 : decode cX11_still 20 = .ok (.if_icmp .le 8, 3) := by decide +kernel
theorem dX11_still_23 : decode cX11_still 23 = .ok (.iload_n 2, 1) := by decide +kernel
theorem dX11_still_24 : decode cX11_still 24 = .ok (.i2l, 1) := by decide +kernel
theorem dX11_still_25 : decode cX11_still 25 = .ok (.goto 4, 3) := by decide +kernel
theorem dX11_still_29 : decode cX11_still 29 = .ok (.lstore 4, 2) := by decide +kernel
theorem dX11_still_31 : decode cX11_still 31 = .ok (.aload_n 0, 1) := by decide +kernel
theorem dX11_still_32 : decode cX11_still 32 = .ok (.getfield 7, 3) := by decide +kernel
theorem dX11_still_35 : decode cX11_still 35 = .ok (.iconst 2, 1) := by decide +kernel
theorem dX11_still_36 : decode cX11_still 36 = .ok (.if_icmp .le 8, 3) := by decide +kernel
theorem dX11_still_44 : decode cX11_still 44 = .ok (.lconst 0, 1) := by decide +kernel
theorem dX11_still_45 : decode cX11_still 45 = .ok (.lstore 6, 2) := by decide +kernel
theorem dX11_still_47 : decode cX11_still 47 = .ok (.iconst 0, 1) := by decide +kernel
theorem dX11_still_48 : decode cX11_still 48 = .ok (.istore 8, 2) := by decide +kernel
theorem dX11_still_50 : decode cX11_still 50 = .ok (.iconst 0, 1) := by decide +kernel
theorem dX11_still_51 : decode cX11_still 51 = .ok (.istore 9, 2) := by decide +kernel
theorem dX11_still_53 : decode cX11_still 53 = .ok (.iload 9, 2) := by decide +kernel
theorem dX11_still_55 : decode cX11_still 55 = .ok (.aload_n 0, 1) := by decide +kernel
theorem dX11_still_56 : decode cX11_still 56 = .ok (.getfield 202, 3) := by decide +kernel
theorem dX11_still_59 : decode cX11_still 59 = .ok (.if_icmp .ge 173, 3) := by decide +kernel
theorem dX11_still_62 : decode cX11_still 62 = .ok (.aload_n 0, 1) := by decide +kernel
theorem dX11_still_63 : decode cX11_still 63 = .ok (.iload 9, 2) := by decide +kernel
theorem dX11_still_65 : decode cX11_still 65 = .ok (.aload_n 0, 1) := by decide +kernel
theorem dX11_still_66 : decode cX11_still 66 = .ok (.getfield 27, 3) := by decide +kernel
theorem dX11_still_69 : decode cX11_still 69 = .ok (.invokevirtual 209, 3) := by decide +kernel
theorem dX11_still_72 : decode cX11_still 72 = .ok (.aload_n 0, 1) := by decide +kernel
theorem dX11_still_73 : decode cX11_still 73 = .ok (.getfield 27, 3) := by decide +kernel
theorem dX11_still_76 : decode cX11_still 76 = .ok (.iconst 0, 1) := by decide +kernel
theorem dX11_still_77 : decode cX11_still 77 = .ok (.laload, 1) := by decide +kernel
theorem dX11_still_78 : decode cX11_still 78 = .ok (.iload_n 1, 1) := by decide +kernel
theorem dX11_still_79 : decode cX11_still 79 = .ok (.i2l, 1) := by decide +kernel
theorem dX11_still_80 : decode cX11_still 80 = .ok (.lmul, 1) := by decide +kernel
theorem dX11_still_81 : decode cX11_still 81 = .ok (.aload_n 0, 1) := by decide +kernel
theorem dX11_still_82 : decode cX11_still 82 = .ok (.getfield 27, 3) := by decide +kernel
theorem dX11_still_85 : decode cX11_still 85 = .ok (.iconst 1, 1) := by decide +kernel
theorem dX11_still_86 : decode cX11_still 86 = .ok (.laload, 1) := by decide +kernel
theorem dX11_still_87 : decode cX11_still 87 = .ok (.lload 4, 2) := by decide +kernel
theorem dX11_still_89 : decode cX11_still 89 = .ok (.lmul, 1) := by decide +kernel
theorem dX11_still_90 : decode cX11_still 90 = .ok (.ladd, 1) := by decide +kernel
theorem dX11_still_91 : decode cX11_still 91 = .ok (.aload_n 0, 1) := by decide +kernel
theorem dX11_still_92 : decode cX11_still 92 = .ok (.getfield 27, 3) := by decide +kernel
theorem dX11_still_95 : decode cX11_still 95 = .ok (.iconst 2, 1) := by decide +kernel
theorem dX11_still_96 : decode cX11_still 96 = .ok (.laload, 1) := by decide +kernel
theorem dX11_still_97 : decode cX11_still 97 = .ok (.lload 6, 2) := by decide +kernel
theorem dX11_still_99 : decode cX11_still 99 = .ok (.lmul, 1) := by decide +kernel
theorem dX11_still_100 : decode cX11_still 100 = .ok (.ladd, 1) := by decide +kernel
theorem dX11_still_101 : decode cX11_still 101 = .ok (.iload_n 1, 1) := by decide +kernel
theorem dX11_still_102 : decode cX11_still 102 = .ok (.i2l, 1) := by decide +kernel
theorem dX11_still_103 : decode cX11_still 103 = .ok (.lcmp, 1) := by decide +kernel
theorem dX11_still_104 : decode cX11_still 104 = .ok (.ifCond .ne 7, 3) := by decide +kernel
theorem dX11_still_107 : decode cX11_still 107 = .ok (.iconst 1, 1) := by decide +kernel
theorem dX11_still_108 : decode cX11_still 108 = .ok (.goto 4, 3) := by decide +kernel
theorem dX11_still_112 : decode cX11_still 112 = .ok (.istore 10, 2) := by decide +kernel
theorem dX11_still_114 : decode cX11_still 114 = .ok (.iload 10, 2) := by decide +kernel
theorem dX11_still_116 : decode cX11_still 116 = .ok (.ifCond .eq 42, 3) := by decide +kernel
theorem dX11_still_119 : decode cX11_still 119 = .ok (.aload_n 0, 1) := by decide +kernel
theorem dX11_still_120 : decode cX11_still 120 = .ok (.getfield 27, 3) := by decide +kernel
theorem dX11_still_123 : decode cX11_still 123 = .ok (.iconst 3, 1) := by decide +kernel
theorem dX11_still_124 : decode cX11_still 124 = .ok (.laload, 1) := by decide +kernel
theorem dX11_still_125 : decode cX11_still 125 = .ok (.iload_n 1, 1) := by decide +kernel
theorem dX11_still_126 : decode cX11_still 126 = .ok (.i2l, 1) := by decide +kernel
theorem dX11_still_127 : decode cX11_still 127 = .ok (.lmul, 1) := by decide +kernel
theorem dX11_still_128 : decode cX11_still 128 = .ok (.aload_n 0, 1) := by decide +kernel
theorem dX11_still_129 : decode cX11_still 129 = .ok (.getfield 27, 3) := by decide +kernel
theorem dX11_still_132 : decode cX11_still 132 = .ok (.iconst 4, 1) := by decide +kernel
theorem dX11_still_133 : decode cX11_still 133 = .ok (.laload, 1) := by decide +kernel
theorem dX11_still_134 : decode cX11_still 134 = .ok (.lload 4, 2) := by decide +kernel
theorem dX11_still_136 : decode cX11_still 136 = .ok (.lmul, 1) := by decide +kernel
theorem dX11_still_137 : decode cX11_still 137 = .ok (.ladd, 1) := by decide +kernel
theorem dX11_still_138 : decode cX11_still 138 = .ok (.aload_n 0, 1) := by decide +kernel
theorem dX11_still_139 : decode cX11_still 139 = .ok (.getfield 27, 3) := by decide +kernel
theorem dX11_still_142 : decode cX11_still 142 = .ok (.iconst 5, 1) := by decide +kernel
theorem dX11_still_143 : decode cX11_still 143 = .ok (.laload, 1) := by decide +kernel
theorem dX11_still_144 : decode cX11_still 144 = .ok (.lload 6, 2) := by decide +kernel
theorem dX11_still_146 : decode cX11_still 146 = .ok (.lmul, 1) := by decide +kernel
theorem dX11_still_147 : decode cX11_still 147 = .ok (.ladd, 1) := by decide +kernel
theorem dX11_still_148 : decode cX11_still 148 = .ok (.lload 4, 2) := by decide +kernel
theorem dX11_still_150 : decode cX11_still 150 = .ok (.lcmp, 1) := by decide +kernel
theorem dX11_still_151 : decode cX11_still 151 = .ok (.ifCond .ne 7, 3) := by decide +kernel
theorem dX11_still_154 : decode cX11_still 154 = .ok (.iconst 1, 1) := by decide +kernel
theorem dX11_still_155 : decode cX11_still 155 = .ok (.goto 4, 3) := by decide +kernel
theorem dX11_still_159 : decode cX11_still 159 = .ok (.istore 10, 2) := by decide +kernel
theorem dX11_still_161 : decode cX11_still 161 = .ok (.iload 10, 2) := by decide +kernel
theorem dX11_still_163 : decode cX11_still 163 = .ok (.ifCond .eq 45, 3) := by decide +kernel
theorem dX11_still_166 : decode cX11_still 166 = .ok (.aload_n 0, 1) := by decide +kernel
theorem dX11_still_167 : decode cX11_still 167 = .ok (.getfield 27, 3) := by decide +kernel
theorem dX11_still_170 : decode cX11_still 170 = .ok (.bipush 6, 2) := by decide +kernel
theorem dX11_still_172 : decode cX11_still 172 = .ok (.laload, 1) := by decide +kernel
theorem dX11_still_173 : decode cX11_still 173 = .ok (.iload_n 1, 1) := by decide +kernel
theorem dX11_still_174 : decode cX11_still 174 = .ok (.i2l, 1) := by decide +kernel
theorem dX11_still_175 : decode cX11_still 175 = .ok (.lmul, 1) := by decide +kernel
theorem dX11_still_176 : decode cX11_still 176 = .ok (.aload_n 0, 1) := by decide +kernel
theorem dX11_still_177 : decode cX11_still 177 = .ok (.getfield 27, 3) := by decide +kernel
theorem dX11_still_180 : decode cX11_still 180 = .ok (.bipush 7, 2) := by decide +kernel
theorem dX11_still_182 : decode cX11_still 182 = .ok (.laload, 1) := by decide +kernel
theorem dX11_still_183 : decode cX11_still 183 = .ok (.lload 4, 2) := by decide +kernel
theorem dX11_still_185 : decode cX11_still 185 = .ok (.lmul, 1) := by decide +kernel
theorem dX11_still_186 : decode cX11_still 186 = .ok (.ladd, 1) := by decide +kernel
theorem dX11_still_187 : decode cX11_still 187 = .ok (.aload_n 0, 1) := by decide +kernel
theorem dX11_still_188 : decode cX11_still 188 = .ok (.getfield 27, 3) := by decide +kernel
theorem dX11_still_191 : decode cX11_still 191 = .ok (.bipush 8, 2) := by decide +kernel
theorem dX11_still_193 : decode cX11_still 193 = .ok (.laload, 1) := by decide +kernel
theorem dX11_still_194 : decode cX11_still 194 = .ok (.lload 6, 2) := by decide +kernel
theorem dX11_still_196 : decode cX11_still 196 = .ok (.lmul, 1) := by decide +kernel
theorem dX11_still_197 : decode cX11_still 197 = .ok (.ladd, 1) := by decide +kernel
theorem dX11_still_198 : decode cX11_still 198 = .ok (.lload 6, 2) := by decide +kernel
theorem dX11_still_200 : decode cX11_still 200 = .ok (.lcmp, 1) := by decide +kernel
theorem dX11_still_201 : decode cX11_still 201 = .ok (.ifCond .ne 7, 3) := by decide +kernel
theorem dX11_still_204 : decode cX11_still 204 = .ok (.iconst 1, 1) := by decide +kernel
theorem dX11_still_205 : decode cX11_still 205 = .ok (.goto 4, 3) := by decide +kernel
theorem dX11_still_209 : decode cX11_still 209 = .ok (.istore 10, 2) := by decide +kernel
theorem dX11_still_211 : decode cX11_still 211 = .ok (.iload 8, 2) := by decide +kernel
theorem dX11_still_213 : decode cX11_still 213 = .ok (.iload 10, 2) := by decide +kernel
theorem dX11_still_215 : decode cX11_still 215 = .ok (.ifCond .eq 7, 3) := by decide +kernel
theorem dX11_still_218 : decode cX11_still 218 = .ok (.iconst 1, 1) := by decide +kernel
theorem dX11_still_219 : decode cX11_still 219 = .ok (.goto 4, 3) := by decide +kernel
theorem dX11_still_223 : decode cX11_still 223 = .ok (.iadd, 1) := by decide +kernel
theorem dX11_still_224 : decode cX11_still 224 = .ok (.istore 8, 2) := by decide +kernel
theorem dX11_still_226 : decode cX11_still 226 = .ok (.iinc 9 1, 3) := by decide +kernel
theorem dX11_still_229 : decode cX11_still 229 = .ok (.goto (-176), 3) := by decide +kernel
theorem dX11_still_232 : decode cX11_still 232 = .ok (.iload 8, 2) := by decide +kernel
theorem dX11_still_234 : decode cX11_still 234 = .ok (.ireturn, 1) := by decide +kernel
theorem dX11_take_0 : decode cX11_take 0 = .ok (.iload_n 1, 1) := by decide +kernel
theorem dX11_take_1 : decode cX11_take 1 = .ok (.invokestatic 237, 3) := by decide +kernel
theorem dX11_take_4 : decode cX11_take 4 = .ok (.ifCond .ne 5, 3) := by decide +kernel
theorem dX11_take_7 : decode cX11_take 7 = .ok (.iconst (-1), 1) := by decide +kernel
theorem dX11_take_8 : decode cX11_take 8 = .ok (.ireturn, 1) := by decide +kernel
theorem dX11_take_9 : decode cX11_take 9 = .ok (.aload_n 0, 1) := by decide +kernel
theorem dX11_take_10 : decode cX11_take 10 = .ok (.iload_n 1, 1) := by decide +kernel
theorem dX11_take_11 : decode cX11_take 11 = .ok (.iload_n 2, 1) := by decide +kernel
theorem dX11_take_12 : decode cX11_take 12 = .ok (.invokevirtual 293, 3) := by decide +kernel
theorem dX11_take_15 : decode cX11_take 15 = .ok (.istore_n 3, 1) := by decide +kernel
theorem dX11_take_16 : decode cX11_take 16 = .ok (.iload_n 3, 1) := by decide +kernel
theorem dX11_take_17 : decode cX11_take 17 = .ok (.ifCond .eq 5, 3) := by decide +kernel
theorem dX11_take_20 : decode cX11_take 20 = .ok (.iload_n 3, 1) := by decide +kernel
theorem dX11_take_21 : decode cX11_take 21 = .ok (.ireturn, 1) := by decide +kernel
theorem dX11_takesElement_0 : decode cX11_takesElement 0 = .ok (.iconst 0, 1) := by decide +kernel
theorem dX11_takesElement_1 : decode cX11_takesElement 1 = .ok (.istore_n 3, 1) := by decide +kernel
theorem dX11_takesElement_2 : decode cX11_takesElement 2 = .ok (.iload_n 3, 1) := by decide +kernel
theorem dX11_takesElement_3 : decode cX11_takesElement 3 = .ok (.bipush 9, 2) := by decide +kernel
theorem dX11_takesElement_5 : decode cX11_takesElement 5 = .ok (.if_icmp .ge 23, 3) := by decide +kernel
theorem dX11_takesElement_8 : decode cX11_takesElement 8 = .ok (.aload_n 2, 1) := by decide +kernel
theorem dX11_takesElement_9 : decode cX11_takesElement 9 = .ok (.iload_n 3, 1) := by decide +kernel
theorem dX11_takesElement_10 : decode cX11_takesElement 10 = .ok (.aload_n 0, 1) := by decide +kernel
theorem dX11_takesElement_11 : decode cX11_takesElement 11 = .ok (.getfield 45, 3) := by decide +kernel
theorem dX11_takesElement_14 : decode cX11_takesElement 14 = .ok (.bipush 9, 2) := by decide +kernel
theorem dX11_takesElement_16 : decode cX11_takesElement 16 = .ok (.iload_n 1, 1) := by decide +kernel
theorem dX11_takesElement_17 : decode cX11_takesElement 17 = .ok (.imul, 1) := by decide +kernel
theorem dX11_takesElement_18 : decode cX11_takesElement 18 = .ok (.iload_n 3, 1) := by decide +kernel
theorem dX11_takesElement_19 : decode cX11_takesElement 19 = .ok (.iadd, 1) := by decide +kernel
theorem dX11_takesElement_20 : decode cX11_takesElement 20 = .ok (.laload, 1) := by decide +kernel
theorem dX11_takesElement_21 : decode cX11_takesElement 21 = .ok (.lastore, 1) := by decide +kernel
theorem dX11_takesElement_22 : decode cX11_takesElement 22 = .ok (.iinc 3 1, 3) := by decide +kernel
theorem dX11_takesElement_25 : decode cX11_takesElement 25 = .ok (.goto (-23), 3) := by decide +kernel
theorem dX11_takesElement_28 : decode cX11_takesElement 28 = .ok (.return_, 1) := by decide +kernel
theorem dX11_text_0 : decode cX11_text 0 = .ok (.aload_n 0, 1) := by decide +kernel
theorem dX11_text_1 : decode cX11_text 1 = .ok (.iconst 0, 1) := by decide +kernel
theorem dX11_text_2 : decode cX11_text 2 = .ok (.putfield 176, 3) := by decide +kernel
theorem dX11_text_5 : decode cX11_text 5 = .ok (.aload_n 0, 1) := by decide +kernel
theorem dX11_text_6 : decode cX11_text 6 = .ok (.iconst 0, 1) := by decide +kernel
theorem dX11_text_7 : decode cX11_text 7 = .ok (.putfield 190, 3) := by decide +kernel
theorem dX11_text_10 : decode cX11_text 10 = .ok (.iconst 1, 1) := by decide +kernel
theorem dX11_text_11 : decode cX11_text 11 = .ok (.istore_n 1, 1) := by decide +kernel
theorem dX11_text_12 : decode cX11_text 12 = .ok (.iload_n 1, 1) := by decide +kernel
theorem dX11_text_13 : decode cX11_text 13 = .ok (.ifCond .eq 18, 3) := by decide +kernel
theorem dX11_text_16 : decode cX11_text 16 = .ok (.aload_n 0, 1) := by decide +kernel
theorem dX11_text_17 : decode cX11_text 17 = .ok (.invokevirtual 183, 3) := by decide +kernel
theorem dX11_text_20 : decode cX11_text 20 = .ok (.ifCond .lt 11, 3) := by decide +kernel
theorem dX11_text_31 : decode cX11_text 31 = .ok (.aload_n 0, 1) := by decide +kernel
theorem dX11_text_32 : decode cX11_text 32 = .ok (.getfield 176, 3) := by decide +kernel
theorem dX11_text_35 : decode cX11_text 35 = .ok (.istore_n 2, 1) := by decide +kernel
theorem dX11_text_36 : decode cX11_text 36 = .ok (.aload_n 0, 1) := by decide +kernel
theorem dX11_text_37 : decode cX11_text 37 = .ok (.iload_n 1, 1) := by decide +kernel
theorem dX11_text_38 : decode cX11_text 38 = .ok (.ifCond .eq 7, 3) := by decide +kernel
theorem dX11_text_41 : decode cX11_text 41 = .ok (.iconst 0, 1) := by decide +kernel
theorem dX11_text_42 : decode cX11_text 42 = .ok (.goto 7, 3) := by decide +kernel
theorem dX11_text_49 : decode cX11_text 49 = .ok (.putfield 171, 3) := by decide +kernel
theorem dX11_text_52 : decode cX11_text 52 = .ok (.iload_n 1, 1) := by decide +kernel
theorem dX11_text_53 : decode cX11_text 53 = .ok (.ifCond .ne 13, 3) := by decide +kernel
theorem dX11_text_66 : decode cX11_text 66 = .ok (.aload_n 0, 1) := by decide +kernel
theorem dX11_text_67 : decode cX11_text 67 = .ok (.aload_n 0, 1) := by decide +kernel
theorem dX11_text_68 : decode cX11_text 68 = .ok (.getfield 190, 3) := by decide +kernel
theorem dX11_text_71 : decode cX11_text 71 = .ok (.putfield 85, 3) := by decide +kernel
theorem dX11_text_74 : decode cX11_text 74 = .ok (.iconst 0, 1) := by decide +kernel
theorem dX11_text_75 : decode cX11_text 75 = .ok (.istore_n 3, 1) := by decide +kernel
theorem dX11_text_76 : decode cX11_text 76 = .ok (.iload_n 3, 1) := by decide +kernel
theorem dX11_text_77 : decode cX11_text 77 = .ok (.bipush 36, 2) := by decide +kernel
theorem dX11_text_79 : decode cX11_text 79 = .ok (.if_icmp .ge 41, 3) := by decide +kernel
theorem dX11_text_82 : decode cX11_text 82 = .ok (.aload_n 0, 1) := by decide +kernel
theorem dX11_text_83 : decode cX11_text 83 = .ok (.getfield 16, 3) := by decide +kernel
theorem dX11_text_86 : decode cX11_text 86 = .ok (.iload_n 3, 1) := by decide +kernel
theorem dX11_text_87 : decode cX11_text 87 = .ok (.iload_n 3, 1) := by decide +kernel
theorem dX11_text_88 : decode cX11_text 88 = .ok (.bipush 9, 2) := by decide +kernel
theorem dX11_text_90 : decode cX11_text 90 = .ok (.aload_n 0, 1) := by decide +kernel
theorem dX11_text_91 : decode cX11_text 91 = .ok (.getfield 85, 3) := by decide +kernel
theorem dX11_text_94 : decode cX11_text 94 = .ok (.imul, 1) := by decide +kernel
theorem dX11_text_95 : decode cX11_text 95 = .ok (.if_icmp .ge 12, 3) := by decide +kernel
theorem dX11_text_107 : decode cX11_text 107 = .ok (.aload_n 0, 1) := by decide +kernel
theorem dX11_text_108 : decode cX11_text 108 = .ok (.getfield 16, 3) := by decide +kernel
theorem dX11_text_111 : decode cX11_text 111 = .ok (.iload_n 3, 1) := by decide +kernel
theorem dX11_text_112 : decode cX11_text 112 = .ok (.iaload, 1) := by decide +kernel
theorem dX11_text_113 : decode cX11_text 113 = .ok (.iastore, 1) := by decide +kernel
theorem dX11_text_114 : decode cX11_text 114 = .ok (.iinc 3 1, 3) := by decide +kernel
theorem dX11_text_117 : decode cX11_text 117 = .ok (.goto (-41), 3) := by decide +kernel
theorem dX11_text_120 : decode cX11_text 120 = .ok (.aload_n 0, 1) := by decide +kernel
theorem dX11_text_121 : decode cX11_text 121 = .ok (.iconst 0, 1) := by decide +kernel
theorem dX11_text_122 : decode cX11_text 122 = .ok (.putfield 98, 3) := by decide +kernel
theorem dX11_text_125 : decode cX11_text 125 = .ok (.aload_n 0, 1) := by decide +kernel
theorem dX11_text_126 : decode cX11_text 126 = .ok (.iconst 0, 1) := by decide +kernel
theorem dX11_text_127 : decode cX11_text 127 = .ok (.putfield 102, 3) := by decide +kernel
theorem dX11_text_130 : decode cX11_text 130 = .ok (.aload_n 0, 1) := by decide +kernel
theorem dX11_text_131 : decode cX11_text 131 = .ok (.getfield 85, 3) := by decide +kernel
theorem dX11_text_134 : decode cX11_text 134 = .ok (.ireturn, 1) := by decide +kernel
theorem dX11_times_0 : decode cX11_times 0 = .ok (.aload_n 0, 1) := by decide +kernel
theorem dX11_times_1 : decode cX11_times 1 = .ok (.aload_n 3, 1) := by decide +kernel
theorem dX11_times_2 : decode cX11_times 2 = .ok (.invokevirtual 90, 3) := by decide +kernel
theorem dX11_times_5 : decode cX11_times 5 = .ok (.iconst 0, 1) := by decide +kernel
theorem dX11_times_6 : decode cX11_times 6 = .ok (.istore 4, 2) := by decide +kernel
theorem dX11_times_8 : decode cX11_times 8 = .ok (.iload 4, 2) := by decide +kernel
theorem dX11_times_10 : decode cX11_times 10 = .ok (.aload_n 0, 1) := by decide +kernel
theorem dX11_times_11 : decode cX11_times 11 = .ok (.getfield 7, 3) := by decide +kernel
theorem dX11_times_14 : decode cX11_times 14 = .ok (.if_icmp .ge 76, 3) := by decide +kernel
theorem dX11_times_17 : decode cX11_times 17 = .ok (.iconst 0, 1) := by decide +kernel
theorem dX11_times_18 : decode cX11_times 18 = .ok (.istore 5, 2) := by decide +kernel
theorem dX11_times_20 : decode cX11_times 20 = .ok (.iload 5, 2) := by decide +kernel
theorem dX11_times_22 : decode cX11_times 22 = .ok (.aload_n 0, 1) := by decide +kernel
theorem dX11_times_23 : decode cX11_times 23 = .ok (.getfield 7, 3) := by decide +kernel
theorem dX11_times_26 : decode cX11_times 26 = .ok (.if_icmp .ge 58, 3) := by decide +kernel
theorem dX11_times_29 : decode cX11_times 29 = .ok (.iconst 0, 1) := by decide +kernel
theorem dX11_times_30 : decode cX11_times 30 = .ok (.istore 6, 2) := by decide +kernel
theorem dX11_times_32 : decode cX11_times 32 = .ok (.iload 6, 2) := by decide +kernel
theorem dX11_times_34 : decode cX11_times 34 = .ok (.aload_n 0, 1) := by decide +kernel
theorem dX11_times_35 : decode cX11_times 35 = .ok (.getfield 7, 3) := by decide +kernel
theorem dX11_times_38 : decode cX11_times 38 = .ok (.if_icmp .ge 40, 3) := by decide +kernel
theorem dX11_times_41 : decode cX11_times 41 = .ok (.aload_n 3, 1) := by decide +kernel
theorem dX11_times_42 : decode cX11_times 42 = .ok (.iconst 3, 1) := by decide +kernel
theorem dX11_times_43 : decode cX11_times 43 = .ok (.iload 4, 2) := by decide +kernel
theorem dX11_times_45 : decode cX11_times 45 = .ok (.imul, 1) := by decide +kernel
theorem dX11_times_46 : decode cX11_times 46 = .ok (.iload 5, 2) := by decide +kernel
theorem dX11_times_48 : decode cX11_times 48 = .ok (.iadd, 1) := by decide +kernel
theorem dX11_times_49 : decode cX11_times 49 = .ok (.dup2, 1) := by decide +kernel
theorem dX11_times_50 : decode cX11_times 50 = .ok (.laload, 1) := by decide +kernel
theorem dX11_times_51 : decode cX11_times 51 = .ok (.aload_n 1, 1) := by decide +kernel
theorem dX11_times_52 : decode cX11_times 52 = .ok (.iconst 3, 1) := by decide +kernel
theorem dX11_times_53 : decode cX11_times 53 = .ok (.iload 4, 2) := by decide +kernel
theorem dX11_times_55 : decode cX11_times 55 = .ok (.imul, 1) := by decide +kernel
theorem dX11_times_56 : decode cX11_times 56 = .ok (.iload 6, 2) := by decide +kernel
theorem dX11_times_58 : decode cX11_times 58 = .ok (.iadd, 1) := by decide +kernel
theorem dX11_times_59 : decode cX11_times 59 = .ok (.laload, 1) := by decide +kernel
theorem dX11_times_60 : decode cX11_times 60 = .ok (.aload_n 2, 1) := by decide +kernel
theorem dX11_times_61 : decode cX11_times 61 = .ok (.iconst 3, 1) := by decide +kernel
theorem dX11_times_62 : decode cX11_times 62 = .ok (.iload 6, 2) := by decide +kernel
theorem dX11_times_64 : decode cX11_times 64 = .ok (.imul, 1) := by decide +kernel
theorem dX11_times_65 : decode cX11_times 65 = .ok (.iload 5, 2) := by decide +kernel
theorem dX11_times_67 : decode cX11_times 67 = .ok (.iadd, 1) := by decide +kernel
theorem dX11_times_68 : decode cX11_times 68 = .ok (.laload, 1) := by decide +kernel
theorem dX11_times_69 : decode cX11_times 69 = .ok (.lmul, 1) := by decide +kernel
theorem dX11_times_70 : decode cX11_times 70 = .ok (.ladd, 1) := by decide +kernel
theorem dX11_times_71 : decode cX11_times 71 = .ok (.lastore, 1) := by decide +kernel
theorem dX11_times_72 : decode cX11_times 72 = .ok (.iinc 6 1, 3) := by decide +kernel
theorem dX11_times_75 : decode cX11_times 75 = .ok (.goto (-43), 3) := by decide +kernel
theorem dX11_times_78 : decode cX11_times 78 = .ok (.iinc 5 1, 3) := by decide +kernel
theorem dX11_times_81 : decode cX11_times 81 = .ok (.goto (-61), 3) := by decide +kernel
theorem dX11_times_84 : decode cX11_times 84 = .ok (.iinc 4 1, 3) := by decide +kernel
theorem dX11_times_87 : decode cX11_times 87 = .ok (.goto (-79), 3) := by decide +kernel
theorem dX11_times_90 : decode cX11_times 90 = .ok (.return_, 1) := by decide +kernel
theorem dX11_told_0 : decode cX11_told 0 = .ok (.iconst 0, 1) := by decide +kernel
theorem dX11_told_1 : decode cX11_told 1 = .ok (.istore_n 3, 1) := by decide +kernel
theorem dX11_told_2 : decode cX11_told 2 = .ok (.iconst 0, 1) := by decide +kernel
theorem dX11_told_3 : decode cX11_told 3 = .ok (.istore 4, 2) := by decide +kernel
theorem dX11_told_5 : decode cX11_told 5 = .ok (.iload 4, 2) := by decide +kernel
theorem dX11_told_7 : decode cX11_told 7 = .ok (.bipush 9, 2) := by decide +kernel
theorem dX11_told_9 : decode cX11_told 9 = .ok (.if_icmp .ge 38, 3) := by decide +kernel
theorem dX11_told_12 : decode cX11_told 12 = .ok (.aload_n 1, 1) := by decide +kernel
theorem dX11_told_13 : decode cX11_told 13 = .ok (.iload 4, 2) := by decide +kernel
theorem dX11_told_15 : decode cX11_told 15 = .ok (.laload, 1) := by decide +kernel
theorem dX11_told_16 : decode cX11_told 16 = .ok (.iload_n 2, 1) := by decide +kernel
theorem dX11_told_17 : decode cX11_told 17 = .ok (.i2l, 1) := by decide +kernel
theorem dX11_told_18 : decode cX11_told 18 = .ok (.lrem, 1) := by decide +kernel
theorem dX11_told_19 : decode cX11_told 19 = .ok (.l2i, 1) := by decide +kernel
theorem dX11_told_20 : decode cX11_told 20 = .ok (.istore 5, 2) := by decide +kernel
theorem dX11_told_22 : decode cX11_told 22 = .ok (.iload_n 2, 1) := by decide +kernel
theorem dX11_told_23 : decode cX11_told 23 = .ok (.iload_n 3, 1) := by decide +kernel
theorem dX11_told_24 : decode cX11_told 24 = .ok (.imul, 1) := by decide +kernel
theorem dX11_told_25 : decode cX11_told 25 = .ok (.iload 5, 2) := by decide +kernel
theorem dX11_told_27 : decode cX11_told 27 = .ok (.ifCond .ge 10, 3) := by decide +kernel
theorem dX11_told_37 : decode cX11_told 37 = .ok (.iload 5, 2) := by decide +kernel
theorem dX11_told_39 : decode cX11_told 39 = .ok (.iadd, 1) := by decide +kernel
theorem dX11_told_40 : decode cX11_told 40 = .ok (.istore_n 3, 1) := by decide +kernel
theorem dX11_told_41 : decode cX11_told 41 = .ok (.iinc 4 1, 3) := by decide +kernel
theorem dX11_told_44 : decode cX11_told 44 = .ok (.goto (-39), 3) := by decide +kernel
theorem dX11_told_47 : decode cX11_told 47 = .ok (.iload_n 3, 1) := by decide +kernel
theorem dX11_told_48 : decode cX11_told 48 = .ok (.ireturn, 1) := by decide +kernel
theorem dX11_unit_0 : decode cX11_unit 0 = .ok (.aload_n 0, 1) := by decide +kernel
theorem dX11_unit_1 : decode cX11_unit 1 = .ok (.iload_n 1, 1) := by decide +kernel
theorem dX11_unit_2 : decode cX11_unit 2 = .ok (.invokevirtual 110, 3) := by decide +kernel
theorem dX11_unit_5 : decode cX11_unit 5 = .ok (.ifCond .eq 43, 3) := by decide +kernel
theorem dX11_unit_8 : decode cX11_unit 8 = .ok (.aload_n 0, 1) := by decide +kernel
theorem dX11_unit_9 : decode cX11_unit 9 = .ok (.iload_n 2, 1) := by decide +kernel
theorem dX11_unit_10 : decode cX11_unit 10 = .ok (.invokevirtual 110, 3) := by decide +kernel
theorem dX11_unit_13 : decode cX11_unit 13 = .ok (.ifCond .eq 35, 3) := by decide +kernel
theorem dX11_unit_16 : decode cX11_unit 16 = .ok (.iload_n 1, 1) := by decide +kernel
theorem dX11_unit_17 : decode cX11_unit 17 = .ok (.iload_n 2, 1) := by decide +kernel
theorem dX11_unit_18 : decode cX11_unit 18 = .ok (.if_icmp .ne 16, 3) := by decide +kernel
theorem dX11_unit_21 : decode cX11_unit 21 = .ok (.iload_n 3, 1) := by decide +kernel
theorem dX11_unit_22 : decode cX11_unit 22 = .ok (.iconst 1, 1) := by decide +kernel
theorem dX11_unit_23 : decode cX11_unit 23 = .ok (.if_icmp .eq 27, 3) := by decide +kernel
theorem dX11_unit_26 : decode cX11_unit 26 = .ok (.iload_n 3, 1) := by decide +kernel
theorem dX11_unit_27 : decode cX11_unit 27 = .ok (.iconst (-1), 1) := by decide +kernel
theorem dX11_unit_28 : decode cX11_unit 28 = .ok (.if_icmp .eq 22, 3) := by decide +kernel
theorem dX11_unit_31 : decode cX11_unit 31 = .ok (.goto 17, 3) := by decide +kernel
theorem dX11_unit_34 : decode cX11_unit 34 = .ok (.iload_n 3, 1) := by decide +kernel
theorem dX11_unit_35 : decode cX11_unit 35 = .ok (.i2l, 1) := by decide +kernel
theorem dX11_unit_36 : decode cX11_unit 36 = .ok (.ldc2_w 94, 3) := by decide +kernel
theorem dX11_unit_39 : decode cX11_unit 39 = .ok (.ldc2_w 96, 3) := by decide +kernel
theorem dX11_unit_42 : decode cX11_unit 42 = .ok (.invokestatic 81, 3) := by decide +kernel
theorem dX11_unit_45 : decode cX11_unit 45 = .ok (.ifCond .ne 5, 3) := by decide +kernel
theorem dX11_unit_48 : decode cX11_unit 48 = .ok (.iconst (-1), 1) := by decide +kernel
theorem dX11_unit_49 : decode cX11_unit 49 = .ok (.ireturn, 1) := by decide +kernel
theorem dX11_unit_50 : decode cX11_unit 50 = .ok (.aload_n 0, 1) := by decide +kernel
theorem dX11_unit_51 : decode cX11_unit 51 = .ok (.getfield 85, 3) := by decide +kernel
theorem dX11_unit_54 : decode cX11_unit 54 = .ok (.iconst 4, 1) := by decide +kernel
theorem dX11_unit_55 : decode cX11_unit 55 = .ok (.if_icmp .ne 6, 3) := by decide +kernel
theorem dX11_unit_61 : decode cX11_unit 61 = .ok (.aload_n 0, 1) := by decide +kernel
theorem dX11_unit_62 : decode cX11_unit 62 = .ok (.iload_n 1, 1) := by decide +kernel
theorem dX11_unit_63 : decode cX11_unit 63 = .ok (.iload_n 2, 1) := by decide +kernel
theorem dX11_unit_64 : decode cX11_unit 64 = .ok (.iload_n 3, 1) := by decide +kernel
theorem dX11_unit_65 : decode cX11_unit 65 = .ok (.invokevirtual 114, 3) := by decide +kernel
theorem dX11_unit_68 : decode cX11_unit 68 = .ok (.aload_n 0, 1) := by decide +kernel
theorem dX11_unit_69 : decode cX11_unit 69 = .ok (.invokevirtual 118, 3) := by decide +kernel
theorem dX11_unit_72 : decode cX11_unit 72 = .ok (.ireturn, 1) := by decide +kernel
theorem dX11_whole_0 : decode cX11_whole 0 = .ok (.aload_n 0, 1) := by decide +kernel
theorem dX11_whole_1 : decode cX11_whole 1 = .ok (.invokevirtual 219, 3) := by decide +kernel
theorem dX11_whole_4 : decode cX11_whole 4 = .ok (.aload_n 0, 1) := by decide +kernel
theorem dX11_whole_5 : decode cX11_whole 5 = .ok (.getfield 216, 3) := by decide +kernel
theorem dX11_whole_8 : decode cX11_whole 8 = .ok (.ifCond .eq 7, 3) := by decide +kernel
theorem dX11_whole_11 : decode cX11_whole 11 = .ok (.iconst 1, 1) := by decide +kernel
theorem dX11_whole_12 : decode cX11_whole 12 = .ok (.goto 4, 3) := by decide +kernel
theorem dX11_whole_16 : decode cX11_whole 16 = .ok (.ireturn, 1) := by decide +kernel
theorem dX11_witness_0 : decode cX11_witness 0 = .ok (.aload_n 0, 1) := by decide +kernel
theorem dX11_witness_1 : decode cX11_witness 1 = .ok (.invokevirtual 219, 3) := by decide +kernel
theorem dX11_witness_4 : decode cX11_witness 4 = .ok (.iconst 0, 1) := by decide +kernel
theorem dX11_witness_5 : decode cX11_witness 5 = .ok (.istore_n 1, 1) := by decide +kernel
theorem dX11_witness_6 : decode cX11_witness 6 = .ok (.iload_n 1, 1) := by decide +kernel
theorem dX11_witness_7 : decode cX11_witness 7 = .ok (.aload_n 0, 1) := by decide +kernel
theorem dX11_witness_8 : decode cX11_witness 8 = .ok (.getfield 202, 3) := by decide +kernel
theorem dX11_witness_11 : decode cX11_witness 11 = .ok (.if_icmp .ge 21, 3) := by decide +kernel
theorem dX11_witness_14 : decode cX11_witness 14 = .ok (.aload_n 0, 1) := by decide +kernel
theorem dX11_witness_15 : decode cX11_witness 15 = .ok (.iload_n 1, 1) := by decide +kernel
theorem dX11_witness_16 : decode cX11_witness 16 = .ok (.invokevirtual 226, 3) := by decide +kernel
theorem dX11_witness_19 : decode cX11_witness 19 = .ok (.bipush (-3), 2) := by decide +kernel
theorem dX11_witness_21 : decode cX11_witness 21 = .ok (.if_icmp .ne 5, 3) := by decide +kernel
theorem dX11_witness_26 : decode cX11_witness 26 = .ok (.iinc 1 1, 3) := by decide +kernel
theorem dX11_witness_29 : decode cX11_witness 29 = .ok (.goto (-23), 3) := by decide +kernel
theorem dX11_witness_32 : decode cX11_witness 32 = .ok (.bipush (-3), 2) := by decide +kernel
theorem dX11_witness_34 : decode cX11_witness 34 = .ok (.ireturn, 1) := by decide +kernel
theorem dX1_init_0 : decode cX1_init 0 = .ok (.aload_n 0, 1) := by decide +kernel
theorem dX1_init_1 : decode cX1_init 1 = .ok (.invokespecial 3, 3) := by decide +kernel
theorem dX1_init_4 : decode cX1_init 4 = .ok (.aload_n 0, 1) := by decide +kernel
theorem dX1_init_5 : decode cX1_init 5 = .ok (.aload_n 1, 1) := by decide +kernel
theorem dX1_init_6 : decode cX1_init 6 = .ok (.putfield 9, 3) := by decide +kernel
theorem dX1_init_9 : decode cX1_init 9 = .ok (.return_, 1) := by decide +kernel
theorem dX2_init_0 : decode cX2_init 0 = .ok (.aload_n 0, 1) := by decide +kernel
theorem dX2_init_1 : decode cX2_init 1 = .ok (.invokespecial 3, 3) := by decide +kernel
theorem dX2_init_4 : decode cX2_init 4 = .ok (.aload_n 0, 1) := by decide +kernel
theorem dX2_init_5 : decode cX2_init 5 = .ok (.iconst 0, 1) := by decide +kernel
theorem dX2_init_6 : decode cX2_init 6 = .ok (.putfield 9, 3) := by decide +kernel
theorem dX2_init_9 : decode cX2_init 9 = .ok (.aload_n 0, 1) := by decide +kernel
theorem dX2_init_10 : decode cX2_init 10 = .ok (.aload_n 1, 1) := by decide +kernel
theorem dX2_init_11 : decode cX2_init 11 = .ok (.putfield 15, 3) := by decide +kernel
theorem dX2_init_14 : decode cX2_init 14 = .ok (.return_, 1) := by decide +kernel
theorem dX4_append_0 : decode cX4_append 0 = .ok (.aload_n 0, 1) := by decide +kernel
theorem dX4_append_1 : decode cX4_append 1 = .ok (.getfield 22, 3) := by decide +kernel
theorem dX4_append_4 : decode cX4_append 4 = .ok (.aload_n 0, 1) := by decide +kernel
theorem dX4_append_5 : decode cX4_append 5 = .ok (.getfield 19, 3) := by decide +kernel
theorem dX4_append_8 : decode cX4_append 8 = .ok (.if_icmp .lt 5, 3) := by decide +kernel
theorem dX4_append_13 : decode cX4_append 13 = .ok (.aload_n 0, 1) := by decide +kernel
theorem dX4_append_14 : decode cX4_append 14 = .ok (.getfield 22, 3) := by decide +kernel
theorem dX4_append_17 : decode cX4_append 17 = .ok (.istore 4, 2) := by decide +kernel
theorem dX4_append_19 : decode cX4_append 19 = .ok (.aload_n 1, 1) := by decide +kernel
theorem dX4_append_20 : decode cX4_append 20 = .ok (.iconst 0, 1) := by decide +kernel
theorem dX4_append_21 : decode cX4_append 21 = .ok (.aload_n 0, 1) := by decide +kernel
theorem dX4_append_22 : decode cX4_append 22 = .ok (.getfield 29, 3) := by decide +kernel
theorem dX4_append_25 : decode cX4_append 25 = .ok (.aload_n 0, 1) := by decide +kernel
theorem dX4_append_26 : decode cX4_append 26 = .ok (.iload 4, 2) := by decide +kernel
theorem dX4_append_28 : decode cX4_append 28 = .ok (.invokevirtual 65, 3) := by decide +kernel
theorem dX4_append_31 : decode cX4_append 31 = .ok (.aload_n 0, 1) := by decide +kernel
theorem dX4_append_32 : decode cX4_append 32 = .ok (.getfield 15, 3) := by decide +kernel
theorem dX4_append_35 : decode cX4_append 35 = .ok (.invokestatic 69, 3) := by decide +kernel
theorem dX4_append_38 : decode cX4_append 38 = .ok (.aload_n 0, 1) := by decide +kernel
theorem dX4_append_39 : decode cX4_append 39 = .ok (.getfield 32, 3) := by decide +kernel
theorem dX4_append_42 : decode cX4_append 42 = .ok (.iload 4, 2) := by decide +kernel
theorem dX4_append_44 : decode cX4_append 44 = .ok (.iload_n 2, 1) := by decide +kernel
theorem dX4_append_45 : decode cX4_append 45 = .ok (.iastore, 1) := by decide +kernel
theorem dX4_append_46 : decode cX4_append 46 = .ok (.aload_n 0, 1) := by decide +kernel
theorem dX4_append_47 : decode cX4_append 47 = .ok (.getfield 36, 3) := by decide +kernel
theorem dX4_append_50 : decode cX4_append 50 = .ok (.iload 4, 2) := by decide +kernel
theorem dX4_append_52 : decode cX4_append 52 = .ok (.iload_n 3, 1) := by decide +kernel
theorem dX4_append_53 : decode cX4_append 53 = .ok (.iastore, 1) := by decide +kernel
theorem dX4_append_54 : decode cX4_append 54 = .ok (.aload_n 0, 1) := by decide +kernel
theorem dX4_append_55 : decode cX4_append 55 = .ok (.getfield 39, 3) := by decide +kernel
theorem dX4_append_58 : decode cX4_append 58 = .ok (.iload 4, 2) := by decide +kernel
theorem dX4_append_60 : decode cX4_append 60 = .ok (.aload_n 0, 1) := by decide +kernel
