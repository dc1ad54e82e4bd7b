theorem dX11_orbit_296 : decode cX11_orbit 296 = .ok (.getfield 85, 3) := by decide +kernel
theorem dX11_orbit_299 : decode cX11_orbit 299 = .ok (.if_icmp .ge 77, 3) := by decide +kernel
theorem dX11_orbit_302 : decode cX11_orbit 302 = .ok (.aload_n 0, 1) := by decide +kernel
theorem dX11_orbit_303 : decode cX11_orbit 303 = .ok (.iload 5, 2) := by decide +kernel
theorem dX11_orbit_305 : decode cX11_orbit 305 = .ok (.iload 4, 2) := by decide +kernel
theorem dX11_orbit_307 : decode cX11_orbit 307 = .ok (.invokevirtual 267, 3) := by decide +kernel
theorem dX11_orbit_310 : decode cX11_orbit 310 = .ok (.aload_n 0, 1) := by decide +kernel
theorem dX11_orbit_311 : decode cX11_orbit 311 = .ok (.aload_n 0, 1) := by decide +kernel
theorem dX11_orbit_312 : decode cX11_orbit 312 = .ok (.getfield 27, 3) := by decide +kernel
theorem dX11_orbit_315 : decode cX11_orbit 315 = .ok (.iconst 0, 1) := by decide +kernel
theorem dX11_orbit_316 : decode cX11_orbit 316 = .ok (.laload, 1) := by decide +kernel
theorem dX11_orbit_317 : decode cX11_orbit 317 = .ok (.aload_n 0, 1) := by decide +kernel
theorem dX11_orbit_318 : decode cX11_orbit 318 = .ok (.getfield 27, 3) := by decide +kernel
theorem dX11_orbit_321 : decode cX11_orbit 321 = .ok (.iconst 1, 1) := by decide +kernel
theorem dX11_orbit_322 : decode cX11_orbit 322 = .ok (.laload, 1) := by decide +kernel
theorem dX11_orbit_323 : decode cX11_orbit 323 = .ok (.aload_n 0, 1) := by decide +kernel
theorem dX11_orbit_324 : decode cX11_orbit 324 = .ok (.getfield 27, 3) := by decide +kernel
theorem dX11_orbit_327 : decode cX11_orbit 327 = .ok (.iconst 2, 1) := by decide +kernel
theorem dX11_orbit_328 : decode cX11_orbit 328 = .ok (.laload, 1) := by decide +kernel
theorem dX11_orbit_329 : decode cX11_orbit 329 = .ok (.invokevirtual 271, 3) := by decide +kernel
theorem dX11_orbit_332 : decode cX11_orbit 332 = .ok (.istore 6, 2) := by decide +kernel
theorem dX11_orbit_334 : decode cX11_orbit 334 = .ok (.aload_n 0, 1) := by decide +kernel
theorem dX11_orbit_335 : decode cX11_orbit 335 = .ok (.getfield 63, 3) := by decide +kernel
theorem dX11_orbit_338 : decode cX11_orbit 338 = .ok (.bipush 60, 2) := by decide +kernel
theorem dX11_orbit_340 : decode cX11_orbit 340 = .ok (.iload 5, 2) := by decide +kernel
theorem dX11_orbit_342 : decode cX11_orbit 342 = .ok (.imul, 1) := by decide +kernel
theorem dX11_orbit_343 : decode cX11_orbit 343 = .ok (.iload 4, 2) := by decide +kernel
theorem dX11_orbit_345 : decode cX11_orbit 345 = .ok (.iadd, 1) := by decide +kernel
theorem dX11_orbit_346 : decode cX11_orbit 346 = .ok (.iload 6, 2) := by decide +kernel
theorem dX11_orbit_348 : decode cX11_orbit 348 = .ok (.iastore, 1) := by decide +kernel
theorem dX11_orbit_349 : decode cX11_orbit 349 = .ok (.aload_n 0, 1) := by decide +kernel
theorem dX11_orbit_350 : decode cX11_orbit 350 = .ok (.aload_n 0, 1) := by decide +kernel
theorem dX11_orbit_351 : decode cX11_orbit 351 = .ok (.getfield 275, 3) := by decide +kernel
theorem dX11_orbit_354 : decode cX11_orbit 354 = .ok (.ifCond .eq 12, 3) := by decide +kernel
theorem dX11_orbit_357 : decode cX11_orbit 357 = .ok (.iload 6, 2) := by decide +kernel
theorem dX11_orbit_359 : decode cX11_orbit 359 = .ok (.ifCond .lt 7, 3) := by decide +kernel
theorem dX11_orbit_362 : decode cX11_orbit 362 = .ok (.iconst 1, 1) := by decide +kernel
theorem dX11_orbit_363 : decode cX11_orbit 363 = .ok (.goto 4, 3) := by decide +kernel
theorem dX11_orbit_366 : decode cX11_orbit 366 = .ok (.iconst 0, 1) := by decide +kernel
theorem dX11_orbit_367 : decode cX11_orbit 367 = .ok (.putfield 275, 3) := by decide +kernel
theorem dX11_orbit_370 : decode cX11_orbit 370 = .ok (.iinc 5 1, 3) := by decide +kernel
theorem dX11_orbit_373 : decode cX11_orbit 373 = .ok (.goto (-80), 3) := by decide +kernel
theorem dX11_orbit_376 : decode cX11_orbit 376 = .ok (.iinc 4 1, 3) := by decide +kernel
theorem dX11_orbit_379 : decode cX11_orbit 379 = .ok (.goto (-98), 3) := by decide +kernel
theorem dX11_orbit_382 : decode cX11_orbit 382 = .ok (.aload_n 0, 1) := by decide +kernel
theorem dX11_orbit_383 : decode cX11_orbit 383 = .ok (.getfield 102, 3) := by decide +kernel
theorem dX11_orbit_386 : decode cX11_orbit 386 = .ok (.ireturn, 1) := by decide +kernel
theorem dX11_order_0 : decode cX11_order 0 = .ok (.aload_n 0, 1) := by decide +kernel
theorem dX11_order_1 : decode cX11_order 1 = .ok (.getfield 30, 3) := by decide +kernel
theorem dX11_order_4 : decode cX11_order 4 = .ok (.astore_n 1, 1) := by decide +kernel
theorem dX11_order_5 : decode cX11_order 5 = .ok (.aload_n 0, 1) := by decide +kernel
theorem dX11_order_6 : decode cX11_order 6 = .ok (.getfield 23, 3) := by decide +kernel
theorem dX11_order_9 : decode cX11_order 9 = .ok (.astore_n 2, 1) := by decide +kernel
theorem dX11_order_10 : decode cX11_order 10 = .ok (.aload_n 0, 1) := by decide +kernel
theorem dX11_order_11 : decode cX11_order 11 = .ok (.aload_n 1, 1) := by decide +kernel
theorem dX11_order_12 : decode cX11_order 12 = .ok (.invokevirtual 107, 3) := by decide +kernel
theorem dX11_order_15 : decode cX11_order 15 = .ok (.iconst 1, 1) := by decide +kernel
theorem dX11_order_16 : decode cX11_order 16 = .ok (.istore_n 3, 1) := by decide +kernel
theorem dX11_order_17 : decode cX11_order 17 = .ok (.iload_n 3, 1) := by decide +kernel
theorem dX11_order_18 : decode cX11_order 18 = .ok (.bipush 12, 2) := by decide +kernel
theorem dX11_order_20 : decode cX11_order 20 = .ok (.if_icmp .gt 64, 3) := by decide +kernel
theorem dX11_order_23 : decode cX11_order 23 = .ok (.aload_n 0, 1) := by decide +kernel
theorem dX11_order_24 : decode cX11_order 24 = .ok (.aload_n 1, 1) := by decide +kernel
theorem dX11_order_25 : decode cX11_order 25 = .ok (.aload_n 0, 1) := by decide +kernel
theorem dX11_order_26 : decode cX11_order 26 = .ok (.getfield 27, 3) := by decide +kernel
theorem dX11_order_29 : decode cX11_order 29 = .ok (.aload_n 2, 1) := by decide +kernel
theorem dX11_order_30 : decode cX11_order 30 = .ok (.invokevirtual 129, 3) := by decide +kernel
theorem dX11_order_33 : decode cX11_order 33 = .ok (.iconst 0, 1) := by decide +kernel
theorem dX11_order_34 : decode cX11_order 34 = .ok (.istore 4, 2) := by decide +kernel
theorem dX11_order_36 : decode cX11_order 36 = .ok (.iload 4, 2) := by decide +kernel
theorem dX11_order_38 : decode cX11_order 38 = .ok (.bipush 9, 2) := by decide +kernel
theorem dX11_order_40 : decode cX11_order 40 = .ok (.if_icmp .ge 17, 3) := by decide +kernel
theorem dX11_order_43 : decode cX11_order 43 = .ok (.aload_n 1, 1) := by decide +kernel
theorem dX11_order_44 : decode cX11_order 44 = .ok (.iload 4, 2) := by decide +kernel
theorem dX11_order_46 : decode cX11_order 46 = .ok (.aload_n 2, 1) := by decide +kernel
theorem dX11_order_47 : decode cX11_order 47 = .ok (.iload 4, 2) := by decide +kernel
theorem dX11_order_49 : decode cX11_order 49 = .ok (.laload, 1) := by decide +kernel
theorem dX11_order_50 : decode cX11_order 50 = .ok (.lastore, 1) := by decide +kernel
theorem dX11_order_51 : decode cX11_order 51 = .ok (.iinc 4 1, 3) := by decide +kernel
theorem dX11_order_54 : decode cX11_order 54 = .ok (.goto (-18), 3) := by decide +kernel
theorem dX11_order_57 : decode cX11_order 57 = .ok (.aload_n 0, 1) := by decide +kernel
theorem dX11_order_58 : decode cX11_order 58 = .ok (.aload_n 1, 1) := by decide +kernel
theorem dX11_order_59 : decode cX11_order 59 = .ok (.invokevirtual 151, 3) := by decide +kernel
theorem dX11_order_62 : decode cX11_order 62 = .ok (.ifCond .eq 5, 3) := by decide +kernel
theorem dX11_order_65 : decode cX11_order 65 = .ok (.iload_n 3, 1) := by decide +kernel
theorem dX11_order_66 : decode cX11_order 66 = .ok (.ireturn, 1) := by decide +kernel
theorem dX11_order_67 : decode cX11_order 67 = .ok (.aload_n 0, 1) := by decide +kernel
theorem dX11_order_68 : decode cX11_order 68 = .ok (.aload_n 1, 1) := by decide +kernel
theorem dX11_order_69 : decode cX11_order 69 = .ok (.invokevirtual 154, 3) := by decide +kernel
theorem dX11_order_72 : decode cX11_order 72 = .ok (.ifCond .eq 6, 3) := by decide +kernel
theorem dX11_order_75 : decode cX11_order 75 = .ok (.bipush (-3), 2) := by decide +kernel
theorem dX11_order_77 : decode cX11_order 77 = .ok (.ireturn, 1) := by decide +kernel
theorem dX11_order_78 : decode cX11_order 78 = .ok (.iinc 3 1, 3) := by decide +kernel
theorem dX11_order_81 : decode cX11_order 81 = .ok (.goto (-64), 3) := by decide +kernel
theorem dX11_order_84 : decode cX11_order 84 = .ok (.bipush (-3), 2) := by decide +kernel
theorem dX11_order_86 : decode cX11_order 86 = .ok (.ireturn, 1) := by decide +kernel
theorem dX11_orderOf_0 : decode cX11_orderOf 0 = .ok (.aload_n 0, 1) := by decide +kernel
theorem dX11_orderOf_1 : decode cX11_orderOf 1 = .ok (.iload_n 1, 1) := by decide +kernel
theorem dX11_orderOf_2 : decode cX11_orderOf 2 = .ok (.aload_n 0, 1) := by decide +kernel
theorem dX11_orderOf_3 : decode cX11_orderOf 3 = .ok (.getfield 27, 3) := by decide +kernel
theorem dX11_orderOf_6 : decode cX11_orderOf 6 = .ok (.invokevirtual 209, 3) := by decide +kernel
theorem dX11_orderOf_9 : decode cX11_orderOf 9 = .ok (.aload_n 0, 1) := by decide +kernel
theorem dX11_orderOf_10 : decode cX11_orderOf 10 = .ok (.invokevirtual 157, 3) := by decide +kernel
theorem dX11_orderOf_13 : decode cX11_orderOf 13 = .ok (.ireturn, 1) := by decide +kernel
theorem dX11_placeIn_0 : decode cX11_placeIn 0 = .ok (.iconst 0, 1) := by decide +kernel
theorem dX11_placeIn_1 : decode cX11_placeIn 1 = .ok (.istore 7, 2) := by decide +kernel
theorem dX11_placeIn_3 : decode cX11_placeIn 3 = .ok (.iload 7, 2) := by decide +kernel
theorem dX11_placeIn_5 : decode cX11_placeIn 5 = .ok (.aload_n 0, 1) := by decide +kernel
theorem dX11_placeIn_6 : decode cX11_placeIn 6 = .ok (.getfield 102, 3) := by decide +kernel
theorem dX11_placeIn_9 : decode cX11_placeIn 9 = .ok (.if_icmp .ge 59, 3) := by decide +kernel
theorem dX11_placeIn_12 : decode cX11_placeIn 12 = .ok (.aload_n 0, 1) := by decide +kernel
theorem dX11_placeIn_13 : decode cX11_placeIn 13 = .ok (.getfield 60, 3) := by decide +kernel
theorem dX11_placeIn_16 : decode cX11_placeIn 16 = .ok (.iconst 3, 1) := by decide +kernel
theorem dX11_placeIn_17 : decode cX11_placeIn 17 = .ok (.iload 7, 2) := by decide +kernel
theorem dX11_placeIn_19 : decode cX11_placeIn 19 = .ok (.imul, 1) := by decide +kernel
theorem dX11_placeIn_20 : decode cX11_placeIn 20 = .ok (.laload, 1) := by decide +kernel
theorem dX11_placeIn_21 : decode cX11_placeIn 21 = .ok (.lload_n 1, 1) := by decide +kernel
theorem dX11_placeIn_22 : decode cX11_placeIn 22 = .ok (.lcmp, 1) := by decide +kernel
theorem dX11_placeIn_23 : decode cX11_placeIn 23 = .ok (.ifCond .ne 39, 3) := by decide +kernel
theorem dX11_placeIn_26 : decode cX11_placeIn 26 = .ok (.aload_n 0, 1) := by decide +kernel
theorem dX11_placeIn_27 : decode cX11_placeIn 27 = .ok (.getfield 60, 3) := by decide +kernel
theorem dX11_placeIn_30 : decode cX11_placeIn 30 = .ok (.iconst 3, 1) := by decide +kernel
theorem dX11_placeIn_31 : decode cX11_placeIn 31 = .ok (.iload 7, 2) := by decide +kernel
theorem dX11_placeIn_33 : decode cX11_placeIn 33 = .ok (.imul, 1) := by decide +kernel
theorem dX11_placeIn_34 : decode cX11_placeIn 34 = .ok (.iconst 1, 1) := by decide +kernel
theorem dX11_placeIn_35 : decode cX11_placeIn 35 = .ok (.iadd, 1) := by decide +kernel
theorem dX11_placeIn_36 : decode cX11_placeIn 36 = .ok (.laload, 1) := by decide +kernel
theorem dX11_placeIn_37 : decode cX11_placeIn 37 = .ok (.lload_n 3, 1) := by decide +kernel
theorem dX11_placeIn_38 : decode cX11_placeIn 38 = .ok (.lcmp, 1) := by decide +kernel
theorem dX11_placeIn_39 : decode cX11_placeIn 39 = .ok (.ifCond .ne 23, 3) := by decide +kernel
theorem dX11_placeIn_42 : decode cX11_placeIn 42 = .ok (.aload_n 0, 1) := by decide +kernel
theorem dX11_placeIn_43 : decode cX11_placeIn 43 = .ok (.getfield 60, 3) := by decide +kernel
theorem dX11_placeIn_46 : decode cX11_placeIn 46 = .ok (.iconst 3, 1) := by decide +kernel
theorem dX11_placeIn_47 : decode cX11_placeIn 47 = .ok (.iload 7, 2) := by decide +kernel
theorem dX11_placeIn_49 : decode cX11_placeIn 49 = .ok (.imul, 1) := by decide +kernel
theorem dX11_placeIn_50 : decode cX11_placeIn 50 = .ok (.iconst 2, 1) := by decide +kernel
theorem dX11_placeIn_51 : decode cX11_placeIn 51 = .ok (.iadd, 1) := by decide +kernel
theorem dX11_placeIn_52 : decode cX11_placeIn 52 = .ok (.laload, 1) := by decide +kernel
theorem dX11_placeIn_53 : decode cX11_placeIn 53 = .ok (.lload 5, 2) := by decide +kernel
theorem dX11_placeIn_55 : decode cX11_placeIn 55 = .ok (.lcmp, 1) := by decide +kernel
theorem dX11_placeIn_56 : decode cX11_placeIn 56 = .ok (.ifCond .ne 6, 3) := by decide +kernel
theorem dX11_placeIn_59 : decode cX11_placeIn 59 = .ok (.iload 7, 2) := by decide +kernel
theorem dX11_placeIn_61 : decode cX11_placeIn 61 = .ok (.ireturn, 1) := by decide +kernel
theorem dX11_placeIn_62 : decode cX11_placeIn 62 = .ok (.iinc 7 1, 3) := by decide +kernel
theorem dX11_placeIn_65 : decode cX11_placeIn 65 = .ok (.goto (-62), 3) := by decide +kernel
theorem dX11_placeIn_68 : decode cX11_placeIn 68 = .ok (.iconst (-1), 1) := by decide +kernel
theorem dX11_placeIn_69 : decode cX11_placeIn 69 = .ok (.ireturn, 1) := by decide +kernel
theorem dX11_placeOf_0 : decode cX11_placeOf 0 = .ok (.iconst 0, 1) := by decide +kernel
theorem dX11_placeOf_1 : decode cX11_placeOf 1 = .ok (.istore_n 2, 1) := by decide +kernel
theorem dX11_placeOf_2 : decode cX11_placeOf 2 = .ok (.iload_n 2, 1) := by decide +kernel
theorem dX11_placeOf_3 : decode cX11_placeOf 3 = .ok (.aload_n 0, 1) := by decide +kernel
theorem dX11_placeOf_4 : decode cX11_placeOf 4 = .ok (.getfield 202, 3) := by decide +kernel
theorem dX11_placeOf_7 : decode cX11_placeOf 7 = .ok (.if_icmp .ge 63, 3) := by decide +kernel
theorem dX11_placeOf_10 : decode cX11_placeOf 10 = .ok (.iconst 1, 1) := by decide +kernel
theorem dX11_placeOf_11 : decode cX11_placeOf 11 = .ok (.istore_n 3, 1) := by decide +kernel
theorem dX11_placeOf_12 : decode cX11_placeOf 12 = .ok (.iconst 0, 1) := by decide +kernel
theorem dX11_placeOf_13 : decode cX11_placeOf 13 = .ok (.istore 4, 2) := by decide +kernel
theorem dX11_placeOf_15 : decode cX11_placeOf 15 = .ok (.iload 4, 2) := by decide +kernel
theorem dX11_placeOf_17 : decode cX11_placeOf 17 = .ok (.bipush 9, 2) := by decide +kernel
theorem dX11_placeOf_19 : decode cX11_placeOf 19 = .ok (.if_icmp .ge 39, 3) := by decide +kernel
theorem dX11_placeOf_22 : decode cX11_placeOf 22 = .ok (.iload_n 3, 1) := by decide +kernel
theorem dX11_placeOf_23 : decode cX11_placeOf 23 = .ok (.ifCond .eq 35, 3) := by decide +kernel
theorem dX11_placeOf_26 : decode cX11_placeOf 26 = .ok (.aload_n 0, 1) := by decide +kernel
theorem dX11_placeOf_27 : decode cX11_placeOf 27 = .ok (.getfield 45, 3) := by decide +kernel
theorem dX11_placeOf_30 : decode cX11_placeOf 30 = .ok (.bipush 9, 2) := by decide +kernel
theorem dX11_placeOf_32 : decode cX11_placeOf 32 = .ok (.iload_n 2, 1) := by decide +kernel
theorem dX11_placeOf_33 : decode cX11_placeOf 33 = .ok (.imul, 1) := by decide +kernel
theorem dX11_placeOf_34 : decode cX11_placeOf 34 = .ok (.iload 4, 2) := by decide +kernel
theorem dX11_placeOf_36 : decode cX11_placeOf 36 = .ok (.iadd, 1) := by decide +kernel
theorem dX11_placeOf_37 : decode cX11_placeOf 37 = .ok (.laload, 1) := by decide +kernel
theorem dX11_placeOf_38 : decode cX11_placeOf 38 = .ok (.aload_n 1, 1) := by decide +kernel
theorem dX11_placeOf_39 : decode cX11_placeOf 39 = .ok (.iload 4, 2) := by decide +kernel
theorem dX11_placeOf_41 : decode cX11_placeOf 41 = .ok (.laload, 1) := by decide +kernel
theorem dX11_placeOf_42 : decode cX11_placeOf 42 = .ok (.lcmp, 1) := by decide +kernel
theorem dX11_placeOf_43 : decode cX11_placeOf 43 = .ok (.ifCond .ne 7, 3) := by decide +kernel
theorem dX11_placeOf_46 : decode cX11_placeOf 46 = .ok (.iconst 1, 1) := by decide +kernel
theorem dX11_placeOf_47 : decode cX11_placeOf 47 = .ok (.goto 4, 3) := by decide +kernel
theorem dX11_placeOf_50 : decode cX11_placeOf 50 = .ok (.iconst 0, 1) := by decide +kernel
theorem dX11_placeOf_51 : decode cX11_placeOf 51 = .ok (.istore_n 3, 1) := by decide +kernel
theorem dX11_placeOf_52 : decode cX11_placeOf 52 = .ok (.iinc 4 1, 3) := by decide +kernel
theorem dX11_placeOf_55 : decode cX11_placeOf 55 = .ok (.goto (-40), 3) := by decide +kernel
theorem dX11_placeOf_58 : decode cX11_placeOf 58 = .ok (.iload_n 3, 1) := by decide +kernel
theorem dX11_placeOf_59 : decode cX11_placeOf 59 = .ok (.ifCond .eq 5, 3) := by decide +kernel
theorem dX11_placeOf_62 : decode cX11_placeOf 62 = .ok (.iload_n 2, 1) := by decide +kernel
theorem dX11_placeOf_63 : decode cX11_placeOf 63 = .ok (.ireturn, 1) := by decide +kernel
theorem dX11_placeOf_64 : decode cX11_placeOf 64 = .ok (.iinc 2 1, 3) := by decide +kernel
theorem dX11_placeOf_67 : decode cX11_placeOf 67 = .ok (.goto (-65), 3) := by decide +kernel
theorem dX11_placeOf_70 : decode cX11_placeOf 70 = .ok (.iconst (-1), 1) := by decide +kernel
theorem dX11_placeOf_71 : decode cX11_placeOf 71 = .ok (.ireturn, 1) := by decide +kernel
theorem dX11_point_0 : decode cX11_point 0 = .ok (.iload_n 1, 1) := by decide +kernel
theorem dX11_point_1 : decode cX11_point 1 = .ok (.i2l, 1) := by decide +kernel
theorem dX11_point_2 : decode cX11_point 2 = .ok (.lconst 0, 1) := by decide +kernel
theorem dX11_point_3 : decode cX11_point 3 = .ok (.aload_n 0, 1) := by decide +kernel
theorem dX11_point_4 : decode cX11_point 4 = .ok (.getfield 102, 3) := by decide +kernel
theorem dX11_point_7 : decode cX11_point 7 = .ok (.iconst 1, 1) := by decide +kernel
theorem dX11_point_8 : decode cX11_point 8 = .ok (.isub, 1) := by decide +kernel
theorem dX11_point_9 : decode cX11_point 9 = .ok (.i2l, 1) := by decide +kernel
theorem dX11_point_10 : decode cX11_point 10 = .ok (.invokestatic 81, 3) := by decide +kernel
theorem dX11_point_13 : decode cX11_point 13 = .ok (.ifCond .eq 24, 3) := by decide +kernel
theorem dX11_point_16 : decode cX11_point 16 = .ok (.aload_n 0, 1) := by decide +kernel
theorem dX11_point_17 : decode cX11_point 17 = .ok (.iload_n 2, 1) := by decide +kernel
theorem dX11_point_18 : decode cX11_point 18 = .ok (.invokevirtual 110, 3) := by decide +kernel
theorem dX11_point_21 : decode cX11_point 21 = .ok (.ifCond .eq 16, 3) := by decide +kernel
theorem dX11_point_24 : decode cX11_point 24 = .ok (.aload_n 0, 1) := by decide +kernel
theorem dX11_point_25 : decode cX11_point 25 = .ok (.getfield 60, 3) := by decide +kernel
theorem dX11_point_28 : decode cX11_point 28 = .ok (.iconst 3, 1) := by decide +kernel
theorem dX11_point_29 : decode cX11_point 29 = .ok (.iload_n 1, 1) := by decide +kernel
theorem dX11_point_30 : decode cX11_point 30 = .ok (.imul, 1) := by decide +kernel
theorem dX11_point_31 : decode cX11_point 31 = .ok (.iload_n 2, 1) := by decide +kernel
theorem dX11_point_32 : decode cX11_point 32 = .ok (.iadd, 1) := by decide +kernel
theorem dX11_point_33 : decode cX11_point 33 = .ok (.laload, 1) := by decide +kernel
theorem dX11_point_34 : decode cX11_point 34 = .ok (.goto 7, 3) := by decide +kernel
theorem dX11_point_37 : decode cX11_point 37 = .ok (.iconst (-1), 1) := by decide +kernel
theorem dX11_point_38 : decode cX11_point 38 = .ok (.invokestatic 222, 3) := by decide +kernel
theorem dX11_point_41 : decode cX11_point 41 = .ok (.lreturn, 1) := by decide +kernel
theorem dX11_put_0 : decode cX11_put 0 = .ok (.iload_n 1, 1) := by decide +kernel
theorem dX11_put_1 : decode cX11_put 1 = .ok (.invokestatic 237, 3) := by decide +kernel
theorem dX11_put_4 : decode cX11_put 4 = .ok (.ifCond .ne 5, 3) := by decide +kernel
theorem dX11_put_7 : decode cX11_put 7 = .ok (.iconst (-1), 1) := by decide +kernel
theorem dX11_put_8 : decode cX11_put 8 = .ok (.ireturn, 1) := by decide +kernel
theorem dX11_put_9 : decode cX11_put 9 = .ok (.aload_n 0, 1) := by decide +kernel
theorem dX11_put_10 : decode cX11_put 10 = .ok (.getfield 69, 3) := by decide +kernel
theorem dX11_put_13 : decode cX11_put 13 = .ok (.iload_n 1, 1) := by decide +kernel
theorem dX11_put_14 : decode cX11_put 14 = .ok (.iaload, 1) := by decide +kernel
theorem dX11_put_15 : decode cX11_put 15 = .ok (.ifCond .ge 6, 3) := by decide +kernel
theorem dX11_put_18 : decode cX11_put 18 = .ok (.bipush (-11), 2) := by decide +kernel
theorem dX11_put_20 : decode cX11_put 20 = .ok (.ireturn, 1) := by decide +kernel
theorem dX11_put_21 : decode cX11_put 21 = .ok (.iload_n 2, 1) := by decide +kernel
theorem dX11_put_22 : decode cX11_put 22 = .ok (.i2l, 1) := by decide +kernel
theorem dX11_put_23 : decode cX11_put 23 = .ok (.lconst 0, 1) := by decide +kernel
theorem dX11_put_24 : decode cX11_put 24 = .ok (.aload_n 0, 1) := by decide +kernel
theorem dX11_put_25 : decode cX11_put 25 = .ok (.getfield 72, 3) := by decide +kernel
theorem dX11_put_28 : decode cX11_put 28 = .ok (.iload_n 1, 1) := by decide +kernel
theorem dX11_put_29 : decode cX11_put 29 = .ok (.iaload, 1) := by decide +kernel
theorem dX11_put_30 : decode cX11_put 30 = .ok (.iconst 1, 1) := by decide +kernel
theorem dX11_put_31 : decode cX11_put 31 = .ok (.isub, 1) := by decide +kernel
theorem dX11_put_32 : decode cX11_put 32 = .ok (.i2l, 1) := by decide +kernel
theorem dX11_put_33 : decode cX11_put 33 = .ok (.invokestatic 81, 3) := by decide +kernel
theorem dX11_put_36 : decode cX11_put 36 = .ok (.ifCond .ne 6, 3) := by decide +kernel
theorem dX11_put_39 : decode cX11_put 39 = .ok (.bipush (-12), 2) := by decide +kernel
theorem dX11_put_41 : decode cX11_put 41 = .ok (.ireturn, 1) := by decide +kernel
theorem dX11_put_42 : decode cX11_put 42 = .ok (.aload_n 0, 1) := by decide +kernel
theorem dX11_put_43 : decode cX11_put 43 = .ok (.getfield 75, 3) := by decide +kernel
theorem dX11_put_46 : decode cX11_put 46 = .ok (.bipush 40, 2) := by decide +kernel
theorem dX11_put_48 : decode cX11_put 48 = .ok (.iload_n 1, 1) := by decide +kernel
theorem dX11_put_49 : decode cX11_put 49 = .ok (.imul, 1) := by decide +kernel
theorem dX11_put_50 : decode cX11_put 50 = .ok (.iload_n 2, 1) := by decide +kernel
theorem dX11_put_51 : decode cX11_put 51 = .ok (.iadd, 1) := by decide +kernel
theorem dX11_put_52 : decode cX11_put 52 = .ok (.aload_n 0, 1) := by decide +kernel
theorem dX11_put_53 : decode cX11_put 53 = .ok (.getfield 69, 3) := by decide +kernel
theorem dX11_put_56 : decode cX11_put 56 = .ok (.iload_n 1, 1) := by decide +kernel
theorem dX11_put_57 : decode cX11_put 57 = .ok (.iaload, 1) := by decide +kernel
theorem dX11_put_58 : decode cX11_put 58 = .ok (.lload_n 3, 1) := by decide +kernel
theorem dX11_put_59 : decode cX11_put 59 = .ok (.invokestatic 289, 3) := by decide +kernel
theorem dX11_put_62 : decode cX11_put 62 = .ok (.lastore, 1) := by decide +kernel
theorem dX11_put_63 : decode cX11_put 63 = .ok (.iconst 1, 1) := by decide +kernel
theorem dX11_put_64 : decode cX11_put 64 = .ok (.ireturn, 1) := by decide +kernel
theorem dX11_readsMatrix_0 : decode cX11_readsMatrix 0 = .ok (.aload_n 0, 1) := by decide +kernel
theorem dX11_readsMatrix_1 : decode cX11_readsMatrix 1 = .ok (.getfield 190, 3) := by decide +kernel
theorem dX11_readsMatrix_4 : decode cX11_readsMatrix 4 = .ok (.iconst 4, 1) := by decide +kernel
theorem dX11_readsMatrix_5 : decode cX11_readsMatrix 5 = .ok (.if_icmp .ne 5, 3) := by decide +kernel
theorem dX11_readsMatrix_8 : decode cX11_readsMatrix 8 = .ok (.iconst 0, 1) := by decide +kernel
theorem dX11_readsMatrix_9 : decode cX11_readsMatrix 9 = .ok (.ireturn, 1) := by decide +kernel
theorem dX11_readsMatrix_10 : decode cX11_readsMatrix 10 = .ok (.aload_n 0, 1) := by decide +kernel
theorem dX11_readsMatrix_11 : decode cX11_readsMatrix 11 = .ok (.aload_n 0, 1) := by decide +kernel
theorem dX11_readsMatrix_12 : decode cX11_readsMatrix 12 = .ok (.getfield 23, 3) := by decide +kernel
theorem dX11_readsMatrix_15 : decode cX11_readsMatrix 15 = .ok (.invokevirtual 90, 3) := by decide +kernel
theorem dX11_readsMatrix_18 : decode cX11_readsMatrix 18 = .ok (.iconst 0, 1) := by decide +kernel
theorem dX11_readsMatrix_19 : decode cX11_readsMatrix 19 = .ok (.istore_n 1, 1) := by decide +kernel
theorem dX11_readsMatrix_20 : decode cX11_readsMatrix 20 = .ok (.iload_n 1, 1) := by decide +kernel
theorem dX11_readsMatrix_21 : decode cX11_readsMatrix 21 = .ok (.aload_n 0, 1) := by decide +kernel
theorem dX11_readsMatrix_22 : decode cX11_readsMatrix 22 = .ok (.getfield 7, 3) := by decide +kernel
theorem dX11_readsMatrix_25 : decode cX11_readsMatrix 25 = .ok (.if_icmp .ge 54, 3) := by decide +kernel
theorem dX11_readsMatrix_28 : decode cX11_readsMatrix 28 = .ok (.iload_n 1, 1) := by decide +kernel
theorem dX11_readsMatrix_29 : decode cX11_readsMatrix 29 = .ok (.ifCond .le 14, 3) := by decide +kernel
theorem dX11_readsMatrix_32 : decode cX11_readsMatrix 32 = .ok (.aload_n 0, 1) := by decide +kernel
theorem dX11_readsMatrix_33 : decode cX11_readsMatrix 33 = .ok (.bipush 47, 2) := by decide +kernel
theorem dX11_readsMatrix_35 : decode cX11_readsMatrix 35 = .ok (.invokevirtual 193, 3) := by decide +kernel
theorem dX11_readsMatrix_38 : decode cX11_readsMatrix 38 = .ok (.ifCond .ne 5, 3) := by decide +kernel
theorem dX11_readsMatrix_41 : decode cX11_readsMatrix 41 = .ok (.iconst 0, 1) := by decide +kernel
theorem dX11_readsMatrix_42 : decode cX11_readsMatrix 42 = .ok (.ireturn, 1) := by decide +kernel
theorem dX11_readsMatrix_43 : decode cX11_readsMatrix 43 = .ok (.iconst 0, 1) := by decide +kernel
theorem dX11_readsMatrix_44 : decode cX11_readsMatrix 44 = .ok (.istore_n 2, 1) := by decide +kernel
theorem dX11_readsMatrix_45 : decode cX11_readsMatrix 45 = .ok (.iload_n 2, 1) := by decide +kernel
theorem dX11_readsMatrix_46 : decode cX11_readsMatrix 46 = .ok (.aload_n 0, 1) := by decide +kernel
theorem dX11_readsMatrix_47 : decode cX11_readsMatrix 47 = .ok (.getfield 7, 3) := by decide +kernel
theorem dX11_readsMatrix_50 : decode cX11_readsMatrix 50 = .ok (.if_icmp .ge 23, 3) := by decide +kernel
theorem dX11_readsMatrix_53 : decode cX11_readsMatrix 53 = .ok (.aload_n 0, 1) := by decide +kernel
theorem dX11_readsMatrix_54 : decode cX11_readsMatrix 54 = .ok (.iconst 3, 1) := by decide +kernel
theorem dX11_readsMatrix_55 : decode cX11_readsMatrix 55 = .ok (.iload_n 1, 1) := by decide +kernel
theorem dX11_readsMatrix_56 : decode cX11_readsMatrix 56 = .ok (.imul, 1) := by decide +kernel
theorem dX11_readsMatrix_57 : decode cX11_readsMatrix 57 = .ok (.iload_n 2, 1) := by decide +kernel
theorem dX11_readsMatrix_58 : decode cX11_readsMatrix 58 = .ok (.iadd, 1) := by decide +kernel
theorem dX11_readsMatrix_59 : decode cX11_readsMatrix 59 = .ok (.invokevirtual 196, 3) := by decide +kernel
theorem dX11_readsMatrix_62 : decode cX11_readsMatrix 62 = .ok (.ifCond .ne 5, 3) := by decide +kernel
theorem dX11_readsMatrix_65 : decode cX11_readsMatrix 65 = .ok (.iconst 0, 1) := by decide +kernel
theorem dX11_readsMatrix_66 : decode cX11_readsMatrix 66 = .ok (.ireturn, 1) := by decide +kernel
theorem dX11_readsMatrix_67 : decode cX11_readsMatrix 67 = .ok (.iinc 2 1, 3) := by decide +kernel
theorem dX11_readsMatrix_70 : decode cX11_readsMatrix 70 = .ok (.goto (-25), 3) := by decide +kernel
theorem dX11_readsMatrix_73 : decode cX11_readsMatrix 73 = .ok (.iinc 1 1, 3) := by decide +kernel
theorem dX11_readsMatrix_76 : decode cX11_readsMatrix 76 = .ok (.goto (-56), 3) := by decide +kernel
theorem dX11_readsMatrix_79 : decode cX11_readsMatrix 79 = .ok (.aload_n 0, 1) := by decide +kernel
theorem dX11_readsMatrix_80 : decode cX11_readsMatrix 80 = .ok (.invokevirtual 183, 3) := by decide +kernel
theorem dX11_readsMatrix_83 : decode cX11_readsMatrix 83 = .ok (.bipush 59, 2) := by decide +kernel
theorem dX11_readsMatrix_85 : decode cX11_readsMatrix 85 = .ok (.if_icmp .ne 31, 3) := by decide +kernel
theorem dX11_readsMatrix_88 : decode cX11_readsMatrix 88 = .ok (.aload_n 0, 1) := by decide +kernel
theorem dX11_readsMatrix_89 : decode cX11_readsMatrix 89 = .ok (.aload_n 0, 1) := by decide +kernel
theorem dX11_readsMatrix_90 : decode cX11_readsMatrix 90 = .ok (.getfield 23, 3) := by decide +kernel
theorem dX11_readsMatrix_93 : decode cX11_readsMatrix 93 = .ok (.invokevirtual 139, 3) := by decide +kernel
theorem dX11_readsMatrix_96 : decode cX11_readsMatrix 96 = .ok (.lconst 1, 1) := by decide +kernel
theorem dX11_readsMatrix_97 : decode cX11_readsMatrix 97 = .ok (.lcmp, 1) := by decide +kernel
theorem dX11_readsMatrix_98 : decode cX11_readsMatrix 98 = .ok (.ifCond .eq 20, 3) := by decide +kernel
theorem dX11_readsMatrix_101 : decode cX11_readsMatrix 101 = .ok (.aload_n 0, 1) := by decide +kernel
theorem dX11_readsMatrix_102 : decode cX11_readsMatrix 102 = .ok (.aload_n 0, 1) := by decide +kernel
theorem dX11_readsMatrix_103 : decode cX11_readsMatrix 103 = .ok (.getfield 23, 3) := by decide +kernel
theorem dX11_readsMatrix_106 : decode cX11_readsMatrix 106 = .ok (.invokevirtual 139, 3) := by decide +kernel
theorem dX11_readsMatrix_109 : decode cX11_readsMatrix 109 = .ok (.ldc2_w 133, 3) := by decide +kernel
theorem dX11_readsMatrix_112 : decode cX11_readsMatrix 112 = .ok (.lcmp, 1) := by decide +kernel
theorem dX11_readsMatrix_113 : decode cX11_readsMatrix 113 = .ok (.ifCond .eq 5, 3) := by decide +kernel
theorem dX11_readsMatrix_116 : decode cX11_readsMatrix 116 = .ok (.iconst 0, 1) := by decide +kernel
theorem dX11_readsMatrix_117 : decode cX11_readsMatrix 117 = .ok (.ireturn, 1) := by decide +kernel
theorem dX11_readsMatrix_118 : decode cX11_readsMatrix 118 = .ok (.aload_n 0, 1) := by decide +kernel
theorem dX11_readsMatrix_119 : decode cX11_readsMatrix 119 = .ok (.dup, 1) := by decide +kernel
theorem dX11_readsMatrix_120 : decode cX11_readsMatrix 120 = .ok (.getfield 176, 3) := by decide +kernel
theorem dX11_readsMatrix_123 : decode cX11_readsMatrix 123 = .ok (.iconst 1, 1) := by decide +kernel
theorem dX11_readsMatrix_124 : decode cX11_readsMatrix 124 = .ok (.iadd, 1) := by decide +kernel
theorem dX11_readsMatrix_125 : decode cX11_readsMatrix 125 = .ok (.putfield 176, 3) := by decide +kernel
theorem dX11_readsMatrix_128 : decode cX11_readsMatrix 128 = .ok (.iconst 0, 1) := by decide +kernel
theorem dX11_readsMatrix_129 : decode cX11_readsMatrix 129 = .ok (.istore_n 1, 1) := by decide +kernel
theorem dX11_readsMatrix_130 : decode cX11_readsMatrix 130 = .ok (.iload_n 1, 1) := by decide +kernel
theorem dX11_readsMatrix_131 : decode cX11_readsMatrix 131 = .ok (.bipush 9, 2) := by decide +kernel
theorem dX11_readsMatrix_133 : decode cX11_readsMatrix 133 = .ok (.if_icmp .ge 30, 3) := by decide +kernel
theorem dX11_readsMatrix_136 : decode cX11_readsMatrix 136 = .ok (.aload_n 0, 1) := by decide +kernel
theorem dX11_readsMatrix_137 : decode cX11_readsMatrix 137 = .ok (.getfield 42, 3) := by decide +kernel
theorem dX11_readsMatrix_140 : decode cX11_readsMatrix 140 = .ok (.bipush 9, 2) := by decide +kernel
theorem dX11_readsMatrix_142 : decode cX11_readsMatrix 142 = .ok (.aload_n 0, 1) := by decide +kernel
theorem dX11_readsMatrix_143 : decode cX11_readsMatrix 143 = .ok (.getfield 190, 3) := by decide +kernel
theorem dX11_readsMatrix_146 : decode cX11_readsMatrix 146 = .ok (.imul, 1) := by decide +kernel
theorem dX11_readsMatrix_147 : decode cX11_readsMatrix 147 = .ok (.iload_n 1, 1) := by decide +kernel
theorem dX11_readsMatrix_148 : decode cX11_readsMatrix 148 = .ok (.iadd, 1) := by decide +kernel
theorem dX11_readsMatrix_149 : decode cX11_readsMatrix 149 = .ok (.aload_n 0, 1) := by decide +kernel
theorem dX11_readsMatrix_150 : decode cX11_readsMatrix 150 = .ok (.getfield 23, 3) := by decide +kernel
theorem dX11_readsMatrix_153 : decode cX11_readsMatrix 153 = .ok (.iload_n 1, 1) := by decide +kernel
theorem dX11_readsMatrix_154 : decode cX11_readsMatrix 154 = .ok (.laload, 1) := by decide +kernel
theorem dX11_readsMatrix_155 : decode cX11_readsMatrix 155 = .ok (.l2i, 1) := by decide +kernel
theorem dX11_readsMatrix_156 : decode cX11_readsMatrix 156 = .ok (.iastore, 1) := by decide +kernel
theorem dX11_readsMatrix_157 : decode cX11_readsMatrix 157 = .ok (.iinc 1 1, 3) := by decide +kernel
theorem dX11_readsMatrix_160 : decode cX11_readsMatrix 160 = .ok (.goto (-30), 3) := by decide +kernel
theorem dX11_readsMatrix_163 : decode cX11_readsMatrix 163 = .ok (.aload_n 0, 1) := by decide +kernel
theorem dX11_readsMatrix_164 : decode cX11_readsMatrix 164 = .ok (.dup, 1) := by decide +kernel
theorem dX11_readsMatrix_165 : decode cX11_readsMatrix 165 = .ok (.getfield 190, 3) := by decide +kernel
theorem dX11_readsMatrix_168 : decode cX11_readsMatrix 168 = .ok (.iconst 1, 1) := by decide +kernel
theorem dX11_readsMatrix_169 : decode cX11_readsMatrix 169 = .ok (.iadd, 1) := by decide +kernel
theorem dX11_readsMatrix_170 : decode cX11_readsMatrix 170 = .ok (.putfield 190, 3) := by decide +kernel
theorem dX11_readsMatrix_173 : decode cX11_readsMatrix 173 = .ok (.iconst 1, 1) := by decide +kernel
theorem dX11_readsMatrix_174 : decode cX11_readsMatrix 174 = .ok (.ireturn, 1) := by decide +kernel
theorem dX11_readsNumber_0 : decode cX11_readsNumber 0 = .ok (.aload_n 0, 1) := by decide +kernel
theorem dX11_readsNumber_1 : decode cX11_readsNumber 1 = .ok (.invokevirtual 183, 3) := by decide +kernel
theorem dX11_readsNumber_4 : decode cX11_readsNumber 4 = .ok (.bipush 45, 2) := by decide +kernel
theorem dX11_readsNumber_6 : decode cX11_readsNumber 6 = .ok (.if_icmp .ne 7, 3) := by decide +kernel
theorem dX11_readsNumber_9 : decode cX11_readsNumber 9 = .ok (.iconst 1, 1) := by decide +kernel
theorem dX11_readsNumber_10 : decode cX11_readsNumber 10 = .ok (.goto 4, 3) := by decide +kernel
theorem dX11_readsNumber_13 : decode cX11_readsNumber 13 = .ok (.iconst 0, 1) := by decide +kernel
theorem dX11_readsNumber_14 : decode cX11_readsNumber 14 = .ok (.istore_n 2, 1) := by decide +kernel
theorem dX11_readsNumber_15 : decode cX11_readsNumber 15 = .ok (.aload_n 0, 1) := by decide +kernel
theorem dX11_readsNumber_16 : decode cX11_readsNumber 16 = .ok (.dup, 1) := by decide +kernel
theorem dX11_readsNumber_17 : decode cX11_readsNumber 17 = .ok (.getfield 176, 3) := by decide +kernel
theorem dX11_readsNumber_20 : decode cX11_readsNumber 20 = .ok (.iload_n 2, 1) := by decide +kernel
theorem dX11_readsNumber_21 : decode cX11_readsNumber 21 = .ok (.ifCond .eq 7, 3) := by decide +kernel
theorem dX11_readsNumber_24 : decode cX11_readsNumber 24 = .ok (.iconst 1, 1) := by decide +kernel
theorem dX11_readsNumber_25 : decode cX11_readsNumber 25 = .ok (.goto 4, 3) := by decide +kernel
theorem dX11_readsNumber_28 : decode cX11_readsNumber 28 = .ok (.iconst 0, 1) := by decide +kernel
theorem dX11_readsNumber_29 : decode cX11_readsNumber 29 = .ok (.iadd, 1) := by decide +kernel
theorem dX11_readsNumber_30 : decode cX11_readsNumber 30 = .ok (.putfield 176, 3) := by decide +kernel
theorem dX11_readsNumber_33 : decode cX11_readsNumber 33 = .ok (.iconst 0, 1) := by decide +kernel
theorem dX11_readsNumber_34 : decode cX11_readsNumber 34 = .ok (.istore_n 3, 1) := by decide +kernel
theorem dX11_readsNumber_35 : decode cX11_readsNumber 35 = .ok (.iconst 0, 1) := by decide +kernel
theorem dX11_readsNumber_36 : decode cX11_readsNumber 36 = .ok (.istore 4, 2) := by decide +kernel
theorem dX11_readsNumber_38 : decode cX11_readsNumber 38 = .ok (.aload_n 0, 1) := by decide +kernel
theorem dX11_readsNumber_39 : decode cX11_readsNumber 39 = .ok (.invokevirtual 186, 3) := by decide +kernel
theorem dX11_readsNumber_42 : decode cX11_readsNumber 42 = .ok (.ifCond .eq 43, 3) := by decide +kernel
theorem dX11_readsNumber_45 : decode cX11_readsNumber 45 = .ok (.iload 4, 2) := by decide +kernel
theorem dX11_readsNumber_47 : decode cX11_readsNumber 47 = .ok (.iconst 2, 1) := by decide +kernel
theorem dX11_readsNumber_48 : decode cX11_readsNumber 48 = .ok (.if_icmp .ge 37, 3) := by decide +kernel
theorem dX11_readsNumber_51 : decode cX11_readsNumber 51 = .ok (.bipush 10, 2) := by decide +kernel
theorem dX11_readsNumber_53 : decode cX11_readsNumber 53 = .ok (.iload_n 3, 1) := by decide +kernel
theorem dX11_readsNumber_54 : decode cX11_readsNumber 54 = .ok (.imul, 1) := by decide +kernel
theorem dX11_readsNumber_55 : decode cX11_readsNumber 55 = .ok (.aload_n 0, 1) := by decide +kernel
theorem dX11_readsNumber_56 : decode cX11_readsNumber 56 = .ok (.getfield 39, 3) := by decide +kernel
theorem dX11_readsNumber_59 : decode cX11_readsNumber 59 = .ok (.aload_n 0, 1) := by decide +kernel
theorem dX11_readsNumber_60 : decode cX11_readsNumber 60 = .ok (.getfield 176, 3) := by decide +kernel
theorem dX11_readsNumber_63 : decode cX11_readsNumber 63 = .ok (.iaload, 1) := by decide +kernel
theorem dX11_readsNumber_64 : decode cX11_readsNumber 64 = .ok (.iadd, 1) := by decide +kernel
theorem dX11_readsNumber_65 : decode cX11_readsNumber 65 = .ok (.bipush 48, 2) := by decide +kernel
theorem dX11_readsNumber_67 : decode cX11_readsNumber 67 = .ok (.isub, 1) := by decide +kernel
theorem dX11_readsNumber_68 : decode cX11_readsNumber 68 = .ok (.istore_n 3, 1) := by decide +kernel
theorem dX11_readsNumber_69 : decode cX11_readsNumber 69 = .ok (.iinc 4 1, 3) := by decide +kernel
theorem dX11_readsNumber_72 : decode cX11_readsNumber 72 = .ok (.aload_n 0, 1) := by decide +kernel
theorem dX11_readsNumber_73 : decode cX11_readsNumber 73 = .ok (.dup, 1) := by decide +kernel
theorem dX11_readsNumber_74 : decode cX11_readsNumber 74 = .ok (.getfield 176, 3) := by decide +kernel
theorem dX11_readsNumber_77 : decode cX11_readsNumber 77 = .ok (.iconst 1, 1) := by decide +kernel
theorem dX11_readsNumber_78 : decode cX11_readsNumber 78 = .ok (.iadd, 1) := by decide +kernel
theorem dX11_readsNumber_79 : decode cX11_readsNumber 79 = .ok (.putfield 176, 3) := by decide +kernel
theorem dX11_readsNumber_82 : decode cX11_readsNumber 82 = .ok (.goto (-44), 3) := by decide +kernel
theorem dX11_readsNumber_85 : decode cX11_readsNumber 85 = .ok (.aload_n 0, 1) := by decide +kernel
theorem dX11_readsNumber_86 : decode cX11_readsNumber 86 = .ok (.getfield 23, 3) := by decide +kernel
theorem dX11_readsNumber_89 : decode cX11_readsNumber 89 = .ok (.iload_n 1, 1) := by decide +kernel
theorem dX11_readsNumber_90 : decode cX11_readsNumber 90 = .ok (.iload_n 2, 1) := by decide +kernel
theorem dX11_readsNumber_91 : decode cX11_readsNumber 91 = .ok (.ifCond .eq 9, 3) := by decide +kernel
theorem dX11_readsNumber_94 : decode cX11_readsNumber 94 = .ok (.iload_n 3, 1) := by decide +kernel
theorem dX11_readsNumber_95 : decode cX11_readsNumber 95 = .ok (.ineg, 1) := by decide +kernel
theorem dX11_readsNumber_96 : decode cX11_readsNumber 96 = .ok (.i2l, 1) := by decide +kernel
theorem dX11_readsNumber_97 : decode cX11_readsNumber 97 = .ok (.goto 5, 3) := by decide +kernel
theorem dX11_readsNumber_100 : decode cX11_readsNumber 100 = .ok (.iload_n 3, 1) := by decide +kernel
theorem dX11_readsNumber_101 : decode cX11_readsNumber 101 = .ok (.i2l, 1) := by decide +kernel
theorem dX11_readsNumber_102 : decode cX11_readsNumber 102 = .ok (.lastore, 1) := by decide +kernel
theorem dX11_readsNumber_103 : decode cX11_readsNumber 103 = .ok (.iload 4, 2) := by decide +kernel
theorem dX11_readsNumber_105 : decode cX11_readsNumber 105 = .ok (.ifCond .le 14, 3) := by decide +kernel
theorem dX11_readsNumber_108 : decode cX11_readsNumber 108 = .ok (.aload_n 0, 1) := by decide +kernel
theorem dX11_readsNumber_109 : decode cX11_readsNumber 109 = .ok (.invokevirtual 186, 3) := by decide +kernel
theorem dX11_readsNumber_112 : decode cX11_readsNumber 112 = .ok (.ifCond .ne 7, 3) := by decide +kernel
theorem dX11_readsNumber_115 : decode cX11_readsNumber 115 = .ok (.iconst 1, 1) := by decide +kernel
theorem dX11_readsNumber_116 : decode cX11_readsNumber 116 = .ok (.goto 4, 3) := by decide +kernel
theorem dX11_readsNumber_119 : decode cX11_readsNumber 119 = .ok (.iconst 0, 1) := by decide +kernel
theorem dX11_readsNumber_120 : decode cX11_readsNumber 120 = .ok (.ireturn, 1) := by decide +kernel
theorem dX11_readsSign_0 : decode cX11_readsSign 0 = .ok (.aload_n 0, 1) := by decide +kernel
theorem dX11_readsSign_1 : decode cX11_readsSign 1 = .ok (.invokevirtual 183, 3) := by decide +kernel
theorem dX11_readsSign_4 : decode cX11_readsSign 4 = .ok (.iload_n 1, 1) := by decide +kernel
theorem dX11_readsSign_5 : decode cX11_readsSign 5 = .ok (.if_icmp .eq 5, 3) := by decide +kernel
theorem dX11_readsSign_8 : decode cX11_readsSign 8 = .ok (.iconst 0, 1) := by decide +kernel
theorem dX11_readsSign_9 : decode cX11_readsSign 9 = .ok (.ireturn, 1) := by decide +kernel
theorem dX11_readsSign_10 : decode cX11_readsSign 10 = .ok (.aload_n 0, 1) := by decide +kernel
theorem dX11_readsSign_11 : decode cX11_readsSign 11 = .ok (.dup, 1) := by decide +kernel
theorem dX11_readsSign_12 : decode cX11_readsSign 12 = .ok (.getfield 176, 3) := by decide +kernel
theorem dX11_readsSign_15 : decode cX11_readsSign 15 = .ok (.iconst 1, 1) := by decide +kernel
theorem dX11_readsSign_16 : decode cX11_readsSign 16 = .ok (.iadd, 1) := by decide +kernel
theorem dX11_readsSign_17 : decode cX11_readsSign 17 = .ok (.putfield 176, 3) := by decide +kernel
theorem dX11_readsSign_20 : decode cX11_readsSign 20 = .ok (.iconst 1, 1) := by decide +kernel
theorem dX11_readsSign_21 : decode cX11_readsSign 21 = .ok (.ireturn, 1) := by decide +kernel
theorem dX11_round_0 : decode cX11_round 0 = .ok (.iload_n 1, 1) := by decide +kernel
theorem dX11_round_1 : decode cX11_round 1 = .ok (.i2l, 1) := by decide +kernel
theorem dX11_round_2 : decode cX11_round 2 = .ok (.lconst 0, 1) := by decide +kernel
theorem dX11_round_3 : decode cX11_round 3 = .ok (.ldc2_w 278, 3) := by decide +kernel
theorem dX11_round_6 : decode cX11_round 6 = .ok (.invokestatic 81, 3) := by decide +kernel
theorem dX11_round_9 : decode cX11_round 9 = .ok (.ifCond .ne 5, 3) := by decide +kernel
theorem dX11_round_12 : decode cX11_round 12 = .ok (.iconst (-1), 1) := by decide +kernel
theorem dX11_round_13 : decode cX11_round 13 = .ok (.ireturn, 1) := by decide +kernel
theorem dX11_round_14 : decode cX11_round 14 = .ok (.aload_n 0, 1) := by decide +kernel
theorem dX11_round_15 : decode cX11_round 15 = .ok (.getfield 102, 3) := by decide +kernel
theorem dX11_round_18 : decode cX11_round 18 = .ok (.ifCond .ne 6, 3) := by decide +kernel
theorem dX11_round_21 : decode cX11_round 21 = .ok (.bipush (-3), 2) := by decide +kernel
theorem dX11_round_23 : decode cX11_round 23 = .ok (.ireturn, 1) := by decide +kernel
theorem dX11_round_24 : decode cX11_round 24 = .ok (.iload_n 1, 1) := by decide +kernel
theorem dX11_round_25 : decode cX11_round 25 = .ok (.ifCond .ne 10, 3) := by decide +kernel
theorem dX11_round_28 : decode cX11_round 28 = .ok (.aload_n 0, 1) := by decide +kernel
theorem dX11_round_29 : decode cX11_round 29 = .ok (.getfield 102, 3) := by decide +kernel
theorem dX11_round_32 : decode cX11_round 32 = .ok (.goto 39, 3) := by decide +kernel
theorem dX11_round_35 : decode cX11_round 35 = .ok (.iload_n 1, 1) := by decide +kernel
theorem dX11_round_36 : decode cX11_round 36 = .ok (.iconst 1, 1) := by decide +kernel
theorem dX11_round_37 : decode cX11_round 37 = .ok (.if_icmp .ne 18, 3) := by decide +kernel
theorem dX11_round_40 : decode cX11_round 40 = .ok (.aload_n 0, 1) := by decide +kernel
theorem dX11_round_41 : decode cX11_round 41 = .ok (.getfield 275, 3) := by decide +kernel
theorem dX11_round_44 : decode cX11_round 44 = .ok (.ifCond .eq 7, 3) := by decide +kernel
theorem dX11_round_47 : decode cX11_round 47 = .ok (.iconst 1, 1) := by decide +kernel
theorem dX11_round_48 : decode cX11_round 48 = .ok (.goto 23, 3) := by decide +kernel
theorem dX11_round_51 : decode cX11_round 51 = .ok (.iconst 0, 1) := by decide +kernel
theorem dX11_round_52 : decode cX11_round 52 = .ok (.goto 19, 3) := by decide +kernel
theorem dX11_round_55 : decode cX11_round 55 = .ok (.aload_n 0, 1) := by decide +kernel
theorem dX11_round_56 : decode cX11_round 56 = .ok (.getfield 275, 3) := by decide +kernel
theorem dX11_round_59 : decode cX11_round 59 = .ok (.ifCond .eq 10, 3) := by decide +kernel
theorem dX11_round_62 : decode cX11_round 62 = .ok (.aload_n 0, 1) := by decide +kernel
theorem dX11_round_63 : decode cX11_round 63 = .ok (.invokevirtual 280, 3) := by decide +kernel
theorem dX11_round_66 : decode cX11_round 66 = .ok (.goto 5, 3) := by decide +kernel
theorem dX11_round_69 : decode cX11_round 69 = .ok (.bipush (-3), 2) := by decide +kernel
theorem dX11_round_71 : decode cX11_round 71 = .ok (.ireturn, 1) := by decide +kernel
theorem dX11_roundNow_0 : decode cX11_roundNow 0 = .ok (.iconst 0, 1) := by decide +kernel
theorem dX11_roundNow_1 : decode cX11_roundNow 1 = .ok (.istore_n 1, 1) := by decide +kernel
theorem dX11_roundNow_2 : decode cX11_roundNow 2 = .ok (.iload_n 1, 1) := by decide +kernel
theorem dX11_roundNow_3 : decode cX11_roundNow 3 = .ok (.aload_n 0, 1) := by decide +kernel
theorem dX11_roundNow_4 : decode cX11_roundNow 4 = .ok (.getfield 102, 3) := by decide +kernel
theorem dX11_roundNow_7 : decode cX11_roundNow 7 = .ok (.if_icmp .ge 16, 3) := by decide +kernel
theorem dX11_roundNow_10 : decode cX11_roundNow 10 = .ok (.aload_n 0, 1) := by decide +kernel
theorem dX11_roundNow_11 : decode cX11_roundNow 11 = .ok (.getfield 66, 3) := by decide +kernel
theorem dX11_roundNow_14 : decode cX11_roundNow 14 = .ok (.iload_n 1, 1) := by decide +kernel
theorem dX11_roundNow_15 : decode cX11_roundNow 15 = .ok (.iload_n 1, 1) := by decide +kernel
theorem dX11_roundNow_16 : decode cX11_roundNow 16 = .ok (.iastore, 1) := by decide +kernel
theorem dX11_roundNow_17 : decode cX11_roundNow 17 = .ok (.iinc 1 1, 3) := by decide +kernel
theorem dX11_roundNow_20 : decode cX11_roundNow 20 = .ok (.goto (-18), 3) := by decide +kernel
theorem dX11_roundNow_23 : decode cX11_roundNow 23 = .ok (.iconst 1, 1) := by decide +kernel
theorem dX11_roundNow_24 : decode cX11_roundNow 24 = .ok (.istore_n 1, 1) := by decide +kernel
theorem dX11_roundNow_25 : decode cX11_roundNow 25 = .ok (.iconst 0, 1) := by decide +kernel
theorem dX11_roundNow_26 : decode cX11_roundNow 26 = .ok (.istore_n 2, 1) := by decide +kernel
theorem dX11_roundNow_27 : decode cX11_roundNow 27 = .ok (.iload_n 2, 1) := by decide +kernel
theorem dX11_roundNow_28 : decode cX11_roundNow 28 = .ok (.iload_n 1, 1) := by decide +kernel
theorem dX11_roundNow_29 : decode cX11_roundNow 29 = .ok (.if_icmp .ge 193, 3) := by decide +kernel
theorem dX11_roundNow_32 : decode cX11_roundNow 32 = .ok (.iconst 0, 1) := by decide +kernel
theorem dX11_roundNow_33 : decode cX11_roundNow 33 = .ok (.istore_n 3, 1) := by decide +kernel
theorem dX11_roundNow_34 : decode cX11_roundNow 34 = .ok (.iload_n 3, 1) := by decide +kernel
theorem dX11_roundNow_35 : decode cX11_roundNow 35 = .ok (.aload_n 0, 1) := by decide +kernel
theorem dX11_roundNow_36 : decode cX11_roundNow 36 = .ok (.getfield 85, 3) := by decide +kernel
theorem dX11_roundNow_39 : decode cX11_roundNow 39 = .ok (.if_icmp .ge 177, 3) := by decide +kernel
theorem dX11_roundNow_42 : decode cX11_roundNow 42 = .ok (.iload_n 1, 1) := by decide +kernel
theorem dX11_roundNow_43 : decode cX11_roundNow 43 = .ok (.sipush 200, 3) := by decide +kernel
theorem dX11_roundNow_46 : decode cX11_roundNow 46 = .ok (.if_icmp .ge 170, 3) := by decide +kernel
theorem dX11_roundNow_49 : decode cX11_roundNow 49 = .ok (.iconst 0, 1) := by decide +kernel
theorem dX11_roundNow_50 : decode cX11_roundNow 50 = .ok (.istore 4, 2) := by decide +kernel
theorem dX11_roundNow_52 : decode cX11_roundNow 52 = .ok (.iload 4, 2) := by decide +kernel
theorem dX11_roundNow_54 : decode cX11_roundNow 54 = .ok (.aload_n 0, 1) := by decide +kernel
theorem dX11_roundNow_55 : decode cX11_roundNow 55 = .ok (.getfield 102, 3) := by decide +kernel
theorem dX11_roundNow_58 : decode cX11_roundNow 58 = .ok (.if_icmp .ge 43, 3) := by decide +kernel
theorem dX11_roundNow_61 : decode cX11_roundNow 61 = .ok (.aload_n 0, 1) := by decide +kernel
theorem dX11_roundNow_62 : decode cX11_roundNow 62 = .ok (.getfield 66, 3) := by decide +kernel
theorem dX11_roundNow_65 : decode cX11_roundNow 65 = .ok (.bipush 60, 2) := by decide +kernel
theorem dX11_roundNow_67 : decode cX11_roundNow 67 = .ok (.iload_n 1, 1) := by decide +kernel
theorem dX11_roundNow_68 : decode cX11_roundNow 68 = .ok (.imul, 1) := by decide +kernel
theorem dX11_roundNow_69 : decode cX11_roundNow 69 = .ok (.iload 4, 2) := by decide +kernel
theorem dX11_roundNow_71 : decode cX11_roundNow 71 = .ok (.iadd, 1) := by decide +kernel
theorem dX11_roundNow_72 : decode cX11_roundNow 72 = .ok (.aload_n 0, 1) := by decide +kernel
theorem dX11_roundNow_73 : decode cX11_roundNow 73 = .ok (.getfield 63, 3) := by decide +kernel
theorem dX11_roundNow_76 : decode cX11_roundNow 76 = .ok (.bipush 60, 2) := by decide +kernel
theorem dX11_roundNow_78 : decode cX11_roundNow 78 = .ok (.iload_n 3, 1) := by decide +kernel
theorem dX11_roundNow_79 : decode cX11_roundNow 79 = .ok (.imul, 1) := by decide +kernel
theorem dX11_roundNow_80 : decode cX11_roundNow 80 = .ok (.aload_n 0, 1) := by decide +kernel
theorem dX11_roundNow_81 : decode cX11_roundNow 81 = .ok (.getfield 66, 3) := by decide +kernel
theorem dX11_roundNow_84 : decode cX11_roundNow 84 = .ok (.bipush 60, 2) := by decide +kernel
theorem dX11_roundNow_86 : decode cX11_roundNow 86 = .ok (.iload_n 2, 1) := by decide +kernel
theorem dX11_roundNow_87 : decode cX11_roundNow 87 = .ok (.imul, 1) := by decide +kernel
theorem dX11_roundNow_88 : decode cX11_roundNow 88 = .ok (.iload 4, 2) := by decide +kernel
theorem dX11_roundNow_90 : decode cX11_roundNow 90 = .ok (.iadd, 1) := by decide +kernel
theorem dX11_roundNow_91 : decode cX11_roundNow 91 = .ok (.iaload, 1) := by decide +kernel
theorem dX11_roundNow_92 : decode cX11_roundNow 92 = .ok (.iadd, 1) := by decide +kernel
theorem dX11_roundNow_93 : decode cX11_roundNow 93 = .ok (.iaload, 1) := by decide +kernel
theorem dX11_roundNow_94 : decode cX11_roundNow 94 = .ok (.iastore, 1) := by decide +kernel
theorem dX11_roundNow_95 : decode cX11_roundNow 95 = .ok (.iinc 4 1, 3) := by decide +kernel
theorem dX11_roundNow_98 : decode cX11_roundNow 98 = .ok (.goto (-46), 3) := by decide +kernel
theorem dX11_roundNow_101 : decode cX11_roundNow 101 = .ok (.iconst 1, 1) := by decide +kernel
theorem dX11_roundNow_102 : decode cX11_roundNow 102 = .ok (.istore 4, 2) := by decide +kernel
theorem dX11_roundNow_104 : decode cX11_roundNow 104 = .ok (.iconst 0, 1) := by decide +kernel
theorem dX11_roundNow_105 : decode cX11_roundNow 105 = .ok (.istore 5, 2) := by decide +kernel
theorem dX11_roundNow_107 : decode cX11_roundNow 107 = .ok (.iload 5, 2) := by decide +kernel
theorem dX11_roundNow_109 : decode cX11_roundNow 109 = .ok (.iload_n 1, 1) := by decide +kernel
theorem dX11_roundNow_110 : decode cX11_roundNow 110 = .ok (.if_icmp .ge 87, 3) := by decide +kernel
theorem dX11_roundNow_113 : decode cX11_roundNow 113 = .ok (.iload 4, 2) := by decide +kernel
theorem dX11_roundNow_115 : decode cX11_roundNow 115 = .ok (.ifCond .eq 82, 3) := by decide +kernel
theorem dX11_roundNow_118 : decode cX11_roundNow 118 = .ok (.iconst 1, 1) := by decide +kernel
theorem dX11_roundNow_119 : decode cX11_roundNow 119 = .ok (.istore 6, 2) := by decide +kernel
theorem dX11_roundNow_121 : decode cX11_roundNow 121 = .ok (.iconst 0, 1) := by decide +kernel
theorem dX11_roundNow_122 : decode cX11_roundNow 122 = .ok (.istore 7, 2) := by decide +kernel
theorem dX11_roundNow_124 : decode cX11_roundNow 124 = .ok (.iload 7, 2) := by decide +kernel
theorem dX11_roundNow_126 : decode cX11_roundNow 126 = .ok (.aload_n 0, 1) := by decide +kernel
theorem dX11_roundNow_127 : decode cX11_roundNow 127 = .ok (.getfield 102, 3) := by decide +kernel
theorem dX11_roundNow_130 : decode cX11_roundNow 130 = .ok (.if_icmp .ge 49, 3) := by decide +kernel
theorem dX11_roundNow_133 : decode cX11_roundNow 133 = .ok (.iload 6, 2) := by decide +kernel
theorem dX11_roundNow_135 : decode cX11_roundNow 135 = .ok (.ifCond .eq 44, 3) := by decide +kernel
theorem dX11_roundNow_138 : decode cX11_roundNow 138 = .ok (.aload_n 0, 1) := by decide +kernel
theorem dX11_roundNow_139 : decode cX11_roundNow 139 = .ok (.getfield 66, 3) := by decide +kernel
theorem dX11_roundNow_142 : decode cX11_roundNow 142 = .ok (.bipush 60, 2) := by decide +kernel
theorem dX11_roundNow_144 : decode cX11_roundNow 144 = .ok (.iload 5, 2) := by decide +kernel
theorem dX11_roundNow_146 : decode cX11_roundNow 146 = .ok (.imul, 1) := by decide +kernel
theorem dX11_roundNow_147 : decode cX11_roundNow 147 = .ok (.iload 7, 2) := by decide +kernel
theorem dX11_roundNow_149 : decode cX11_roundNow 149 = .ok (.iadd, 1) := by decide +kernel
theorem dX11_roundNow_150 : decode cX11_roundNow 150 = .ok (.iaload, 1) := by decide +kernel
theorem dX11_roundNow_151 : decode cX11_roundNow 151 = .ok (.aload_n 0, 1) := by decide +kernel
theorem dX11_roundNow_152 : decode cX11_roundNow 152 = .ok (.getfield 66, 3) := by decide +kernel
theorem dX11_roundNow_155 : decode cX11_roundNow 155 = .ok (.bipush 60, 2) := by decide +kernel
theorem dX11_roundNow_157 : decode cX11_roundNow 157 = .ok (.iload_n 1, 1) := by decide +kernel
theorem dX11_roundNow_158 : decode cX11_roundNow 158 = .ok (.imul, 1) := by decide +kernel
theorem dX11_roundNow_159 : decode cX11_roundNow 159 = .ok (.iload 7, 2) := by decide +kernel
theorem dX11_roundNow_161 : decode cX11_roundNow 161 = .ok (.iadd, 1) := by decide +kernel
theorem dX11_roundNow_162 : decode cX11_roundNow 162 = .ok (.iaload, 1) := by decide +kernel
theorem dX11_roundNow_163 : decode cX11_roundNow 163 = .ok (.if_icmp .ne 7, 3) := by decide +kernel
theorem dX11_roundNow_166 : decode cX11_roundNow 166 = .ok (.iconst 1, 1) := by decide +kernel
theorem dX11_roundNow_167 : decode cX11_roundNow 167 = .ok (.goto 4, 3) := by decide +kernel
theorem dX11_roundNow_170 : decode cX11_roundNow 170 = .ok (.iconst 0, 1) := by decide +kernel
theorem dX11_roundNow_171 : decode cX11_roundNow 171 = .ok (.istore 6, 2) := by decide +kernel
theorem dX11_roundNow_173 : decode cX11_roundNow 173 = .ok (.iinc 7 1, 3) := by decide +kernel
theorem dX11_roundNow_176 : decode cX11_roundNow 176 = .ok (.goto (-52), 3) := by decide +kernel
theorem dX11_roundNow_179 : decode cX11_roundNow 179 = .ok (.iload 6, 2) := by decide +kernel
theorem dX11_roundNow_181 : decode cX11_roundNow 181 = .ok (.ifCond .ne 7, 3) := by decide +kernel
theorem dX11_roundNow_184 : decode cX11_roundNow 184 = .ok (.iconst 1, 1) := by decide +kernel
theorem dX11_roundNow_185 : decode cX11_roundNow 185 = .ok (.goto 4, 3) := by decide +kernel
theorem dX11_roundNow_188 : decode cX11_roundNow 188 = .ok (.iconst 0, 1) := by decide +kernel
theorem dX11_roundNow_189 : decode cX11_roundNow 189 = .ok (.istore 4, 2) := by decide +kernel
theorem dX11_roundNow_191 : decode cX11_roundNow 191 = .ok (.iinc 5 1, 3) := by decide +kernel
theorem dX11_roundNow_194 : decode cX11_roundNow 194 = .ok (.goto (-87), 3) := by decide +kernel
theorem dX11_roundNow_197 : decode cX11_roundNow 197 = .ok (.iload_n 1, 1) := by decide +kernel
theorem dX11_roundNow_198 : decode cX11_roundNow 198 = .ok (.iload 4, 2) := by decide +kernel
theorem dX11_roundNow_200 : decode cX11_roundNow 200 = .ok (.ifCond .eq 7, 3) := by decide +kernel
theorem dX11_roundNow_203 : decode cX11_roundNow 203 = .ok (.iconst 1, 1) := by decide +kernel
theorem dX11_roundNow_204 : decode cX11_roundNow 204 = .ok (.goto 4, 3) := by decide +kernel
theorem dX11_roundNow_207 : decode cX11_roundNow 207 = .ok (.iconst 0, 1) := by decide +kernel
theorem dX11_roundNow_208 : decode cX11_roundNow 208 = .ok (.iadd, 1) := by decide +kernel
theorem dX11_roundNow_209 : decode cX11_roundNow 209 = .ok (.istore_n 1, 1) := by decide +kernel
theorem dX11_roundNow_210 : decode cX11_roundNow 210 = .ok (.iinc 3 1, 3) := by decide +kernel
theorem dX11_roundNow_213 : decode cX11_roundNow 213 = .ok (.goto (-179), 3) := by decide +kernel
theorem dX11_roundNow_216 : decode cX11_roundNow 216 = .ok (.iinc 2 1, 3) := by decide +kernel
theorem dX11_roundNow_219 : decode cX11_roundNow 219 = .ok (.goto (-192), 3) := by decide +kernel
theorem dX11_roundNow_222 : decode cX11_roundNow 222 = .ok (.iload_n 1, 1) := by decide +kernel
theorem dX11_roundNow_223 : decode cX11_roundNow 223 = .ok (.ireturn, 1) := by decide +kernel
theorem dX11_seed_0 : decode cX11_seed 0 = .ok (.aload_n 0, 1) := by decide +kernel
theorem dX11_seed_1 : decode cX11_seed 1 = .ok (.getfield 13, 3) := by decide +kernel
theorem dX11_seed_4 : decode cX11_seed 4 = .ok (.istore_n 2, 1) := by decide +kernel
theorem dX11_seed_5 : decode cX11_seed 5 = .ok (.aload_n 0, 1) := by decide +kernel
theorem dX11_seed_6 : decode cX11_seed 6 = .ok (.iload_n 1, 1) := by decide +kernel
theorem dX11_seed_7 : decode cX11_seed 7 = .ok (.putfield 13, 3) := by decide +kernel
theorem dX11_seed_10 : decode cX11_seed 10 = .ok (.iload_n 2, 1) := by decide +kernel
theorem dX11_seed_11 : decode cX11_seed 11 = .ok (.ireturn, 1) := by decide +kernel
theorem dX11_sheet_0 : decode cX11_sheet 0 = .ok (.iload_n 1, 1) := by decide +kernel
theorem dX11_sheet_1 : decode cX11_sheet 1 = .ok (.invokestatic 237, 3) := by decide +kernel
theorem dX11_sheet_4 : decode cX11_sheet 4 = .ok (.ifCond .eq 27, 3) := by decide +kernel
theorem dX11_sheet_7 : decode cX11_sheet 7 = .ok (.iload_n 2, 1) := by decide +kernel
theorem dX11_sheet_8 : decode cX11_sheet 8 = .ok (.i2l, 1) := by decide +kernel
theorem dX11_sheet_9 : decode cX11_sheet 9 = .ok (.ldc2_w 133, 3) := by decide +kernel
theorem dX11_sheet_12 : decode cX11_sheet 12 = .ok (.ldc2_w 278, 3) := by decide +kernel
theorem dX11_sheet_15 : decode cX11_sheet 15 = .ok (.invokestatic 81, 3) := by decide +kernel
theorem dX11_sheet_18 : decode cX11_sheet 18 = .ok (.ifCond .eq 13, 3) := by decide +kernel
theorem dX11_sheet_21 : decode cX11_sheet 21 = .ok (.iload_n 2, 1) := by decide +kernel
theorem dX11_sheet_22 : decode cX11_sheet 22 = .ok (.ifCond .lt 11, 3) := by decide +kernel
theorem dX11_sheet_25 : decode cX11_sheet 25 = .ok (.iload_n 3, 1) := by decide +kernel
theorem dX11_sheet_26 : decode cX11_sheet 26 = .ok (.bipush 40, 2) := by decide +kernel
theorem dX11_sheet_28 : decode cX11_sheet 28 = .ok (.if_icmp .le 5, 3) := by decide +kernel
theorem dX11_sheet_31 : decode cX11_sheet 31 = .ok (.iconst (-1), 1) := by decide +kernel
theorem dX11_sheet_32 : decode cX11_sheet 32 = .ok (.ireturn, 1) := by decide +kernel
theorem dX11_sheet_33 : decode cX11_sheet 33 = .ok (.iload_n 2, 1) := by decide +kernel
theorem dX11_sheet_34 : decode cX11_sheet 34 = .ok (.ifCond .lt 10, 3) := by decide +kernel
theorem dX11_sheet_37 : decode cX11_sheet 37 = .ok (.iload_n 3, 1) := by decide +kernel
theorem dX11_sheet_38 : decode cX11_sheet 38 = .ok (.ifCond .ge 6, 3) := by decide +kernel
theorem dX11_sheet_41 : decode cX11_sheet 41 = .ok (.bipush (-14), 2) := by decide +kernel
theorem dX11_sheet_43 : decode cX11_sheet 43 = .ok (.ireturn, 1) := by decide +kernel
theorem dX11_sheet_44 : decode cX11_sheet 44 = .ok (.aload_n 0, 1) := by decide +kernel
theorem dX11_sheet_45 : decode cX11_sheet 45 = .ok (.getfield 69, 3) := by decide +kernel
theorem dX11_sheet_48 : decode cX11_sheet 48 = .ok (.iload_n 1, 1) := by decide +kernel
theorem dX11_sheet_49 : decode cX11_sheet 49 = .ok (.iload_n 2, 1) := by decide +kernel
theorem dX11_sheet_50 : decode cX11_sheet 50 = .ok (.iastore, 1) := by decide +kernel
theorem dX11_sheet_51 : decode cX11_sheet 51 = .ok (.aload_n 0, 1) := by decide +kernel
theorem dX11_sheet_52 : decode cX11_sheet 52 = .ok (.getfield 72, 3) := by decide +kernel
theorem dX11_sheet_55 : decode cX11_sheet 55 = .ok (.iload_n 1, 1) := by decide +kernel
theorem dX11_sheet_56 : decode cX11_sheet 56 = .ok (.iload_n 2, 1) := by decide +kernel
theorem dX11_sheet_57 : decode cX11_sheet 57 = .ok (.ifCond .ge 7, 3) := by decide +kernel
theorem dX11_sheet_60 : decode cX11_sheet 60 = .ok (.iconst 0, 1) := by decide +kernel
theorem dX11_sheet_61 : decode cX11_sheet 61 = .ok (.goto 4, 3) := by decide +kernel
theorem dX11_sheet_64 : decode cX11_sheet 64 = .ok (.iload_n 3, 1) := by decide +kernel
theorem dX11_sheet_65 : decode cX11_sheet 65 = .ok (.iastore, 1) := by decide +kernel
theorem dX11_sheet_66 : decode cX11_sheet 66 = .ok (.iconst 0, 1) := by decide +kernel
theorem dX11_sheet_67 : decode cX11_sheet 67 = .ok (.istore 4, 2) := by decide +kernel
theorem dX11_sheet_69 : decode cX11_sheet 69 = .ok (.iload 4, 2) := by decide +kernel
theorem dX11_sheet_71 : decode cX11_sheet 71 = .ok (.bipush 40, 2) := by decide +kernel
theorem dX11_sheet_73 : decode cX11_sheet 73 = .ok (.if_icmp .ge 22, 3) := by decide +kernel
theorem dX11_sheet_76 : decode cX11_sheet 76 = .ok (.aload_n 0, 1) := by decide +kernel
theorem dX11_sheet_77 : decode cX11_sheet 77 = .ok (.getfield 75, 3) := by decide +kernel
theorem dX11_sheet_80 : decode cX11_sheet 80 = .ok (.bipush 40, 2) := by decide +kernel
theorem dX11_sheet_82 : decode cX11_sheet 82 = .ok (.iload_n 1, 1) := by decide +kernel
theorem dX11_sheet_83 : decode cX11_sheet 83 = .ok (.imul, 1) := by decide +kernel
theorem dX11_sheet_84 : decode cX11_sheet 84 = .ok (.iload 4, 2) := by decide +kernel
theorem dX11_sheet_86 : decode cX11_sheet 86 = .ok (.iadd, 1) := by decide +kernel
theorem dX11_sheet_87 : decode cX11_sheet 87 = .ok (.lconst 0, 1) := by decide +kernel
theorem dX11_sheet_88 : decode cX11_sheet 88 = .ok (.lastore, 1) := by decide +kernel
theorem dX11_sheet_89 : decode cX11_sheet 89 = .ok (.iinc 4 1, 3) := by decide +kernel
theorem dX11_sheet_92 : decode cX11_sheet 92 = .ok (.goto (-23), 3) := by decide +kernel
theorem dX11_sheet_95 : decode cX11_sheet 95 = .ok (.iconst 1, 1) := by decide +kernel
theorem dX11_sheet_96 : decode cX11_sheet 96 = .ok (.ireturn, 1) := by decide +kernel
theorem dX11_size_0 : decode cX11_size 0 = .ok (.iload_n 1, 1) := by decide +kernel
theorem dX11_size_1 : decode cX11_size 1 = .ok (.i2l, 1) := by decide +kernel
theorem dX11_size_2 : decode cX11_size 2 = .ok (.lconst 1, 1) := by decide +kernel
theorem dX11_size_3 : decode cX11_size 3 = .ok (.ldc2_w 105, 3) := by decide +kernel
theorem dX11_size_6 : decode cX11_size 6 = .ok (.invokestatic 81, 3) := by decide +kernel
theorem dX11_size_9 : decode cX11_size 9 = .ok (.ifCond .ne 5, 3) := by decide +kernel
theorem dX11_size_12 : decode cX11_size 12 = .ok (.iconst (-1), 1) := by decide +kernel
theorem dX11_size_13 : decode cX11_size 13 = .ok (.ireturn, 1) := by decide +kernel
theorem dX11_size_14 : decode cX11_size 14 = .ok (.aload_n 0, 1) := by decide +kernel
theorem dX11_size_15 : decode cX11_size 15 = .ok (.getfield 7, 3) := by decide +kernel
theorem dX11_size_18 : decode cX11_size 18 = .ok (.istore_n 2, 1) := by decide +kernel
theorem dX11_size_19 : decode cX11_size 19 = .ok (.iload_n 1, 1) := by decide +kernel
theorem dX11_size_20 : decode cX11_size 20 = .ok (.iload_n 2, 1) := by decide +kernel
theorem dX11_size_21 : decode cX11_size 21 = .ok (.if_icmp .eq 23, 3) := by decide +kernel
theorem dX11_size_24 : decode cX11_size 24 = .ok (.aload_n 0, 1) := by decide +kernel
theorem dX11_size_25 : decode cX11_size 25 = .ok (.iload_n 1, 1) := by decide +kernel
theorem dX11_size_26 : decode cX11_size 26 = .ok (.putfield 7, 3) := by decide +kernel
theorem dX11_size_29 : decode cX11_size 29 = .ok (.aload_n 0, 1) := by decide +kernel
theorem dX11_size_30 : decode cX11_size 30 = .ok (.iconst 0, 1) := by decide +kernel
theorem dX11_size_31 : decode cX11_size 31 = .ok (.putfield 85, 3) := by decide +kernel
theorem dX11_size_34 : decode cX11_size 34 = .ok (.aload_n 0, 1) := by decide +kernel
theorem dX11_size_35 : decode cX11_size 35 = .ok (.iconst 0, 1) := by decide +kernel
theorem dX11_size_36 : decode cX11_size 36 = .ok (.putfield 98, 3) := by decide +kernel
theorem dX11_size_39 : decode cX11_size 39 = .ok (.aload_n 0, 1) := by decide +kernel
theorem dX11_size_40 : decode cX11_size 40 = .ok (.iconst 0, 1) := by decide +kernel
theorem dX11_size_41 : decode cX11_size 41 = .ok (.putfield 102, 3) := by decide +kernel
theorem dX11_size_44 : decode cX11_size 44 = .ok (.iload_n 2, 1) := by decide +kernel
theorem dX11_size_45 : decode cX11_size 45 = .ok (.ireturn, 1) := by decide +kernel
theorem dX11_still_0 : decode cX11_still 0 = .ok (.iload_n 1, 1) := by decide +kernel
theorem dX11_still_1 : decode cX11_still 1 = .ok (.iload_n 2, 1) := by decide +kernel
theorem dX11_still_2 : decode cX11_still 2 = .ok (.iload_n 3, 1) := by decide +kernel
theorem dX11_still_3 : decode cX11_still 3 = .ok (.invokestatic 264, 3) := by decide +kernel
theorem dX11_still_6 : decode cX11_still 6 = .ok (.ifCond .ne 5, 3) := by decide +kernel
theorem dX11_still_9 : decode cX11_still 9 = .ok (.iconst (-1), 1) := by decide +kernel
theorem dX11_still_10 : decode cX11_still 10 = .ok (.ireturn, 1) := by decide +kernel
theorem dX11_still_11 : decode cX11_still 11 = .ok (.aload_n 0, 1) := by decide +kernel
theorem dX11_still_12 : decode cX11_still 12 = .ok (.invokevirtual 219, 3) := by decide +kernel
theorem dX11_still_15 : decode cX11_still 15 = .ok (.aload_n 0, 1) := by decide +kernel
theorem dX11_still_16 : decode cX11_still 16 = .ok (.getfield 7, 3) := by decide +kernel
