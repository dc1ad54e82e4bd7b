theorem dX11_keepsAll_276 : decode cX11_keepsAll 276 = .ok (.ifCond .eq 33, 3) := by decide +kernel
theorem dX11_keepsAll_279 : decode cX11_keepsAll 279 = .ok (.aload_n 0, 1) := by decide +kernel
theorem dX11_keepsAll_280 : decode cX11_keepsAll 280 = .ok (.getfield 33, 3) := by decide +kernel
theorem dX11_keepsAll_283 : decode cX11_keepsAll 283 = .ok (.iconst 3, 1) := by decide +kernel
theorem dX11_keepsAll_284 : decode cX11_keepsAll 284 = .ok (.iload_n 3, 1) := by decide +kernel
theorem dX11_keepsAll_285 : decode cX11_keepsAll 285 = .ok (.imul, 1) := by decide +kernel
theorem dX11_keepsAll_286 : decode cX11_keepsAll 286 = .ok (.iload 4, 2) := by decide +kernel
theorem dX11_keepsAll_288 : decode cX11_keepsAll 288 = .ok (.iadd, 1) := by decide +kernel
theorem dX11_keepsAll_289 : decode cX11_keepsAll 289 = .ok (.laload, 1) := by decide +kernel
theorem dX11_keepsAll_290 : decode cX11_keepsAll 290 = .ok (.aload_n 0, 1) := by decide +kernel
theorem dX11_keepsAll_291 : decode cX11_keepsAll 291 = .ok (.getfield 23, 3) := by decide +kernel
theorem dX11_keepsAll_294 : decode cX11_keepsAll 294 = .ok (.iconst 3, 1) := by decide +kernel
theorem dX11_keepsAll_295 : decode cX11_keepsAll 295 = .ok (.iload_n 3, 1) := by decide +kernel
theorem dX11_keepsAll_296 : decode cX11_keepsAll 296 = .ok (.imul, 1) := by decide +kernel
theorem dX11_keepsAll_297 : decode cX11_keepsAll 297 = .ok (.iload 4, 2) := by decide +kernel
theorem dX11_keepsAll_299 : decode cX11_keepsAll 299 = .ok (.iadd, 1) := by decide +kernel
theorem dX11_keepsAll_300 : decode cX11_keepsAll 300 = .ok (.laload, 1) := by decide +kernel
theorem dX11_keepsAll_301 : decode cX11_keepsAll 301 = .ok (.lcmp, 1) := by decide +kernel
theorem dX11_keepsAll_302 : decode cX11_keepsAll 302 = .ok (.ifCond .ne 7, 3) := by decide +kernel
theorem dX11_keepsAll_305 : decode cX11_keepsAll 305 = .ok (.iconst 1, 1) := by decide +kernel
theorem dX11_keepsAll_306 : decode cX11_keepsAll 306 = .ok (.goto 4, 3) := by decide +kernel
theorem dX11_keepsAll_309 : decode cX11_keepsAll 309 = .ok (.iconst 0, 1) := by decide +kernel
theorem dX11_keepsAll_310 : decode cX11_keepsAll 310 = .ok (.istore_n 1, 1) := by decide +kernel
theorem dX11_keepsAll_311 : decode cX11_keepsAll 311 = .ok (.iinc 4 1, 3) := by decide +kernel
theorem dX11_keepsAll_314 : decode cX11_keepsAll 314 = .ok (.goto (-104), 3) := by decide +kernel
theorem dX11_keepsAll_317 : decode cX11_keepsAll 317 = .ok (.iinc 3 1, 3) := by decide +kernel
theorem dX11_keepsAll_320 : decode cX11_keepsAll 320 = .ok (.goto (-121), 3) := by decide +kernel
theorem dX11_keepsAll_323 : decode cX11_keepsAll 323 = .ok (.iinc 2 1, 3) := by decide +kernel
theorem dX11_keepsAll_326 : decode cX11_keepsAll 326 = .ok (.goto (-170), 3) := by decide +kernel
theorem dX11_keepsAll_329 : decode cX11_keepsAll 329 = .ok (.iload_n 1, 1) := by decide +kernel
theorem dX11_keepsAll_330 : decode cX11_keepsAll 330 = .ok (.ireturn, 1) := by decide +kernel
theorem dX11_lacks_0 : decode cX11_lacks 0 = .ok (.aload_n 0, 1) := by decide +kernel
theorem dX11_lacks_1 : decode cX11_lacks 1 = .ok (.getfield 69, 3) := by decide +kernel
theorem dX11_lacks_4 : decode cX11_lacks 4 = .ok (.iload_n 1, 1) := by decide +kernel
theorem dX11_lacks_5 : decode cX11_lacks 5 = .ok (.iaload, 1) := by decide +kernel
theorem dX11_lacks_6 : decode cX11_lacks 6 = .ok (.ifCond .ge 6, 3) := by decide +kernel
theorem dX11_lacks_9 : decode cX11_lacks 9 = .ok (.bipush (-11), 2) := by decide +kernel
theorem dX11_lacks_11 : decode cX11_lacks 11 = .ok (.ireturn, 1) := by decide +kernel
theorem dX11_lacks_12 : decode cX11_lacks 12 = .ok (.aload_n 0, 1) := by decide +kernel
theorem dX11_lacks_13 : decode cX11_lacks 13 = .ok (.getfield 69, 3) := by decide +kernel
theorem dX11_lacks_16 : decode cX11_lacks 16 = .ok (.iload_n 1, 1) := by decide +kernel
theorem dX11_lacks_17 : decode cX11_lacks 17 = .ok (.iaload, 1) := by decide +kernel
theorem dX11_lacks_18 : decode cX11_lacks 18 = .ok (.iconst 2, 1) := by decide +kernel
theorem dX11_lacks_19 : decode cX11_lacks 19 = .ok (.if_icmp .ne 8, 3) := by decide +kernel
theorem dX11_lacks_22 : decode cX11_lacks 22 = .ok (.bipush (-13), 2) := by decide +kernel
theorem dX11_lacks_24 : decode cX11_lacks 24 = .ok (.goto 27, 3) := by decide +kernel
theorem dX11_lacks_27 : decode cX11_lacks 27 = .ok (.aload_n 0, 1) := by decide +kernel
theorem dX11_lacks_28 : decode cX11_lacks 28 = .ok (.iload_n 1, 1) := by decide +kernel
theorem dX11_lacks_29 : decode cX11_lacks 29 = .ok (.iload_n 2, 1) := by decide +kernel
theorem dX11_lacks_30 : decode cX11_lacks 30 = .ok (.aload_n 0, 1) := by decide +kernel
theorem dX11_lacks_31 : decode cX11_lacks 31 = .ok (.getfield 7, 3) := by decide +kernel
theorem dX11_lacks_34 : decode cX11_lacks 34 = .ok (.aload_n 0, 1) := by decide +kernel
theorem dX11_lacks_35 : decode cX11_lacks 35 = .ok (.getfield 7, 3) := by decide +kernel
theorem dX11_lacks_38 : decode cX11_lacks 38 = .ok (.imul, 1) := by decide +kernel
theorem dX11_lacks_39 : decode cX11_lacks 39 = .ok (.invokevirtual 240, 3) := by decide +kernel
theorem dX11_lacks_42 : decode cX11_lacks 42 = .ok (.ifCond .eq 8, 3) := by decide +kernel
theorem dX11_lacks_45 : decode cX11_lacks 45 = .ok (.bipush (-12), 2) := by decide +kernel
theorem dX11_lacks_47 : decode cX11_lacks 47 = .ok (.goto 4, 3) := by decide +kernel
theorem dX11_lacks_50 : decode cX11_lacks 50 = .ok (.iconst 0, 1) := by decide +kernel
theorem dX11_lacks_51 : decode cX11_lacks 51 = .ok (.ireturn, 1) := by decide +kernel
theorem dX11_lay_0 : decode cX11_lay 0 = .ok (.aload_n 0, 1) := by decide +kernel
theorem dX11_lay_1 : decode cX11_lay 1 = .ok (.invokevirtual 219, 3) := by decide +kernel
theorem dX11_lay_4 : decode cX11_lay 4 = .ok (.iload_n 1, 1) := by decide +kernel
theorem dX11_lay_5 : decode cX11_lay 5 = .ok (.i2l, 1) := by decide +kernel
theorem dX11_lay_6 : decode cX11_lay 6 = .ok (.lconst 0, 1) := by decide +kernel
theorem dX11_lay_7 : decode cX11_lay 7 = .ok (.aload_n 0, 1) := by decide +kernel
theorem dX11_lay_8 : decode cX11_lay 8 = .ok (.getfield 202, 3) := by decide +kernel
theorem dX11_lay_11 : decode cX11_lay 11 = .ok (.iconst 1, 1) := by decide +kernel
theorem dX11_lay_12 : decode cX11_lay 12 = .ok (.isub, 1) := by decide +kernel
theorem dX11_lay_13 : decode cX11_lay 13 = .ok (.i2l, 1) := by decide +kernel
theorem dX11_lay_14 : decode cX11_lay 14 = .ok (.invokestatic 81, 3) := by decide +kernel
theorem dX11_lay_17 : decode cX11_lay 17 = .ok (.ifCond .eq 10, 3) := by decide +kernel
theorem dX11_lay_20 : decode cX11_lay 20 = .ok (.iload_n 2, 1) := by decide +kernel
theorem dX11_lay_21 : decode cX11_lay 21 = .ok (.invokestatic 237, 3) := by decide +kernel
theorem dX11_lay_24 : decode cX11_lay 24 = .ok (.ifCond .ne 5, 3) := by decide +kernel
theorem dX11_lay_27 : decode cX11_lay 27 = .ok (.iconst (-1), 1) := by decide +kernel
theorem dX11_lay_28 : decode cX11_lay 28 = .ok (.ireturn, 1) := by decide +kernel
theorem dX11_lay_29 : decode cX11_lay 29 = .ok (.aload_n 0, 1) := by decide +kernel
theorem dX11_lay_30 : decode cX11_lay 30 = .ok (.iload_n 2, 1) := by decide +kernel
theorem dX11_lay_31 : decode cX11_lay 31 = .ok (.iload_n 3, 1) := by decide +kernel
theorem dX11_lay_32 : decode cX11_lay 32 = .ok (.invokevirtual 293, 3) := by decide +kernel
theorem dX11_lay_35 : decode cX11_lay 35 = .ok (.istore 4, 2) := by decide +kernel
theorem dX11_lay_37 : decode cX11_lay 37 = .ok (.iconst 0, 1) := by decide +kernel
theorem dX11_lay_38 : decode cX11_lay 38 = .ok (.istore 5, 2) := by decide +kernel
theorem dX11_lay_40 : decode cX11_lay 40 = .ok (.iload 5, 2) := by decide +kernel
theorem dX11_lay_42 : decode cX11_lay 42 = .ok (.aload_n 0, 1) := by decide +kernel
theorem dX11_lay_43 : decode cX11_lay 43 = .ok (.getfield 7, 3) := by decide +kernel
theorem dX11_lay_46 : decode cX11_lay 46 = .ok (.aload_n 0, 1) := by decide +kernel
theorem dX11_lay_47 : decode cX11_lay 47 = .ok (.getfield 7, 3) := by decide +kernel
theorem dX11_lay_50 : decode cX11_lay 50 = .ok (.imul, 1) := by decide +kernel
theorem dX11_lay_51 : decode cX11_lay 51 = .ok (.if_icmp .ge 55, 3) := by decide +kernel
theorem dX11_lay_54 : decode cX11_lay 54 = .ok (.iload 4, 2) := by decide +kernel
theorem dX11_lay_56 : decode cX11_lay 56 = .ok (.ifCond .ne 50, 3) := by decide +kernel
theorem dX11_lay_59 : decode cX11_lay 59 = .ok (.aload_n 0, 1) := by decide +kernel
theorem dX11_lay_60 : decode cX11_lay 60 = .ok (.getfield 75, 3) := by decide +kernel
theorem dX11_lay_63 : decode cX11_lay 63 = .ok (.bipush 40, 2) := by decide +kernel
theorem dX11_lay_65 : decode cX11_lay 65 = .ok (.iload_n 2, 1) := by decide +kernel
theorem dX11_lay_66 : decode cX11_lay 66 = .ok (.imul, 1) := by decide +kernel
theorem dX11_lay_67 : decode cX11_lay 67 = .ok (.iload_n 3, 1) := by decide +kernel
theorem dX11_lay_68 : decode cX11_lay 68 = .ok (.iadd, 1) := by decide +kernel
theorem dX11_lay_69 : decode cX11_lay 69 = .ok (.iload 5, 2) := by decide +kernel
theorem dX11_lay_71 : decode cX11_lay 71 = .ok (.iadd, 1) := by decide +kernel
theorem dX11_lay_72 : decode cX11_lay 72 = .ok (.aload_n 0, 1) := by decide +kernel
theorem dX11_lay_73 : decode cX11_lay 73 = .ok (.getfield 45, 3) := by decide +kernel
theorem dX11_lay_76 : decode cX11_lay 76 = .ok (.bipush 9, 2) := by decide +kernel
theorem dX11_lay_78 : decode cX11_lay 78 = .ok (.iload_n 1, 1) := by decide +kernel
theorem dX11_lay_79 : decode cX11_lay 79 = .ok (.imul, 1) := by decide +kernel
theorem dX11_lay_80 : decode cX11_lay 80 = .ok (.iconst 3, 1) := by decide +kernel
theorem dX11_lay_81 : decode cX11_lay 81 = .ok (.iload 5, 2) := by decide +kernel
theorem dX11_lay_83 : decode cX11_lay 83 = .ok (.aload_n 0, 1) := by decide +kernel
theorem dX11_lay_84 : decode cX11_lay 84 = .ok (.getfield 7, 3) := by decide +kernel
theorem dX11_lay_87 : decode cX11_lay 87 = .ok (.idiv, 1) := by decide +kernel
theorem dX11_lay_88 : decode cX11_lay 88 = .ok (.imul, 1) := by decide +kernel
theorem dX11_lay_89 : decode cX11_lay 89 = .ok (.iadd, 1) := by decide +kernel
theorem dX11_lay_90 : decode cX11_lay 90 = .ok (.iload 5, 2) := by decide +kernel
theorem dX11_lay_92 : decode cX11_lay 92 = .ok (.aload_n 0, 1) := by decide +kernel
theorem dX11_lay_93 : decode cX11_lay 93 = .ok (.getfield 7, 3) := by decide +kernel
theorem dX11_lay_96 : decode cX11_lay 96 = .ok (.irem, 1) := by decide +kernel
theorem dX11_lay_97 : decode cX11_lay 97 = .ok (.iadd, 1) := by decide +kernel
theorem dX11_lay_98 : decode cX11_lay 98 = .ok (.laload, 1) := by decide +kernel
theorem dX11_lay_99 : decode cX11_lay 99 = .ok (.lastore, 1) := by decide +kernel
theorem dX11_lay_100 : decode cX11_lay 100 = .ok (.iinc 5 1, 3) := by decide +kernel
theorem dX11_lay_103 : decode cX11_lay 103 = .ok (.goto (-63), 3) := by decide +kernel
theorem dX11_lay_106 : decode cX11_lay 106 = .ok (.iload 4, 2) := by decide +kernel
theorem dX11_lay_108 : decode cX11_lay 108 = .ok (.ifCond .ne 15, 3) := by decide +kernel
theorem dX11_lay_111 : decode cX11_lay 111 = .ok (.aload_n 0, 1) := by decide +kernel
theorem dX11_lay_112 : decode cX11_lay 112 = .ok (.getfield 7, 3) := by decide +kernel
theorem dX11_lay_115 : decode cX11_lay 115 = .ok (.aload_n 0, 1) := by decide +kernel
theorem dX11_lay_116 : decode cX11_lay 116 = .ok (.getfield 7, 3) := by decide +kernel
theorem dX11_lay_119 : decode cX11_lay 119 = .ok (.imul, 1) := by decide +kernel
theorem dX11_lay_120 : decode cX11_lay 120 = .ok (.goto 5, 3) := by decide +kernel
theorem dX11_lay_123 : decode cX11_lay 123 = .ok (.iload 4, 2) := by decide +kernel
theorem dX11_lay_125 : decode cX11_lay 125 = .ok (.ireturn, 1) := by decide +kernel
theorem dX11_listed_0 : decode cX11_listed 0 = .ok (.aload_n 0, 1) := by decide +kernel
theorem dX11_listed_1 : decode cX11_listed 1 = .ok (.invokevirtual 219, 3) := by decide +kernel
theorem dX11_listed_4 : decode cX11_listed 4 = .ok (.aload_n 0, 1) := by decide +kernel
theorem dX11_listed_5 : decode cX11_listed 5 = .ok (.getfield 202, 3) := by decide +kernel
theorem dX11_listed_8 : decode cX11_listed 8 = .ok (.ireturn, 1) := by decide +kernel
theorem dX11_lists_0 : decode cX11_lists 0 = .ok (.iconst 0, 1) := by decide +kernel
theorem dX11_lists_1 : decode cX11_lists 1 = .ok (.istore 4, 2) := by decide +kernel
theorem dX11_lists_3 : decode cX11_lists 3 = .ok (.iload 4, 2) := by decide +kernel
theorem dX11_lists_5 : decode cX11_lists 5 = .ok (.bipush 9, 2) := by decide +kernel
theorem dX11_lists_7 : decode cX11_lists 7 = .ok (.if_icmp .ge 28, 3) := by decide +kernel
theorem dX11_lists_10 : decode cX11_lists 10 = .ok (.aload_n 0, 1) := by decide +kernel
theorem dX11_lists_11 : decode cX11_lists 11 = .ok (.getfield 45, 3) := by decide +kernel
theorem dX11_lists_14 : decode cX11_lists 14 = .ok (.bipush 9, 2) := by decide +kernel
theorem dX11_lists_16 : decode cX11_lists 16 = .ok (.aload_n 0, 1) := by decide +kernel
theorem dX11_lists_17 : decode cX11_lists 17 = .ok (.getfield 202, 3) := by decide +kernel
theorem dX11_lists_20 : decode cX11_lists 20 = .ok (.imul, 1) := by decide +kernel
theorem dX11_lists_21 : decode cX11_lists 21 = .ok (.iload 4, 2) := by decide +kernel
theorem dX11_lists_23 : decode cX11_lists 23 = .ok (.iadd, 1) := by decide +kernel
theorem dX11_lists_24 : decode cX11_lists 24 = .ok (.aload_n 1, 1) := by decide +kernel
theorem dX11_lists_25 : decode cX11_lists 25 = .ok (.iload 4, 2) := by decide +kernel
theorem dX11_lists_27 : decode cX11_lists 27 = .ok (.laload, 1) := by decide +kernel
theorem dX11_lists_28 : decode cX11_lists 28 = .ok (.lastore, 1) := by decide +kernel
theorem dX11_lists_29 : decode cX11_lists 29 = .ok (.iinc 4 1, 3) := by decide +kernel
theorem dX11_lists_32 : decode cX11_lists 32 = .ok (.goto (-29), 3) := by decide +kernel
theorem dX11_lists_35 : decode cX11_lists 35 = .ok (.aload_n 0, 1) := by decide +kernel
theorem dX11_lists_36 : decode cX11_lists 36 = .ok (.getfield 48, 3) := by decide +kernel
theorem dX11_lists_39 : decode cX11_lists 39 = .ok (.aload_n 0, 1) := by decide +kernel
theorem dX11_lists_40 : decode cX11_lists 40 = .ok (.getfield 202, 3) := by decide +kernel
theorem dX11_lists_43 : decode cX11_lists 43 = .ok (.iload_n 2, 1) := by decide +kernel
theorem dX11_lists_44 : decode cX11_lists 44 = .ok (.iastore, 1) := by decide +kernel
theorem dX11_lists_45 : decode cX11_lists 45 = .ok (.aload_n 0, 1) := by decide +kernel
theorem dX11_lists_46 : decode cX11_lists 46 = .ok (.getfield 51, 3) := by decide +kernel
theorem dX11_lists_49 : decode cX11_lists 49 = .ok (.aload_n 0, 1) := by decide +kernel
theorem dX11_lists_50 : decode cX11_lists 50 = .ok (.getfield 202, 3) := by decide +kernel
theorem dX11_lists_53 : decode cX11_lists 53 = .ok (.iload_n 3, 1) := by decide +kernel
theorem dX11_lists_54 : decode cX11_lists 54 = .ok (.iastore, 1) := by decide +kernel
theorem dX11_lists_55 : decode cX11_lists 55 = .ok (.aload_n 0, 1) := by decide +kernel
theorem dX11_lists_56 : decode cX11_lists 56 = .ok (.getfield 54, 3) := by decide +kernel
theorem dX11_lists_59 : decode cX11_lists 59 = .ok (.aload_n 0, 1) := by decide +kernel
theorem dX11_lists_60 : decode cX11_lists 60 = .ok (.getfield 202, 3) := by decide +kernel
theorem dX11_lists_63 : decode cX11_lists 63 = .ok (.iload_n 2, 1) := by decide +kernel
theorem dX11_lists_64 : decode cX11_lists 64 = .ok (.ifCond .ge 7, 3) := by decide +kernel
theorem dX11_lists_67 : decode cX11_lists 67 = .ok (.iconst 0, 1) := by decide +kernel
theorem dX11_lists_68 : decode cX11_lists 68 = .ok (.goto 11, 3) := by decide +kernel
theorem dX11_lists_71 : decode cX11_lists 71 = .ok (.aload_n 0, 1) := by decide +kernel
theorem dX11_lists_72 : decode cX11_lists 72 = .ok (.getfield 54, 3) := by decide +kernel
theorem dX11_lists_75 : decode cX11_lists 75 = .ok (.iload_n 2, 1) := by decide +kernel
theorem dX11_lists_76 : decode cX11_lists 76 = .ok (.iaload, 1) := by decide +kernel
theorem dX11_lists_77 : decode cX11_lists 77 = .ok (.iconst 1, 1) := by decide +kernel
theorem dX11_lists_78 : decode cX11_lists 78 = .ok (.iadd, 1) := by decide +kernel
theorem dX11_lists_79 : decode cX11_lists 79 = .ok (.iastore, 1) := by decide +kernel
theorem dX11_lists_80 : decode cX11_lists 80 = .ok (.aload_n 0, 1) := by decide +kernel
theorem dX11_lists_81 : decode cX11_lists 81 = .ok (.dup, 1) := by decide +kernel
theorem dX11_lists_82 : decode cX11_lists 82 = .ok (.getfield 202, 3) := by decide +kernel
theorem dX11_lists_85 : decode cX11_lists 85 = .ok (.iconst 1, 1) := by decide +kernel
theorem dX11_lists_86 : decode cX11_lists 86 = .ok (.iadd, 1) := by decide +kernel
theorem dX11_lists_87 : decode cX11_lists 87 = .ok (.putfield 202, 3) := by decide +kernel
theorem dX11_lists_90 : decode cX11_lists 90 = .ok (.return_, 1) := by decide +kernel
theorem dX11_lot_0 : decode cX11_lot 0 = .ok (.iload_n 1, 1) := by decide +kernel
theorem dX11_lot_1 : decode cX11_lot 1 = .ok (.i2l, 1) := by decide +kernel
theorem dX11_lot_2 : decode cX11_lot 2 = .ok (.lconst 1, 1) := by decide +kernel
theorem dX11_lot_3 : decode cX11_lot 3 = .ok (.ldc2_w 284, 3) := by decide +kernel
theorem dX11_lot_6 : decode cX11_lot 6 = .ok (.invokestatic 81, 3) := by decide +kernel
theorem dX11_lot_9 : decode cX11_lot 9 = .ok (.ifCond .ne 5, 3) := by decide +kernel
theorem dX11_lot_12 : decode cX11_lot 12 = .ok (.iconst (-1), 1) := by decide +kernel
theorem dX11_lot_13 : decode cX11_lot 13 = .ok (.ireturn, 1) := by decide +kernel
theorem dX11_lot_14 : decode cX11_lot 14 = .ok (.iconst 0, 1) := by decide +kernel
theorem dX11_lot_15 : decode cX11_lot 15 = .ok (.istore_n 2, 1) := by decide +kernel
theorem dX11_lot_16 : decode cX11_lot 16 = .ok (.iload_n 2, 1) := by decide +kernel
theorem dX11_lot_17 : decode cX11_lot 17 = .ok (.iload_n 1, 1) := by decide +kernel
theorem dX11_lot_18 : decode cX11_lot 18 = .ok (.if_icmp .ge 80, 3) := by decide +kernel
theorem dX11_lot_21 : decode cX11_lot 21 = .ok (.aload_n 0, 1) := by decide +kernel
theorem dX11_lot_22 : decode cX11_lot 22 = .ok (.getfield 85, 3) := by decide +kernel
theorem dX11_lot_25 : decode cX11_lot 25 = .ok (.iconst 4, 1) := by decide +kernel
theorem dX11_lot_26 : decode cX11_lot 26 = .ok (.if_icmp .ge 72, 3) := by decide +kernel
theorem dX11_lot_29 : decode cX11_lot 29 = .ok (.aload_n 0, 1) := by decide +kernel
theorem dX11_lot_30 : decode cX11_lot 30 = .ok (.aload_n 0, 1) := by decide +kernel
theorem dX11_lot_31 : decode cX11_lot 31 = .ok (.getfield 7, 3) := by decide +kernel
theorem dX11_lot_34 : decode cX11_lot 34 = .ok (.invokevirtual 286, 3) := by decide +kernel
theorem dX11_lot_37 : decode cX11_lot 37 = .ok (.istore_n 3, 1) := by decide +kernel
theorem dX11_lot_38 : decode cX11_lot 38 = .ok (.aload_n 0, 1) := by decide +kernel
theorem dX11_lot_39 : decode cX11_lot 39 = .ok (.aload_n 0, 1) := by decide +kernel
theorem dX11_lot_40 : decode cX11_lot 40 = .ok (.getfield 7, 3) := by decide +kernel
theorem dX11_lot_43 : decode cX11_lot 43 = .ok (.invokevirtual 286, 3) := by decide +kernel
theorem dX11_lot_46 : decode cX11_lot 46 = .ok (.istore 4, 2) := by decide +kernel
theorem dX11_lot_48 : decode cX11_lot 48 = .ok (.aload_n 0, 1) := by decide +kernel
theorem dX11_lot_49 : decode cX11_lot 49 = .ok (.iconst 5, 1) := by decide +kernel
theorem dX11_lot_50 : decode cX11_lot 50 = .ok (.invokevirtual 286, 3) := by decide +kernel
theorem dX11_lot_53 : decode cX11_lot 53 = .ok (.iconst 2, 1) := by decide +kernel
theorem dX11_lot_54 : decode cX11_lot 54 = .ok (.isub, 1) := by decide +kernel
theorem dX11_lot_55 : decode cX11_lot 55 = .ok (.istore 5, 2) := by decide +kernel
theorem dX11_lot_57 : decode cX11_lot 57 = .ok (.aload_n 0, 1) := by decide +kernel
theorem dX11_lot_58 : decode cX11_lot 58 = .ok (.iload_n 3, 1) := by decide +kernel
theorem dX11_lot_59 : decode cX11_lot 59 = .ok (.iload 4, 2) := by decide +kernel
theorem dX11_lot_61 : decode cX11_lot 61 = .ok (.iload_n 3, 1) := by decide +kernel
theorem dX11_lot_62 : decode cX11_lot 62 = .ok (.iload 4, 2) := by decide +kernel
theorem dX11_lot_64 : decode cX11_lot 64 = .ok (.if_icmp .ne 7, 3) := by decide +kernel
theorem dX11_lot_67 : decode cX11_lot 67 = .ok (.iconst (-1), 1) := by decide +kernel
theorem dX11_lot_68 : decode cX11_lot 68 = .ok (.goto 5, 3) := by decide +kernel
theorem dX11_lot_71 : decode cX11_lot 71 = .ok (.iload 5, 2) := by decide +kernel
theorem dX11_lot_73 : decode cX11_lot 73 = .ok (.invokevirtual 114, 3) := by decide +kernel
theorem dX11_lot_76 : decode cX11_lot 76 = .ok (.aload_n 0, 1) := by decide +kernel
theorem dX11_lot_77 : decode cX11_lot 77 = .ok (.invokevirtual 118, 3) := by decide +kernel
theorem dX11_lot_80 : decode cX11_lot 80 = .ok (.istore 6, 2) := by decide +kernel
theorem dX11_lot_82 : decode cX11_lot 82 = .ok (.iload_n 2, 1) := by decide +kernel
theorem dX11_lot_83 : decode cX11_lot 83 = .ok (.iload 6, 2) := by decide +kernel
theorem dX11_lot_85 : decode cX11_lot 85 = .ok (.ifCond .lt 7, 3) := by decide +kernel
theorem dX11_lot_88 : decode cX11_lot 88 = .ok (.iconst 1, 1) := by decide +kernel
theorem dX11_lot_89 : decode cX11_lot 89 = .ok (.goto 4, 3) := by decide +kernel
theorem dX11_lot_92 : decode cX11_lot 92 = .ok (.iconst 0, 1) := by decide +kernel
theorem dX11_lot_93 : decode cX11_lot 93 = .ok (.iadd, 1) := by decide +kernel
theorem dX11_lot_94 : decode cX11_lot 94 = .ok (.istore_n 2, 1) := by decide +kernel
theorem dX11_lot_95 : decode cX11_lot 95 = .ok (.goto (-79), 3) := by decide +kernel
theorem dX11_lot_98 : decode cX11_lot 98 = .ok (.iload_n 2, 1) := by decide +kernel
theorem dX11_lot_99 : decode cX11_lot 99 = .ok (.ireturn, 1) := by decide +kernel
theorem dX11_made_0 : decode cX11_made 0 = .ok (.iload_n 1, 1) := by decide +kernel
theorem dX11_made_1 : decode cX11_made 1 = .ok (.i2l, 1) := by decide +kernel
theorem dX11_made_2 : decode cX11_made 2 = .ok (.lconst 0, 1) := by decide +kernel
theorem dX11_made_3 : decode cX11_made 3 = .ok (.ldc2_w 105, 3) := by decide +kernel
theorem dX11_made_6 : decode cX11_made 6 = .ok (.invokestatic 81, 3) := by decide +kernel
theorem dX11_made_9 : decode cX11_made 9 = .ok (.ifCond .eq 23, 3) := by decide +kernel
theorem dX11_made_12 : decode cX11_made 12 = .ok (.aload_n 0, 1) := by decide +kernel
theorem dX11_made_13 : decode cX11_made 13 = .ok (.iload_n 2, 1) := by decide +kernel
theorem dX11_made_14 : decode cX11_made 14 = .ok (.invokevirtual 122, 3) := by decide +kernel
theorem dX11_made_17 : decode cX11_made 17 = .ok (.ifCond .eq 15, 3) := by decide +kernel
theorem dX11_made_20 : decode cX11_made 20 = .ok (.iload_n 1, 1) := by decide +kernel
theorem dX11_made_21 : decode cX11_made 21 = .ok (.ifCond .ne 13, 3) := by decide +kernel
theorem dX11_made_24 : decode cX11_made 24 = .ok (.aload_n 0, 1) := by decide +kernel
theorem dX11_made_25 : decode cX11_made 25 = .ok (.iload_n 3, 1) := by decide +kernel
theorem dX11_made_26 : decode cX11_made 26 = .ok (.invokevirtual 122, 3) := by decide +kernel
theorem dX11_made_29 : decode cX11_made 29 = .ok (.ifCond .ne 5, 3) := by decide +kernel
theorem dX11_made_32 : decode cX11_made 32 = .ok (.iconst (-1), 1) := by decide +kernel
theorem dX11_made_33 : decode cX11_made 33 = .ok (.ireturn, 1) := by decide +kernel
theorem dX11_made_34 : decode cX11_made 34 = .ok (.aload_n 0, 1) := by decide +kernel
theorem dX11_made_35 : decode cX11_made 35 = .ok (.getfield 85, 3) := by decide +kernel
theorem dX11_made_38 : decode cX11_made 38 = .ok (.iconst 4, 1) := by decide +kernel
theorem dX11_made_39 : decode cX11_made 39 = .ok (.if_icmp .ne 6, 3) := by decide +kernel
theorem dX11_made_42 : decode cX11_made 42 = .ok (.bipush (-2), 2) := by decide +kernel
theorem dX11_made_44 : decode cX11_made 44 = .ok (.ireturn, 1) := by decide +kernel
theorem dX11_made_45 : decode cX11_made 45 = .ok (.aload_n 0, 1) := by decide +kernel
theorem dX11_made_46 : decode cX11_made 46 = .ok (.iload_n 2, 1) := by decide +kernel
theorem dX11_made_47 : decode cX11_made 47 = .ok (.aload_n 0, 1) := by decide +kernel
theorem dX11_made_48 : decode cX11_made 48 = .ok (.getfield 27, 3) := by decide +kernel
theorem dX11_made_51 : decode cX11_made 51 = .ok (.invokevirtual 125, 3) := by decide +kernel
theorem dX11_made_54 : decode cX11_made 54 = .ok (.aload_n 0, 1) := by decide +kernel
theorem dX11_made_55 : decode cX11_made 55 = .ok (.aload_n 0, 1) := by decide +kernel
theorem dX11_made_56 : decode cX11_made 56 = .ok (.getfield 23, 3) := by decide +kernel
theorem dX11_made_59 : decode cX11_made 59 = .ok (.invokevirtual 90, 3) := by decide +kernel
theorem dX11_made_62 : decode cX11_made 62 = .ok (.iload_n 1, 1) := by decide +kernel
theorem dX11_made_63 : decode cX11_made 63 = .ok (.ifCond .ne 28, 3) := by decide +kernel
theorem dX11_made_66 : decode cX11_made 66 = .ok (.aload_n 0, 1) := by decide +kernel
theorem dX11_made_67 : decode cX11_made 67 = .ok (.iload_n 3, 1) := by decide +kernel
theorem dX11_made_68 : decode cX11_made 68 = .ok (.aload_n 0, 1) := by decide +kernel
theorem dX11_made_69 : decode cX11_made 69 = .ok (.getfield 30, 3) := by decide +kernel
theorem dX11_made_72 : decode cX11_made 72 = .ok (.invokevirtual 125, 3) := by decide +kernel
theorem dX11_made_75 : decode cX11_made 75 = .ok (.aload_n 0, 1) := by decide +kernel
theorem dX11_made_76 : decode cX11_made 76 = .ok (.aload_n 0, 1) := by decide +kernel
theorem dX11_made_77 : decode cX11_made 77 = .ok (.getfield 27, 3) := by decide +kernel
theorem dX11_made_80 : decode cX11_made 80 = .ok (.aload_n 0, 1) := by decide +kernel
theorem dX11_made_81 : decode cX11_made 81 = .ok (.getfield 30, 3) := by decide +kernel
theorem dX11_made_84 : decode cX11_made 84 = .ok (.aload_n 0, 1) := by decide +kernel
theorem dX11_made_85 : decode cX11_made 85 = .ok (.getfield 23, 3) := by decide +kernel
theorem dX11_made_88 : decode cX11_made 88 = .ok (.invokevirtual 129, 3) := by decide +kernel
theorem dX11_made_91 : decode cX11_made 91 = .ok (.iconst 0, 1) := by decide +kernel
theorem dX11_made_92 : decode cX11_made 92 = .ok (.istore 4, 2) := by decide +kernel
theorem dX11_made_94 : decode cX11_made 94 = .ok (.iload 4, 2) := by decide +kernel
theorem dX11_made_96 : decode cX11_made 96 = .ok (.aload_n 0, 1) := by decide +kernel
theorem dX11_made_97 : decode cX11_made 97 = .ok (.getfield 7, 3) := by decide +kernel
theorem dX11_made_100 : decode cX11_made 100 = .ok (.if_icmp .ge 131, 3) := by decide +kernel
theorem dX11_made_103 : decode cX11_made 103 = .ok (.iload_n 1, 1) := by decide +kernel
theorem dX11_made_104 : decode cX11_made 104 = .ok (.ifCond .le 127, 3) := by decide +kernel
theorem dX11_made_107 : decode cX11_made 107 = .ok (.iconst 0, 1) := by decide +kernel
theorem dX11_made_108 : decode cX11_made 108 = .ok (.istore 5, 2) := by decide +kernel
theorem dX11_made_110 : decode cX11_made 110 = .ok (.iload 5, 2) := by decide +kernel
theorem dX11_made_112 : decode cX11_made 112 = .ok (.aload_n 0, 1) := by decide +kernel
theorem dX11_made_113 : decode cX11_made 113 = .ok (.getfield 7, 3) := by decide +kernel
theorem dX11_made_116 : decode cX11_made 116 = .ok (.if_icmp .ge 109, 3) := by decide +kernel
theorem dX11_made_119 : decode cX11_made 119 = .ok (.aload_n 0, 1) := by decide +kernel
theorem dX11_made_120 : decode cX11_made 120 = .ok (.getfield 27, 3) := by decide +kernel
theorem dX11_made_123 : decode cX11_made 123 = .ok (.iconst 3, 1) := by decide +kernel
theorem dX11_made_124 : decode cX11_made 124 = .ok (.iload 5, 2) := by decide +kernel
theorem dX11_made_126 : decode cX11_made 126 = .ok (.imul, 1) := by decide +kernel
theorem dX11_made_127 : decode cX11_made 127 = .ok (.iload 4, 2) := by decide +kernel
theorem dX11_made_129 : decode cX11_made 129 = .ok (.iadd, 1) := by decide +kernel
theorem dX11_made_130 : decode cX11_made 130 = .ok (.laload, 1) := by decide +kernel
theorem dX11_made_131 : decode cX11_made 131 = .ok (.lstore 6, 2) := by decide +kernel
theorem dX11_made_133 : decode cX11_made 133 = .ok (.iload 4, 2) := by decide +kernel
theorem dX11_made_135 : decode cX11_made 135 = .ok (.iload 5, 2) := by decide +kernel
theorem dX11_made_137 : decode cX11_made 137 = .ok (.iadd, 1) := by decide +kernel
theorem dX11_made_138 : decode cX11_made 138 = .ok (.iconst 2, 1) := by decide +kernel
theorem dX11_made_139 : decode cX11_made 139 = .ok (.irem, 1) := by decide +kernel
theorem dX11_made_140 : decode cX11_made 140 = .ok (.ifCond .ne 7, 3) := by decide +kernel
theorem dX11_made_143 : decode cX11_made 143 = .ok (.lconst 1, 1) := by decide +kernel
theorem dX11_made_144 : decode cX11_made 144 = .ok (.goto 6, 3) := by decide +kernel
theorem dX11_made_147 : decode cX11_made 147 = .ok (.ldc2_w 133, 3) := by decide +kernel
theorem dX11_made_150 : decode cX11_made 150 = .ok (.aload_n 0, 1) := by decide +kernel
theorem dX11_made_151 : decode cX11_made 151 = .ok (.aload_n 0, 1) := by decide +kernel
theorem dX11_made_152 : decode cX11_made 152 = .ok (.getfield 27, 3) := by decide +kernel
theorem dX11_made_155 : decode cX11_made 155 = .ok (.iload 5, 2) := by decide +kernel
theorem dX11_made_157 : decode cX11_made 157 = .ok (.iload 4, 2) := by decide +kernel
theorem dX11_made_159 : decode cX11_made 159 = .ok (.invokevirtual 135, 3) := by decide +kernel
theorem dX11_made_162 : decode cX11_made 162 = .ok (.lmul, 1) := by decide +kernel
theorem dX11_made_163 : decode cX11_made 163 = .ok (.aload_n 0, 1) := by decide +kernel
theorem dX11_made_164 : decode cX11_made 164 = .ok (.aload_n 0, 1) := by decide +kernel
theorem dX11_made_165 : decode cX11_made 165 = .ok (.getfield 27, 3) := by decide +kernel
theorem dX11_made_168 : decode cX11_made 168 = .ok (.invokevirtual 139, 3) := by decide +kernel
theorem dX11_made_171 : decode cX11_made 171 = .ok (.lmul, 1) := by decide +kernel
theorem dX11_made_172 : decode cX11_made 172 = .ok (.lstore 8, 2) := by decide +kernel
theorem dX11_made_174 : decode cX11_made 174 = .ok (.aload_n 0, 1) := by decide +kernel
theorem dX11_made_175 : decode cX11_made 175 = .ok (.getfield 23, 3) := by decide +kernel
theorem dX11_made_178 : decode cX11_made 178 = .ok (.iconst 3, 1) := by decide +kernel
theorem dX11_made_179 : decode cX11_made 179 = .ok (.iload 4, 2) := by decide +kernel
theorem dX11_made_181 : decode cX11_made 181 = .ok (.imul, 1) := by decide +kernel
theorem dX11_made_182 : decode cX11_made 182 = .ok (.iload 5, 2) := by decide +kernel
theorem dX11_made_184 : decode cX11_made 184 = .ok (.iadd, 1) := by decide +kernel
theorem dX11_made_185 : decode cX11_made 185 = .ok (.iload_n 1, 1) := by decide +kernel
theorem dX11_made_186 : decode cX11_made 186 = .ok (.iconst 1, 1) := by decide +kernel
theorem dX11_made_187 : decode cX11_made 187 = .ok (.if_icmp .ne 8, 3) := by decide +kernel
theorem dX11_made_190 : decode cX11_made 190 = .ok (.lload 8, 2) := by decide +kernel
theorem dX11_made_192 : decode cX11_made 192 = .ok (.goto 26, 3) := by decide +kernel
theorem dX11_made_195 : decode cX11_made 195 = .ok (.iload_n 1, 1) := by decide +kernel
theorem dX11_made_196 : decode cX11_made 196 = .ok (.iconst 2, 1) := by decide +kernel
theorem dX11_made_197 : decode cX11_made 197 = .ok (.if_icmp .ne 8, 3) := by decide +kernel
theorem dX11_made_200 : decode cX11_made 200 = .ok (.lload 6, 2) := by decide +kernel
theorem dX11_made_202 : decode cX11_made 202 = .ok (.goto 16, 3) := by decide +kernel
theorem dX11_made_205 : decode cX11_made 205 = .ok (.aload_n 0, 1) := by decide +kernel
theorem dX11_made_206 : decode cX11_made 206 = .ok (.getfield 27, 3) := by decide +kernel
theorem dX11_made_209 : decode cX11_made 209 = .ok (.iconst 3, 1) := by decide +kernel
theorem dX11_made_210 : decode cX11_made 210 = .ok (.iload 4, 2) := by decide +kernel
theorem dX11_made_212 : decode cX11_made 212 = .ok (.imul, 1) := by decide +kernel
theorem dX11_made_213 : decode cX11_made 213 = .ok (.iload 5, 2) := by decide +kernel
theorem dX11_made_215 : decode cX11_made 215 = .ok (.iadd, 1) := by decide +kernel
theorem dX11_made_216 : decode cX11_made 216 = .ok (.laload, 1) := by decide +kernel
theorem dX11_made_217 : decode cX11_made 217 = .ok (.lneg, 1) := by decide +kernel
theorem dX11_made_218 : decode cX11_made 218 = .ok (.lastore, 1) := by decide +kernel
theorem dX11_made_219 : decode cX11_made 219 = .ok (.iinc 5 1, 3) := by decide +kernel
theorem dX11_made_222 : decode cX11_made 222 = .ok (.goto (-112), 3) := by decide +kernel
theorem dX11_made_225 : decode cX11_made 225 = .ok (.iinc 4 1, 3) := by decide +kernel
theorem dX11_made_228 : decode cX11_made 228 = .ok (.goto (-134), 3) := by decide +kernel
theorem dX11_made_231 : decode cX11_made 231 = .ok (.aload_n 0, 1) := by decide +kernel
theorem dX11_made_232 : decode cX11_made 232 = .ok (.aload_n 0, 1) := by decide +kernel
theorem dX11_made_233 : decode cX11_made 233 = .ok (.getfield 23, 3) := by decide +kernel
theorem dX11_made_236 : decode cX11_made 236 = .ok (.invokevirtual 143, 3) := by decide +kernel
theorem dX11_made_239 : decode cX11_made 239 = .ok (.ifCond .eq 10, 3) := by decide +kernel
theorem dX11_made_242 : decode cX11_made 242 = .ok (.aload_n 0, 1) := by decide +kernel
theorem dX11_made_243 : decode cX11_made 243 = .ok (.invokevirtual 118, 3) := by decide +kernel
theorem dX11_made_246 : decode cX11_made 246 = .ok (.goto 5, 3) := by decide +kernel
theorem dX11_made_249 : decode cX11_made 249 = .ok (.bipush (-16), 2) := by decide +kernel
theorem dX11_made_251 : decode cX11_made 251 = .ok (.ireturn, 1) := by decide +kernel
theorem dX11_makesUnit_0 : decode cX11_makesUnit 0 = .ok (.aload_n 0, 1) := by decide +kernel
theorem dX11_makesUnit_1 : decode cX11_makesUnit 1 = .ok (.aload_n 0, 1) := by decide +kernel
theorem dX11_makesUnit_2 : decode cX11_makesUnit 2 = .ok (.getfield 23, 3) := by decide +kernel
theorem dX11_makesUnit_5 : decode cX11_makesUnit 5 = .ok (.invokevirtual 107, 3) := by decide +kernel
theorem dX11_makesUnit_8 : decode cX11_makesUnit 8 = .ok (.aload_n 0, 1) := by decide +kernel
theorem dX11_makesUnit_9 : decode cX11_makesUnit 9 = .ok (.getfield 23, 3) := by decide +kernel
theorem dX11_makesUnit_12 : decode cX11_makesUnit 12 = .ok (.iconst 3, 1) := by decide +kernel
theorem dX11_makesUnit_13 : decode cX11_makesUnit 13 = .ok (.iload_n 1, 1) := by decide +kernel
theorem dX11_makesUnit_14 : decode cX11_makesUnit 14 = .ok (.imul, 1) := by decide +kernel
theorem dX11_makesUnit_15 : decode cX11_makesUnit 15 = .ok (.iload_n 2, 1) := by decide +kernel
theorem dX11_makesUnit_16 : decode cX11_makesUnit 16 = .ok (.iadd, 1) := by decide +kernel
theorem dX11_makesUnit_17 : decode cX11_makesUnit 17 = .ok (.iload_n 3, 1) := by decide +kernel
theorem dX11_makesUnit_18 : decode cX11_makesUnit 18 = .ok (.i2l, 1) := by decide +kernel
theorem dX11_makesUnit_19 : decode cX11_makesUnit 19 = .ok (.lastore, 1) := by decide +kernel
theorem dX11_makesUnit_20 : decode cX11_makesUnit 20 = .ok (.return_, 1) := by decide +kernel
theorem dX11_many_0 : decode cX11_many 0 = .ok (.iload_n 1, 1) := by decide +kernel
theorem dX11_many_1 : decode cX11_many 1 = .ok (.tableswitch 42 0 2 #[27, 32, 37], 27) := by decide +kernel
theorem dX11_many_28 : decode cX11_many 28 = .ok (.aload_n 0, 1) := by decide +kernel
theorem dX11_many_29 : decode cX11_many 29 = .ok (.getfield 7, 3) := by decide +kernel
theorem dX11_many_32 : decode cX11_many 32 = .ok (.ireturn, 1) := by decide +kernel
theorem dX11_many_33 : decode cX11_many 33 = .ok (.aload_n 0, 1) := by decide +kernel
theorem dX11_many_34 : decode cX11_many 34 = .ok (.getfield 85, 3) := by decide +kernel
theorem dX11_many_37 : decode cX11_many 37 = .ok (.ireturn, 1) := by decide +kernel
theorem dX11_many_38 : decode cX11_many 38 = .ok (.aload_n 0, 1) := by decide +kernel
theorem dX11_many_39 : decode cX11_many 39 = .ok (.getfield 171, 3) := by decide +kernel
theorem dX11_many_42 : decode cX11_many 42 = .ok (.ireturn, 1) := by decide +kernel
theorem dX11_many_43 : decode cX11_many 43 = .ok (.iconst (-1), 1) := by decide +kernel
theorem dX11_many_44 : decode cX11_many 44 = .ok (.ireturn, 1) := by decide +kernel
theorem dX11_middle_0 : decode cX11_middle 0 = .ok (.aload_n 0, 1) := by decide +kernel
theorem dX11_middle_1 : decode cX11_middle 1 = .ok (.invokevirtual 219, 3) := by decide +kernel
theorem dX11_middle_4 : decode cX11_middle 4 = .ok (.iconst 0, 1) := by decide +kernel
theorem dX11_middle_5 : decode cX11_middle 5 = .ok (.istore_n 1, 1) := by decide +kernel
theorem dX11_middle_6 : decode cX11_middle 6 = .ok (.iconst 0, 1) := by decide +kernel
theorem dX11_middle_7 : decode cX11_middle 7 = .ok (.istore_n 2, 1) := by decide +kernel
theorem dX11_middle_8 : decode cX11_middle 8 = .ok (.iload_n 2, 1) := by decide +kernel
theorem dX11_middle_9 : decode cX11_middle 9 = .ok (.aload_n 0, 1) := by decide +kernel
theorem dX11_middle_10 : decode cX11_middle 10 = .ok (.getfield 202, 3) := by decide +kernel
theorem dX11_middle_13 : decode cX11_middle 13 = .ok (.if_icmp .ge 136, 3) := by decide +kernel
theorem dX11_middle_16 : decode cX11_middle 16 = .ok (.iconst 1, 1) := by decide +kernel
theorem dX11_middle_17 : decode cX11_middle 17 = .ok (.istore_n 3, 1) := by decide +kernel
theorem dX11_middle_18 : decode cX11_middle 18 = .ok (.iconst 0, 1) := by decide +kernel
theorem dX11_middle_19 : decode cX11_middle 19 = .ok (.istore 4, 2) := by decide +kernel
theorem dX11_middle_21 : decode cX11_middle 21 = .ok (.iload 4, 2) := by decide +kernel
theorem dX11_middle_23 : decode cX11_middle 23 = .ok (.aload_n 0, 1) := by decide +kernel
theorem dX11_middle_24 : decode cX11_middle 24 = .ok (.getfield 85, 3) := by decide +kernel
theorem dX11_middle_27 : decode cX11_middle 27 = .ok (.if_icmp .ge 104, 3) := by decide +kernel
theorem dX11_middle_30 : decode cX11_middle 30 = .ok (.aload_n 0, 1) := by decide +kernel
theorem dX11_middle_31 : decode cX11_middle 31 = .ok (.iload_n 2, 1) := by decide +kernel
theorem dX11_middle_32 : decode cX11_middle 32 = .ok (.aload_n 0, 1) := by decide +kernel
theorem dX11_middle_33 : decode cX11_middle 33 = .ok (.getfield 27, 3) := by decide +kernel
theorem dX11_middle_36 : decode cX11_middle 36 = .ok (.invokevirtual 209, 3) := by decide +kernel
theorem dX11_middle_39 : decode cX11_middle 39 = .ok (.aload_n 0, 1) := by decide +kernel
theorem dX11_middle_40 : decode cX11_middle 40 = .ok (.iload 4, 2) := by decide +kernel
theorem dX11_middle_42 : decode cX11_middle 42 = .ok (.aload_n 0, 1) := by decide +kernel
theorem dX11_middle_43 : decode cX11_middle 43 = .ok (.getfield 30, 3) := by decide +kernel
theorem dX11_middle_46 : decode cX11_middle 46 = .ok (.invokevirtual 125, 3) := by decide +kernel
theorem dX11_middle_49 : decode cX11_middle 49 = .ok (.aload_n 0, 1) := by decide +kernel
theorem dX11_middle_50 : decode cX11_middle 50 = .ok (.aload_n 0, 1) := by decide +kernel
theorem dX11_middle_51 : decode cX11_middle 51 = .ok (.getfield 27, 3) := by decide +kernel
theorem dX11_middle_54 : decode cX11_middle 54 = .ok (.aload_n 0, 1) := by decide +kernel
theorem dX11_middle_55 : decode cX11_middle 55 = .ok (.getfield 30, 3) := by decide +kernel
theorem dX11_middle_58 : decode cX11_middle 58 = .ok (.aload_n 0, 1) := by decide +kernel
theorem dX11_middle_59 : decode cX11_middle 59 = .ok (.getfield 33, 3) := by decide +kernel
theorem dX11_middle_62 : decode cX11_middle 62 = .ok (.invokevirtual 129, 3) := by decide +kernel
theorem dX11_middle_65 : decode cX11_middle 65 = .ok (.aload_n 0, 1) := by decide +kernel
theorem dX11_middle_66 : decode cX11_middle 66 = .ok (.aload_n 0, 1) := by decide +kernel
theorem dX11_middle_67 : decode cX11_middle 67 = .ok (.getfield 30, 3) := by decide +kernel
theorem dX11_middle_70 : decode cX11_middle 70 = .ok (.aload_n 0, 1) := by decide +kernel
theorem dX11_middle_71 : decode cX11_middle 71 = .ok (.getfield 27, 3) := by decide +kernel
theorem dX11_middle_74 : decode cX11_middle 74 = .ok (.aload_n 0, 1) := by decide +kernel
theorem dX11_middle_75 : decode cX11_middle 75 = .ok (.getfield 23, 3) := by decide +kernel
theorem dX11_middle_78 : decode cX11_middle 78 = .ok (.invokevirtual 129, 3) := by decide +kernel
theorem dX11_middle_81 : decode cX11_middle 81 = .ok (.iconst 0, 1) := by decide +kernel
theorem dX11_middle_82 : decode cX11_middle 82 = .ok (.istore 5, 2) := by decide +kernel
theorem dX11_middle_84 : decode cX11_middle 84 = .ok (.iload 5, 2) := by decide +kernel
theorem dX11_middle_86 : decode cX11_middle 86 = .ok (.bipush 9, 2) := by decide +kernel
theorem dX11_middle_88 : decode cX11_middle 88 = .ok (.if_icmp .ge 37, 3) := by decide +kernel
theorem dX11_middle_91 : decode cX11_middle 91 = .ok (.iload_n 3, 1) := by decide +kernel
theorem dX11_middle_92 : decode cX11_middle 92 = .ok (.ifCond .eq 25, 3) := by decide +kernel
theorem dX11_middle_95 : decode cX11_middle 95 = .ok (.aload_n 0, 1) := by decide +kernel
theorem dX11_middle_96 : decode cX11_middle 96 = .ok (.getfield 33, 3) := by decide +kernel
theorem dX11_middle_99 : decode cX11_middle 99 = .ok (.iload 5, 2) := by decide +kernel
theorem dX11_middle_101 : decode cX11_middle 101 = .ok (.laload, 1) := by decide +kernel
theorem dX11_middle_102 : decode cX11_middle 102 = .ok (.aload_n 0, 1) := by decide +kernel
theorem dX11_middle_103 : decode cX11_middle 103 = .ok (.getfield 23, 3) := by decide +kernel
theorem dX11_middle_106 : decode cX11_middle 106 = .ok (.iload 5, 2) := by decide +kernel
theorem dX11_middle_108 : decode cX11_middle 108 = .ok (.laload, 1) := by decide +kernel
theorem dX11_middle_109 : decode cX11_middle 109 = .ok (.lcmp, 1) := by decide +kernel
theorem dX11_middle_110 : decode cX11_middle 110 = .ok (.ifCond .ne 7, 3) := by decide +kernel
theorem dX11_middle_113 : decode cX11_middle 113 = .ok (.iconst 1, 1) := by decide +kernel
theorem dX11_middle_114 : decode cX11_middle 114 = .ok (.goto 4, 3) := by decide +kernel
theorem dX11_middle_117 : decode cX11_middle 117 = .ok (.iconst 0, 1) := by decide +kernel
theorem dX11_middle_118 : decode cX11_middle 118 = .ok (.istore_n 3, 1) := by decide +kernel
theorem dX11_middle_119 : decode cX11_middle 119 = .ok (.iinc 5 1, 3) := by decide +kernel
theorem dX11_middle_122 : decode cX11_middle 122 = .ok (.goto (-38), 3) := by decide +kernel
theorem dX11_middle_125 : decode cX11_middle 125 = .ok (.iinc 4 1, 3) := by decide +kernel
theorem dX11_middle_128 : decode cX11_middle 128 = .ok (.goto (-107), 3) := by decide +kernel
theorem dX11_middle_131 : decode cX11_middle 131 = .ok (.iload_n 1, 1) := by decide +kernel
theorem dX11_middle_132 : decode cX11_middle 132 = .ok (.iload_n 3, 1) := by decide +kernel
theorem dX11_middle_133 : decode cX11_middle 133 = .ok (.ifCond .eq 7, 3) := by decide +kernel
theorem dX11_middle_136 : decode cX11_middle 136 = .ok (.iconst 1, 1) := by decide +kernel
theorem dX11_middle_137 : decode cX11_middle 137 = .ok (.goto 4, 3) := by decide +kernel
theorem dX11_middle_140 : decode cX11_middle 140 = .ok (.iconst 0, 1) := by decide +kernel
theorem dX11_middle_141 : decode cX11_middle 141 = .ok (.iadd, 1) := by decide +kernel
theorem dX11_middle_142 : decode cX11_middle 142 = .ok (.istore_n 1, 1) := by decide +kernel
theorem dX11_middle_143 : decode cX11_middle 143 = .ok (.iinc 2 1, 3) := by decide +kernel
theorem dX11_middle_146 : decode cX11_middle 146 = .ok (.goto (-138), 3) := by decide +kernel
theorem dX11_middle_149 : decode cX11_middle 149 = .ok (.iload_n 1, 1) := by decide +kernel
theorem dX11_middle_150 : decode cX11_middle 150 = .ok (.ireturn, 1) := by decide +kernel
theorem dX11_of_0 : decode cX11_of 0 = .ok (.aload_n 0, 1) := by decide +kernel
theorem dX11_of_1 : decode cX11_of 1 = .ok (.iload_n 1, 1) := by decide +kernel
theorem dX11_of_2 : decode cX11_of 2 = .ok (.invokevirtual 122, 3) := by decide +kernel
theorem dX11_of_5 : decode cX11_of 5 = .ok (.ifCond .ne 5, 3) := by decide +kernel
theorem dX11_of_8 : decode cX11_of 8 = .ok (.iconst (-1), 1) := by decide +kernel
theorem dX11_of_9 : decode cX11_of 9 = .ok (.ireturn, 1) := by decide +kernel
theorem dX11_of_10 : decode cX11_of 10 = .ok (.aload_n 0, 1) := by decide +kernel
theorem dX11_of_11 : decode cX11_of 11 = .ok (.iload_n 1, 1) := by decide +kernel
theorem dX11_of_12 : decode cX11_of 12 = .ok (.aload_n 0, 1) := by decide +kernel
theorem dX11_of_13 : decode cX11_of 13 = .ok (.getfield 27, 3) := by decide +kernel
theorem dX11_of_16 : decode cX11_of 16 = .ok (.invokevirtual 125, 3) := by decide +kernel
theorem dX11_of_19 : decode cX11_of 19 = .ok (.iload_n 2, 1) := by decide +kernel
theorem dX11_of_20 : decode cX11_of 20 = .ok (.tableswitch 74 0 2 #[28, 42, 69], 28) := by decide +kernel
theorem dX11_of_48 : decode cX11_of 48 = .ok (.sipush 1000, 3) := by decide +kernel
theorem dX11_of_51 : decode cX11_of 51 = .ok (.aload_n 0, 1) := by decide +kernel
theorem dX11_of_52 : decode cX11_of 52 = .ok (.aload_n 0, 1) := by decide +kernel
theorem dX11_of_53 : decode cX11_of 53 = .ok (.getfield 27, 3) := by decide +kernel
theorem dX11_of_56 : decode cX11_of 56 = .ok (.invokevirtual 139, 3) := by decide +kernel
theorem dX11_of_59 : decode cX11_of 59 = .ok (.l2i, 1) := by decide +kernel
theorem dX11_of_60 : decode cX11_of 60 = .ok (.iadd, 1) := by decide +kernel
theorem dX11_of_61 : decode cX11_of 61 = .ok (.ireturn, 1) := by decide +kernel
theorem dX11_of_62 : decode cX11_of 62 = .ok (.sipush 1000, 3) := by decide +kernel
theorem dX11_of_65 : decode cX11_of 65 = .ok (.aload_n 0, 1) := by decide +kernel
theorem dX11_of_66 : decode cX11_of 66 = .ok (.getfield 27, 3) := by decide +kernel
theorem dX11_of_69 : decode cX11_of 69 = .ok (.iconst 0, 1) := by decide +kernel
theorem dX11_of_70 : decode cX11_of 70 = .ok (.laload, 1) := by decide +kernel
theorem dX11_of_71 : decode cX11_of 71 = .ok (.aload_n 0, 1) := by decide +kernel
theorem dX11_of_72 : decode cX11_of 72 = .ok (.getfield 27, 3) := by decide +kernel
theorem dX11_of_75 : decode cX11_of 75 = .ok (.iconst 4, 1) := by decide +kernel
theorem dX11_of_76 : decode cX11_of 76 = .ok (.laload, 1) := by decide +kernel
theorem dX11_of_77 : decode cX11_of 77 = .ok (.ladd, 1) := by decide +kernel
theorem dX11_of_78 : decode cX11_of 78 = .ok (.aload_n 0, 1) := by decide +kernel
theorem dX11_of_79 : decode cX11_of 79 = .ok (.getfield 27, 3) := by decide +kernel
theorem dX11_of_82 : decode cX11_of 82 = .ok (.bipush 8, 2) := by decide +kernel
theorem dX11_of_84 : decode cX11_of 84 = .ok (.laload, 1) := by decide +kernel
theorem dX11_of_85 : decode cX11_of 85 = .ok (.ladd, 1) := by decide +kernel
theorem dX11_of_86 : decode cX11_of 86 = .ok (.l2i, 1) := by decide +kernel
theorem dX11_of_87 : decode cX11_of 87 = .ok (.iadd, 1) := by decide +kernel
theorem dX11_of_88 : decode cX11_of 88 = .ok (.ireturn, 1) := by decide +kernel
theorem dX11_of_89 : decode cX11_of 89 = .ok (.aload_n 0, 1) := by decide +kernel
theorem dX11_of_90 : decode cX11_of 90 = .ok (.invokevirtual 157, 3) := by decide +kernel
theorem dX11_of_93 : decode cX11_of 93 = .ok (.ireturn, 1) := by decide +kernel
theorem dX11_of_94 : decode cX11_of 94 = .ok (.iconst (-1), 1) := by decide +kernel
theorem dX11_of_95 : decode cX11_of 95 = .ok (.ireturn, 1) := by decide +kernel
theorem dX11_orbit_0 : decode cX11_orbit 0 = .ok (.iload_n 1, 1) := by decide +kernel
theorem dX11_orbit_1 : decode cX11_orbit 1 = .ok (.iload_n 2, 1) := by decide +kernel
theorem dX11_orbit_2 : decode cX11_orbit 2 = .ok (.iload_n 3, 1) := by decide +kernel
theorem dX11_orbit_3 : decode cX11_orbit 3 = .ok (.invokestatic 264, 3) := by decide +kernel
theorem dX11_orbit_6 : decode cX11_orbit 6 = .ok (.ifCond .ne 5, 3) := by decide +kernel
theorem dX11_orbit_9 : decode cX11_orbit 9 = .ok (.iconst (-1), 1) := by decide +kernel
theorem dX11_orbit_10 : decode cX11_orbit 10 = .ok (.ireturn, 1) := by decide +kernel
theorem dX11_orbit_11 : decode cX11_orbit 11 = .ok (.aload_n 0, 1) := by decide +kernel
theorem dX11_orbit_12 : decode cX11_orbit 12 = .ok (.getfield 60, 3) := by decide +kernel
theorem dX11_orbit_15 : decode cX11_orbit 15 = .ok (.iconst 0, 1) := by decide +kernel
theorem dX11_orbit_16 : decode cX11_orbit 16 = .ok (.iload_n 1, 1) := by decide +kernel
theorem dX11_orbit_17 : decode cX11_orbit 17 = .ok (.i2l, 1) := by decide +kernel
theorem dX11_orbit_18 : decode cX11_orbit 18 = .ok (.lastore, 1) := by decide +kernel
theorem dX11_orbit_19 : decode cX11_orbit 19 = .ok (.aload_n 0, 1) := by decide +kernel
theorem dX11_orbit_20 : decode cX11_orbit 20 = .ok (.getfield 60, 3) := by decide +kernel
theorem dX11_orbit_23 : decode cX11_orbit 23 = .ok (.iconst 1, 1) := by decide +kernel
theorem dX11_orbit_24 : decode cX11_orbit 24 = .ok (.aload_n 0, 1) := by decide +kernel
theorem dX11_orbit_25 : decode cX11_orbit 25 = .ok (.getfield 7, 3) := by decide +kernel
theorem dX11_orbit_28 : decode cX11_orbit 28 = .ok (.iconst 1, 1) := by decide +kernel
theorem dX11_orbit_29 : decode cX11_orbit 29 = .ok (.if_icmp .le 8, 3) := by decide +kernel
theorem dX11_orbit_32 : decode cX11_orbit 32 = .ok (.iload_n 2, 1) := by decide +kernel
theorem dX11_orbit_33 : decode cX11_orbit 33 = .ok (.i2l, 1) := by decide +kernel
theorem dX11_orbit_34 : decode cX11_orbit 34 = .ok (.goto 4, 3) := by decide +kernel
theorem dX11_orbit_37 : decode cX11_orbit 37 = .ok (.lconst 0, 1) := by decide +kernel
theorem dX11_orbit_38 : decode cX11_orbit 38 = .ok (.lastore, 1) := by decide +kernel
theorem dX11_orbit_39 : decode cX11_orbit 39 = .ok (.aload_n 0, 1) := by decide +kernel
theorem dX11_orbit_40 : decode cX11_orbit 40 = .ok (.getfield 60, 3) := by decide +kernel
theorem dX11_orbit_43 : decode cX11_orbit 43 = .ok (.iconst 2, 1) := by decide +kernel
theorem dX11_orbit_44 : decode cX11_orbit 44 = .ok (.aload_n 0, 1) := by decide +kernel
theorem dX11_orbit_45 : decode cX11_orbit 45 = .ok (.getfield 7, 3) := by decide +kernel
theorem dX11_orbit_48 : decode cX11_orbit 48 = .ok (.iconst 2, 1) := by decide +kernel
theorem dX11_orbit_49 : decode cX11_orbit 49 = .ok (.if_icmp .le 8, 3) := by decide +kernel
theorem dX11_orbit_52 : decode cX11_orbit 52 = .ok (.iload_n 3, 1) := by decide +kernel
theorem dX11_orbit_53 : decode cX11_orbit 53 = .ok (.i2l, 1) := by decide +kernel
theorem dX11_orbit_54 : decode cX11_orbit 54 = .ok (.goto 4, 3) := by decide +kernel
theorem dX11_orbit_57 : decode cX11_orbit 57 = .ok (.lconst 0, 1) := by decide +kernel
theorem dX11_orbit_58 : decode cX11_orbit 58 = .ok (.lastore, 1) := by decide +kernel
theorem dX11_orbit_59 : decode cX11_orbit 59 = .ok (.aload_n 0, 1) := by decide +kernel
theorem dX11_orbit_60 : decode cX11_orbit 60 = .ok (.iconst 1, 1) := by decide +kernel
theorem dX11_orbit_61 : decode cX11_orbit 61 = .ok (.putfield 102, 3) := by decide +kernel
theorem dX11_orbit_64 : decode cX11_orbit 64 = .ok (.iconst 0, 1) := by decide +kernel
theorem dX11_orbit_65 : decode cX11_orbit 65 = .ok (.istore 4, 2) := by decide +kernel
theorem dX11_orbit_67 : decode cX11_orbit 67 = .ok (.iload 4, 2) := by decide +kernel
theorem dX11_orbit_69 : decode cX11_orbit 69 = .ok (.aload_n 0, 1) := by decide +kernel
theorem dX11_orbit_70 : decode cX11_orbit 70 = .ok (.getfield 102, 3) := by decide +kernel
theorem dX11_orbit_73 : decode cX11_orbit 73 = .ok (.if_icmp .ge 200, 3) := by decide +kernel
theorem dX11_orbit_76 : decode cX11_orbit 76 = .ok (.iconst 0, 1) := by decide +kernel
theorem dX11_orbit_77 : decode cX11_orbit 77 = .ok (.istore 5, 2) := by decide +kernel
theorem dX11_orbit_79 : decode cX11_orbit 79 = .ok (.iload 5, 2) := by decide +kernel
theorem dX11_orbit_81 : decode cX11_orbit 81 = .ok (.aload_n 0, 1) := by decide +kernel
theorem dX11_orbit_82 : decode cX11_orbit 82 = .ok (.getfield 85, 3) := by decide +kernel
theorem dX11_orbit_85 : decode cX11_orbit 85 = .ok (.if_icmp .ge 182, 3) := by decide +kernel
theorem dX11_orbit_88 : decode cX11_orbit 88 = .ok (.aload_n 0, 1) := by decide +kernel
theorem dX11_orbit_89 : decode cX11_orbit 89 = .ok (.getfield 102, 3) := by decide +kernel
theorem dX11_orbit_92 : decode cX11_orbit 92 = .ok (.bipush 60, 2) := by decide +kernel
theorem dX11_orbit_94 : decode cX11_orbit 94 = .ok (.if_icmp .ge 173, 3) := by decide +kernel
theorem dX11_orbit_97 : decode cX11_orbit 97 = .ok (.aload_n 0, 1) := by decide +kernel
theorem dX11_orbit_98 : decode cX11_orbit 98 = .ok (.iload 5, 2) := by decide +kernel
theorem dX11_orbit_100 : decode cX11_orbit 100 = .ok (.iload 4, 2) := by decide +kernel
theorem dX11_orbit_102 : decode cX11_orbit 102 = .ok (.invokevirtual 267, 3) := by decide +kernel
theorem dX11_orbit_105 : decode cX11_orbit 105 = .ok (.aload_n 0, 1) := by decide +kernel
theorem dX11_orbit_106 : decode cX11_orbit 106 = .ok (.getfield 27, 3) := by decide +kernel
theorem dX11_orbit_109 : decode cX11_orbit 109 = .ok (.iconst 0, 1) := by decide +kernel
theorem dX11_orbit_110 : decode cX11_orbit 110 = .ok (.laload, 1) := by decide +kernel
theorem dX11_orbit_111 : decode cX11_orbit 111 = .ok (.ldc2_w 147, 3) := by decide +kernel
theorem dX11_orbit_114 : decode cX11_orbit 114 = .ok (.ldc2_w 149, 3) := by decide +kernel
theorem dX11_orbit_117 : decode cX11_orbit 117 = .ok (.invokestatic 81, 3) := by decide +kernel
theorem dX11_orbit_120 : decode cX11_orbit 120 = .ok (.ifCond .eq 43, 3) := by decide +kernel
theorem dX11_orbit_123 : decode cX11_orbit 123 = .ok (.aload_n 0, 1) := by decide +kernel
theorem dX11_orbit_124 : decode cX11_orbit 124 = .ok (.getfield 27, 3) := by decide +kernel
theorem dX11_orbit_127 : decode cX11_orbit 127 = .ok (.iconst 1, 1) := by decide +kernel
theorem dX11_orbit_128 : decode cX11_orbit 128 = .ok (.laload, 1) := by decide +kernel
theorem dX11_orbit_129 : decode cX11_orbit 129 = .ok (.ldc2_w 147, 3) := by decide +kernel
theorem dX11_orbit_132 : decode cX11_orbit 132 = .ok (.ldc2_w 149, 3) := by decide +kernel
theorem dX11_orbit_135 : decode cX11_orbit 135 = .ok (.invokestatic 81, 3) := by decide +kernel
theorem dX11_orbit_138 : decode cX11_orbit 138 = .ok (.ifCond .eq 25, 3) := by decide +kernel
theorem dX11_orbit_141 : decode cX11_orbit 141 = .ok (.aload_n 0, 1) := by decide +kernel
theorem dX11_orbit_142 : decode cX11_orbit 142 = .ok (.getfield 27, 3) := by decide +kernel
theorem dX11_orbit_145 : decode cX11_orbit 145 = .ok (.iconst 2, 1) := by decide +kernel
theorem dX11_orbit_146 : decode cX11_orbit 146 = .ok (.laload, 1) := by decide +kernel
theorem dX11_orbit_147 : decode cX11_orbit 147 = .ok (.ldc2_w 147, 3) := by decide +kernel
theorem dX11_orbit_150 : decode cX11_orbit 150 = .ok (.ldc2_w 149, 3) := by decide +kernel
theorem dX11_orbit_153 : decode cX11_orbit 153 = .ok (.invokestatic 81, 3) := by decide +kernel
theorem dX11_orbit_156 : decode cX11_orbit 156 = .ok (.ifCond .eq 7, 3) := by decide +kernel
theorem dX11_orbit_159 : decode cX11_orbit 159 = .ok (.iconst 1, 1) := by decide +kernel
theorem dX11_orbit_160 : decode cX11_orbit 160 = .ok (.goto 4, 3) := by decide +kernel
theorem dX11_orbit_163 : decode cX11_orbit 163 = .ok (.iconst 0, 1) := by decide +kernel
theorem dX11_orbit_164 : decode cX11_orbit 164 = .ok (.istore 6, 2) := by decide +kernel
theorem dX11_orbit_166 : decode cX11_orbit 166 = .ok (.iload 6, 2) := by decide +kernel
theorem dX11_orbit_168 : decode cX11_orbit 168 = .ok (.ifCond .eq 93, 3) := by decide +kernel
theorem dX11_orbit_171 : decode cX11_orbit 171 = .ok (.aload_n 0, 1) := by decide +kernel
theorem dX11_orbit_172 : decode cX11_orbit 172 = .ok (.aload_n 0, 1) := by decide +kernel
theorem dX11_orbit_173 : decode cX11_orbit 173 = .ok (.getfield 27, 3) := by decide +kernel
theorem dX11_orbit_176 : decode cX11_orbit 176 = .ok (.iconst 0, 1) := by decide +kernel
theorem dX11_orbit_177 : decode cX11_orbit 177 = .ok (.laload, 1) := by decide +kernel
theorem dX11_orbit_178 : decode cX11_orbit 178 = .ok (.aload_n 0, 1) := by decide +kernel
theorem dX11_orbit_179 : decode cX11_orbit 179 = .ok (.getfield 27, 3) := by decide +kernel
theorem dX11_orbit_182 : decode cX11_orbit 182 = .ok (.iconst 1, 1) := by decide +kernel
theorem dX11_orbit_183 : decode cX11_orbit 183 = .ok (.laload, 1) := by decide +kernel
theorem dX11_orbit_184 : decode cX11_orbit 184 = .ok (.aload_n 0, 1) := by decide +kernel
theorem dX11_orbit_185 : decode cX11_orbit 185 = .ok (.getfield 27, 3) := by decide +kernel
theorem dX11_orbit_188 : decode cX11_orbit 188 = .ok (.iconst 2, 1) := by decide +kernel
theorem dX11_orbit_189 : decode cX11_orbit 189 = .ok (.laload, 1) := by decide +kernel
theorem dX11_orbit_190 : decode cX11_orbit 190 = .ok (.invokevirtual 271, 3) := by decide +kernel
theorem dX11_orbit_193 : decode cX11_orbit 193 = .ok (.ifCond .ge 68, 3) := by decide +kernel
theorem dX11_orbit_196 : decode cX11_orbit 196 = .ok (.aload_n 0, 1) := by decide +kernel
theorem dX11_orbit_197 : decode cX11_orbit 197 = .ok (.getfield 60, 3) := by decide +kernel
theorem dX11_orbit_200 : decode cX11_orbit 200 = .ok (.iconst 3, 1) := by decide +kernel
theorem dX11_orbit_201 : decode cX11_orbit 201 = .ok (.aload_n 0, 1) := by decide +kernel
theorem dX11_orbit_202 : decode cX11_orbit 202 = .ok (.getfield 102, 3) := by decide +kernel
theorem dX11_orbit_205 : decode cX11_orbit 205 = .ok (.imul, 1) := by decide +kernel
theorem dX11_orbit_206 : decode cX11_orbit 206 = .ok (.aload_n 0, 1) := by decide +kernel
theorem dX11_orbit_207 : decode cX11_orbit 207 = .ok (.getfield 27, 3) := by decide +kernel
theorem dX11_orbit_210 : decode cX11_orbit 210 = .ok (.iconst 0, 1) := by decide +kernel
theorem dX11_orbit_211 : decode cX11_orbit 211 = .ok (.laload, 1) := by decide +kernel
theorem dX11_orbit_212 : decode cX11_orbit 212 = .ok (.lastore, 1) := by decide +kernel
theorem dX11_orbit_213 : decode cX11_orbit 213 = .ok (.aload_n 0, 1) := by decide +kernel
theorem dX11_orbit_214 : decode cX11_orbit 214 = .ok (.getfield 60, 3) := by decide +kernel
theorem dX11_orbit_217 : decode cX11_orbit 217 = .ok (.iconst 3, 1) := by decide +kernel
theorem dX11_orbit_218 : decode cX11_orbit 218 = .ok (.aload_n 0, 1) := by decide +kernel
theorem dX11_orbit_219 : decode cX11_orbit 219 = .ok (.getfield 102, 3) := by decide +kernel
theorem dX11_orbit_222 : decode cX11_orbit 222 = .ok (.imul, 1) := by decide +kernel
theorem dX11_orbit_223 : decode cX11_orbit 223 = .ok (.iconst 1, 1) := by decide +kernel
theorem dX11_orbit_224 : decode cX11_orbit 224 = .ok (.iadd, 1) := by decide +kernel
theorem dX11_orbit_225 : decode cX11_orbit 225 = .ok (.aload_n 0, 1) := by decide +kernel
theorem dX11_orbit_226 : decode cX11_orbit 226 = .ok (.getfield 27, 3) := by decide +kernel
theorem dX11_orbit_229 : decode cX11_orbit 229 = .ok (.iconst 1, 1) := by decide +kernel
theorem dX11_orbit_230 : decode cX11_orbit 230 = .ok (.laload, 1) := by decide +kernel
theorem dX11_orbit_231 : decode cX11_orbit 231 = .ok (.lastore, 1) := by decide +kernel
theorem dX11_orbit_232 : decode cX11_orbit 232 = .ok (.aload_n 0, 1) := by decide +kernel
theorem dX11_orbit_233 : decode cX11_orbit 233 = .ok (.getfield 60, 3) := by decide +kernel
theorem dX11_orbit_236 : decode cX11_orbit 236 = .ok (.iconst 3, 1) := by decide +kernel
theorem dX11_orbit_237 : decode cX11_orbit 237 = .ok (.aload_n 0, 1) := by decide +kernel
theorem dX11_orbit_238 : decode cX11_orbit 238 = .ok (.getfield 102, 3) := by decide +kernel
theorem dX11_orbit_241 : decode cX11_orbit 241 = .ok (.imul, 1) := by decide +kernel
theorem dX11_orbit_242 : decode cX11_orbit 242 = .ok (.iconst 2, 1) := by decide +kernel
theorem dX11_orbit_243 : decode cX11_orbit 243 = .ok (.iadd, 1) := by decide +kernel
theorem dX11_orbit_244 : decode cX11_orbit 244 = .ok (.aload_n 0, 1) := by decide +kernel
theorem dX11_orbit_245 : decode cX11_orbit 245 = .ok (.getfield 27, 3) := by decide +kernel
theorem dX11_orbit_248 : decode cX11_orbit 248 = .ok (.iconst 2, 1) := by decide +kernel
theorem dX11_orbit_249 : decode cX11_orbit 249 = .ok (.laload, 1) := by decide +kernel
theorem dX11_orbit_250 : decode cX11_orbit 250 = .ok (.lastore, 1) := by decide +kernel
theorem dX11_orbit_251 : decode cX11_orbit 251 = .ok (.aload_n 0, 1) := by decide +kernel
theorem dX11_orbit_252 : decode cX11_orbit 252 = .ok (.dup, 1) := by decide +kernel
theorem dX11_orbit_253 : decode cX11_orbit 253 = .ok (.getfield 102, 3) := by decide +kernel
theorem dX11_orbit_256 : decode cX11_orbit 256 = .ok (.iconst 1, 1) := by decide +kernel
theorem dX11_orbit_257 : decode cX11_orbit 257 = .ok (.iadd, 1) := by decide +kernel
theorem dX11_orbit_258 : decode cX11_orbit 258 = .ok (.putfield 102, 3) := by decide +kernel
theorem dX11_orbit_261 : decode cX11_orbit 261 = .ok (.iinc 5 1, 3) := by decide +kernel
theorem dX11_orbit_264 : decode cX11_orbit 264 = .ok (.goto (-185), 3) := by decide +kernel
theorem dX11_orbit_267 : decode cX11_orbit 267 = .ok (.iinc 4 1, 3) := by decide +kernel
theorem dX11_orbit_270 : decode cX11_orbit 270 = .ok (.goto (-203), 3) := by decide +kernel
theorem dX11_orbit_273 : decode cX11_orbit 273 = .ok (.aload_n 0, 1) := by decide +kernel
theorem dX11_orbit_274 : decode cX11_orbit 274 = .ok (.iconst 1, 1) := by decide +kernel
theorem dX11_orbit_275 : decode cX11_orbit 275 = .ok (.putfield 275, 3) := by decide +kernel
theorem dX11_orbit_278 : decode cX11_orbit 278 = .ok (.iconst 0, 1) := by decide +kernel
theorem dX11_orbit_279 : decode cX11_orbit 279 = .ok (.istore 4, 2) := by decide +kernel
theorem dX11_orbit_281 : decode cX11_orbit 281 = .ok (.iload 4, 2) := by decide +kernel
theorem dX11_orbit_283 : decode cX11_orbit 283 = .ok (.aload_n 0, 1) := by decide +kernel
theorem dX11_orbit_284 : decode cX11_orbit 284 = .ok (.getfield 102, 3) := by decide +kernel
theorem dX11_orbit_287 : decode cX11_orbit 287 = .ok (.if_icmp .ge 95, 3) := by decide +kernel
theorem dX11_orbit_290 : decode cX11_orbit 290 = .ok (.iconst 0, 1) := by decide +kernel
theorem dX11_orbit_291 : decode cX11_orbit 291 = .ok (.istore 5, 2) := by decide +kernel
theorem dX11_orbit_293 : decode cX11_orbit 293 = .ok (.iload 5, 2) := by decide +kernel
theorem dX11_orbit_295 : decode cX11_orbit 295 = .ok (.aload_n 0, 1) := by decide +kernel
