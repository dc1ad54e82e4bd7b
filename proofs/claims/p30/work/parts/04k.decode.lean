theorem dX7_invert_12 : decode cX7_invert 12 = .ok (.iload 6, 2) := by decide +kernel
theorem dX7_invert_14 : decode cX7_invert 14 = .ok (.iload_n 3, 1) := by decide +kernel
theorem dX7_invert_15 : decode cX7_invert 15 = .ok (.if_icmp .ge 46, 3) := by decide +kernel
theorem dX7_invert_18 : decode cX7_invert 18 = .ok (.iconst 0, 1) := by decide +kernel
theorem dX7_invert_19 : decode cX7_invert 19 = .ok (.istore 7, 2) := by decide +kernel
theorem dX7_invert_21 : decode cX7_invert 21 = .ok (.iload 7, 2) := by decide +kernel
theorem dX7_invert_23 : decode cX7_invert 23 = .ok (.iload_n 3, 1) := by decide +kernel
theorem dX7_invert_24 : decode cX7_invert 24 = .ok (.if_icmp .ge 31, 3) := by decide +kernel
theorem dX7_invert_27 : decode cX7_invert 27 = .ok (.aload_n 2, 1) := by decide +kernel
theorem dX7_invert_28 : decode cX7_invert 28 = .ok (.iload 7, 2) := by decide +kernel
theorem dX7_invert_30 : decode cX7_invert 30 = .ok (.iload_n 3, 1) := by decide +kernel
theorem dX7_invert_31 : decode cX7_invert 31 = .ok (.imul, 1) := by decide +kernel
theorem dX7_invert_32 : decode cX7_invert 32 = .ok (.iload 6, 2) := by decide +kernel
theorem dX7_invert_34 : decode cX7_invert 34 = .ok (.iadd, 1) := by decide +kernel
theorem dX7_invert_35 : decode cX7_invert 35 = .ok (.lload 4, 2) := by decide +kernel
theorem dX7_invert_37 : decode cX7_invert 37 = .ok (.aload_n 0, 1) := by decide +kernel
theorem dX7_invert_38 : decode cX7_invert 38 = .ok (.iload_n 1, 1) := by decide +kernel
theorem dX7_invert_39 : decode cX7_invert 39 = .ok (.iload_n 3, 1) := by decide +kernel
theorem dX7_invert_40 : decode cX7_invert 40 = .ok (.iload 6, 2) := by decide +kernel
theorem dX7_invert_42 : decode cX7_invert 42 = .ok (.iload 7, 2) := by decide +kernel
theorem dX7_invert_44 : decode cX7_invert 44 = .ok (.invokestatic 23, 3) := by decide +kernel
theorem dX7_invert_47 : decode cX7_invert 47 = .ok (.lmul, 1) := by decide +kernel
theorem dX7_invert_48 : decode cX7_invert 48 = .ok (.lastore, 1) := by decide +kernel
theorem dX7_invert_49 : decode cX7_invert 49 = .ok (.iinc 7 1, 3) := by decide +kernel
theorem dX7_invert_52 : decode cX7_invert 52 = .ok (.goto (-31), 3) := by decide +kernel
theorem dX7_invert_55 : decode cX7_invert 55 = .ok (.iinc 6 1, 3) := by decide +kernel
theorem dX7_invert_58 : decode cX7_invert 58 = .ok (.goto (-46), 3) := by decide +kernel
theorem dX7_invert_61 : decode cX7_invert 61 = .ok (.return_, 1) := by decide +kernel
theorem dX7_isOne_0 : decode cX7_isOne 0 = .ok (.iconst 0, 1) := by decide +kernel
theorem dX7_isOne_1 : decode cX7_isOne 1 = .ok (.istore_n 2, 1) := by decide +kernel
theorem dX7_isOne_2 : decode cX7_isOne 2 = .ok (.iload_n 2, 1) := by decide +kernel
theorem dX7_isOne_3 : decode cX7_isOne 3 = .ok (.iload_n 1, 1) := by decide +kernel
theorem dX7_isOne_4 : decode cX7_isOne 4 = .ok (.if_icmp .ge 46, 3) := by decide +kernel
theorem dX7_isOne_7 : decode cX7_isOne 7 = .ok (.iconst 0, 1) := by decide +kernel
theorem dX7_isOne_8 : decode cX7_isOne 8 = .ok (.istore_n 3, 1) := by decide +kernel
theorem dX7_isOne_9 : decode cX7_isOne 9 = .ok (.iload_n 3, 1) := by decide +kernel
theorem dX7_isOne_10 : decode cX7_isOne 10 = .ok (.iload_n 1, 1) := by decide +kernel
theorem dX7_isOne_11 : decode cX7_isOne 11 = .ok (.if_icmp .ge 33, 3) := by decide +kernel
theorem dX7_isOne_14 : decode cX7_isOne 14 = .ok (.aload_n 0, 1) := by decide +kernel
theorem dX7_isOne_15 : decode cX7_isOne 15 = .ok (.iload_n 2, 1) := by decide +kernel
theorem dX7_isOne_16 : decode cX7_isOne 16 = .ok (.iload_n 1, 1) := by decide +kernel
theorem dX7_isOne_17 : decode cX7_isOne 17 = .ok (.imul, 1) := by decide +kernel
theorem dX7_isOne_18 : decode cX7_isOne 18 = .ok (.iload_n 3, 1) := by decide +kernel
theorem dX7_isOne_19 : decode cX7_isOne 19 = .ok (.iadd, 1) := by decide +kernel
theorem dX7_isOne_20 : decode cX7_isOne 20 = .ok (.laload, 1) := by decide +kernel
theorem dX7_isOne_21 : decode cX7_isOne 21 = .ok (.iload_n 2, 1) := by decide +kernel
theorem dX7_isOne_22 : decode cX7_isOne 22 = .ok (.iload_n 3, 1) := by decide +kernel
theorem dX7_isOne_23 : decode cX7_isOne 23 = .ok (.if_icmp .ne 7, 3) := by decide +kernel
theorem dX7_isOne_26 : decode cX7_isOne 26 = .ok (.iconst 1, 1) := by decide +kernel
theorem dX7_isOne_27 : decode cX7_isOne 27 = .ok (.goto 4, 3) := by decide +kernel
theorem dX7_isOne_30 : decode cX7_isOne 30 = .ok (.iconst 0, 1) := by decide +kernel
theorem dX7_isOne_31 : decode cX7_isOne 31 = .ok (.i2l, 1) := by decide +kernel
theorem dX7_isOne_32 : decode cX7_isOne 32 = .ok (.lcmp, 1) := by decide +kernel
theorem dX7_isOne_33 : decode cX7_isOne 33 = .ok (.ifCond .eq 5, 3) := by decide +kernel
theorem dX7_isOne_36 : decode cX7_isOne 36 = .ok (.iconst 0, 1) := by decide +kernel
theorem dX7_isOne_37 : decode cX7_isOne 37 = .ok (.ireturn, 1) := by decide +kernel
theorem dX7_isOne_38 : decode cX7_isOne 38 = .ok (.iinc 3 1, 3) := by decide +kernel
theorem dX7_isOne_41 : decode cX7_isOne 41 = .ok (.goto (-32), 3) := by decide +kernel
theorem dX7_isOne_44 : decode cX7_isOne 44 = .ok (.iinc 2 1, 3) := by decide +kernel
theorem dX7_isOne_47 : decode cX7_isOne 47 = .ok (.goto (-45), 3) := by decide +kernel
theorem dX7_isOne_50 : decode cX7_isOne 50 = .ok (.iconst 1, 1) := by decide +kernel
theorem dX7_isOne_51 : decode cX7_isOne 51 = .ok (.ireturn, 1) := by decide +kernel
theorem dX7_isWithin_0 : decode cX7_isWithin 0 = .ok (.iconst 0, 1) := by decide +kernel
theorem dX7_isWithin_1 : decode cX7_isWithin 1 = .ok (.istore 4, 2) := by decide +kernel
theorem dX7_isWithin_3 : decode cX7_isWithin 3 = .ok (.iload 4, 2) := by decide +kernel
theorem dX7_isWithin_5 : decode cX7_isWithin 5 = .ok (.iload_n 1, 1) := by decide +kernel
theorem dX7_isWithin_6 : decode cX7_isWithin 6 = .ok (.if_icmp .ge 30, 3) := by decide +kernel
theorem dX7_isWithin_9 : decode cX7_isWithin 9 = .ok (.aload_n 0, 1) := by decide +kernel
theorem dX7_isWithin_10 : decode cX7_isWithin 10 = .ok (.iload 4, 2) := by decide +kernel
theorem dX7_isWithin_12 : decode cX7_isWithin 12 = .ok (.laload, 1) := by decide +kernel
theorem dX7_isWithin_13 : decode cX7_isWithin 13 = .ok (.lload_n 2, 1) := by decide +kernel
theorem dX7_isWithin_14 : decode cX7_isWithin 14 = .ok (.lneg, 1) := by decide +kernel
theorem dX7_isWithin_15 : decode cX7_isWithin 15 = .ok (.lcmp, 1) := by decide +kernel
theorem dX7_isWithin_16 : decode cX7_isWithin 16 = .ok (.ifCond .lt 12, 3) := by decide +kernel
theorem dX7_isWithin_19 : decode cX7_isWithin 19 = .ok (.aload_n 0, 1) := by decide +kernel
theorem dX7_isWithin_20 : decode cX7_isWithin 20 = .ok (.iload 4, 2) := by decide +kernel
theorem dX7_isWithin_22 : decode cX7_isWithin 22 = .ok (.laload, 1) := by decide +kernel
theorem dX7_isWithin_23 : decode cX7_isWithin 23 = .ok (.lload_n 2, 1) := by decide +kernel
theorem dX7_isWithin_24 : decode cX7_isWithin 24 = .ok (.lcmp, 1) := by decide +kernel
theorem dX7_isWithin_25 : decode cX7_isWithin 25 = .ok (.ifCond .le 5, 3) := by decide +kernel
theorem dX7_isWithin_28 : decode cX7_isWithin 28 = .ok (.iconst 0, 1) := by decide +kernel
theorem dX7_isWithin_29 : decode cX7_isWithin 29 = .ok (.ireturn, 1) := by decide +kernel
theorem dX7_isWithin_30 : decode cX7_isWithin 30 = .ok (.iinc 4 1, 3) := by decide +kernel
theorem dX7_isWithin_33 : decode cX7_isWithin 33 = .ok (.goto (-30), 3) := by decide +kernel
theorem dX7_isWithin_36 : decode cX7_isWithin 36 = .ok (.iconst 1, 1) := by decide +kernel
theorem dX7_isWithin_37 : decode cX7_isWithin 37 = .ok (.ireturn, 1) := by decide +kernel
theorem dX7_move_0 : decode cX7_move 0 = .ok (.iconst 0, 1) := by decide +kernel
theorem dX7_move_1 : decode cX7_move 1 = .ok (.istore 6, 2) := by decide +kernel
theorem dX7_move_3 : decode cX7_move 3 = .ok (.iload 6, 2) := by decide +kernel
theorem dX7_move_5 : decode cX7_move 5 = .ok (.iload 5, 2) := by decide +kernel
theorem dX7_move_7 : decode cX7_move 7 = .ok (.if_icmp .ge 31, 3) := by decide +kernel
theorem dX7_move_10 : decode cX7_move 10 = .ok (.aload 4, 2) := by decide +kernel
theorem dX7_move_12 : decode cX7_move 12 = .ok (.iload 6, 2) := by decide +kernel
theorem dX7_move_14 : decode cX7_move 14 = .ok (.aload_n 0, 1) := by decide +kernel
theorem dX7_move_15 : decode cX7_move 15 = .ok (.iload_n 1, 1) := by decide +kernel
theorem dX7_move_16 : decode cX7_move 16 = .ok (.iload 6, 2) := by decide +kernel
theorem dX7_move_18 : decode cX7_move 18 = .ok (.iload 5, 2) := by decide +kernel
theorem dX7_move_20 : decode cX7_move 20 = .ok (.imul, 1) := by decide +kernel
theorem dX7_move_21 : decode cX7_move 21 = .ok (.iadd, 1) := by decide +kernel
theorem dX7_move_22 : decode cX7_move 22 = .ok (.iconst 1, 1) := by decide +kernel
theorem dX7_move_23 : decode cX7_move 23 = .ok (.aload_n 2, 1) := by decide +kernel
theorem dX7_move_24 : decode cX7_move 24 = .ok (.iload_n 3, 1) := by decide +kernel
theorem dX7_move_25 : decode cX7_move 25 = .ok (.iconst 1, 1) := by decide +kernel
theorem dX7_move_26 : decode cX7_move 26 = .ok (.iload 5, 2) := by decide +kernel
theorem dX7_move_28 : decode cX7_move 28 = .ok (.invokestatic 13, 3) := by decide +kernel
theorem dX7_move_31 : decode cX7_move 31 = .ok (.lastore, 1) := by decide +kernel
theorem dX7_move_32 : decode cX7_move 32 = .ok (.iinc 6 1, 3) := by decide +kernel
theorem dX7_move_35 : decode cX7_move 35 = .ok (.goto (-32), 3) := by decide +kernel
theorem dX7_move_38 : decode cX7_move 38 = .ok (.return_, 1) := by decide +kernel
theorem dX7_multiply_0 : decode cX7_multiply 0 = .ok (.iconst 0, 1) := by decide +kernel
theorem dX7_multiply_1 : decode cX7_multiply 1 = .ok (.istore 6, 2) := by decide +kernel
theorem dX7_multiply_3 : decode cX7_multiply 3 = .ok (.iload 6, 2) := by decide +kernel
theorem dX7_multiply_5 : decode cX7_multiply 5 = .ok (.iload 5, 2) := by decide +kernel
theorem dX7_multiply_7 : decode cX7_multiply 7 = .ok (.if_icmp .ge 57, 3) := by decide +kernel
theorem dX7_multiply_10 : decode cX7_multiply 10 = .ok (.iconst 0, 1) := by decide +kernel
theorem dX7_multiply_11 : decode cX7_multiply 11 = .ok (.istore 7, 2) := by decide +kernel
theorem dX7_multiply_13 : decode cX7_multiply 13 = .ok (.iload 7, 2) := by decide +kernel
theorem dX7_multiply_15 : decode cX7_multiply 15 = .ok (.iload 5, 2) := by decide +kernel
theorem dX7_multiply_17 : decode cX7_multiply 17 = .ok (.if_icmp .ge 41, 3) := by decide +kernel
theorem dX7_multiply_20 : decode cX7_multiply 20 = .ok (.aload 4, 2) := by decide +kernel
theorem dX7_multiply_22 : decode cX7_multiply 22 = .ok (.iload 6, 2) := by decide +kernel
theorem dX7_multiply_24 : decode cX7_multiply 24 = .ok (.iload 5, 2) := by decide +kernel
theorem dX7_multiply_26 : decode cX7_multiply 26 = .ok (.imul, 1) := by decide +kernel
theorem dX7_multiply_27 : decode cX7_multiply 27 = .ok (.iload 7, 2) := by decide +kernel
theorem dX7_multiply_29 : decode cX7_multiply 29 = .ok (.iadd, 1) := by decide +kernel
theorem dX7_multiply_30 : decode cX7_multiply 30 = .ok (.aload_n 0, 1) := by decide +kernel
theorem dX7_multiply_31 : decode cX7_multiply 31 = .ok (.iload_n 1, 1) := by decide +kernel
theorem dX7_multiply_32 : decode cX7_multiply 32 = .ok (.iload 6, 2) := by decide +kernel
theorem dX7_multiply_34 : decode cX7_multiply 34 = .ok (.iload 5, 2) := by decide +kernel
theorem dX7_multiply_36 : decode cX7_multiply 36 = .ok (.imul, 1) := by decide +kernel
theorem dX7_multiply_37 : decode cX7_multiply 37 = .ok (.iadd, 1) := by decide +kernel
theorem dX7_multiply_38 : decode cX7_multiply 38 = .ok (.iconst 1, 1) := by decide +kernel
theorem dX7_multiply_39 : decode cX7_multiply 39 = .ok (.aload_n 2, 1) := by decide +kernel
theorem dX7_multiply_40 : decode cX7_multiply 40 = .ok (.iload_n 3, 1) := by decide +kernel
theorem dX7_multiply_41 : decode cX7_multiply 41 = .ok (.iload 7, 2) := by decide +kernel
theorem dX7_multiply_43 : decode cX7_multiply 43 = .ok (.iadd, 1) := by decide +kernel
theorem dX7_multiply_44 : decode cX7_multiply 44 = .ok (.iload 5, 2) := by decide +kernel
theorem dX7_multiply_46 : decode cX7_multiply 46 = .ok (.iload 5, 2) := by decide +kernel
theorem dX7_multiply_48 : decode cX7_multiply 48 = .ok (.invokestatic 13, 3) := by decide +kernel
theorem dX7_multiply_51 : decode cX7_multiply 51 = .ok (.lastore, 1) := by decide +kernel
theorem dX7_multiply_52 : decode cX7_multiply 52 = .ok (.iinc 7 1, 3) := by decide +kernel
theorem dX7_multiply_55 : decode cX7_multiply 55 = .ok (.goto (-42), 3) := by decide +kernel
theorem dX7_multiply_58 : decode cX7_multiply 58 = .ok (.iinc 6 1, 3) := by decide +kernel
theorem dX7_multiply_61 : decode cX7_multiply 61 = .ok (.goto (-58), 3) := by decide +kernel
theorem dX7_multiply_64 : decode cX7_multiply 64 = .ok (.return_, 1) := by decide +kernel
theorem dX7_multiplyTurned_0 : decode cX7_multiplyTurned 0 = .ok (.iconst 0, 1) := by decide +kernel
theorem dX7_multiplyTurned_1 : decode cX7_multiplyTurned 1 = .ok (.istore 6, 2) := by decide +kernel
theorem dX7_multiplyTurned_3 : decode cX7_multiplyTurned 3 = .ok (.iload 6, 2) := by decide +kernel
theorem dX7_multiplyTurned_5 : decode cX7_multiplyTurned 5 = .ok (.iload 5, 2) := by decide +kernel
theorem dX7_multiplyTurned_7 : decode cX7_multiplyTurned 7 = .ok (.if_icmp .ge 55, 3) := by decide +kernel
theorem dX7_multiplyTurned_10 : decode cX7_multiplyTurned 10 = .ok (.iconst 0, 1) := by decide +kernel
theorem dX7_multiplyTurned_11 : decode cX7_multiplyTurned 11 = .ok (.istore 7, 2) := by decide +kernel
theorem dX7_multiplyTurned_13 : decode cX7_multiplyTurned 13 = .ok (.iload 7, 2) := by decide +kernel
theorem dX7_multiplyTurned_15 : decode cX7_multiplyTurned 15 = .ok (.iload 5, 2) := by decide +kernel
theorem dX7_multiplyTurned_17 : decode cX7_multiplyTurned 17 = .ok (.if_icmp .ge 39, 3) := by decide +kernel
theorem dX7_multiplyTurned_20 : decode cX7_multiplyTurned 20 = .ok (.aload 4, 2) := by decide +kernel
theorem dX7_multiplyTurned_22 : decode cX7_multiplyTurned 22 = .ok (.iload 6, 2) := by decide +kernel
theorem dX7_multiplyTurned_24 : decode cX7_multiplyTurned 24 = .ok (.iload 5, 2) := by decide +kernel
theorem dX7_multiplyTurned_26 : decode cX7_multiplyTurned 26 = .ok (.imul, 1) := by decide +kernel
theorem dX7_multiplyTurned_27 : decode cX7_multiplyTurned 27 = .ok (.iload 7, 2) := by decide +kernel
theorem dX7_multiplyTurned_29 : decode cX7_multiplyTurned 29 = .ok (.iadd, 1) := by decide +kernel
theorem dX7_multiplyTurned_30 : decode cX7_multiplyTurned 30 = .ok (.aload_n 0, 1) := by decide +kernel
theorem dX7_multiplyTurned_31 : decode cX7_multiplyTurned 31 = .ok (.iload_n 1, 1) := by decide +kernel
theorem dX7_multiplyTurned_32 : decode cX7_multiplyTurned 32 = .ok (.iload 6, 2) := by decide +kernel
theorem dX7_multiplyTurned_34 : decode cX7_multiplyTurned 34 = .ok (.iadd, 1) := by decide +kernel
theorem dX7_multiplyTurned_35 : decode cX7_multiplyTurned 35 = .ok (.iload 5, 2) := by decide +kernel
theorem dX7_multiplyTurned_37 : decode cX7_multiplyTurned 37 = .ok (.aload_n 2, 1) := by decide +kernel
theorem dX7_multiplyTurned_38 : decode cX7_multiplyTurned 38 = .ok (.iload_n 3, 1) := by decide +kernel
theorem dX7_multiplyTurned_39 : decode cX7_multiplyTurned 39 = .ok (.iload 7, 2) := by decide +kernel
theorem dX7_multiplyTurned_41 : decode cX7_multiplyTurned 41 = .ok (.iadd, 1) := by decide +kernel
theorem dX7_multiplyTurned_42 : decode cX7_multiplyTurned 42 = .ok (.iload 5, 2) := by decide +kernel
theorem dX7_multiplyTurned_44 : decode cX7_multiplyTurned 44 = .ok (.iload 5, 2) := by decide +kernel
theorem dX7_multiplyTurned_46 : decode cX7_multiplyTurned 46 = .ok (.invokestatic 13, 3) := by decide +kernel
theorem dX7_multiplyTurned_49 : decode cX7_multiplyTurned 49 = .ok (.lastore, 1) := by decide +kernel
theorem dX7_multiplyTurned_50 : decode cX7_multiplyTurned 50 = .ok (.iinc 7 1, 3) := by decide +kernel
theorem dX7_multiplyTurned_53 : decode cX7_multiplyTurned 53 = .ok (.goto (-40), 3) := by decide +kernel
theorem dX7_multiplyTurned_56 : decode cX7_multiplyTurned 56 = .ok (.iinc 6 1, 3) := by decide +kernel
theorem dX7_multiplyTurned_59 : decode cX7_multiplyTurned 59 = .ok (.goto (-56), 3) := by decide +kernel
theorem dX7_multiplyTurned_62 : decode cX7_multiplyTurned 62 = .ok (.return_, 1) := by decide +kernel
theorem dX7_negate_0 : decode cX7_negate 0 = .ok (.iconst 0, 1) := by decide +kernel
theorem dX7_negate_1 : decode cX7_negate 1 = .ok (.istore 4, 2) := by decide +kernel
theorem dX7_negate_3 : decode cX7_negate 3 = .ok (.iload 4, 2) := by decide +kernel
theorem dX7_negate_5 : decode cX7_negate 5 = .ok (.iload_n 3, 1) := by decide +kernel
theorem dX7_negate_6 : decode cX7_negate 6 = .ok (.iload_n 3, 1) := by decide +kernel
theorem dX7_negate_7 : decode cX7_negate 7 = .ok (.imul, 1) := by decide +kernel
theorem dX7_negate_8 : decode cX7_negate 8 = .ok (.if_icmp .ge 20, 3) := by decide +kernel
theorem dX7_negate_11 : decode cX7_negate 11 = .ok (.aload_n 2, 1) := by decide +kernel
theorem dX7_negate_12 : decode cX7_negate 12 = .ok (.iload 4, 2) := by decide +kernel
theorem dX7_negate_14 : decode cX7_negate 14 = .ok (.aload_n 0, 1) := by decide +kernel
theorem dX7_negate_15 : decode cX7_negate 15 = .ok (.iload_n 1, 1) := by decide +kernel
theorem dX7_negate_16 : decode cX7_negate 16 = .ok (.iload 4, 2) := by decide +kernel
theorem dX7_negate_18 : decode cX7_negate 18 = .ok (.iadd, 1) := by decide +kernel
theorem dX7_negate_19 : decode cX7_negate 19 = .ok (.laload, 1) := by decide +kernel
theorem dX7_negate_20 : decode cX7_negate 20 = .ok (.lneg, 1) := by decide +kernel
theorem dX7_negate_21 : decode cX7_negate 21 = .ok (.lastore, 1) := by decide +kernel
theorem dX7_negate_22 : decode cX7_negate 22 = .ok (.iinc 4 1, 3) := by decide +kernel
theorem dX7_negate_25 : decode cX7_negate 25 = .ok (.goto (-22), 3) := by decide +kernel
theorem dX7_negate_28 : decode cX7_negate 28 = .ok (.return_, 1) := by decide +kernel
theorem dX7_reduce_0 : decode cX7_reduce 0 = .ok (.iload_n 2, 1) := by decide +kernel
theorem dX7_reduce_1 : decode cX7_reduce 1 = .ok (.ifCond .gt 4, 3) := by decide +kernel
theorem dX7_reduce_4 : decode cX7_reduce 4 = .ok (.return_, 1) := by decide +kernel
theorem dX7_reduce_5 : decode cX7_reduce 5 = .ok (.iconst 0, 1) := by decide +kernel
theorem dX7_reduce_6 : decode cX7_reduce 6 = .ok (.istore_n 3, 1) := by decide +kernel
theorem dX7_reduce_7 : decode cX7_reduce 7 = .ok (.iload_n 3, 1) := by decide +kernel
theorem dX7_reduce_8 : decode cX7_reduce 8 = .ok (.iload_n 1, 1) := by decide +kernel
theorem dX7_reduce_9 : decode cX7_reduce 9 = .ok (.if_icmp .ge 20, 3) := by decide +kernel
theorem dX7_reduce_12 : decode cX7_reduce 12 = .ok (.aload_n 0, 1) := by decide +kernel
theorem dX7_reduce_13 : decode cX7_reduce 13 = .ok (.iload_n 3, 1) := by decide +kernel
theorem dX7_reduce_14 : decode cX7_reduce 14 = .ok (.aload_n 0, 1) := by decide +kernel
theorem dX7_reduce_15 : decode cX7_reduce 15 = .ok (.iload_n 3, 1) := by decide +kernel
theorem dX7_reduce_16 : decode cX7_reduce 16 = .ok (.laload, 1) := by decide +kernel
theorem dX7_reduce_17 : decode cX7_reduce 17 = .ok (.iload_n 2, 1) := by decide +kernel
theorem dX7_reduce_18 : decode cX7_reduce 18 = .ok (.i2l, 1) := by decide +kernel
theorem dX7_reduce_19 : decode cX7_reduce 19 = .ok (.invokestatic 29, 3) := by decide +kernel
theorem dX7_reduce_22 : decode cX7_reduce 22 = .ok (.lastore, 1) := by decide +kernel
theorem dX7_reduce_23 : decode cX7_reduce 23 = .ok (.iinc 3 1, 3) := by decide +kernel
theorem dX7_reduce_26 : decode cX7_reduce 26 = .ok (.goto (-19), 3) := by decide +kernel
theorem dX7_reduce_29 : decode cX7_reduce 29 = .ok (.return_, 1) := by decide +kernel
theorem dX7_trace_0 : decode cX7_trace 0 = .ok (.lconst 0, 1) := by decide +kernel
theorem dX7_trace_1 : decode cX7_trace 1 = .ok (.lstore_n 3, 1) := by decide +kernel
theorem dX7_trace_2 : decode cX7_trace 2 = .ok (.iconst 0, 1) := by decide +kernel
theorem dX7_trace_3 : decode cX7_trace 3 = .ok (.istore 5, 2) := by decide +kernel
theorem dX7_trace_5 : decode cX7_trace 5 = .ok (.iload 5, 2) := by decide +kernel
theorem dX7_trace_7 : decode cX7_trace 7 = .ok (.iload_n 2, 1) := by decide +kernel
theorem dX7_trace_8 : decode cX7_trace 8 = .ok (.if_icmp .ge 23, 3) := by decide +kernel
theorem dX7_trace_11 : decode cX7_trace 11 = .ok (.lload_n 3, 1) := by decide +kernel
theorem dX7_trace_12 : decode cX7_trace 12 = .ok (.aload_n 0, 1) := by decide +kernel
theorem dX7_trace_13 : decode cX7_trace 13 = .ok (.iload_n 1, 1) := by decide +kernel
theorem dX7_trace_14 : decode cX7_trace 14 = .ok (.iload 5, 2) := by decide +kernel
theorem dX7_trace_16 : decode cX7_trace 16 = .ok (.iload_n 2, 1) := by decide +kernel
theorem dX7_trace_17 : decode cX7_trace 17 = .ok (.imul, 1) := by decide +kernel
theorem dX7_trace_18 : decode cX7_trace 18 = .ok (.iadd, 1) := by decide +kernel
theorem dX7_trace_19 : decode cX7_trace 19 = .ok (.iload 5, 2) := by decide +kernel
theorem dX7_trace_21 : decode cX7_trace 21 = .ok (.iadd, 1) := by decide +kernel
theorem dX7_trace_22 : decode cX7_trace 22 = .ok (.laload, 1) := by decide +kernel
theorem dX7_trace_23 : decode cX7_trace 23 = .ok (.ladd, 1) := by decide +kernel
theorem dX7_trace_24 : decode cX7_trace 24 = .ok (.lstore_n 3, 1) := by decide +kernel
theorem dX7_trace_25 : decode cX7_trace 25 = .ok (.iinc 5 1, 3) := by decide +kernel
theorem dX7_trace_28 : decode cX7_trace 28 = .ok (.goto (-23), 3) := by decide +kernel
theorem dX7_trace_31 : decode cX7_trace 31 = .ok (.lload_n 3, 1) := by decide +kernel
theorem dX7_trace_32 : decode cX7_trace 32 = .ok (.lreturn, 1) := by decide +kernel
theorem dX7_turn_0 : decode cX7_turn 0 = .ok (.iconst 0, 1) := by decide +kernel
theorem dX7_turn_1 : decode cX7_turn 1 = .ok (.istore 4, 2) := by decide +kernel
theorem dX7_turn_3 : decode cX7_turn 3 = .ok (.iload 4, 2) := by decide +kernel
theorem dX7_turn_5 : decode cX7_turn 5 = .ok (.iload_n 3, 1) := by decide +kernel
theorem dX7_turn_6 : decode cX7_turn 6 = .ok (.if_icmp .ge 44, 3) := by decide +kernel
theorem dX7_turn_9 : decode cX7_turn 9 = .ok (.iconst 0, 1) := by decide +kernel
theorem dX7_turn_10 : decode cX7_turn 10 = .ok (.istore 5, 2) := by decide +kernel
theorem dX7_turn_12 : decode cX7_turn 12 = .ok (.iload 5, 2) := by decide +kernel
theorem dX7_turn_14 : decode cX7_turn 14 = .ok (.iload_n 3, 1) := by decide +kernel
theorem dX7_turn_15 : decode cX7_turn 15 = .ok (.if_icmp .ge 29, 3) := by decide +kernel
theorem dX7_turn_18 : decode cX7_turn 18 = .ok (.aload_n 2, 1) := by decide +kernel
theorem dX7_turn_19 : decode cX7_turn 19 = .ok (.iload 4, 2) := by decide +kernel
theorem dX7_turn_21 : decode cX7_turn 21 = .ok (.iload_n 3, 1) := by decide +kernel
theorem dX7_turn_22 : decode cX7_turn 22 = .ok (.imul, 1) := by decide +kernel
theorem dX7_turn_23 : decode cX7_turn 23 = .ok (.iload 5, 2) := by decide +kernel
theorem dX7_turn_25 : decode cX7_turn 25 = .ok (.iadd, 1) := by decide +kernel
theorem dX7_turn_26 : decode cX7_turn 26 = .ok (.aload_n 0, 1) := by decide +kernel
theorem dX7_turn_27 : decode cX7_turn 27 = .ok (.iload_n 1, 1) := by decide +kernel
theorem dX7_turn_28 : decode cX7_turn 28 = .ok (.iload 5, 2) := by decide +kernel
theorem dX7_turn_30 : decode cX7_turn 30 = .ok (.iload_n 3, 1) := by decide +kernel
theorem dX7_turn_31 : decode cX7_turn 31 = .ok (.imul, 1) := by decide +kernel
theorem dX7_turn_32 : decode cX7_turn 32 = .ok (.iadd, 1) := by decide +kernel
theorem dX7_turn_33 : decode cX7_turn 33 = .ok (.iload 4, 2) := by decide +kernel
theorem dX7_turn_35 : decode cX7_turn 35 = .ok (.iadd, 1) := by decide +kernel
theorem dX7_turn_36 : decode cX7_turn 36 = .ok (.laload, 1) := by decide +kernel
theorem dX7_turn_37 : decode cX7_turn 37 = .ok (.lastore, 1) := by decide +kernel
theorem dX7_turn_38 : decode cX7_turn 38 = .ok (.iinc 5 1, 3) := by decide +kernel
theorem dX7_turn_41 : decode cX7_turn 41 = .ok (.goto (-29), 3) := by decide +kernel
theorem dX7_turn_44 : decode cX7_turn 44 = .ok (.iinc 4 1, 3) := by decide +kernel
theorem dX7_turn_47 : decode cX7_turn 47 = .ok (.goto (-44), 3) := by decide +kernel
theorem dX7_turn_50 : decode cX7_turn 50 = .ok (.return_, 1) := by decide +kernel
theorem dX9_isDigit_0 : decode cX9_isDigit 0 = .ok (.aload_n 0, 1) := by decide +kernel
theorem dX9_isDigit_1 : decode cX9_isDigit 1 = .ok (.getfield 19, 3) := by decide +kernel
theorem dX9_isDigit_4 : decode cX9_isDigit 4 = .ok (.aload_n 0, 1) := by decide +kernel
theorem dX9_isDigit_5 : decode cX9_isDigit 5 = .ok (.getfield 15, 3) := by decide +kernel
theorem dX9_isDigit_8 : decode cX9_isDigit 8 = .ok (.if_icmp .ge 35, 3) := by decide +kernel
theorem dX9_isDigit_11 : decode cX9_isDigit 11 = .ok (.aload_n 0, 1) := by decide +kernel
theorem dX9_isDigit_12 : decode cX9_isDigit 12 = .ok (.getfield 9, 3) := by decide +kernel
theorem dX9_isDigit_15 : decode cX9_isDigit 15 = .ok (.aload_n 0, 1) := by decide +kernel
theorem dX9_isDigit_16 : decode cX9_isDigit 16 = .ok (.getfield 19, 3) := by decide +kernel
theorem dX9_isDigit_19 : decode cX9_isDigit 19 = .ok (.baload, 1) := by decide +kernel
theorem dX9_isDigit_20 : decode cX9_isDigit 20 = .ok (.bipush 48, 2) := by decide +kernel
theorem dX9_isDigit_22 : decode cX9_isDigit 22 = .ok (.if_icmp .lt 21, 3) := by decide +kernel
theorem dX9_isDigit_25 : decode cX9_isDigit 25 = .ok (.aload_n 0, 1) := by decide +kernel
theorem dX9_isDigit_26 : decode cX9_isDigit 26 = .ok (.getfield 9, 3) := by decide +kernel
theorem dX9_isDigit_29 : decode cX9_isDigit 29 = .ok (.aload_n 0, 1) := by decide +kernel
theorem dX9_isDigit_30 : decode cX9_isDigit 30 = .ok (.getfield 19, 3) := by decide +kernel
theorem dX9_isDigit_33 : decode cX9_isDigit 33 = .ok (.baload, 1) := by decide +kernel
theorem dX9_isDigit_34 : decode cX9_isDigit 34 = .ok (.bipush 57, 2) := by decide +kernel
theorem dX9_isDigit_36 : decode cX9_isDigit 36 = .ok (.if_icmp .gt 7, 3) := by decide +kernel
theorem dX9_isDigit_39 : decode cX9_isDigit 39 = .ok (.iconst 1, 1) := by decide +kernel
theorem dX9_isDigit_40 : decode cX9_isDigit 40 = .ok (.goto 4, 3) := by decide +kernel
theorem dX9_isDigit_43 : decode cX9_isDigit 43 = .ok (.iconst 0, 1) := by decide +kernel
theorem dX9_isDigit_44 : decode cX9_isDigit 44 = .ok (.ireturn, 1) := by decide +kernel
theorem dX9_pass_0 : decode cX9_pass 0 = .ok (.aload_n 0, 1) := by decide +kernel
theorem dX9_pass_1 : decode cX9_pass 1 = .ok (.invokevirtual 29, 3) := by decide +kernel
theorem dX9_pass_4 : decode cX9_pass 4 = .ok (.aload_n 0, 1) := by decide +kernel
theorem dX9_pass_5 : decode cX9_pass 5 = .ok (.getfield 19, 3) := by decide +kernel
theorem dX9_pass_8 : decode cX9_pass 8 = .ok (.aload_n 0, 1) := by decide +kernel
theorem dX9_pass_9 : decode cX9_pass 9 = .ok (.getfield 15, 3) := by decide +kernel
theorem dX9_pass_12 : decode cX9_pass 12 = .ok (.if_icmp .ge 16, 3) := by decide +kernel
theorem dX9_pass_15 : decode cX9_pass 15 = .ok (.aload_n 0, 1) := by decide +kernel
theorem dX9_pass_16 : decode cX9_pass 16 = .ok (.getfield 9, 3) := by decide +kernel
theorem dX9_pass_19 : decode cX9_pass 19 = .ok (.aload_n 0, 1) := by decide +kernel
theorem dX9_pass_20 : decode cX9_pass 20 = .ok (.getfield 19, 3) := by decide +kernel
theorem dX9_pass_23 : decode cX9_pass 23 = .ok (.baload, 1) := by decide +kernel
theorem dX9_pass_24 : decode cX9_pass 24 = .ok (.iload_n 1, 1) := by decide +kernel
theorem dX9_pass_25 : decode cX9_pass 25 = .ok (.if_icmp .eq 5, 3) := by decide +kernel
theorem dX9_pass_28 : decode cX9_pass 28 = .ok (.iconst 0, 1) := by decide +kernel
theorem dX9_pass_29 : decode cX9_pass 29 = .ok (.ireturn, 1) := by decide +kernel
theorem dX9_pass_30 : decode cX9_pass 30 = .ok (.aload_n 0, 1) := by decide +kernel
theorem dX9_pass_31 : decode cX9_pass 31 = .ok (.dup, 1) := by decide +kernel
theorem dX9_pass_32 : decode cX9_pass 32 = .ok (.getfield 19, 3) := by decide +kernel
theorem dX9_pass_35 : decode cX9_pass 35 = .ok (.iconst 1, 1) := by decide +kernel
theorem dX9_pass_36 : decode cX9_pass 36 = .ok (.iadd, 1) := by decide +kernel
theorem dX9_pass_37 : decode cX9_pass 37 = .ok (.putfield 19, 3) := by decide +kernel
theorem dX9_pass_40 : decode cX9_pass 40 = .ok (.iconst 1, 1) := by decide +kernel
theorem dX9_pass_41 : decode cX9_pass 41 = .ok (.ireturn, 1) := by decide +kernel
theorem dX9_read_0 : decode cX9_read 0 = .ok (.aload_n 0, 1) := by decide +kernel
theorem dX9_read_1 : decode cX9_read 1 = .ok (.iconst 0, 1) := by decide +kernel
theorem dX9_read_2 : decode cX9_read 2 = .ok (.putfield 19, 3) := by decide +kernel
theorem dX9_read_5 : decode cX9_read 5 = .ok (.aload_n 0, 1) := by decide +kernel
theorem dX9_read_6 : decode cX9_read 6 = .ok (.iconst 0, 1) := by decide +kernel
theorem dX9_read_7 : decode cX9_read 7 = .ok (.putfield 22, 3) := by decide +kernel
theorem dX9_read_10 : decode cX9_read 10 = .ok (.aload_n 0, 1) := by decide +kernel
theorem dX9_read_11 : decode cX9_read 11 = .ok (.invokevirtual 29, 3) := by decide +kernel
theorem dX9_read_14 : decode cX9_read 14 = .ok (.aload_n 0, 1) := by decide +kernel
theorem dX9_read_15 : decode cX9_read 15 = .ok (.getfield 19, 3) := by decide +kernel
theorem dX9_read_18 : decode cX9_read 18 = .ok (.aload_n 0, 1) := by decide +kernel
theorem dX9_read_19 : decode cX9_read 19 = .ok (.getfield 15, 3) := by decide +kernel
theorem dX9_read_22 : decode cX9_read 22 = .ok (.if_icmp .ge 38, 3) := by decide +kernel
theorem dX9_read_25 : decode cX9_read 25 = .ok (.aload_n 0, 1) := by decide +kernel
theorem dX9_read_26 : decode cX9_read 26 = .ok (.getfield 22, 3) := by decide +kernel
theorem dX9_read_29 : decode cX9_read 29 = .ok (.iconst 4, 1) := by decide +kernel
theorem dX9_read_30 : decode cX9_read 30 = .ok (.if_icmp .eq 11, 3) := by decide +kernel
theorem dX9_read_33 : decode cX9_read 33 = .ok (.aload_n 0, 1) := by decide +kernel
theorem dX9_read_34 : decode cX9_read 34 = .ok (.iload_n 1, 1) := by decide +kernel
theorem dX9_read_35 : decode cX9_read 35 = .ok (.invokevirtual 32, 3) := by decide +kernel
theorem dX9_read_38 : decode cX9_read 38 = .ok (.ifCond .ne 5, 3) := by decide +kernel
theorem dX9_read_41 : decode cX9_read 41 = .ok (.iconst 0, 1) := by decide +kernel
theorem dX9_read_42 : decode cX9_read 42 = .ok (.ireturn, 1) := by decide +kernel
theorem dX9_read_43 : decode cX9_read 43 = .ok (.aload_n 0, 1) := by decide +kernel
theorem dX9_read_44 : decode cX9_read 44 = .ok (.dup, 1) := by decide +kernel
theorem dX9_read_45 : decode cX9_read 45 = .ok (.getfield 22, 3) := by decide +kernel
theorem dX9_read_48 : decode cX9_read 48 = .ok (.iconst 1, 1) := by decide +kernel
theorem dX9_read_49 : decode cX9_read 49 = .ok (.iadd, 1) := by decide +kernel
theorem dX9_read_50 : decode cX9_read 50 = .ok (.putfield 22, 3) := by decide +kernel
theorem dX9_read_53 : decode cX9_read 53 = .ok (.aload_n 0, 1) := by decide +kernel
theorem dX9_read_54 : decode cX9_read 54 = .ok (.invokevirtual 29, 3) := by decide +kernel
theorem dX9_read_57 : decode cX9_read 57 = .ok (.goto (-43), 3) := by decide +kernel
theorem dX9_read_60 : decode cX9_read 60 = .ok (.iconst 1, 1) := by decide +kernel
theorem dX9_read_61 : decode cX9_read 61 = .ok (.ireturn, 1) := by decide +kernel
theorem dX9_readMatrix_0 : decode cX9_readMatrix 0 = .ok (.iconst 0, 1) := by decide +kernel
theorem dX9_readMatrix_1 : decode cX9_readMatrix 1 = .ok (.istore_n 2, 1) := by decide +kernel
theorem dX9_readMatrix_2 : decode cX9_readMatrix 2 = .ok (.iload_n 2, 1) := by decide +kernel
theorem dX9_readMatrix_3 : decode cX9_readMatrix 3 = .ok (.iload_n 1, 1) := by decide +kernel
theorem dX9_readMatrix_4 : decode cX9_readMatrix 4 = .ok (.if_icmp .ge 59, 3) := by decide +kernel
theorem dX9_readMatrix_7 : decode cX9_readMatrix 7 = .ok (.iload_n 2, 1) := by decide +kernel
theorem dX9_readMatrix_8 : decode cX9_readMatrix 8 = .ok (.ifCond .le 14, 3) := by decide +kernel
theorem dX9_readMatrix_11 : decode cX9_readMatrix 11 = .ok (.aload_n 0, 1) := by decide +kernel
theorem dX9_readMatrix_12 : decode cX9_readMatrix 12 = .ok (.bipush 47, 2) := by decide +kernel
theorem dX9_readMatrix_14 : decode cX9_readMatrix 14 = .ok (.invokevirtual 36, 3) := by decide +kernel
theorem dX9_readMatrix_17 : decode cX9_readMatrix 17 = .ok (.ifCond .ne 5, 3) := by decide +kernel
theorem dX9_readMatrix_20 : decode cX9_readMatrix 20 = .ok (.iconst 0, 1) := by decide +kernel
theorem dX9_readMatrix_21 : decode cX9_readMatrix 21 = .ok (.ireturn, 1) := by decide +kernel
theorem dX9_readMatrix_22 : decode cX9_readMatrix 22 = .ok (.iconst 0, 1) := by decide +kernel
theorem dX9_readMatrix_23 : decode cX9_readMatrix 23 = .ok (.istore_n 3, 1) := by decide +kernel
theorem dX9_readMatrix_24 : decode cX9_readMatrix 24 = .ok (.iload_n 3, 1) := by decide +kernel
theorem dX9_readMatrix_25 : decode cX9_readMatrix 25 = .ok (.iload_n 1, 1) := by decide +kernel
theorem dX9_readMatrix_26 : decode cX9_readMatrix 26 = .ok (.if_icmp .ge 31, 3) := by decide +kernel
theorem dX9_readMatrix_29 : decode cX9_readMatrix 29 = .ok (.aload_n 0, 1) := by decide +kernel
theorem dX9_readMatrix_30 : decode cX9_readMatrix 30 = .ok (.aload_n 0, 1) := by decide +kernel
theorem dX9_readMatrix_31 : decode cX9_readMatrix 31 = .ok (.getfield 22, 3) := by decide +kernel
theorem dX9_readMatrix_34 : decode cX9_readMatrix 34 = .ok (.bipush 9, 2) := by decide +kernel
theorem dX9_readMatrix_36 : decode cX9_readMatrix 36 = .ok (.imul, 1) := by decide +kernel
theorem dX9_readMatrix_37 : decode cX9_readMatrix 37 = .ok (.iload_n 2, 1) := by decide +kernel
theorem dX9_readMatrix_38 : decode cX9_readMatrix 38 = .ok (.iload_n 1, 1) := by decide +kernel
theorem dX9_readMatrix_39 : decode cX9_readMatrix 39 = .ok (.imul, 1) := by decide +kernel
theorem dX9_readMatrix_40 : decode cX9_readMatrix 40 = .ok (.iadd, 1) := by decide +kernel
theorem dX9_readMatrix_41 : decode cX9_readMatrix 41 = .ok (.iload_n 3, 1) := by decide +kernel
theorem dX9_readMatrix_42 : decode cX9_readMatrix 42 = .ok (.iadd, 1) := by decide +kernel
theorem dX9_readMatrix_43 : decode cX9_readMatrix 43 = .ok (.invokevirtual 40, 3) := by decide +kernel
theorem dX9_readMatrix_46 : decode cX9_readMatrix 46 = .ok (.ifCond .ne 5, 3) := by decide +kernel
theorem dX9_readMatrix_49 : decode cX9_readMatrix 49 = .ok (.iconst 0, 1) := by decide +kernel
theorem dX9_readMatrix_50 : decode cX9_readMatrix 50 = .ok (.ireturn, 1) := by decide +kernel
theorem dX9_readMatrix_51 : decode cX9_readMatrix 51 = .ok (.iinc 3 1, 3) := by decide +kernel
theorem dX9_readMatrix_54 : decode cX9_readMatrix 54 = .ok (.goto (-30), 3) := by decide +kernel
theorem dX9_readMatrix_57 : decode cX9_readMatrix 57 = .ok (.iinc 2 1, 3) := by decide +kernel
theorem dX9_readMatrix_60 : decode cX9_readMatrix 60 = .ok (.goto (-58), 3) := by decide +kernel
theorem dX9_readMatrix_63 : decode cX9_readMatrix 63 = .ok (.aload_n 0, 1) := by decide +kernel
theorem dX9_readMatrix_64 : decode cX9_readMatrix 64 = .ok (.invokevirtual 29, 3) := by decide +kernel
theorem dX9_readMatrix_67 : decode cX9_readMatrix 67 = .ok (.aload_n 0, 1) := by decide +kernel
theorem dX9_readMatrix_68 : decode cX9_readMatrix 68 = .ok (.getfield 25, 3) := by decide +kernel
theorem dX9_readMatrix_71 : decode cX9_readMatrix 71 = .ok (.aload_n 0, 1) := by decide +kernel
theorem dX9_readMatrix_72 : decode cX9_readMatrix 72 = .ok (.getfield 22, 3) := by decide +kernel
theorem dX9_readMatrix_75 : decode cX9_readMatrix 75 = .ok (.bipush 9, 2) := by decide +kernel
theorem dX9_readMatrix_77 : decode cX9_readMatrix 77 = .ok (.imul, 1) := by decide +kernel
theorem dX9_readMatrix_78 : decode cX9_readMatrix 78 = .ok (.iload_n 1, 1) := by decide +kernel
theorem dX9_readMatrix_79 : decode cX9_readMatrix 79 = .ok (.invokestatic 43, 3) := by decide +kernel
theorem dX9_readMatrix_82 : decode cX9_readMatrix 82 = .ok (.ifCond .eq 16, 3) := by decide +kernel
theorem dX9_readMatrix_85 : decode cX9_readMatrix 85 = .ok (.aload_n 0, 1) := by decide +kernel
theorem dX9_readMatrix_86 : decode cX9_readMatrix 86 = .ok (.bipush 59, 2) := by decide +kernel
theorem dX9_readMatrix_88 : decode cX9_readMatrix 88 = .ok (.invokevirtual 36, 3) := by decide +kernel
theorem dX9_readMatrix_91 : decode cX9_readMatrix 91 = .ok (.ifCond .eq 7, 3) := by decide +kernel
theorem dX9_readMatrix_94 : decode cX9_readMatrix 94 = .ok (.iconst 1, 1) := by decide +kernel
theorem dX9_readMatrix_95 : decode cX9_readMatrix 95 = .ok (.goto 4, 3) := by decide +kernel
theorem dX9_readMatrix_98 : decode cX9_readMatrix 98 = .ok (.iconst 0, 1) := by decide +kernel
theorem dX9_readMatrix_99 : decode cX9_readMatrix 99 = .ok (.ireturn, 1) := by decide +kernel
theorem dX9_readNumber_0 : decode cX9_readNumber 0 = .ok (.aload_n 0, 1) := by decide +kernel
theorem dX9_readNumber_1 : decode cX9_readNumber 1 = .ok (.bipush 45, 2) := by decide +kernel
theorem dX9_readNumber_3 : decode cX9_readNumber 3 = .ok (.invokevirtual 36, 3) := by decide +kernel
theorem dX9_readNumber_6 : decode cX9_readNumber 6 = .ok (.istore_n 2, 1) := by decide +kernel
theorem dX9_readNumber_7 : decode cX9_readNumber 7 = .ok (.aload_n 0, 1) := by decide +kernel
theorem dX9_readNumber_8 : decode cX9_readNumber 8 = .ok (.invokevirtual 49, 3) := by decide +kernel
theorem dX9_readNumber_11 : decode cX9_readNumber 11 = .ok (.ifCond .ne 5, 3) := by decide +kernel
theorem dX9_readNumber_14 : decode cX9_readNumber 14 = .ok (.iconst 0, 1) := by decide +kernel
theorem dX9_readNumber_15 : decode cX9_readNumber 15 = .ok (.ireturn, 1) := by decide +kernel
theorem dX9_readNumber_16 : decode cX9_readNumber 16 = .ok (.aload_n 0, 1) := by decide +kernel
theorem dX9_readNumber_17 : decode cX9_readNumber 17 = .ok (.getfield 9, 3) := by decide +kernel
theorem dX9_readNumber_20 : decode cX9_readNumber 20 = .ok (.aload_n 0, 1) := by decide +kernel
theorem dX9_readNumber_21 : decode cX9_readNumber 21 = .ok (.getfield 19, 3) := by decide +kernel
theorem dX9_readNumber_24 : decode cX9_readNumber 24 = .ok (.baload, 1) := by decide +kernel
theorem dX9_readNumber_25 : decode cX9_readNumber 25 = .ok (.bipush 48, 2) := by decide +kernel
theorem dX9_readNumber_27 : decode cX9_readNumber 27 = .ok (.isub, 1) := by decide +kernel
theorem dX9_readNumber_28 : decode cX9_readNumber 28 = .ok (.istore_n 3, 1) := by decide +kernel
theorem dX9_readNumber_29 : decode cX9_readNumber 29 = .ok (.aload_n 0, 1) := by decide +kernel
theorem dX9_readNumber_30 : decode cX9_readNumber 30 = .ok (.dup, 1) := by decide +kernel
theorem dX9_readNumber_31 : decode cX9_readNumber 31 = .ok (.getfield 19, 3) := by decide +kernel
theorem dX9_readNumber_34 : decode cX9_readNumber 34 = .ok (.iconst 1, 1) := by decide +kernel
theorem dX9_readNumber_35 : decode cX9_readNumber 35 = .ok (.iadd, 1) := by decide +kernel
theorem dX9_readNumber_36 : decode cX9_readNumber 36 = .ok (.putfield 19, 3) := by decide +kernel
theorem dX9_readNumber_39 : decode cX9_readNumber 39 = .ok (.aload_n 0, 1) := by decide +kernel
theorem dX9_readNumber_40 : decode cX9_readNumber 40 = .ok (.invokevirtual 49, 3) := by decide +kernel
theorem dX9_readNumber_43 : decode cX9_readNumber 43 = .ok (.ifCond .eq 31, 3) := by decide +kernel
theorem dX9_readNumber_46 : decode cX9_readNumber 46 = .ok (.iload_n 3, 1) := by decide +kernel
theorem dX9_readNumber_47 : decode cX9_readNumber 47 = .ok (.bipush 10, 2) := by decide +kernel
theorem dX9_readNumber_49 : decode cX9_readNumber 49 = .ok (.imul, 1) := by decide +kernel
theorem dX9_readNumber_50 : decode cX9_readNumber 50 = .ok (.aload_n 0, 1) := by decide +kernel
theorem dX9_readNumber_51 : decode cX9_readNumber 51 = .ok (.getfield 9, 3) := by decide +kernel
theorem dX9_readNumber_54 : decode cX9_readNumber 54 = .ok (.aload_n 0, 1) := by decide +kernel
theorem dX9_readNumber_55 : decode cX9_readNumber 55 = .ok (.getfield 19, 3) := by decide +kernel
theorem dX9_readNumber_58 : decode cX9_readNumber 58 = .ok (.baload, 1) := by decide +kernel
theorem dX9_readNumber_59 : decode cX9_readNumber 59 = .ok (.iadd, 1) := by decide +kernel
theorem dX9_readNumber_60 : decode cX9_readNumber 60 = .ok (.bipush 48, 2) := by decide +kernel
theorem dX9_readNumber_62 : decode cX9_readNumber 62 = .ok (.isub, 1) := by decide +kernel
theorem dX9_readNumber_63 : decode cX9_readNumber 63 = .ok (.istore_n 3, 1) := by decide +kernel
theorem dX9_readNumber_64 : decode cX9_readNumber 64 = .ok (.aload_n 0, 1) := by decide +kernel
theorem dX9_readNumber_65 : decode cX9_readNumber 65 = .ok (.dup, 1) := by decide +kernel
theorem dX9_readNumber_66 : decode cX9_readNumber 66 = .ok (.getfield 19, 3) := by decide +kernel
theorem dX9_readNumber_69 : decode cX9_readNumber 69 = .ok (.iconst 1, 1) := by decide +kernel
theorem dX9_readNumber_70 : decode cX9_readNumber 70 = .ok (.iadd, 1) := by decide +kernel
theorem dX9_readNumber_71 : decode cX9_readNumber 71 = .ok (.putfield 19, 3) := by decide +kernel
theorem dX9_readNumber_74 : decode cX9_readNumber 74 = .ok (.aload_n 0, 1) := by decide +kernel
theorem dX9_readNumber_75 : decode cX9_readNumber 75 = .ok (.getfield 25, 3) := by decide +kernel
theorem dX9_readNumber_78 : decode cX9_readNumber 78 = .ok (.iload_n 1, 1) := by decide +kernel
theorem dX9_readNumber_79 : decode cX9_readNumber 79 = .ok (.iload_n 2, 1) := by decide +kernel
theorem dX9_readNumber_80 : decode cX9_readNumber 80 = .ok (.ifCond .eq 9, 3) := by decide +kernel
theorem dX9_readNumber_83 : decode cX9_readNumber 83 = .ok (.iload_n 3, 1) := by decide +kernel
theorem dX9_readNumber_84 : decode cX9_readNumber 84 = .ok (.ineg, 1) := by decide +kernel
theorem dX9_readNumber_85 : decode cX9_readNumber 85 = .ok (.i2l, 1) := by decide +kernel
theorem dX9_readNumber_86 : decode cX9_readNumber 86 = .ok (.goto 5, 3) := by decide +kernel
theorem dX9_readNumber_89 : decode cX9_readNumber 89 = .ok (.iload_n 3, 1) := by decide +kernel
theorem dX9_readNumber_90 : decode cX9_readNumber 90 = .ok (.i2l, 1) := by decide +kernel
theorem dX9_readNumber_91 : decode cX9_readNumber 91 = .ok (.lastore, 1) := by decide +kernel
theorem dX9_readNumber_92 : decode cX9_readNumber 92 = .ok (.iconst 1, 1) := by decide +kernel
theorem dX9_readNumber_93 : decode cX9_readNumber 93 = .ok (.ireturn, 1) := by decide +kernel
theorem dX9_receive_0 : decode cX9_receive 0 = .ok (.iconst 0, 1) := by decide +kernel
theorem dX9_receive_1 : decode cX9_receive 1 = .ok (.istore 4, 2) := by decide +kernel
theorem dX9_receive_3 : decode cX9_receive 3 = .ok (.iload 4, 2) := by decide +kernel
theorem dX9_receive_5 : decode cX9_receive 5 = .ok (.iload_n 3, 1) := by decide +kernel
theorem dX9_receive_6 : decode cX9_receive 6 = .ok (.if_icmp .ge 46, 3) := by decide +kernel
theorem dX9_receive_9 : decode cX9_receive 9 = .ok (.aload_n 0, 1) := by decide +kernel
theorem dX9_receive_10 : decode cX9_receive 10 = .ok (.getfield 15, 3) := by decide +kernel
theorem dX9_receive_13 : decode cX9_receive 13 = .ok (.bipush 120, 2) := by decide +kernel
theorem dX9_receive_15 : decode cX9_receive 15 = .ok (.if_icmp .ge 37, 3) := by decide +kernel
theorem dX9_receive_18 : decode cX9_receive 18 = .ok (.aload_n 0, 1) := by decide +kernel
theorem dX9_receive_19 : decode cX9_receive 19 = .ok (.getfield 9, 3) := by decide +kernel
theorem dX9_receive_22 : decode cX9_receive 22 = .ok (.aload_n 0, 1) := by decide +kernel
theorem dX9_receive_23 : decode cX9_receive 23 = .ok (.getfield 15, 3) := by decide +kernel
theorem dX9_receive_26 : decode cX9_receive 26 = .ok (.lload_n 1, 1) := by decide +kernel
theorem dX9_receive_27 : decode cX9_receive 27 = .ok (.bipush 8, 2) := by decide +kernel
theorem dX9_receive_29 : decode cX9_receive 29 = .ok (.iload 4, 2) := by decide +kernel
theorem dX9_receive_31 : decode cX9_receive 31 = .ok (.imul, 1) := by decide +kernel
theorem dX9_receive_32 : decode cX9_receive 32 = .ok (.lushr, 1) := by decide +kernel
theorem dX9_receive_33 : decode cX9_receive 33 = .ok (.l2i, 1) := by decide +kernel
theorem dX9_receive_34 : decode cX9_receive 34 = .ok (.i2b, 1) := by decide +kernel
theorem dX9_receive_35 : decode cX9_receive 35 = .ok (.bastore, 1) := by decide +kernel
theorem dX9_receive_36 : decode cX9_receive 36 = .ok (.aload_n 0, 1) := by decide +kernel
theorem dX9_receive_37 : decode cX9_receive 37 = .ok (.dup, 1) := by decide +kernel
theorem dX9_receive_38 : decode cX9_receive 38 = .ok (.getfield 15, 3) := by decide +kernel
theorem dX9_receive_41 : decode cX9_receive 41 = .ok (.iconst 1, 1) := by decide +kernel
theorem dX9_receive_42 : decode cX9_receive 42 = .ok (.iadd, 1) := by decide +kernel
theorem dX9_receive_43 : decode cX9_receive 43 = .ok (.putfield 15, 3) := by decide +kernel
theorem dX9_receive_46 : decode cX9_receive 46 = .ok (.iinc 4 1, 3) := by decide +kernel
theorem dX9_receive_49 : decode cX9_receive 49 = .ok (.goto (-46), 3) := by decide +kernel
theorem dX9_receive_52 : decode cX9_receive 52 = .ok (.return_, 1) := by decide +kernel
theorem dX9_skipBlanks_0 : decode cX9_skipBlanks 0 = .ok (.aload_n 0, 1) := by decide +kernel
theorem dX9_skipBlanks_1 : decode cX9_skipBlanks 1 = .ok (.getfield 19, 3) := by decide +kernel
theorem dX9_skipBlanks_4 : decode cX9_skipBlanks 4 = .ok (.aload_n 0, 1) := by decide +kernel
theorem dX9_skipBlanks_5 : decode cX9_skipBlanks 5 = .ok (.getfield 15, 3) := by decide +kernel
theorem dX9_skipBlanks_8 : decode cX9_skipBlanks 8 = .ok (.if_icmp .ge 30, 3) := by decide +kernel
theorem dX9_skipBlanks_11 : decode cX9_skipBlanks 11 = .ok (.aload_n 0, 1) := by decide +kernel
theorem dX9_skipBlanks_12 : decode cX9_skipBlanks 12 = .ok (.getfield 9, 3) := by decide +kernel
theorem dX9_skipBlanks_15 : decode cX9_skipBlanks 15 = .ok (.aload_n 0, 1) := by decide +kernel
theorem dX9_skipBlanks_16 : decode cX9_skipBlanks 16 = .ok (.getfield 19, 3) := by decide +kernel
theorem dX9_skipBlanks_19 : decode cX9_skipBlanks 19 = .ok (.baload, 1) := by decide +kernel
theorem dX9_skipBlanks_20 : decode cX9_skipBlanks 20 = .ok (.bipush 32, 2) := by decide +kernel
theorem dX9_skipBlanks_22 : decode cX9_skipBlanks 22 = .ok (.if_icmp .ne 16, 3) := by decide +kernel
theorem dX9_skipBlanks_25 : decode cX9_skipBlanks 25 = .ok (.aload_n 0, 1) := by decide +kernel
theorem dX9_skipBlanks_26 : decode cX9_skipBlanks 26 = .ok (.dup, 1) := by decide +kernel
theorem dX9_skipBlanks_27 : decode cX9_skipBlanks 27 = .ok (.getfield 19, 3) := by decide +kernel
theorem dX9_skipBlanks_30 : decode cX9_skipBlanks 30 = .ok (.iconst 1, 1) := by decide +kernel
theorem dX9_skipBlanks_31 : decode cX9_skipBlanks 31 = .ok (.iadd, 1) := by decide +kernel
theorem dX9_skipBlanks_32 : decode cX9_skipBlanks 32 = .ok (.putfield 19, 3) := by decide +kernel
theorem dX9_skipBlanks_35 : decode cX9_skipBlanks 35 = .ok (.goto (-35), 3) := by decide +kernel
theorem dX9_skipBlanks_38 : decode cX9_skipBlanks 38 = .ok (.return_, 1) := by decide +kernel
