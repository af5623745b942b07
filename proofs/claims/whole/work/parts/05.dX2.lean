theorem dX2_init_0 : decode cX2_init 0 = .ok (.aload_n 0, 1) := by decide +kernel
theorem dX2_init_1 : decode cX2_init 1 = .ok (.invokespecial 3, 3) := by decide +kernel
theorem dX2_init_4 : decode cX2_init 4 = .ok (.return_, 1) := by decide +kernel
theorem dX2_put_0 : decode cX2_put 0 = .ok (.aload_n 0, 1) := by decide +kernel
theorem dX2_put_1 : decode cX2_put 1 = .ok (.lload_n 1, 1) := by decide +kernel
theorem dX2_put_2 : decode cX2_put 2 = .ok (.putfield 9, 3) := by decide +kernel
theorem dX2_put_5 : decode cX2_put 5 = .ok (.aload_n 0, 1) := by decide +kernel
theorem dX2_put_6 : decode cX2_put 6 = .ok (.lload_n 1, 1) := by decide +kernel
theorem dX2_put_7 : decode cX2_put 7 = .ok (.lconst 0, 1) := by decide +kernel
theorem dX2_put_8 : decode cX2_put 8 = .ok (.lcmp, 1) := by decide +kernel
theorem dX2_put_9 : decode cX2_put 9 = .ok (.ifCond .ge 9, 3) := by decide +kernel
theorem dX2_put_12 : decode cX2_put 12 = .ok (.ldc2_w 15, 3) := by decide +kernel
theorem dX2_put_15 : decode cX2_put 15 = .ok (.goto 4, 3) := by decide +kernel
theorem dX2_put_18 : decode cX2_put 18 = .ok (.lconst 0, 1) := by decide +kernel
theorem dX2_put_19 : decode cX2_put 19 = .ok (.putfield 17, 3) := by decide +kernel
theorem dX2_put_22 : decode cX2_put 22 = .ok (.return_, 1) := by decide +kernel
theorem dX2_copy_0 : decode cX2_copy 0 = .ok (.aload_n 0, 1) := by decide +kernel
theorem dX2_copy_1 : decode cX2_copy 1 = .ok (.aload_n 1, 1) := by decide +kernel
theorem dX2_copy_2 : decode cX2_copy 2 = .ok (.getfield 9, 3) := by decide +kernel
theorem dX2_copy_5 : decode cX2_copy 5 = .ok (.putfield 9, 3) := by decide +kernel
theorem dX2_copy_8 : decode cX2_copy 8 = .ok (.aload_n 0, 1) := by decide +kernel
theorem dX2_copy_9 : decode cX2_copy 9 = .ok (.aload_n 1, 1) := by decide +kernel
theorem dX2_copy_10 : decode cX2_copy 10 = .ok (.getfield 17, 3) := by decide +kernel
theorem dX2_copy_13 : decode cX2_copy 13 = .ok (.putfield 17, 3) := by decide +kernel
theorem dX2_copy_16 : decode cX2_copy 16 = .ok (.return_, 1) := by decide +kernel
theorem dX2_copyAmount_0 : decode cX2_copyAmount 0 = .ok (.aload_n 0, 1) := by decide +kernel
theorem dX2_copyAmount_1 : decode cX2_copyAmount 1 = .ok (.aload_n 1, 1) := by decide +kernel
theorem dX2_copyAmount_2 : decode cX2_copyAmount 2 = .ok (.invokevirtual 20, 3) := by decide +kernel
theorem dX2_copyAmount_5 : decode cX2_copyAmount 5 = .ok (.aload_n 0, 1) := by decide +kernel
theorem dX2_copyAmount_6 : decode cX2_copyAmount 6 = .ok (.getfield 17, 3) := by decide +kernel
theorem dX2_copyAmount_9 : decode cX2_copyAmount 9 = .ok (.lconst 0, 1) := by decide +kernel
theorem dX2_copyAmount_10 : decode cX2_copyAmount 10 = .ok (.lcmp, 1) := by decide +kernel
theorem dX2_copyAmount_11 : decode cX2_copyAmount 11 = .ok (.ifCond .ge 7, 3) := by decide +kernel
theorem dX2_copyAmount_14 : decode cX2_copyAmount 14 = .ok (.aload_n 0, 1) := by decide +kernel
theorem dX2_copyAmount_15 : decode cX2_copyAmount 15 = .ok (.invokevirtual 24, 3) := by decide +kernel
theorem dX2_copyAmount_18 : decode cX2_copyAmount 18 = .ok (.return_, 1) := by decide +kernel
theorem dX2_sign_0 : decode cX2_sign 0 = .ok (.aload_n 0, 1) := by decide +kernel
theorem dX2_sign_1 : decode cX2_sign 1 = .ok (.getfield 17, 3) := by decide +kernel
theorem dX2_sign_4 : decode cX2_sign 4 = .ok (.lconst 0, 1) := by decide +kernel
theorem dX2_sign_5 : decode cX2_sign 5 = .ok (.lcmp, 1) := by decide +kernel
theorem dX2_sign_6 : decode cX2_sign 6 = .ok (.ifCond .eq 18, 3) := by decide +kernel
theorem dX2_sign_9 : decode cX2_sign 9 = .ok (.aload_n 0, 1) := by decide +kernel
theorem dX2_sign_10 : decode cX2_sign 10 = .ok (.getfield 17, 3) := by decide +kernel
theorem dX2_sign_13 : decode cX2_sign 13 = .ok (.lconst 0, 1) := by decide +kernel
theorem dX2_sign_14 : decode cX2_sign 14 = .ok (.lcmp, 1) := by decide +kernel
theorem dX2_sign_15 : decode cX2_sign 15 = .ok (.ifCond .ge 7, 3) := by decide +kernel
theorem dX2_sign_18 : decode cX2_sign 18 = .ok (.iconst (-1), 1) := by decide +kernel
theorem dX2_sign_19 : decode cX2_sign 19 = .ok (.goto 4, 3) := by decide +kernel
theorem dX2_sign_22 : decode cX2_sign 22 = .ok (.iconst 1, 1) := by decide +kernel
theorem dX2_sign_23 : decode cX2_sign 23 = .ok (.ireturn, 1) := by decide +kernel
theorem dX2_sign_24 : decode cX2_sign 24 = .ok (.aload_n 0, 1) := by decide +kernel
theorem dX2_sign_25 : decode cX2_sign 25 = .ok (.getfield 9, 3) := by decide +kernel
theorem dX2_sign_28 : decode cX2_sign 28 = .ok (.lconst 0, 1) := by decide +kernel
theorem dX2_sign_29 : decode cX2_sign 29 = .ok (.lcmp, 1) := by decide +kernel
theorem dX2_sign_30 : decode cX2_sign 30 = .ok (.ifCond .ne 7, 3) := by decide +kernel
theorem dX2_sign_33 : decode cX2_sign 33 = .ok (.iconst 0, 1) := by decide +kernel
theorem dX2_sign_34 : decode cX2_sign 34 = .ok (.goto 4, 3) := by decide +kernel
theorem dX2_sign_37 : decode cX2_sign 37 = .ok (.iconst 1, 1) := by decide +kernel
theorem dX2_sign_38 : decode cX2_sign 38 = .ok (.ireturn, 1) := by decide +kernel
theorem dX2_isOdd_0 : decode cX2_isOdd 0 = .ok (.aload_n 0, 1) := by decide +kernel
theorem dX2_isOdd_1 : decode cX2_isOdd 1 = .ok (.getfield 9, 3) := by decide +kernel
theorem dX2_isOdd_4 : decode cX2_isOdd 4 = .ok (.lconst 1, 1) := by decide +kernel
theorem dX2_isOdd_5 : decode cX2_isOdd 5 = .ok (.land, 1) := by decide +kernel
theorem dX2_isOdd_6 : decode cX2_isOdd 6 = .ok (.lconst 0, 1) := by decide +kernel
theorem dX2_isOdd_7 : decode cX2_isOdd 7 = .ok (.lcmp, 1) := by decide +kernel
theorem dX2_isOdd_8 : decode cX2_isOdd 8 = .ok (.ifCond .eq 7, 3) := by decide +kernel
theorem dX2_isOdd_11 : decode cX2_isOdd 11 = .ok (.iconst 1, 1) := by decide +kernel
theorem dX2_isOdd_12 : decode cX2_isOdd 12 = .ok (.goto 4, 3) := by decide +kernel
theorem dX2_isOdd_15 : decode cX2_isOdd 15 = .ok (.iconst 0, 1) := by decide +kernel
theorem dX2_isOdd_16 : decode cX2_isOdd 16 = .ok (.ireturn, 1) := by decide +kernel
theorem dX2_isOne_0 : decode cX2_isOne 0 = .ok (.aload_n 0, 1) := by decide +kernel
theorem dX2_isOne_1 : decode cX2_isOne 1 = .ok (.getfield 17, 3) := by decide +kernel
theorem dX2_isOne_4 : decode cX2_isOne 4 = .ok (.lconst 0, 1) := by decide +kernel
theorem dX2_isOne_5 : decode cX2_isOne 5 = .ok (.lcmp, 1) := by decide +kernel
theorem dX2_isOne_6 : decode cX2_isOne 6 = .ok (.ifCond .ne 16, 3) := by decide +kernel
theorem dX2_isOne_9 : decode cX2_isOne 9 = .ok (.aload_n 0, 1) := by decide +kernel
theorem dX2_isOne_10 : decode cX2_isOne 10 = .ok (.getfield 9, 3) := by decide +kernel
theorem dX2_isOne_13 : decode cX2_isOne 13 = .ok (.lconst 1, 1) := by decide +kernel
theorem dX2_isOne_14 : decode cX2_isOne 14 = .ok (.lcmp, 1) := by decide +kernel
theorem dX2_isOne_15 : decode cX2_isOne 15 = .ok (.ifCond .ne 7, 3) := by decide +kernel
theorem dX2_isOne_18 : decode cX2_isOne 18 = .ok (.iconst 1, 1) := by decide +kernel
theorem dX2_isOne_19 : decode cX2_isOne 19 = .ok (.goto 4, 3) := by decide +kernel
theorem dX2_isOne_22 : decode cX2_isOne 22 = .ok (.iconst 0, 1) := by decide +kernel
theorem dX2_isOne_23 : decode cX2_isOne 23 = .ok (.ireturn, 1) := by decide +kernel
theorem dX2_compare_0 : decode cX2_compare 0 = .ok (.aload_n 0, 1) := by decide +kernel
theorem dX2_compare_1 : decode cX2_compare 1 = .ok (.getfield 17, 3) := by decide +kernel
theorem dX2_compare_4 : decode cX2_compare 4 = .ok (.aload_n 1, 1) := by decide +kernel
theorem dX2_compare_5 : decode cX2_compare 5 = .ok (.getfield 17, 3) := by decide +kernel
theorem dX2_compare_8 : decode cX2_compare 8 = .ok (.lcmp, 1) := by decide +kernel
theorem dX2_compare_9 : decode cX2_compare 9 = .ok (.ifCond .eq 21, 3) := by decide +kernel
theorem dX2_compare_12 : decode cX2_compare 12 = .ok (.aload_n 0, 1) := by decide +kernel
theorem dX2_compare_13 : decode cX2_compare 13 = .ok (.getfield 17, 3) := by decide +kernel
theorem dX2_compare_16 : decode cX2_compare 16 = .ok (.aload_n 1, 1) := by decide +kernel
theorem dX2_compare_17 : decode cX2_compare 17 = .ok (.getfield 17, 3) := by decide +kernel
theorem dX2_compare_20 : decode cX2_compare 20 = .ok (.lcmp, 1) := by decide +kernel
theorem dX2_compare_21 : decode cX2_compare 21 = .ok (.ifCond .ge 7, 3) := by decide +kernel
theorem dX2_compare_24 : decode cX2_compare 24 = .ok (.iconst (-1), 1) := by decide +kernel
theorem dX2_compare_25 : decode cX2_compare 25 = .ok (.goto 4, 3) := by decide +kernel
theorem dX2_compare_28 : decode cX2_compare 28 = .ok (.iconst 1, 1) := by decide +kernel
theorem dX2_compare_29 : decode cX2_compare 29 = .ok (.ireturn, 1) := by decide +kernel
theorem dX2_compare_30 : decode cX2_compare 30 = .ok (.aload_n 0, 1) := by decide +kernel
theorem dX2_compare_31 : decode cX2_compare 31 = .ok (.getfield 9, 3) := by decide +kernel
theorem dX2_compare_34 : decode cX2_compare 34 = .ok (.aload_n 1, 1) := by decide +kernel
theorem dX2_compare_35 : decode cX2_compare 35 = .ok (.getfield 9, 3) := by decide +kernel
theorem dX2_compare_38 : decode cX2_compare 38 = .ok (.lcmp, 1) := by decide +kernel
theorem dX2_compare_39 : decode cX2_compare 39 = .ok (.ifCond .ne 5, 3) := by decide +kernel
theorem dX2_compare_42 : decode cX2_compare 42 = .ok (.iconst 0, 1) := by decide +kernel
theorem dX2_compare_43 : decode cX2_compare 43 = .ok (.ireturn, 1) := by decide +kernel
theorem dX2_compare_44 : decode cX2_compare 44 = .ok (.aload_n 0, 1) := by decide +kernel
theorem dX2_compare_45 : decode cX2_compare 45 = .ok (.getfield 9, 3) := by decide +kernel
theorem dX2_compare_48 : decode cX2_compare 48 = .ok (.aload_n 1, 1) := by decide +kernel
theorem dX2_compare_49 : decode cX2_compare 49 = .ok (.getfield 9, 3) := by decide +kernel
theorem dX2_compare_52 : decode cX2_compare 52 = .ok (.invokestatic 27, 3) := by decide +kernel
theorem dX2_compare_55 : decode cX2_compare 55 = .ok (.ifCond .eq 7, 3) := by decide +kernel
theorem dX2_compare_58 : decode cX2_compare 58 = .ok (.iconst (-1), 1) := by decide +kernel
theorem dX2_compare_59 : decode cX2_compare 59 = .ok (.goto 4, 3) := by decide +kernel
theorem dX2_compare_62 : decode cX2_compare 62 = .ok (.iconst 1, 1) := by decide +kernel
theorem dX2_compare_63 : decode cX2_compare 63 = .ok (.ireturn, 1) := by decide +kernel
theorem dX2_negate_0 : decode cX2_negate 0 = .ok (.aload_n 0, 1) := by decide +kernel
theorem dX2_negate_1 : decode cX2_negate 1 = .ok (.aload_n 0, 1) := by decide +kernel
theorem dX2_negate_2 : decode cX2_negate 2 = .ok (.getfield 9, 3) := by decide +kernel
theorem dX2_negate_5 : decode cX2_negate 5 = .ok (.lneg, 1) := by decide +kernel
theorem dX2_negate_6 : decode cX2_negate 6 = .ok (.putfield 9, 3) := by decide +kernel
theorem dX2_negate_9 : decode cX2_negate 9 = .ok (.aload_n 0, 1) := by decide +kernel
theorem dX2_negate_10 : decode cX2_negate 10 = .ok (.aload_n 0, 1) := by decide +kernel
theorem dX2_negate_11 : decode cX2_negate 11 = .ok (.getfield 9, 3) := by decide +kernel
theorem dX2_negate_14 : decode cX2_negate 14 = .ok (.lconst 0, 1) := by decide +kernel
theorem dX2_negate_15 : decode cX2_negate 15 = .ok (.lcmp, 1) := by decide +kernel
theorem dX2_negate_16 : decode cX2_negate 16 = .ok (.ifCond .ne 11, 3) := by decide +kernel
theorem dX2_negate_19 : decode cX2_negate 19 = .ok (.aload_n 0, 1) := by decide +kernel
theorem dX2_negate_20 : decode cX2_negate 20 = .ok (.getfield 17, 3) := by decide +kernel
theorem dX2_negate_23 : decode cX2_negate 23 = .ok (.lneg, 1) := by decide +kernel
theorem dX2_negate_24 : decode cX2_negate 24 = .ok (.goto 11, 3) := by decide +kernel
theorem dX2_negate_27 : decode cX2_negate 27 = .ok (.aload_n 0, 1) := by decide +kernel
theorem dX2_negate_28 : decode cX2_negate 28 = .ok (.getfield 17, 3) := by decide +kernel
theorem dX2_negate_31 : decode cX2_negate 31 = .ok (.ldc2_w 15, 3) := by decide +kernel
theorem dX2_negate_34 : decode cX2_negate 34 = .ok (.lxor, 1) := by decide +kernel
theorem dX2_negate_35 : decode cX2_negate 35 = .ok (.putfield 17, 3) := by decide +kernel
theorem dX2_negate_38 : decode cX2_negate 38 = .ok (.return_, 1) := by decide +kernel
theorem dX2_addParts_0 : decode cX2_addParts 0 = .ok (.aload_n 0, 1) := by decide +kernel
theorem dX2_addParts_1 : decode cX2_addParts 1 = .ok (.dup, 1) := by decide +kernel
theorem dX2_addParts_2 : decode cX2_addParts 2 = .ok (.getfield 9, 3) := by decide +kernel
theorem dX2_addParts_5 : decode cX2_addParts 5 = .ok (.lload_n 3, 1) := by decide +kernel
theorem dX2_addParts_6 : decode cX2_addParts 6 = .ok (.ladd, 1) := by decide +kernel
theorem dX2_addParts_7 : decode cX2_addParts 7 = .ok (.putfield 9, 3) := by decide +kernel
theorem dX2_addParts_10 : decode cX2_addParts 10 = .ok (.aload_n 0, 1) := by decide +kernel
theorem dX2_addParts_11 : decode cX2_addParts 11 = .ok (.dup, 1) := by decide +kernel
theorem dX2_addParts_12 : decode cX2_addParts 12 = .ok (.getfield 17, 3) := by decide +kernel
theorem dX2_addParts_15 : decode cX2_addParts 15 = .ok (.lload_n 1, 1) := by decide +kernel
theorem dX2_addParts_16 : decode cX2_addParts 16 = .ok (.ladd, 1) := by decide +kernel
theorem dX2_addParts_17 : decode cX2_addParts 17 = .ok (.putfield 17, 3) := by decide +kernel
theorem dX2_addParts_20 : decode cX2_addParts 20 = .ok (.aload_n 0, 1) := by decide +kernel
theorem dX2_addParts_21 : decode cX2_addParts 21 = .ok (.getfield 9, 3) := by decide +kernel
theorem dX2_addParts_24 : decode cX2_addParts 24 = .ok (.lload_n 3, 1) := by decide +kernel
theorem dX2_addParts_25 : decode cX2_addParts 25 = .ok (.invokestatic 27, 3) := by decide +kernel
theorem dX2_addParts_28 : decode cX2_addParts 28 = .ok (.ifCond .eq 13, 3) := by decide +kernel
theorem dX2_addParts_31 : decode cX2_addParts 31 = .ok (.aload_n 0, 1) := by decide +kernel
theorem dX2_addParts_32 : decode cX2_addParts 32 = .ok (.dup, 1) := by decide +kernel
theorem dX2_addParts_33 : decode cX2_addParts 33 = .ok (.getfield 17, 3) := by decide +kernel
theorem dX2_addParts_36 : decode cX2_addParts 36 = .ok (.lconst 1, 1) := by decide +kernel
theorem dX2_addParts_37 : decode cX2_addParts 37 = .ok (.ladd, 1) := by decide +kernel
theorem dX2_addParts_38 : decode cX2_addParts 38 = .ok (.putfield 17, 3) := by decide +kernel
theorem dX2_addParts_41 : decode cX2_addParts 41 = .ok (.return_, 1) := by decide +kernel
theorem dX2_subtract_0 : decode cX2_subtract 0 = .ok (.aload_n 0, 1) := by decide +kernel
theorem dX2_subtract_1 : decode cX2_subtract 1 = .ok (.getfield 9, 3) := by decide +kernel
theorem dX2_subtract_4 : decode cX2_subtract 4 = .ok (.aload_n 1, 1) := by decide +kernel
theorem dX2_subtract_5 : decode cX2_subtract 5 = .ok (.getfield 9, 3) := by decide +kernel
theorem dX2_subtract_8 : decode cX2_subtract 8 = .ok (.invokestatic 27, 3) := by decide +kernel
theorem dX2_subtract_11 : decode cX2_subtract 11 = .ok (.ifCond .eq 13, 3) := by decide +kernel
theorem dX2_subtract_14 : decode cX2_subtract 14 = .ok (.aload_n 0, 1) := by decide +kernel
theorem dX2_subtract_15 : decode cX2_subtract 15 = .ok (.dup, 1) := by decide +kernel
theorem dX2_subtract_16 : decode cX2_subtract 16 = .ok (.getfield 17, 3) := by decide +kernel
theorem dX2_subtract_19 : decode cX2_subtract 19 = .ok (.lconst 1, 1) := by decide +kernel
theorem dX2_subtract_20 : decode cX2_subtract 20 = .ok (.lsub, 1) := by decide +kernel
theorem dX2_subtract_21 : decode cX2_subtract 21 = .ok (.putfield 17, 3) := by decide +kernel
theorem dX2_subtract_24 : decode cX2_subtract 24 = .ok (.aload_n 0, 1) := by decide +kernel
theorem dX2_subtract_25 : decode cX2_subtract 25 = .ok (.dup, 1) := by decide +kernel
theorem dX2_subtract_26 : decode cX2_subtract 26 = .ok (.getfield 9, 3) := by decide +kernel
theorem dX2_subtract_29 : decode cX2_subtract 29 = .ok (.aload_n 1, 1) := by decide +kernel
theorem dX2_subtract_30 : decode cX2_subtract 30 = .ok (.getfield 9, 3) := by decide +kernel
theorem dX2_subtract_33 : decode cX2_subtract 33 = .ok (.lsub, 1) := by decide +kernel
theorem dX2_subtract_34 : decode cX2_subtract 34 = .ok (.putfield 9, 3) := by decide +kernel
theorem dX2_subtract_37 : decode cX2_subtract 37 = .ok (.aload_n 0, 1) := by decide +kernel
theorem dX2_subtract_38 : decode cX2_subtract 38 = .ok (.dup, 1) := by decide +kernel
theorem dX2_subtract_39 : decode cX2_subtract 39 = .ok (.getfield 17, 3) := by decide +kernel
theorem dX2_subtract_42 : decode cX2_subtract 42 = .ok (.aload_n 1, 1) := by decide +kernel
theorem dX2_subtract_43 : decode cX2_subtract 43 = .ok (.getfield 17, 3) := by decide +kernel
theorem dX2_subtract_46 : decode cX2_subtract 46 = .ok (.lsub, 1) := by decide +kernel
theorem dX2_subtract_47 : decode cX2_subtract 47 = .ok (.putfield 17, 3) := by decide +kernel
theorem dX2_subtract_50 : decode cX2_subtract 50 = .ok (.return_, 1) := by decide +kernel
theorem dX2_addProduct_0 : decode cX2_addProduct 0 = .ok (.aload_n 0, 1) := by decide +kernel
theorem dX2_addProduct_1 : decode cX2_addProduct 1 = .ok (.lload_n 1, 1) := by decide +kernel
theorem dX2_addProduct_2 : decode cX2_addProduct 2 = .ok (.lload_n 3, 1) := by decide +kernel
theorem dX2_addProduct_3 : decode cX2_addProduct 3 = .ok (.invokestatic 31, 3) := by decide +kernel
theorem dX2_addProduct_6 : decode cX2_addProduct 6 = .ok (.lload_n 1, 1) := by decide +kernel
theorem dX2_addProduct_7 : decode cX2_addProduct 7 = .ok (.lload_n 3, 1) := by decide +kernel
theorem dX2_addProduct_8 : decode cX2_addProduct 8 = .ok (.lmul, 1) := by decide +kernel
theorem dX2_addProduct_9 : decode cX2_addProduct 9 = .ok (.invokevirtual 35, 3) := by decide +kernel
theorem dX2_addProduct_12 : decode cX2_addProduct 12 = .ok (.return_, 1) := by decide +kernel
theorem dX2_addSpan_0 : decode cX2_addSpan 0 = .ok (.aload_n 0, 1) := by decide +kernel
theorem dX2_addSpan_1 : decode cX2_addSpan 1 = .ok (.lload_n 1, 1) := by decide +kernel
theorem dX2_addSpan_2 : decode cX2_addSpan 2 = .ok (.lload 7, 2) := by decide +kernel
theorem dX2_addSpan_4 : decode cX2_addSpan 4 = .ok (.invokevirtual 39, 3) := by decide +kernel
theorem dX2_addSpan_7 : decode cX2_addSpan 7 = .ok (.aload_n 0, 1) := by decide +kernel
theorem dX2_addSpan_8 : decode cX2_addSpan 8 = .ok (.lload_n 3, 1) := by decide +kernel
theorem dX2_addSpan_9 : decode cX2_addSpan 9 = .ok (.lneg, 1) := by decide +kernel
theorem dX2_addSpan_10 : decode cX2_addSpan 10 = .ok (.lload 5, 2) := by decide +kernel
theorem dX2_addSpan_12 : decode cX2_addSpan 12 = .ok (.invokevirtual 39, 3) := by decide +kernel
theorem dX2_addSpan_15 : decode cX2_addSpan 15 = .ok (.return_, 1) := by decide +kernel
theorem dX2_putSpan_0 : decode cX2_putSpan 0 = .ok (.aload_n 0, 1) := by decide +kernel
theorem dX2_putSpan_1 : decode cX2_putSpan 1 = .ok (.lconst 0, 1) := by decide +kernel
theorem dX2_putSpan_2 : decode cX2_putSpan 2 = .ok (.invokevirtual 42, 3) := by decide +kernel
theorem dX2_putSpan_5 : decode cX2_putSpan 5 = .ok (.aload_n 0, 1) := by decide +kernel
theorem dX2_putSpan_6 : decode cX2_putSpan 6 = .ok (.lload_n 1, 1) := by decide +kernel
theorem dX2_putSpan_7 : decode cX2_putSpan 7 = .ok (.lload_n 3, 1) := by decide +kernel
theorem dX2_putSpan_8 : decode cX2_putSpan 8 = .ok (.lload 5, 2) := by decide +kernel
theorem dX2_putSpan_10 : decode cX2_putSpan 10 = .ok (.lload 7, 2) := by decide +kernel
theorem dX2_putSpan_12 : decode cX2_putSpan 12 = .ok (.invokevirtual 46, 3) := by decide +kernel
theorem dX2_putSpan_15 : decode cX2_putSpan 15 = .ok (.return_, 1) := by decide +kernel
theorem dX2_addScaled_0 : decode cX2_addScaled 0 = .ok (.aload_n 1, 1) := by decide +kernel
theorem dX2_addScaled_1 : decode cX2_addScaled 1 = .ok (.getfield 9, 3) := by decide +kernel
theorem dX2_addScaled_4 : decode cX2_addScaled 4 = .ok (.lconst 0, 1) := by decide +kernel
theorem dX2_addScaled_5 : decode cX2_addScaled 5 = .ok (.lcmp, 1) := by decide +kernel
theorem dX2_addScaled_6 : decode cX2_addScaled 6 = .ok (.ifCond .ge 7, 3) := by decide +kernel
theorem dX2_addScaled_9 : decode cX2_addScaled 9 = .ok (.lload_n 2, 1) := by decide +kernel
theorem dX2_addScaled_10 : decode cX2_addScaled 10 = .ok (.goto 4, 3) := by decide +kernel
theorem dX2_addScaled_13 : decode cX2_addScaled 13 = .ok (.lconst 0, 1) := by decide +kernel
theorem dX2_addScaled_14 : decode cX2_addScaled 14 = .ok (.lstore 4, 2) := by decide +kernel
theorem dX2_addScaled_16 : decode cX2_addScaled 16 = .ok (.aload_n 1, 1) := by decide +kernel
theorem dX2_addScaled_17 : decode cX2_addScaled 17 = .ok (.getfield 17, 3) := by decide +kernel
theorem dX2_addScaled_20 : decode cX2_addScaled 20 = .ok (.lload_n 2, 1) := by decide +kernel
theorem dX2_addScaled_21 : decode cX2_addScaled 21 = .ok (.lmul, 1) := by decide +kernel
theorem dX2_addScaled_22 : decode cX2_addScaled 22 = .ok (.aload_n 1, 1) := by decide +kernel
theorem dX2_addScaled_23 : decode cX2_addScaled 23 = .ok (.getfield 9, 3) := by decide +kernel
theorem dX2_addScaled_26 : decode cX2_addScaled 26 = .ok (.lload_n 2, 1) := by decide +kernel
theorem dX2_addScaled_27 : decode cX2_addScaled 27 = .ok (.invokestatic 31, 3) := by decide +kernel
theorem dX2_addScaled_30 : decode cX2_addScaled 30 = .ok (.ladd, 1) := by decide +kernel
theorem dX2_addScaled_31 : decode cX2_addScaled 31 = .ok (.lload 4, 2) := by decide +kernel
theorem dX2_addScaled_33 : decode cX2_addScaled 33 = .ok (.ladd, 1) := by decide +kernel
theorem dX2_addScaled_34 : decode cX2_addScaled 34 = .ok (.lstore 6, 2) := by decide +kernel
theorem dX2_addScaled_36 : decode cX2_addScaled 36 = .ok (.aload_n 0, 1) := by decide +kernel
theorem dX2_addScaled_37 : decode cX2_addScaled 37 = .ok (.lload 6, 2) := by decide +kernel
theorem dX2_addScaled_39 : decode cX2_addScaled 39 = .ok (.aload_n 1, 1) := by decide +kernel
theorem dX2_addScaled_40 : decode cX2_addScaled 40 = .ok (.getfield 9, 3) := by decide +kernel
theorem dX2_addScaled_43 : decode cX2_addScaled 43 = .ok (.lload_n 2, 1) := by decide +kernel
theorem dX2_addScaled_44 : decode cX2_addScaled 44 = .ok (.lmul, 1) := by decide +kernel
theorem dX2_addScaled_45 : decode cX2_addScaled 45 = .ok (.invokevirtual 35, 3) := by decide +kernel
theorem dX2_addScaled_48 : decode cX2_addScaled 48 = .ok (.return_, 1) := by decide +kernel
theorem dX2_twice_0 : decode cX2_twice 0 = .ok (.aload_n 0, 1) := by decide +kernel
theorem dX2_twice_1 : decode cX2_twice 1 = .ok (.aload_n 0, 1) := by decide +kernel
theorem dX2_twice_2 : decode cX2_twice 2 = .ok (.getfield 17, 3) := by decide +kernel
theorem dX2_twice_5 : decode cX2_twice 5 = .ok (.iconst 1, 1) := by decide +kernel
theorem dX2_twice_6 : decode cX2_twice 6 = .ok (.lshl, 1) := by decide +kernel
theorem dX2_twice_7 : decode cX2_twice 7 = .ok (.aload_n 0, 1) := by decide +kernel
theorem dX2_twice_8 : decode cX2_twice 8 = .ok (.getfield 9, 3) := by decide +kernel
theorem dX2_twice_11 : decode cX2_twice 11 = .ok (.bipush 63, 2) := by decide +kernel
theorem dX2_twice_13 : decode cX2_twice 13 = .ok (.lushr, 1) := by decide +kernel
theorem dX2_twice_14 : decode cX2_twice 14 = .ok (.lor, 1) := by decide +kernel
theorem dX2_twice_15 : decode cX2_twice 15 = .ok (.putfield 17, 3) := by decide +kernel
theorem dX2_twice_18 : decode cX2_twice 18 = .ok (.aload_n 0, 1) := by decide +kernel
theorem dX2_twice_19 : decode cX2_twice 19 = .ok (.aload_n 0, 1) := by decide +kernel
theorem dX2_twice_20 : decode cX2_twice 20 = .ok (.getfield 9, 3) := by decide +kernel
theorem dX2_twice_23 : decode cX2_twice 23 = .ok (.iconst 1, 1) := by decide +kernel
theorem dX2_twice_24 : decode cX2_twice 24 = .ok (.lshl, 1) := by decide +kernel
theorem dX2_twice_25 : decode cX2_twice 25 = .ok (.putfield 9, 3) := by decide +kernel
theorem dX2_twice_28 : decode cX2_twice 28 = .ok (.return_, 1) := by decide +kernel
theorem dX2_half_0 : decode cX2_half 0 = .ok (.aload_n 0, 1) := by decide +kernel
theorem dX2_half_1 : decode cX2_half 1 = .ok (.aload_n 0, 1) := by decide +kernel
theorem dX2_half_2 : decode cX2_half 2 = .ok (.getfield 9, 3) := by decide +kernel
theorem dX2_half_5 : decode cX2_half 5 = .ok (.iconst 1, 1) := by decide +kernel
theorem dX2_half_6 : decode cX2_half 6 = .ok (.lushr, 1) := by decide +kernel
theorem dX2_half_7 : decode cX2_half 7 = .ok (.aload_n 0, 1) := by decide +kernel
theorem dX2_half_8 : decode cX2_half 8 = .ok (.getfield 17, 3) := by decide +kernel
theorem dX2_half_11 : decode cX2_half 11 = .ok (.bipush 63, 2) := by decide +kernel
theorem dX2_half_13 : decode cX2_half 13 = .ok (.lshl, 1) := by decide +kernel
theorem dX2_half_14 : decode cX2_half 14 = .ok (.lor, 1) := by decide +kernel
theorem dX2_half_15 : decode cX2_half 15 = .ok (.putfield 9, 3) := by decide +kernel
theorem dX2_half_18 : decode cX2_half 18 = .ok (.aload_n 0, 1) := by decide +kernel
theorem dX2_half_19 : decode cX2_half 19 = .ok (.aload_n 0, 1) := by decide +kernel
theorem dX2_half_20 : decode cX2_half 20 = .ok (.getfield 17, 3) := by decide +kernel
theorem dX2_half_23 : decode cX2_half 23 = .ok (.iconst 1, 1) := by decide +kernel
theorem dX2_half_24 : decode cX2_half 24 = .ok (.lshr, 1) := by decide +kernel
theorem dX2_half_25 : decode cX2_half 25 = .ok (.putfield 17, 3) := by decide +kernel
theorem dX2_half_28 : decode cX2_half 28 = .ok (.return_, 1) := by decide +kernel
theorem dX2_setLowestBit_0 : decode cX2_setLowestBit 0 = .ok (.aload_n 0, 1) := by decide +kernel
theorem dX2_setLowestBit_1 : decode cX2_setLowestBit 1 = .ok (.aload_n 0, 1) := by decide +kernel
theorem dX2_setLowestBit_2 : decode cX2_setLowestBit 2 = .ok (.getfield 9, 3) := by decide +kernel
theorem dX2_setLowestBit_5 : decode cX2_setLowestBit 5 = .ok (.lconst 1, 1) := by decide +kernel
theorem dX2_setLowestBit_6 : decode cX2_setLowestBit 6 = .ok (.lor, 1) := by decide +kernel
theorem dX2_setLowestBit_7 : decode cX2_setLowestBit 7 = .ok (.putfield 9, 3) := by decide +kernel
theorem dX2_setLowestBit_10 : decode cX2_setLowestBit 10 = .ok (.return_, 1) := by decide +kernel
theorem dX2_limbs_0 : decode cX2_limbs 0 = .ok (.aload_n 0, 1) := by decide +kernel
theorem dX2_limbs_1 : decode cX2_limbs 1 = .ok (.invokevirtual 50, 3) := by decide +kernel
theorem dX2_limbs_4 : decode cX2_limbs 4 = .ok (.lstore_n 1, 1) := by decide +kernel
theorem dX2_limbs_5 : decode cX2_limbs 5 = .ok (.lload_n 1, 1) := by decide +kernel
theorem dX2_limbs_6 : decode cX2_limbs 6 = .ok (.lconst 0, 1) := by decide +kernel
theorem dX2_limbs_7 : decode cX2_limbs 7 = .ok (.lcmp, 1) := by decide +kernel
theorem dX2_limbs_8 : decode cX2_limbs 8 = .ok (.ifCond .eq 18, 3) := by decide +kernel
theorem dX2_limbs_11 : decode cX2_limbs 11 = .ok (.lload_n 1, 1) := by decide +kernel
theorem dX2_limbs_12 : decode cX2_limbs 12 = .ok (.bipush 32, 2) := by decide +kernel
theorem dX2_limbs_14 : decode cX2_limbs 14 = .ok (.lushr, 1) := by decide +kernel
theorem dX2_limbs_15 : decode cX2_limbs 15 = .ok (.lconst 0, 1) := by decide +kernel
theorem dX2_limbs_16 : decode cX2_limbs 16 = .ok (.lcmp, 1) := by decide +kernel
theorem dX2_limbs_17 : decode cX2_limbs 17 = .ok (.ifCond .eq 7, 3) := by decide +kernel
theorem dX2_limbs_20 : decode cX2_limbs 20 = .ok (.iconst 4, 1) := by decide +kernel
theorem dX2_limbs_21 : decode cX2_limbs 21 = .ok (.goto 4, 3) := by decide +kernel
theorem dX2_limbs_24 : decode cX2_limbs 24 = .ok (.iconst 3, 1) := by decide +kernel
theorem dX2_limbs_25 : decode cX2_limbs 25 = .ok (.ireturn, 1) := by decide +kernel
theorem dX2_limbs_26 : decode cX2_limbs 26 = .ok (.aload_n 0, 1) := by decide +kernel
theorem dX2_limbs_27 : decode cX2_limbs 27 = .ok (.invokevirtual 54, 3) := by decide +kernel
theorem dX2_limbs_30 : decode cX2_limbs 30 = .ok (.bipush 32, 2) := by decide +kernel
theorem dX2_limbs_32 : decode cX2_limbs 32 = .ok (.lushr, 1) := by decide +kernel
theorem dX2_limbs_33 : decode cX2_limbs 33 = .ok (.lconst 0, 1) := by decide +kernel
theorem dX2_limbs_34 : decode cX2_limbs 34 = .ok (.lcmp, 1) := by decide +kernel
theorem dX2_limbs_35 : decode cX2_limbs 35 = .ok (.ifCond .eq 7, 3) := by decide +kernel
theorem dX2_limbs_38 : decode cX2_limbs 38 = .ok (.iconst 2, 1) := by decide +kernel
theorem dX2_limbs_39 : decode cX2_limbs 39 = .ok (.goto 4, 3) := by decide +kernel
theorem dX2_limbs_42 : decode cX2_limbs 42 = .ok (.iconst 1, 1) := by decide +kernel
theorem dX2_limbs_43 : decode cX2_limbs 43 = .ok (.ireturn, 1) := by decide +kernel
theorem dX2_limbOfAmount_0 : decode cX2_limbOfAmount 0 = .ok (.iload_n 1, 1) := by decide +kernel
theorem dX2_limbOfAmount_1 : decode cX2_limbOfAmount 1 = .ok (.iconst 2, 1) := by decide +kernel
theorem dX2_limbOfAmount_2 : decode cX2_limbOfAmount 2 = .ok (.if_icmp .ge 10, 3) := by decide +kernel
theorem dX2_limbOfAmount_5 : decode cX2_limbOfAmount 5 = .ok (.aload_n 0, 1) := by decide +kernel
theorem dX2_limbOfAmount_6 : decode cX2_limbOfAmount 6 = .ok (.invokevirtual 54, 3) := by decide +kernel
theorem dX2_limbOfAmount_9 : decode cX2_limbOfAmount 9 = .ok (.goto 7, 3) := by decide +kernel
theorem dX2_limbOfAmount_12 : decode cX2_limbOfAmount 12 = .ok (.aload_n 0, 1) := by decide +kernel
theorem dX2_limbOfAmount_13 : decode cX2_limbOfAmount 13 = .ok (.invokevirtual 50, 3) := by decide +kernel
theorem dX2_limbOfAmount_16 : decode cX2_limbOfAmount 16 = .ok (.lstore_n 2, 1) := by decide +kernel
theorem dX2_limbOfAmount_17 : decode cX2_limbOfAmount 17 = .ok (.iload_n 1, 1) := by decide +kernel
theorem dX2_limbOfAmount_18 : decode cX2_limbOfAmount 18 = .ok (.iconst 1, 1) := by decide +kernel
theorem dX2_limbOfAmount_19 : decode cX2_limbOfAmount 19 = .ok (.iand, 1) := by decide +kernel
theorem dX2_limbOfAmount_20 : decode cX2_limbOfAmount 20 = .ok (.ifCond .ne 11, 3) := by decide +kernel
theorem dX2_limbOfAmount_23 : decode cX2_limbOfAmount 23 = .ok (.lload_n 2, 1) := by decide +kernel
theorem dX2_limbOfAmount_24 : decode cX2_limbOfAmount 24 = .ok (.ldc2_w 57, 3) := by decide +kernel
theorem dX2_limbOfAmount_27 : decode cX2_limbOfAmount 27 = .ok (.land, 1) := by decide +kernel
theorem dX2_limbOfAmount_28 : decode cX2_limbOfAmount 28 = .ok (.goto 7, 3) := by decide +kernel
theorem dX2_limbOfAmount_31 : decode cX2_limbOfAmount 31 = .ok (.lload_n 2, 1) := by decide +kernel
theorem dX2_limbOfAmount_32 : decode cX2_limbOfAmount 32 = .ok (.bipush 32, 2) := by decide +kernel
theorem dX2_limbOfAmount_34 : decode cX2_limbOfAmount 34 = .ok (.lushr, 1) := by decide +kernel
theorem dX2_limbOfAmount_35 : decode cX2_limbOfAmount 35 = .ok (.lreturn, 1) := by decide +kernel
theorem dX2_lowOfAmount_0 : decode cX2_lowOfAmount 0 = .ok (.aload_n 0, 1) := by decide +kernel
theorem dX2_lowOfAmount_1 : decode cX2_lowOfAmount 1 = .ok (.getfield 17, 3) := by decide +kernel
theorem dX2_lowOfAmount_4 : decode cX2_lowOfAmount 4 = .ok (.lconst 0, 1) := by decide +kernel
theorem dX2_lowOfAmount_5 : decode cX2_lowOfAmount 5 = .ok (.lcmp, 1) := by decide +kernel
theorem dX2_lowOfAmount_6 : decode cX2_lowOfAmount 6 = .ok (.ifCond .ge 11, 3) := by decide +kernel
theorem dX2_lowOfAmount_9 : decode cX2_lowOfAmount 9 = .ok (.aload_n 0, 1) := by decide +kernel
theorem dX2_lowOfAmount_10 : decode cX2_lowOfAmount 10 = .ok (.getfield 9, 3) := by decide +kernel
theorem dX2_lowOfAmount_13 : decode cX2_lowOfAmount 13 = .ok (.lneg, 1) := by decide +kernel
theorem dX2_lowOfAmount_14 : decode cX2_lowOfAmount 14 = .ok (.goto 7, 3) := by decide +kernel
theorem dX2_lowOfAmount_17 : decode cX2_lowOfAmount 17 = .ok (.aload_n 0, 1) := by decide +kernel
theorem dX2_lowOfAmount_18 : decode cX2_lowOfAmount 18 = .ok (.getfield 9, 3) := by decide +kernel
theorem dX2_lowOfAmount_21 : decode cX2_lowOfAmount 21 = .ok (.lreturn, 1) := by decide +kernel
theorem dX2_highOfAmount_0 : decode cX2_highOfAmount 0 = .ok (.aload_n 0, 1) := by decide +kernel
theorem dX2_highOfAmount_1 : decode cX2_highOfAmount 1 = .ok (.getfield 17, 3) := by decide +kernel
theorem dX2_highOfAmount_4 : decode cX2_highOfAmount 4 = .ok (.lconst 0, 1) := by decide +kernel
theorem dX2_highOfAmount_5 : decode cX2_highOfAmount 5 = .ok (.lcmp, 1) := by decide +kernel
theorem dX2_highOfAmount_6 : decode cX2_highOfAmount 6 = .ok (.ifCond .lt 8, 3) := by decide +kernel
theorem dX2_highOfAmount_9 : decode cX2_highOfAmount 9 = .ok (.aload_n 0, 1) := by decide +kernel
theorem dX2_highOfAmount_10 : decode cX2_highOfAmount 10 = .ok (.getfield 17, 3) := by decide +kernel
theorem dX2_highOfAmount_13 : decode cX2_highOfAmount 13 = .ok (.lreturn, 1) := by decide +kernel
theorem dX2_highOfAmount_14 : decode cX2_highOfAmount 14 = .ok (.aload_n 0, 1) := by decide +kernel
theorem dX2_highOfAmount_15 : decode cX2_highOfAmount 15 = .ok (.getfield 9, 3) := by decide +kernel
theorem dX2_highOfAmount_18 : decode cX2_highOfAmount 18 = .ok (.lconst 0, 1) := by decide +kernel
theorem dX2_highOfAmount_19 : decode cX2_highOfAmount 19 = .ok (.lcmp, 1) := by decide +kernel
theorem dX2_highOfAmount_20 : decode cX2_highOfAmount 20 = .ok (.ifCond .ne 11, 3) := by decide +kernel
theorem dX2_highOfAmount_23 : decode cX2_highOfAmount 23 = .ok (.aload_n 0, 1) := by decide +kernel
theorem dX2_highOfAmount_24 : decode cX2_highOfAmount 24 = .ok (.getfield 17, 3) := by decide +kernel
theorem dX2_highOfAmount_27 : decode cX2_highOfAmount 27 = .ok (.lneg, 1) := by decide +kernel
theorem dX2_highOfAmount_28 : decode cX2_highOfAmount 28 = .ok (.goto 11, 3) := by decide +kernel
theorem dX2_highOfAmount_31 : decode cX2_highOfAmount 31 = .ok (.aload_n 0, 1) := by decide +kernel
theorem dX2_highOfAmount_32 : decode cX2_highOfAmount 32 = .ok (.getfield 17, 3) := by decide +kernel
theorem dX2_highOfAmount_35 : decode cX2_highOfAmount 35 = .ok (.ldc2_w 15, 3) := by decide +kernel
theorem dX2_highOfAmount_38 : decode cX2_highOfAmount 38 = .ok (.lxor, 1) := by decide +kernel
theorem dX2_highOfAmount_39 : decode cX2_highOfAmount 39 = .ok (.lreturn, 1) := by decide +kernel
theorem dX2_isBelowUnsigned_0 : decode cX2_isBelowUnsigned 0 = .ok (.lload_n 0, 1) := by decide +kernel
theorem dX2_isBelowUnsigned_1 : decode cX2_isBelowUnsigned 1 = .ok (.ldc2_w 59, 3) := by decide +kernel
theorem dX2_isBelowUnsigned_4 : decode cX2_isBelowUnsigned 4 = .ok (.lxor, 1) := by decide +kernel
theorem dX2_isBelowUnsigned_5 : decode cX2_isBelowUnsigned 5 = .ok (.lload_n 2, 1) := by decide +kernel
theorem dX2_isBelowUnsigned_6 : decode cX2_isBelowUnsigned 6 = .ok (.ldc2_w 59, 3) := by decide +kernel
theorem dX2_isBelowUnsigned_9 : decode cX2_isBelowUnsigned 9 = .ok (.lxor, 1) := by decide +kernel
theorem dX2_isBelowUnsigned_10 : decode cX2_isBelowUnsigned 10 = .ok (.lcmp, 1) := by decide +kernel
theorem dX2_isBelowUnsigned_11 : decode cX2_isBelowUnsigned 11 = .ok (.ifCond .ge 7, 3) := by decide +kernel
theorem dX2_isBelowUnsigned_14 : decode cX2_isBelowUnsigned 14 = .ok (.iconst 1, 1) := by decide +kernel
theorem dX2_isBelowUnsigned_15 : decode cX2_isBelowUnsigned 15 = .ok (.goto 4, 3) := by decide +kernel
theorem dX2_isBelowUnsigned_18 : decode cX2_isBelowUnsigned 18 = .ok (.iconst 0, 1) := by decide +kernel
theorem dX2_isBelowUnsigned_19 : decode cX2_isBelowUnsigned 19 = .ok (.ireturn, 1) := by decide +kernel
theorem dX2_highOfProduct_0 : decode cX2_highOfProduct 0 = .ok (.lload_n 0, 1) := by decide +kernel
theorem dX2_highOfProduct_1 : decode cX2_highOfProduct 1 = .ok (.ldc2_w 57, 3) := by decide +kernel
theorem dX2_highOfProduct_4 : decode cX2_highOfProduct 4 = .ok (.land, 1) := by decide +kernel
theorem dX2_highOfProduct_5 : decode cX2_highOfProduct 5 = .ok (.lstore 4, 2) := by decide +kernel
theorem dX2_highOfProduct_7 : decode cX2_highOfProduct 7 = .ok (.lload_n 0, 1) := by decide +kernel
theorem dX2_highOfProduct_8 : decode cX2_highOfProduct 8 = .ok (.bipush 32, 2) := by decide +kernel
theorem dX2_highOfProduct_10 : decode cX2_highOfProduct 10 = .ok (.lshr, 1) := by decide +kernel
theorem dX2_highOfProduct_11 : decode cX2_highOfProduct 11 = .ok (.lstore 6, 2) := by decide +kernel
theorem dX2_highOfProduct_13 : decode cX2_highOfProduct 13 = .ok (.lload_n 2, 1) := by decide +kernel
theorem dX2_highOfProduct_14 : decode cX2_highOfProduct 14 = .ok (.ldc2_w 57, 3) := by decide +kernel
theorem dX2_highOfProduct_17 : decode cX2_highOfProduct 17 = .ok (.land, 1) := by decide +kernel
theorem dX2_highOfProduct_18 : decode cX2_highOfProduct 18 = .ok (.lstore 8, 2) := by decide +kernel
theorem dX2_highOfProduct_20 : decode cX2_highOfProduct 20 = .ok (.lload_n 2, 1) := by decide +kernel
theorem dX2_highOfProduct_21 : decode cX2_highOfProduct 21 = .ok (.bipush 32, 2) := by decide +kernel
theorem dX2_highOfProduct_23 : decode cX2_highOfProduct 23 = .ok (.lshr, 1) := by decide +kernel
theorem dX2_highOfProduct_24 : decode cX2_highOfProduct 24 = .ok (.lstore 10, 2) := by decide +kernel
theorem dX2_highOfProduct_26 : decode cX2_highOfProduct 26 = .ok (.lload 6, 2) := by decide +kernel
theorem dX2_highOfProduct_28 : decode cX2_highOfProduct 28 = .ok (.lload 8, 2) := by decide +kernel
theorem dX2_highOfProduct_30 : decode cX2_highOfProduct 30 = .ok (.lmul, 1) := by decide +kernel
theorem dX2_highOfProduct_31 : decode cX2_highOfProduct 31 = .ok (.lload 4, 2) := by decide +kernel
theorem dX2_highOfProduct_33 : decode cX2_highOfProduct 33 = .ok (.lload 8, 2) := by decide +kernel
theorem dX2_highOfProduct_35 : decode cX2_highOfProduct 35 = .ok (.lmul, 1) := by decide +kernel
theorem dX2_highOfProduct_36 : decode cX2_highOfProduct 36 = .ok (.bipush 32, 2) := by decide +kernel
theorem dX2_highOfProduct_38 : decode cX2_highOfProduct 38 = .ok (.lushr, 1) := by decide +kernel
theorem dX2_highOfProduct_39 : decode cX2_highOfProduct 39 = .ok (.ladd, 1) := by decide +kernel
theorem dX2_highOfProduct_40 : decode cX2_highOfProduct 40 = .ok (.lstore 12, 2) := by decide +kernel
theorem dX2_highOfProduct_42 : decode cX2_highOfProduct 42 = .ok (.lload 4, 2) := by decide +kernel
theorem dX2_highOfProduct_44 : decode cX2_highOfProduct 44 = .ok (.lload 10, 2) := by decide +kernel
theorem dX2_highOfProduct_46 : decode cX2_highOfProduct 46 = .ok (.lmul, 1) := by decide +kernel
theorem dX2_highOfProduct_47 : decode cX2_highOfProduct 47 = .ok (.lload 12, 2) := by decide +kernel
theorem dX2_highOfProduct_49 : decode cX2_highOfProduct 49 = .ok (.ldc2_w 57, 3) := by decide +kernel
theorem dX2_highOfProduct_52 : decode cX2_highOfProduct 52 = .ok (.land, 1) := by decide +kernel
theorem dX2_highOfProduct_53 : decode cX2_highOfProduct 53 = .ok (.ladd, 1) := by decide +kernel
theorem dX2_highOfProduct_54 : decode cX2_highOfProduct 54 = .ok (.lstore 14, 2) := by decide +kernel
theorem dX2_highOfProduct_56 : decode cX2_highOfProduct 56 = .ok (.lload 6, 2) := by decide +kernel
theorem dX2_highOfProduct_58 : decode cX2_highOfProduct 58 = .ok (.lload 10, 2) := by decide +kernel
theorem dX2_highOfProduct_60 : decode cX2_highOfProduct 60 = .ok (.lmul, 1) := by decide +kernel
theorem dX2_highOfProduct_61 : decode cX2_highOfProduct 61 = .ok (.lload 12, 2) := by decide +kernel
theorem dX2_highOfProduct_63 : decode cX2_highOfProduct 63 = .ok (.bipush 32, 2) := by decide +kernel
theorem dX2_highOfProduct_65 : decode cX2_highOfProduct 65 = .ok (.lshr, 1) := by decide +kernel
theorem dX2_highOfProduct_66 : decode cX2_highOfProduct 66 = .ok (.ladd, 1) := by decide +kernel
theorem dX2_highOfProduct_67 : decode cX2_highOfProduct 67 = .ok (.lload 14, 2) := by decide +kernel
theorem dX2_highOfProduct_69 : decode cX2_highOfProduct 69 = .ok (.bipush 32, 2) := by decide +kernel
theorem dX2_highOfProduct_71 : decode cX2_highOfProduct 71 = .ok (.lshr, 1) := by decide +kernel
theorem dX2_highOfProduct_72 : decode cX2_highOfProduct 72 = .ok (.ladd, 1) := by decide +kernel
theorem dX2_highOfProduct_73 : decode cX2_highOfProduct 73 = .ok (.lreturn, 1) := by decide +kernel
