theorem dL_exact_0 : decode cL_exact 0 = .ok (.aload 4, 2) := by decide +kernel
theorem dL_exact_2 : decode cL_exact 2 = .ok (.iconst 0, 1) := by decide +kernel
theorem dL_exact_3 : decode cL_exact 3 = .ok (.aload_n 0, 1) := by decide +kernel
theorem dL_exact_4 : decode cL_exact 4 = .ok (.iload_n 1, 1) := by decide +kernel
theorem dL_exact_5 : decode cL_exact 5 = .ok (.iload_n 2, 1) := by decide +kernel
theorem dL_exact_6 : decode cL_exact 6 = .ok (.iload_n 3, 1) := by decide +kernel
theorem dL_exact_7 : decode cL_exact 7 = .ok (.invokevirtual 7, 3) := by decide +kernel
theorem dL_exact_10 : decode cL_exact 10 = .ok (.lastore, 1) := by decide +kernel
theorem dL_exact_11 : decode cL_exact 11 = .ok (.goto 7, 3) := by decide +kernel
theorem dL_exact_14 : decode cL_exact 14 = .ok (.astore 5, 2) := by decide +kernel
theorem dL_exact_16 : decode cL_exact 16 = .ok (.iconst 1, 1) := by decide +kernel
theorem dL_exact_17 : decode cL_exact 17 = .ok (.ireturn, 1) := by decide +kernel
theorem dL_exact_18 : decode cL_exact 18 = .ok (.iconst 0, 1) := by decide +kernel
theorem dL_exact_19 : decode cL_exact 19 = .ok (.ireturn, 1) := by decide +kernel
theorem dL_area2_0 : decode cL_area2 0 = .ok (.aload_n 2, 1) := by decide +kernel
theorem dL_area2_1 : decode cL_area2 1 = .ok (.iconst 0, 1) := by decide +kernel
theorem dL_area2_2 : decode cL_area2 2 = .ok (.aload_n 0, 1) := by decide +kernel
theorem dL_area2_3 : decode cL_area2 3 = .ok (.iload_n 1, 1) := by decide +kernel
theorem dL_area2_4 : decode cL_area2 4 = .ok (.invokevirtual 15, 3) := by decide +kernel
theorem dL_area2_7 : decode cL_area2 7 = .ok (.lastore, 1) := by decide +kernel
theorem dL_area2_8 : decode cL_area2 8 = .ok (.goto 6, 3) := by decide +kernel
theorem dL_area2_11 : decode cL_area2 11 = .ok (.astore_n 3, 1) := by decide +kernel
theorem dL_area2_12 : decode cL_area2 12 = .ok (.iconst 1, 1) := by decide +kernel
theorem dL_area2_13 : decode cL_area2 13 = .ok (.ireturn, 1) := by decide +kernel
theorem dL_area2_14 : decode cL_area2 14 = .ok (.iconst 0, 1) := by decide +kernel
theorem dL_area2_15 : decode cL_area2 15 = .ok (.ireturn, 1) := by decide +kernel
theorem dL_over_0 : decode cL_over 0 = .ok (.aload 6, 2) := by decide +kernel
theorem dL_over_2 : decode cL_over 2 = .ok (.iconst 0, 1) := by decide +kernel
theorem dL_over_3 : decode cL_over 3 = .ok (.aload_n 0, 1) := by decide +kernel
theorem dL_over_4 : decode cL_over 4 = .ok (.lload_n 1, 1) := by decide +kernel
theorem dL_over_5 : decode cL_over 5 = .ok (.lload_n 3, 1) := by decide +kernel
theorem dL_over_6 : decode cL_over 6 = .ok (.iload 5, 2) := by decide +kernel
theorem dL_over_8 : decode cL_over 8 = .ok (.invokevirtual 19, 3) := by decide +kernel
theorem dL_over_11 : decode cL_over 11 = .ok (.lastore, 1) := by decide +kernel
theorem dL_over_12 : decode cL_over 12 = .ok (.goto 7, 3) := by decide +kernel
theorem dL_over_15 : decode cL_over 15 = .ok (.astore 7, 2) := by decide +kernel
theorem dL_over_17 : decode cL_over 17 = .ok (.iconst 1, 1) := by decide +kernel
theorem dL_over_18 : decode cL_over 18 = .ok (.ireturn, 1) := by decide +kernel
theorem dL_over_19 : decode cL_over 19 = .ok (.iconst 0, 1) := by decide +kernel
theorem dL_over_20 : decode cL_over 20 = .ok (.ireturn, 1) := by decide +kernel
theorem dL_product_0 : decode cL_product 0 = .ok (.aload 6, 2) := by decide +kernel
theorem dL_product_2 : decode cL_product 2 = .ok (.iconst 0, 1) := by decide +kernel
theorem dL_product_3 : decode cL_product 3 = .ok (.aload_n 0, 1) := by decide +kernel
theorem dL_product_4 : decode cL_product 4 = .ok (.lload_n 1, 1) := by decide +kernel
theorem dL_product_5 : decode cL_product 5 = .ok (.lload_n 3, 1) := by decide +kernel
theorem dL_product_6 : decode cL_product 6 = .ok (.iload 5, 2) := by decide +kernel
theorem dL_product_8 : decode cL_product 8 = .ok (.invokevirtual 25, 3) := by decide +kernel
theorem dL_product_11 : decode cL_product 11 = .ok (.lastore, 1) := by decide +kernel
theorem dL_product_12 : decode cL_product 12 = .ok (.goto 7, 3) := by decide +kernel
theorem dL_product_15 : decode cL_product 15 = .ok (.astore 7, 2) := by decide +kernel
theorem dL_product_17 : decode cL_product 17 = .ok (.iconst 1, 1) := by decide +kernel
theorem dL_product_18 : decode cL_product 18 = .ok (.ireturn, 1) := by decide +kernel
theorem dL_product_19 : decode cL_product 19 = .ok (.iconst 0, 1) := by decide +kernel
theorem dL_product_20 : decode cL_product 20 = .ok (.ireturn, 1) := by decide +kernel
theorem dL_ratio_0 : decode cL_ratio 0 = .ok (.aload 8, 2) := by decide +kernel
theorem dL_ratio_2 : decode cL_ratio 2 = .ok (.iconst 0, 1) := by decide +kernel
theorem dL_ratio_3 : decode cL_ratio 3 = .ok (.aload_n 0, 1) := by decide +kernel
theorem dL_ratio_4 : decode cL_ratio 4 = .ok (.lload_n 1, 1) := by decide +kernel
theorem dL_ratio_5 : decode cL_ratio 5 = .ok (.lload_n 3, 1) := by decide +kernel
theorem dL_ratio_6 : decode cL_ratio 6 = .ok (.lload 5, 2) := by decide +kernel
theorem dL_ratio_8 : decode cL_ratio 8 = .ok (.iload 7, 2) := by decide +kernel
theorem dL_ratio_10 : decode cL_ratio 10 = .ok (.invokevirtual 28, 3) := by decide +kernel
theorem dL_ratio_13 : decode cL_ratio 13 = .ok (.lastore, 1) := by decide +kernel
theorem dL_ratio_14 : decode cL_ratio 14 = .ok (.goto 7, 3) := by decide +kernel
theorem dL_ratio_17 : decode cL_ratio 17 = .ok (.astore 9, 2) := by decide +kernel
theorem dL_ratio_19 : decode cL_ratio 19 = .ok (.iconst 1, 1) := by decide +kernel
theorem dL_ratio_20 : decode cL_ratio 20 = .ok (.ireturn, 1) := by decide +kernel
theorem dL_ratio_21 : decode cL_ratio 21 = .ok (.iconst 0, 1) := by decide +kernel
theorem dL_ratio_22 : decode cL_ratio 22 = .ok (.ireturn, 1) := by decide +kernel
theorem dL_share_0 : decode cL_share 0 = .ok (.aload 5, 2) := by decide +kernel
theorem dL_share_2 : decode cL_share 2 = .ok (.iconst 0, 1) := by decide +kernel
theorem dL_share_3 : decode cL_share 3 = .ok (.aload_n 0, 1) := by decide +kernel
theorem dL_share_4 : decode cL_share 4 = .ok (.lload_n 1, 1) := by decide +kernel
theorem dL_share_5 : decode cL_share 5 = .ok (.iload_n 3, 1) := by decide +kernel
theorem dL_share_6 : decode cL_share 6 = .ok (.iload 4, 2) := by decide +kernel
theorem dL_share_8 : decode cL_share 8 = .ok (.invokevirtual 32, 3) := by decide +kernel
theorem dL_share_11 : decode cL_share 11 = .ok (.lastore, 1) := by decide +kernel
theorem dL_share_12 : decode cL_share 12 = .ok (.goto 7, 3) := by decide +kernel
theorem dL_share_15 : decode cL_share 15 = .ok (.astore 6, 2) := by decide +kernel
theorem dL_share_17 : decode cL_share 17 = .ok (.iconst 1, 1) := by decide +kernel
theorem dL_share_18 : decode cL_share 18 = .ok (.ireturn, 1) := by decide +kernel
theorem dL_share_19 : decode cL_share 19 = .ok (.iconst 0, 1) := by decide +kernel
theorem dL_share_20 : decode cL_share 20 = .ok (.ireturn, 1) := by decide +kernel
theorem dL_digit_0 : decode cL_digit 0 = .ok (.aload 5, 2) := by decide +kernel
theorem dL_digit_2 : decode cL_digit 2 = .ok (.iconst 0, 1) := by decide +kernel
theorem dL_digit_3 : decode cL_digit 3 = .ok (.aload_n 0, 1) := by decide +kernel
theorem dL_digit_4 : decode cL_digit 4 = .ok (.lload_n 1, 1) := by decide +kernel
theorem dL_digit_5 : decode cL_digit 5 = .ok (.iload_n 3, 1) := by decide +kernel
theorem dL_digit_6 : decode cL_digit 6 = .ok (.iload 4, 2) := by decide +kernel
theorem dL_digit_8 : decode cL_digit 8 = .ok (.invokevirtual 36, 3) := by decide +kernel
theorem dL_digit_11 : decode cL_digit 11 = .ok (.i2l, 1) := by decide +kernel
theorem dL_digit_12 : decode cL_digit 12 = .ok (.lastore, 1) := by decide +kernel
theorem dL_digit_13 : decode cL_digit 13 = .ok (.goto 7, 3) := by decide +kernel
theorem dL_digit_16 : decode cL_digit 16 = .ok (.astore 6, 2) := by decide +kernel
theorem dL_digit_18 : decode cL_digit 18 = .ok (.iconst 1, 1) := by decide +kernel
theorem dL_digit_19 : decode cL_digit 19 = .ok (.ireturn, 1) := by decide +kernel
theorem dL_digit_20 : decode cL_digit 20 = .ok (.iconst 0, 1) := by decide +kernel
theorem dL_digit_21 : decode cL_digit 21 = .ok (.ireturn, 1) := by decide +kernel
