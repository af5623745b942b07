theorem dX4_init_0 : decode cX4_init 0 = .ok (.aload_n 0, 1) := by decide +kernel
theorem dX4_init_1 : decode cX4_init 1 = .ok (.invokespecial 1, 3) := by decide +kernel
theorem dX4_init_4 : decode cX4_init 4 = .ok (.aload_n 0, 1) := by decide +kernel
theorem dX4_init_5 : decode cX4_init 5 = .ok (.bipush 96, 2) := by decide +kernel
theorem dX4_init_7 : decode cX4_init 7 = .ok (.newarray .long, 2) := by decide +kernel
theorem dX4_init_9 : decode cX4_init 9 = .ok (.putfield 7, 3) := by decide +kernel
theorem dX4_init_12 : decode cX4_init 12 = .ok (.aload_n 0, 1) := by decide +kernel
theorem dX4_init_13 : decode cX4_init 13 = .ok (.bipush 16, 2) := by decide +kernel
theorem dX4_init_15 : decode cX4_init 15 = .ok (.newarray .int, 2) := by decide +kernel
theorem dX4_init_17 : decode cX4_init 17 = .ok (.putfield 13, 3) := by decide +kernel
theorem dX4_init_20 : decode cX4_init 20 = .ok (.aload_n 0, 1) := by decide +kernel
theorem dX4_init_21 : decode cX4_init 21 = .ok (.bipush 12, 2) := by decide +kernel
theorem dX4_init_23 : decode cX4_init 23 = .ok (.newarray .long, 2) := by decide +kernel
theorem dX4_init_25 : decode cX4_init 25 = .ok (.putfield 17, 3) := by decide +kernel
theorem dX4_init_28 : decode cX4_init 28 = .ok (.aload_n 0, 1) := by decide +kernel
theorem dX4_init_29 : decode cX4_init 29 = .ok (.bipush 16, 2) := by decide +kernel
theorem dX4_init_31 : decode cX4_init 31 = .ok (.newarray .boolean, 2) := by decide +kernel
theorem dX4_init_33 : decode cX4_init 33 = .ok (.putfield 20, 3) := by decide +kernel
theorem dX4_init_36 : decode cX4_init 36 = .ok (.aload_n 0, 1) := by decide +kernel
theorem dX4_init_37 : decode cX4_init 37 = .ok (.bipush 16, 2) := by decide +kernel
theorem dX4_init_39 : decode cX4_init 39 = .ok (.newarray .long, 2) := by decide +kernel
theorem dX4_init_41 : decode cX4_init 41 = .ok (.putfield 24, 3) := by decide +kernel
theorem dX4_init_44 : decode cX4_init 44 = .ok (.aload_n 0, 1) := by decide +kernel
theorem dX4_init_45 : decode cX4_init 45 = .ok (.bipush 16, 2) := by decide +kernel
theorem dX4_init_47 : decode cX4_init 47 = .ok (.newarray .long, 2) := by decide +kernel
theorem dX4_init_49 : decode cX4_init 49 = .ok (.putfield 27, 3) := by decide +kernel
theorem dX4_init_52 : decode cX4_init 52 = .ok (.aload_n 0, 1) := by decide +kernel
theorem dX4_init_53 : decode cX4_init 53 = .ok (.bipush 16, 2) := by decide +kernel
theorem dX4_init_55 : decode cX4_init 55 = .ok (.newarray .long, 2) := by decide +kernel
theorem dX4_init_57 : decode cX4_init 57 = .ok (.putfield 30, 3) := by decide +kernel
theorem dX4_init_60 : decode cX4_init 60 = .ok (.aload_n 0, 1) := by decide +kernel
theorem dX4_init_61 : decode cX4_init 61 = .ok (.bipush 16, 2) := by decide +kernel
theorem dX4_init_63 : decode cX4_init 63 = .ok (.newarray .long, 2) := by decide +kernel
theorem dX4_init_65 : decode cX4_init 65 = .ok (.putfield 33, 3) := by decide +kernel
theorem dX4_init_68 : decode cX4_init 68 = .ok (.aload_n 0, 1) := by decide +kernel
theorem dX4_init_69 : decode cX4_init 69 = .ok (.bipush 64, 2) := by decide +kernel
theorem dX4_init_71 : decode cX4_init 71 = .ok (.newarray .long, 2) := by decide +kernel
theorem dX4_init_73 : decode cX4_init 73 = .ok (.putfield 36, 3) := by decide +kernel
theorem dX4_init_76 : decode cX4_init 76 = .ok (.aload_n 0, 1) := by decide +kernel
theorem dX4_init_77 : decode cX4_init 77 = .ok (.bipush 64, 2) := by decide +kernel
theorem dX4_init_79 : decode cX4_init 79 = .ok (.newarray .long, 2) := by decide +kernel
theorem dX4_init_81 : decode cX4_init 81 = .ok (.putfield 39, 3) := by decide +kernel
theorem dX4_init_84 : decode cX4_init 84 = .ok (.return_, 1) := by decide +kernel
theorem dX4_thrown_0 : decode cX4_thrown 0 = .ok (.aload_n 0, 1) := by decide +kernel
theorem dX4_thrown_1 : decode cX4_thrown 1 = .ok (.getfield 42, 3) := by decide +kernel
theorem dX4_thrown_4 : decode cX4_thrown 4 = .ok (.ireturn, 1) := by decide +kernel
theorem dX4_put_0 : decode cX4_put 0 = .ok (.lload_n 2, 1) := by decide +kernel
theorem dX4_put_1 : decode cX4_put 1 = .ok (.lconst 0, 1) := by decide +kernel
theorem dX4_put_2 : decode cX4_put 2 = .ok (.lcmp, 1) := by decide +kernel
theorem dX4_put_3 : decode cX4_put 3 = .ok (.ifCond .ge 8, 3) := by decide +kernel
theorem dX4_put_6 : decode cX4_put 6 = .ok (.lload_n 2, 1) := by decide +kernel
theorem dX4_put_7 : decode cX4_put 7 = .ok (.lneg, 1) := by decide +kernel
theorem dX4_put_8 : decode cX4_put 8 = .ok (.goto 4, 3) := by decide +kernel
theorem dX4_put_11 : decode cX4_put 11 = .ok (.lload_n 2, 1) := by decide +kernel
theorem dX4_put_12 : decode cX4_put 12 = .ok (.lstore 4, 2) := by decide +kernel
theorem dX4_put_14 : decode cX4_put 14 = .ok (.iconst 2, 1) := by decide +kernel
theorem dX4_put_15 : decode cX4_put 15 = .ok (.istore 6, 2) := by decide +kernel
theorem dX4_put_17 : decode cX4_put 17 = .ok (.iload 6, 2) := by decide +kernel
theorem dX4_put_19 : decode cX4_put 19 = .ok (.bipush 6, 2) := by decide +kernel
theorem dX4_put_21 : decode cX4_put 21 = .ok (.if_icmp .ge 22, 3) := by decide +kernel
theorem dX4_put_24 : decode cX4_put 24 = .ok (.aload_n 0, 1) := by decide +kernel
theorem dX4_put_25 : decode cX4_put 25 = .ok (.getfield 7, 3) := by decide +kernel
theorem dX4_put_28 : decode cX4_put 28 = .ok (.bipush 6, 2) := by decide +kernel
theorem dX4_put_30 : decode cX4_put 30 = .ok (.iload_n 1, 1) := by decide +kernel
theorem dX4_put_31 : decode cX4_put 31 = .ok (.imul, 1) := by decide +kernel
theorem dX4_put_32 : decode cX4_put 32 = .ok (.iload 6, 2) := by decide +kernel
theorem dX4_put_34 : decode cX4_put 34 = .ok (.iadd, 1) := by decide +kernel
theorem dX4_put_35 : decode cX4_put 35 = .ok (.lconst 0, 1) := by decide +kernel
theorem dX4_put_36 : decode cX4_put 36 = .ok (.lastore, 1) := by decide +kernel
theorem dX4_put_37 : decode cX4_put 37 = .ok (.iinc 6 1, 3) := by decide +kernel
theorem dX4_put_40 : decode cX4_put 40 = .ok (.goto (-23), 3) := by decide +kernel
theorem dX4_put_43 : decode cX4_put 43 = .ok (.aload_n 0, 1) := by decide +kernel
theorem dX4_put_44 : decode cX4_put 44 = .ok (.getfield 7, 3) := by decide +kernel
theorem dX4_put_47 : decode cX4_put 47 = .ok (.bipush 6, 2) := by decide +kernel
theorem dX4_put_49 : decode cX4_put 49 = .ok (.iload_n 1, 1) := by decide +kernel
theorem dX4_put_50 : decode cX4_put 50 = .ok (.imul, 1) := by decide +kernel
theorem dX4_put_51 : decode cX4_put 51 = .ok (.lload 4, 2) := by decide +kernel
theorem dX4_put_53 : decode cX4_put 53 = .ok (.ldc2_w 46, 3) := by decide +kernel
theorem dX4_put_56 : decode cX4_put 56 = .ok (.land, 1) := by decide +kernel
theorem dX4_put_57 : decode cX4_put 57 = .ok (.lastore, 1) := by decide +kernel
theorem dX4_put_58 : decode cX4_put 58 = .ok (.aload_n 0, 1) := by decide +kernel
theorem dX4_put_59 : decode cX4_put 59 = .ok (.getfield 7, 3) := by decide +kernel
theorem dX4_put_62 : decode cX4_put 62 = .ok (.bipush 6, 2) := by decide +kernel
theorem dX4_put_64 : decode cX4_put 64 = .ok (.iload_n 1, 1) := by decide +kernel
theorem dX4_put_65 : decode cX4_put 65 = .ok (.imul, 1) := by decide +kernel
theorem dX4_put_66 : decode cX4_put 66 = .ok (.iconst 1, 1) := by decide +kernel
theorem dX4_put_67 : decode cX4_put 67 = .ok (.iadd, 1) := by decide +kernel
theorem dX4_put_68 : decode cX4_put 68 = .ok (.lload 4, 2) := by decide +kernel
theorem dX4_put_70 : decode cX4_put 70 = .ok (.bipush 32, 2) := by decide +kernel
theorem dX4_put_72 : decode cX4_put 72 = .ok (.lushr, 1) := by decide +kernel
theorem dX4_put_73 : decode cX4_put 73 = .ok (.lastore, 1) := by decide +kernel
theorem dX4_put_74 : decode cX4_put 74 = .ok (.aload_n 0, 1) := by decide +kernel
theorem dX4_put_75 : decode cX4_put 75 = .ok (.getfield 13, 3) := by decide +kernel
theorem dX4_put_78 : decode cX4_put 78 = .ok (.iload_n 1, 1) := by decide +kernel
theorem dX4_put_79 : decode cX4_put 79 = .ok (.lload_n 2, 1) := by decide +kernel
theorem dX4_put_80 : decode cX4_put 80 = .ok (.lconst 0, 1) := by decide +kernel
theorem dX4_put_81 : decode cX4_put 81 = .ok (.lcmp, 1) := by decide +kernel
theorem dX4_put_82 : decode cX4_put 82 = .ok (.ifCond .ge 7, 3) := by decide +kernel
theorem dX4_put_85 : decode cX4_put 85 = .ok (.iconst (-1), 1) := by decide +kernel
theorem dX4_put_86 : decode cX4_put 86 = .ok (.goto 14, 3) := by decide +kernel
theorem dX4_put_89 : decode cX4_put 89 = .ok (.lload_n 2, 1) := by decide +kernel
theorem dX4_put_90 : decode cX4_put 90 = .ok (.lconst 0, 1) := by decide +kernel
theorem dX4_put_91 : decode cX4_put 91 = .ok (.lcmp, 1) := by decide +kernel
theorem dX4_put_92 : decode cX4_put 92 = .ok (.ifCond .le 7, 3) := by decide +kernel
theorem dX4_put_95 : decode cX4_put 95 = .ok (.iconst 1, 1) := by decide +kernel
theorem dX4_put_96 : decode cX4_put 96 = .ok (.goto 4, 3) := by decide +kernel
theorem dX4_put_99 : decode cX4_put 99 = .ok (.iconst 0, 1) := by decide +kernel
theorem dX4_put_100 : decode cX4_put 100 = .ok (.iastore, 1) := by decide +kernel
theorem dX4_put_101 : decode cX4_put 101 = .ok (.return_, 1) := by decide +kernel
theorem dX4_copy_0 : decode cX4_copy 0 = .ok (.iconst 0, 1) := by decide +kernel
theorem dX4_copy_1 : decode cX4_copy 1 = .ok (.istore_n 3, 1) := by decide +kernel
theorem dX4_copy_2 : decode cX4_copy 2 = .ok (.iload_n 3, 1) := by decide +kernel
theorem dX4_copy_3 : decode cX4_copy 3 = .ok (.bipush 6, 2) := by decide +kernel
theorem dX4_copy_5 : decode cX4_copy 5 = .ok (.if_icmp .ge 31, 3) := by decide +kernel
theorem dX4_copy_8 : decode cX4_copy 8 = .ok (.aload_n 0, 1) := by decide +kernel
theorem dX4_copy_9 : decode cX4_copy 9 = .ok (.getfield 7, 3) := by decide +kernel
theorem dX4_copy_12 : decode cX4_copy 12 = .ok (.bipush 6, 2) := by decide +kernel
theorem dX4_copy_14 : decode cX4_copy 14 = .ok (.iload_n 1, 1) := by decide +kernel
theorem dX4_copy_15 : decode cX4_copy 15 = .ok (.imul, 1) := by decide +kernel
theorem dX4_copy_16 : decode cX4_copy 16 = .ok (.iload_n 3, 1) := by decide +kernel
theorem dX4_copy_17 : decode cX4_copy 17 = .ok (.iadd, 1) := by decide +kernel
theorem dX4_copy_18 : decode cX4_copy 18 = .ok (.aload_n 0, 1) := by decide +kernel
theorem dX4_copy_19 : decode cX4_copy 19 = .ok (.getfield 7, 3) := by decide +kernel
theorem dX4_copy_22 : decode cX4_copy 22 = .ok (.bipush 6, 2) := by decide +kernel
theorem dX4_copy_24 : decode cX4_copy 24 = .ok (.iload_n 2, 1) := by decide +kernel
theorem dX4_copy_25 : decode cX4_copy 25 = .ok (.imul, 1) := by decide +kernel
theorem dX4_copy_26 : decode cX4_copy 26 = .ok (.iload_n 3, 1) := by decide +kernel
theorem dX4_copy_27 : decode cX4_copy 27 = .ok (.iadd, 1) := by decide +kernel
theorem dX4_copy_28 : decode cX4_copy 28 = .ok (.laload, 1) := by decide +kernel
theorem dX4_copy_29 : decode cX4_copy 29 = .ok (.lastore, 1) := by decide +kernel
theorem dX4_copy_30 : decode cX4_copy 30 = .ok (.iinc 3 1, 3) := by decide +kernel
theorem dX4_copy_33 : decode cX4_copy 33 = .ok (.goto (-31), 3) := by decide +kernel
theorem dX4_copy_36 : decode cX4_copy 36 = .ok (.aload_n 0, 1) := by decide +kernel
theorem dX4_copy_37 : decode cX4_copy 37 = .ok (.getfield 13, 3) := by decide +kernel
theorem dX4_copy_40 : decode cX4_copy 40 = .ok (.iload_n 1, 1) := by decide +kernel
theorem dX4_copy_41 : decode cX4_copy 41 = .ok (.aload_n 0, 1) := by decide +kernel
theorem dX4_copy_42 : decode cX4_copy 42 = .ok (.getfield 13, 3) := by decide +kernel
theorem dX4_copy_45 : decode cX4_copy 45 = .ok (.iload_n 2, 1) := by decide +kernel
theorem dX4_copy_46 : decode cX4_copy 46 = .ok (.iaload, 1) := by decide +kernel
theorem dX4_copy_47 : decode cX4_copy 47 = .ok (.iastore, 1) := by decide +kernel
theorem dX4_copy_48 : decode cX4_copy 48 = .ok (.return_, 1) := by decide +kernel
theorem dX4_compare_0 : decode cX4_compare 0 = .ok (.iconst 5, 1) := by decide +kernel
theorem dX4_compare_1 : decode cX4_compare 1 = .ok (.istore_n 3, 1) := by decide +kernel
theorem dX4_compare_2 : decode cX4_compare 2 = .ok (.iload_n 3, 1) := by decide +kernel
theorem dX4_compare_3 : decode cX4_compare 3 = .ok (.ifCond .lt 67, 3) := by decide +kernel
theorem dX4_compare_6 : decode cX4_compare 6 = .ok (.aload_n 0, 1) := by decide +kernel
theorem dX4_compare_7 : decode cX4_compare 7 = .ok (.getfield 7, 3) := by decide +kernel
theorem dX4_compare_10 : decode cX4_compare 10 = .ok (.bipush 6, 2) := by decide +kernel
theorem dX4_compare_12 : decode cX4_compare 12 = .ok (.iload_n 1, 1) := by decide +kernel
theorem dX4_compare_13 : decode cX4_compare 13 = .ok (.imul, 1) := by decide +kernel
theorem dX4_compare_14 : decode cX4_compare 14 = .ok (.iload_n 3, 1) := by decide +kernel
theorem dX4_compare_15 : decode cX4_compare 15 = .ok (.iadd, 1) := by decide +kernel
theorem dX4_compare_16 : decode cX4_compare 16 = .ok (.laload, 1) := by decide +kernel
theorem dX4_compare_17 : decode cX4_compare 17 = .ok (.aload_n 0, 1) := by decide +kernel
theorem dX4_compare_18 : decode cX4_compare 18 = .ok (.getfield 7, 3) := by decide +kernel
theorem dX4_compare_21 : decode cX4_compare 21 = .ok (.bipush 6, 2) := by decide +kernel
theorem dX4_compare_23 : decode cX4_compare 23 = .ok (.iload_n 2, 1) := by decide +kernel
theorem dX4_compare_24 : decode cX4_compare 24 = .ok (.imul, 1) := by decide +kernel
theorem dX4_compare_25 : decode cX4_compare 25 = .ok (.iload_n 3, 1) := by decide +kernel
theorem dX4_compare_26 : decode cX4_compare 26 = .ok (.iadd, 1) := by decide +kernel
theorem dX4_compare_27 : decode cX4_compare 27 = .ok (.laload, 1) := by decide +kernel
theorem dX4_compare_28 : decode cX4_compare 28 = .ok (.lcmp, 1) := by decide +kernel
theorem dX4_compare_29 : decode cX4_compare 29 = .ok (.ifCond .eq 35, 3) := by decide +kernel
theorem dX4_compare_32 : decode cX4_compare 32 = .ok (.aload_n 0, 1) := by decide +kernel
theorem dX4_compare_33 : decode cX4_compare 33 = .ok (.getfield 7, 3) := by decide +kernel
theorem dX4_compare_36 : decode cX4_compare 36 = .ok (.bipush 6, 2) := by decide +kernel
theorem dX4_compare_38 : decode cX4_compare 38 = .ok (.iload_n 1, 1) := by decide +kernel
theorem dX4_compare_39 : decode cX4_compare 39 = .ok (.imul, 1) := by decide +kernel
theorem dX4_compare_40 : decode cX4_compare 40 = .ok (.iload_n 3, 1) := by decide +kernel
theorem dX4_compare_41 : decode cX4_compare 41 = .ok (.iadd, 1) := by decide +kernel
theorem dX4_compare_42 : decode cX4_compare 42 = .ok (.laload, 1) := by decide +kernel
theorem dX4_compare_43 : decode cX4_compare 43 = .ok (.aload_n 0, 1) := by decide +kernel
theorem dX4_compare_44 : decode cX4_compare 44 = .ok (.getfield 7, 3) := by decide +kernel
theorem dX4_compare_47 : decode cX4_compare 47 = .ok (.bipush 6, 2) := by decide +kernel
theorem dX4_compare_49 : decode cX4_compare 49 = .ok (.iload_n 2, 1) := by decide +kernel
theorem dX4_compare_50 : decode cX4_compare 50 = .ok (.imul, 1) := by decide +kernel
theorem dX4_compare_51 : decode cX4_compare 51 = .ok (.iload_n 3, 1) := by decide +kernel
theorem dX4_compare_52 : decode cX4_compare 52 = .ok (.iadd, 1) := by decide +kernel
theorem dX4_compare_53 : decode cX4_compare 53 = .ok (.laload, 1) := by decide +kernel
theorem dX4_compare_54 : decode cX4_compare 54 = .ok (.lcmp, 1) := by decide +kernel
theorem dX4_compare_55 : decode cX4_compare 55 = .ok (.ifCond .le 7, 3) := by decide +kernel
theorem dX4_compare_58 : decode cX4_compare 58 = .ok (.iconst 1, 1) := by decide +kernel
theorem dX4_compare_59 : decode cX4_compare 59 = .ok (.goto 4, 3) := by decide +kernel
theorem dX4_compare_62 : decode cX4_compare 62 = .ok (.iconst (-1), 1) := by decide +kernel
theorem dX4_compare_63 : decode cX4_compare 63 = .ok (.ireturn, 1) := by decide +kernel
theorem dX4_compare_64 : decode cX4_compare 64 = .ok (.iinc 3 (-1), 3) := by decide +kernel
theorem dX4_compare_67 : decode cX4_compare 67 = .ok (.goto (-65), 3) := by decide +kernel
theorem dX4_compare_70 : decode cX4_compare 70 = .ok (.iconst 0, 1) := by decide +kernel
theorem dX4_compare_71 : decode cX4_compare 71 = .ok (.ireturn, 1) := by decide +kernel
theorem dX4_change_0 : decode cX4_change 0 = .ok (.lconst 0, 1) := by decide +kernel
theorem dX4_change_1 : decode cX4_change 1 = .ok (.lstore 5, 2) := by decide +kernel
theorem dX4_change_3 : decode cX4_change 3 = .ok (.iconst 0, 1) := by decide +kernel
theorem dX4_change_4 : decode cX4_change 4 = .ok (.istore 7, 2) := by decide +kernel
theorem dX4_change_6 : decode cX4_change 6 = .ok (.iload 7, 2) := by decide +kernel
theorem dX4_change_8 : decode cX4_change 8 = .ok (.bipush 6, 2) := by decide +kernel
theorem dX4_change_10 : decode cX4_change 10 = .ok (.if_icmp .ge 100, 3) := by decide +kernel
theorem dX4_change_13 : decode cX4_change 13 = .ok (.iload 4, 2) := by decide +kernel
theorem dX4_change_15 : decode cX4_change 15 = .ok (.ifCond .eq 34, 3) := by decide +kernel
theorem dX4_change_18 : decode cX4_change 18 = .ok (.aload_n 0, 1) := by decide +kernel
theorem dX4_change_19 : decode cX4_change 19 = .ok (.getfield 7, 3) := by decide +kernel
theorem dX4_change_22 : decode cX4_change 22 = .ok (.bipush 6, 2) := by decide +kernel
theorem dX4_change_24 : decode cX4_change 24 = .ok (.iload_n 2, 1) := by decide +kernel
theorem dX4_change_25 : decode cX4_change 25 = .ok (.imul, 1) := by decide +kernel
theorem dX4_change_26 : decode cX4_change 26 = .ok (.iload 7, 2) := by decide +kernel
theorem dX4_change_28 : decode cX4_change 28 = .ok (.iadd, 1) := by decide +kernel
theorem dX4_change_29 : decode cX4_change 29 = .ok (.laload, 1) := by decide +kernel
theorem dX4_change_30 : decode cX4_change 30 = .ok (.aload_n 0, 1) := by decide +kernel
theorem dX4_change_31 : decode cX4_change 31 = .ok (.getfield 7, 3) := by decide +kernel
theorem dX4_change_34 : decode cX4_change 34 = .ok (.bipush 6, 2) := by decide +kernel
theorem dX4_change_36 : decode cX4_change 36 = .ok (.iload_n 3, 1) := by decide +kernel
theorem dX4_change_37 : decode cX4_change 37 = .ok (.imul, 1) := by decide +kernel
theorem dX4_change_38 : decode cX4_change 38 = .ok (.iload 7, 2) := by decide +kernel
theorem dX4_change_40 : decode cX4_change 40 = .ok (.iadd, 1) := by decide +kernel
theorem dX4_change_41 : decode cX4_change 41 = .ok (.laload, 1) := by decide +kernel
theorem dX4_change_42 : decode cX4_change 42 = .ok (.ladd, 1) := by decide +kernel
theorem dX4_change_43 : decode cX4_change 43 = .ok (.lload 5, 2) := by decide +kernel
theorem dX4_change_45 : decode cX4_change 45 = .ok (.ladd, 1) := by decide +kernel
theorem dX4_change_46 : decode cX4_change 46 = .ok (.goto 31, 3) := by decide +kernel
theorem dX4_change_49 : decode cX4_change 49 = .ok (.aload_n 0, 1) := by decide +kernel
theorem dX4_change_50 : decode cX4_change 50 = .ok (.getfield 7, 3) := by decide +kernel
theorem dX4_change_53 : decode cX4_change 53 = .ok (.bipush 6, 2) := by decide +kernel
theorem dX4_change_55 : decode cX4_change 55 = .ok (.iload_n 2, 1) := by decide +kernel
theorem dX4_change_56 : decode cX4_change 56 = .ok (.imul, 1) := by decide +kernel
theorem dX4_change_57 : decode cX4_change 57 = .ok (.iload 7, 2) := by decide +kernel
theorem dX4_change_59 : decode cX4_change 59 = .ok (.iadd, 1) := by decide +kernel
theorem dX4_change_60 : decode cX4_change 60 = .ok (.laload, 1) := by decide +kernel
theorem dX4_change_61 : decode cX4_change 61 = .ok (.aload_n 0, 1) := by decide +kernel
theorem dX4_change_62 : decode cX4_change 62 = .ok (.getfield 7, 3) := by decide +kernel
theorem dX4_change_65 : decode cX4_change 65 = .ok (.bipush 6, 2) := by decide +kernel
theorem dX4_change_67 : decode cX4_change 67 = .ok (.iload_n 3, 1) := by decide +kernel
theorem dX4_change_68 : decode cX4_change 68 = .ok (.imul, 1) := by decide +kernel
theorem dX4_change_69 : decode cX4_change 69 = .ok (.iload 7, 2) := by decide +kernel
theorem dX4_change_71 : decode cX4_change 71 = .ok (.iadd, 1) := by decide +kernel
theorem dX4_change_72 : decode cX4_change 72 = .ok (.laload, 1) := by decide +kernel
theorem dX4_change_73 : decode cX4_change 73 = .ok (.lsub, 1) := by decide +kernel
theorem dX4_change_74 : decode cX4_change 74 = .ok (.lload 5, 2) := by decide +kernel
theorem dX4_change_76 : decode cX4_change 76 = .ok (.ladd, 1) := by decide +kernel
theorem dX4_change_77 : decode cX4_change 77 = .ok (.lstore 8, 2) := by decide +kernel
theorem dX4_change_79 : decode cX4_change 79 = .ok (.aload_n 0, 1) := by decide +kernel
theorem dX4_change_80 : decode cX4_change 80 = .ok (.getfield 7, 3) := by decide +kernel
theorem dX4_change_83 : decode cX4_change 83 = .ok (.bipush 6, 2) := by decide +kernel
theorem dX4_change_85 : decode cX4_change 85 = .ok (.iload_n 1, 1) := by decide +kernel
theorem dX4_change_86 : decode cX4_change 86 = .ok (.imul, 1) := by decide +kernel
theorem dX4_change_87 : decode cX4_change 87 = .ok (.iload 7, 2) := by decide +kernel
theorem dX4_change_89 : decode cX4_change 89 = .ok (.iadd, 1) := by decide +kernel
theorem dX4_change_90 : decode cX4_change 90 = .ok (.lload 8, 2) := by decide +kernel
theorem dX4_change_92 : decode cX4_change 92 = .ok (.ldc2_w 46, 3) := by decide +kernel
theorem dX4_change_95 : decode cX4_change 95 = .ok (.land, 1) := by decide +kernel
theorem dX4_change_96 : decode cX4_change 96 = .ok (.lastore, 1) := by decide +kernel
theorem dX4_change_97 : decode cX4_change 97 = .ok (.lload 8, 2) := by decide +kernel
theorem dX4_change_99 : decode cX4_change 99 = .ok (.bipush 32, 2) := by decide +kernel
theorem dX4_change_101 : decode cX4_change 101 = .ok (.lshr, 1) := by decide +kernel
theorem dX4_change_102 : decode cX4_change 102 = .ok (.lstore 5, 2) := by decide +kernel
theorem dX4_change_104 : decode cX4_change 104 = .ok (.iinc 7 1, 3) := by decide +kernel
theorem dX4_change_107 : decode cX4_change 107 = .ok (.goto (-101), 3) := by decide +kernel
theorem dX4_change_110 : decode cX4_change 110 = .ok (.return_, 1) := by decide +kernel
theorem dX4_isNothing_0 : decode cX4_isNothing 0 = .ok (.iconst 1, 1) := by decide +kernel
theorem dX4_isNothing_1 : decode cX4_isNothing 1 = .ok (.istore_n 2, 1) := by decide +kernel
theorem dX4_isNothing_2 : decode cX4_isNothing 2 = .ok (.iconst 0, 1) := by decide +kernel
theorem dX4_isNothing_3 : decode cX4_isNothing 3 = .ok (.istore_n 3, 1) := by decide +kernel
theorem dX4_isNothing_4 : decode cX4_isNothing 4 = .ok (.iload_n 3, 1) := by decide +kernel
theorem dX4_isNothing_5 : decode cX4_isNothing 5 = .ok (.bipush 6, 2) := by decide +kernel
theorem dX4_isNothing_7 : decode cX4_isNothing 7 = .ok (.if_icmp .ge 35, 3) := by decide +kernel
theorem dX4_isNothing_10 : decode cX4_isNothing 10 = .ok (.iload_n 2, 1) := by decide +kernel
theorem dX4_isNothing_11 : decode cX4_isNothing 11 = .ok (.ifCond .eq 23, 3) := by decide +kernel
theorem dX4_isNothing_14 : decode cX4_isNothing 14 = .ok (.aload_n 0, 1) := by decide +kernel
theorem dX4_isNothing_15 : decode cX4_isNothing 15 = .ok (.getfield 7, 3) := by decide +kernel
theorem dX4_isNothing_18 : decode cX4_isNothing 18 = .ok (.bipush 6, 2) := by decide +kernel
theorem dX4_isNothing_20 : decode cX4_isNothing 20 = .ok (.iload_n 1, 1) := by decide +kernel
theorem dX4_isNothing_21 : decode cX4_isNothing 21 = .ok (.imul, 1) := by decide +kernel
theorem dX4_isNothing_22 : decode cX4_isNothing 22 = .ok (.iload_n 3, 1) := by decide +kernel
theorem dX4_isNothing_23 : decode cX4_isNothing 23 = .ok (.iadd, 1) := by decide +kernel
theorem dX4_isNothing_24 : decode cX4_isNothing 24 = .ok (.laload, 1) := by decide +kernel
theorem dX4_isNothing_25 : decode cX4_isNothing 25 = .ok (.lconst 0, 1) := by decide +kernel
theorem dX4_isNothing_26 : decode cX4_isNothing 26 = .ok (.lcmp, 1) := by decide +kernel
theorem dX4_isNothing_27 : decode cX4_isNothing 27 = .ok (.ifCond .ne 7, 3) := by decide +kernel
theorem dX4_isNothing_30 : decode cX4_isNothing 30 = .ok (.iconst 1, 1) := by decide +kernel
theorem dX4_isNothing_31 : decode cX4_isNothing 31 = .ok (.goto 4, 3) := by decide +kernel
theorem dX4_isNothing_34 : decode cX4_isNothing 34 = .ok (.iconst 0, 1) := by decide +kernel
theorem dX4_isNothing_35 : decode cX4_isNothing 35 = .ok (.istore_n 2, 1) := by decide +kernel
theorem dX4_isNothing_36 : decode cX4_isNothing 36 = .ok (.iinc 3 1, 3) := by decide +kernel
theorem dX4_isNothing_39 : decode cX4_isNothing 39 = .ok (.goto (-35), 3) := by decide +kernel
theorem dX4_isNothing_42 : decode cX4_isNothing 42 = .ok (.iload_n 2, 1) := by decide +kernel
theorem dX4_isNothing_43 : decode cX4_isNothing 43 = .ok (.ireturn, 1) := by decide +kernel
theorem dX4_sum_0 : decode cX4_sum 0 = .ok (.aload_n 0, 1) := by decide +kernel
theorem dX4_sum_1 : decode cX4_sum 1 = .ok (.getfield 13, 3) := by decide +kernel
theorem dX4_sum_4 : decode cX4_sum 4 = .ok (.iload_n 2, 1) := by decide +kernel
theorem dX4_sum_5 : decode cX4_sum 5 = .ok (.iaload, 1) := by decide +kernel
theorem dX4_sum_6 : decode cX4_sum 6 = .ok (.istore 4, 2) := by decide +kernel
theorem dX4_sum_8 : decode cX4_sum 8 = .ok (.aload_n 0, 1) := by decide +kernel
theorem dX4_sum_9 : decode cX4_sum 9 = .ok (.getfield 13, 3) := by decide +kernel
theorem dX4_sum_12 : decode cX4_sum 12 = .ok (.iload_n 3, 1) := by decide +kernel
theorem dX4_sum_13 : decode cX4_sum 13 = .ok (.iaload, 1) := by decide +kernel
theorem dX4_sum_14 : decode cX4_sum 14 = .ok (.istore 5, 2) := by decide +kernel
theorem dX4_sum_16 : decode cX4_sum 16 = .ok (.iload 4, 2) := by decide +kernel
theorem dX4_sum_18 : decode cX4_sum 18 = .ok (.ifCond .eq 15, 3) := by decide +kernel
theorem dX4_sum_21 : decode cX4_sum 21 = .ok (.iload 5, 2) := by decide +kernel
theorem dX4_sum_23 : decode cX4_sum 23 = .ok (.ifCond .eq 10, 3) := by decide +kernel
theorem dX4_sum_26 : decode cX4_sum 26 = .ok (.iload 4, 2) := by decide +kernel
theorem dX4_sum_28 : decode cX4_sum 28 = .ok (.iload 5, 2) := by decide +kernel
theorem dX4_sum_30 : decode cX4_sum 30 = .ok (.if_icmp .ne 30, 3) := by decide +kernel
theorem dX4_sum_33 : decode cX4_sum 33 = .ok (.aload_n 0, 1) := by decide +kernel
theorem dX4_sum_34 : decode cX4_sum 34 = .ok (.iload_n 1, 1) := by decide +kernel
theorem dX4_sum_35 : decode cX4_sum 35 = .ok (.iload_n 2, 1) := by decide +kernel
theorem dX4_sum_36 : decode cX4_sum 36 = .ok (.iload_n 3, 1) := by decide +kernel
theorem dX4_sum_37 : decode cX4_sum 37 = .ok (.iconst 1, 1) := by decide +kernel
theorem dX4_sum_38 : decode cX4_sum 38 = .ok (.invokevirtual 48, 3) := by decide +kernel
theorem dX4_sum_41 : decode cX4_sum 41 = .ok (.aload_n 0, 1) := by decide +kernel
theorem dX4_sum_42 : decode cX4_sum 42 = .ok (.getfield 13, 3) := by decide +kernel
theorem dX4_sum_45 : decode cX4_sum 45 = .ok (.iload_n 1, 1) := by decide +kernel
theorem dX4_sum_46 : decode cX4_sum 46 = .ok (.iload 4, 2) := by decide +kernel
theorem dX4_sum_48 : decode cX4_sum 48 = .ok (.ifCond .ne 8, 3) := by decide +kernel
theorem dX4_sum_51 : decode cX4_sum 51 = .ok (.iload 5, 2) := by decide +kernel
theorem dX4_sum_53 : decode cX4_sum 53 = .ok (.goto 5, 3) := by decide +kernel
theorem dX4_sum_56 : decode cX4_sum 56 = .ok (.iload 4, 2) := by decide +kernel
theorem dX4_sum_58 : decode cX4_sum 58 = .ok (.iastore, 1) := by decide +kernel
theorem dX4_sum_59 : decode cX4_sum 59 = .ok (.return_, 1) := by decide +kernel
theorem dX4_sum_60 : decode cX4_sum 60 = .ok (.aload_n 0, 1) := by decide +kernel
theorem dX4_sum_61 : decode cX4_sum 61 = .ok (.iload_n 2, 1) := by decide +kernel
theorem dX4_sum_62 : decode cX4_sum 62 = .ok (.iload_n 3, 1) := by decide +kernel
theorem dX4_sum_63 : decode cX4_sum 63 = .ok (.invokevirtual 52, 3) := by decide +kernel
theorem dX4_sum_66 : decode cX4_sum 66 = .ok (.ifCond .lt 22, 3) := by decide +kernel
theorem dX4_sum_69 : decode cX4_sum 69 = .ok (.aload_n 0, 1) := by decide +kernel
theorem dX4_sum_70 : decode cX4_sum 70 = .ok (.iload_n 1, 1) := by decide +kernel
theorem dX4_sum_71 : decode cX4_sum 71 = .ok (.iload_n 2, 1) := by decide +kernel
theorem dX4_sum_72 : decode cX4_sum 72 = .ok (.iload_n 3, 1) := by decide +kernel
theorem dX4_sum_73 : decode cX4_sum 73 = .ok (.iconst 0, 1) := by decide +kernel
theorem dX4_sum_74 : decode cX4_sum 74 = .ok (.invokevirtual 48, 3) := by decide +kernel
theorem dX4_sum_77 : decode cX4_sum 77 = .ok (.aload_n 0, 1) := by decide +kernel
theorem dX4_sum_78 : decode cX4_sum 78 = .ok (.getfield 13, 3) := by decide +kernel
theorem dX4_sum_81 : decode cX4_sum 81 = .ok (.iload_n 1, 1) := by decide +kernel
theorem dX4_sum_82 : decode cX4_sum 82 = .ok (.iload 4, 2) := by decide +kernel
theorem dX4_sum_84 : decode cX4_sum 84 = .ok (.iastore, 1) := by decide +kernel
theorem dX4_sum_85 : decode cX4_sum 85 = .ok (.goto 19, 3) := by decide +kernel
theorem dX4_sum_88 : decode cX4_sum 88 = .ok (.aload_n 0, 1) := by decide +kernel
theorem dX4_sum_89 : decode cX4_sum 89 = .ok (.iload_n 1, 1) := by decide +kernel
theorem dX4_sum_90 : decode cX4_sum 90 = .ok (.iload_n 3, 1) := by decide +kernel
theorem dX4_sum_91 : decode cX4_sum 91 = .ok (.iload_n 2, 1) := by decide +kernel
theorem dX4_sum_92 : decode cX4_sum 92 = .ok (.iconst 0, 1) := by decide +kernel
theorem dX4_sum_93 : decode cX4_sum 93 = .ok (.invokevirtual 48, 3) := by decide +kernel
theorem dX4_sum_96 : decode cX4_sum 96 = .ok (.aload_n 0, 1) := by decide +kernel
theorem dX4_sum_97 : decode cX4_sum 97 = .ok (.getfield 13, 3) := by decide +kernel
theorem dX4_sum_100 : decode cX4_sum 100 = .ok (.iload_n 1, 1) := by decide +kernel
theorem dX4_sum_101 : decode cX4_sum 101 = .ok (.iload 5, 2) := by decide +kernel
theorem dX4_sum_103 : decode cX4_sum 103 = .ok (.iastore, 1) := by decide +kernel
theorem dX4_sum_104 : decode cX4_sum 104 = .ok (.aload_n 0, 1) := by decide +kernel
theorem dX4_sum_105 : decode cX4_sum 105 = .ok (.iload_n 1, 1) := by decide +kernel
theorem dX4_sum_106 : decode cX4_sum 106 = .ok (.invokevirtual 56, 3) := by decide +kernel
theorem dX4_sum_109 : decode cX4_sum 109 = .ok (.ifCond .eq 10, 3) := by decide +kernel
theorem dX4_sum_112 : decode cX4_sum 112 = .ok (.aload_n 0, 1) := by decide +kernel
theorem dX4_sum_113 : decode cX4_sum 113 = .ok (.getfield 13, 3) := by decide +kernel
theorem dX4_sum_116 : decode cX4_sum 116 = .ok (.iload_n 1, 1) := by decide +kernel
theorem dX4_sum_117 : decode cX4_sum 117 = .ok (.iconst 0, 1) := by decide +kernel
theorem dX4_sum_118 : decode cX4_sum 118 = .ok (.iastore, 1) := by decide +kernel
theorem dX4_sum_119 : decode cX4_sum 119 = .ok (.return_, 1) := by decide +kernel
theorem dX4_times_0 : decode cX4_times 0 = .ok (.iconst 0, 1) := by decide +kernel
theorem dX4_times_1 : decode cX4_times 1 = .ok (.istore 4, 2) := by decide +kernel
theorem dX4_times_3 : decode cX4_times 3 = .ok (.iload 4, 2) := by decide +kernel
theorem dX4_times_5 : decode cX4_times 5 = .ok (.bipush 12, 2) := by decide +kernel
theorem dX4_times_7 : decode cX4_times 7 = .ok (.if_icmp .ge 17, 3) := by decide +kernel
theorem dX4_times_10 : decode cX4_times 10 = .ok (.aload_n 0, 1) := by decide +kernel
theorem dX4_times_11 : decode cX4_times 11 = .ok (.getfield 17, 3) := by decide +kernel
theorem dX4_times_14 : decode cX4_times 14 = .ok (.iload 4, 2) := by decide +kernel
theorem dX4_times_16 : decode cX4_times 16 = .ok (.lconst 0, 1) := by decide +kernel
theorem dX4_times_17 : decode cX4_times 17 = .ok (.lastore, 1) := by decide +kernel
theorem dX4_times_18 : decode cX4_times 18 = .ok (.iinc 4 1, 3) := by decide +kernel
theorem dX4_times_21 : decode cX4_times 21 = .ok (.goto (-18), 3) := by decide +kernel
theorem dX4_times_24 : decode cX4_times 24 = .ok (.iconst 0, 1) := by decide +kernel
theorem dX4_times_25 : decode cX4_times 25 = .ok (.istore 4, 2) := by decide +kernel
theorem dX4_times_27 : decode cX4_times 27 = .ok (.iload 4, 2) := by decide +kernel
theorem dX4_times_29 : decode cX4_times 29 = .ok (.bipush 6, 2) := by decide +kernel
theorem dX4_times_31 : decode cX4_times 31 = .ok (.if_icmp .ge 92, 3) := by decide +kernel
theorem dX4_times_34 : decode cX4_times 34 = .ok (.lconst 0, 1) := by decide +kernel
theorem dX4_times_35 : decode cX4_times 35 = .ok (.lstore 5, 2) := by decide +kernel
theorem dX4_times_37 : decode cX4_times 37 = .ok (.iconst 0, 1) := by decide +kernel
theorem dX4_times_38 : decode cX4_times 38 = .ok (.istore 7, 2) := by decide +kernel
theorem dX4_times_40 : decode cX4_times 40 = .ok (.iload 7, 2) := by decide +kernel
theorem dX4_times_42 : decode cX4_times 42 = .ok (.bipush 6, 2) := by decide +kernel
theorem dX4_times_44 : decode cX4_times 44 = .ok (.if_icmp .ge 73, 3) := by decide +kernel
theorem dX4_times_47 : decode cX4_times 47 = .ok (.aload_n 0, 1) := by decide +kernel
theorem dX4_times_48 : decode cX4_times 48 = .ok (.getfield 7, 3) := by decide +kernel
theorem dX4_times_51 : decode cX4_times 51 = .ok (.bipush 6, 2) := by decide +kernel
theorem dX4_times_53 : decode cX4_times 53 = .ok (.iload_n 2, 1) := by decide +kernel
theorem dX4_times_54 : decode cX4_times 54 = .ok (.imul, 1) := by decide +kernel
theorem dX4_times_55 : decode cX4_times 55 = .ok (.iload 4, 2) := by decide +kernel
theorem dX4_times_57 : decode cX4_times 57 = .ok (.iadd, 1) := by decide +kernel
theorem dX4_times_58 : decode cX4_times 58 = .ok (.laload, 1) := by decide +kernel
theorem dX4_times_59 : decode cX4_times 59 = .ok (.aload_n 0, 1) := by decide +kernel
theorem dX4_times_60 : decode cX4_times 60 = .ok (.getfield 7, 3) := by decide +kernel
theorem dX4_times_63 : decode cX4_times 63 = .ok (.bipush 6, 2) := by decide +kernel
theorem dX4_times_65 : decode cX4_times 65 = .ok (.iload_n 3, 1) := by decide +kernel
theorem dX4_times_66 : decode cX4_times 66 = .ok (.imul, 1) := by decide +kernel
theorem dX4_times_67 : decode cX4_times 67 = .ok (.iload 7, 2) := by decide +kernel
theorem dX4_times_69 : decode cX4_times 69 = .ok (.iadd, 1) := by decide +kernel
theorem dX4_times_70 : decode cX4_times 70 = .ok (.laload, 1) := by decide +kernel
theorem dX4_times_71 : decode cX4_times 71 = .ok (.lmul, 1) := by decide +kernel
theorem dX4_times_72 : decode cX4_times 72 = .ok (.aload_n 0, 1) := by decide +kernel
theorem dX4_times_73 : decode cX4_times 73 = .ok (.getfield 17, 3) := by decide +kernel
theorem dX4_times_76 : decode cX4_times 76 = .ok (.iload 4, 2) := by decide +kernel
theorem dX4_times_78 : decode cX4_times 78 = .ok (.iload 7, 2) := by decide +kernel
theorem dX4_times_80 : decode cX4_times 80 = .ok (.iadd, 1) := by decide +kernel
theorem dX4_times_81 : decode cX4_times 81 = .ok (.laload, 1) := by decide +kernel
theorem dX4_times_82 : decode cX4_times 82 = .ok (.ladd, 1) := by decide +kernel
theorem dX4_times_83 : decode cX4_times 83 = .ok (.lload 5, 2) := by decide +kernel
theorem dX4_times_85 : decode cX4_times 85 = .ok (.ladd, 1) := by decide +kernel
theorem dX4_times_86 : decode cX4_times 86 = .ok (.lstore 8, 2) := by decide +kernel
theorem dX4_times_88 : decode cX4_times 88 = .ok (.aload_n 0, 1) := by decide +kernel
theorem dX4_times_89 : decode cX4_times 89 = .ok (.getfield 17, 3) := by decide +kernel
theorem dX4_times_92 : decode cX4_times 92 = .ok (.iload 4, 2) := by decide +kernel
theorem dX4_times_94 : decode cX4_times 94 = .ok (.iload 7, 2) := by decide +kernel
theorem dX4_times_96 : decode cX4_times 96 = .ok (.iadd, 1) := by decide +kernel
theorem dX4_times_97 : decode cX4_times 97 = .ok (.lload 8, 2) := by decide +kernel
theorem dX4_times_99 : decode cX4_times 99 = .ok (.ldc2_w 46, 3) := by decide +kernel
theorem dX4_times_102 : decode cX4_times 102 = .ok (.land, 1) := by decide +kernel
theorem dX4_times_103 : decode cX4_times 103 = .ok (.lastore, 1) := by decide +kernel
theorem dX4_times_104 : decode cX4_times 104 = .ok (.lload 8, 2) := by decide +kernel
theorem dX4_times_106 : decode cX4_times 106 = .ok (.bipush 32, 2) := by decide +kernel
theorem dX4_times_108 : decode cX4_times 108 = .ok (.lushr, 1) := by decide +kernel
theorem dX4_times_109 : decode cX4_times 109 = .ok (.lstore 5, 2) := by decide +kernel
theorem dX4_times_111 : decode cX4_times 111 = .ok (.iinc 7 1, 3) := by decide +kernel
theorem dX4_times_114 : decode cX4_times 114 = .ok (.goto (-74), 3) := by decide +kernel
theorem dX4_times_117 : decode cX4_times 117 = .ok (.iinc 4 1, 3) := by decide +kernel
theorem dX4_times_120 : decode cX4_times 120 = .ok (.goto (-93), 3) := by decide +kernel
theorem dX4_times_123 : decode cX4_times 123 = .ok (.aload_n 0, 1) := by decide +kernel
theorem dX4_times_124 : decode cX4_times 124 = .ok (.getfield 13, 3) := by decide +kernel
theorem dX4_times_127 : decode cX4_times 127 = .ok (.iload_n 2, 1) := by decide +kernel
theorem dX4_times_128 : decode cX4_times 128 = .ok (.iaload, 1) := by decide +kernel
theorem dX4_times_129 : decode cX4_times 129 = .ok (.aload_n 0, 1) := by decide +kernel
theorem dX4_times_130 : decode cX4_times 130 = .ok (.getfield 13, 3) := by decide +kernel
theorem dX4_times_133 : decode cX4_times 133 = .ok (.iload_n 3, 1) := by decide +kernel
theorem dX4_times_134 : decode cX4_times 134 = .ok (.iaload, 1) := by decide +kernel
theorem dX4_times_135 : decode cX4_times 135 = .ok (.imul, 1) := by decide +kernel
theorem dX4_times_136 : decode cX4_times 136 = .ok (.istore 4, 2) := by decide +kernel
theorem dX4_times_138 : decode cX4_times 138 = .ok (.iconst 0, 1) := by decide +kernel
theorem dX4_times_139 : decode cX4_times 139 = .ok (.istore 5, 2) := by decide +kernel
theorem dX4_times_141 : decode cX4_times 141 = .ok (.iload 5, 2) := by decide +kernel
theorem dX4_times_143 : decode cX4_times 143 = .ok (.bipush 6, 2) := by decide +kernel
theorem dX4_times_145 : decode cX4_times 145 = .ok (.if_icmp .ge 28, 3) := by decide +kernel
theorem dX4_times_148 : decode cX4_times 148 = .ok (.aload_n 0, 1) := by decide +kernel
theorem dX4_times_149 : decode cX4_times 149 = .ok (.getfield 7, 3) := by decide +kernel
theorem dX4_times_152 : decode cX4_times 152 = .ok (.bipush 6, 2) := by decide +kernel
theorem dX4_times_154 : decode cX4_times 154 = .ok (.iload_n 1, 1) := by decide +kernel
theorem dX4_times_155 : decode cX4_times 155 = .ok (.imul, 1) := by decide +kernel
theorem dX4_times_156 : decode cX4_times 156 = .ok (.iload 5, 2) := by decide +kernel
theorem dX4_times_158 : decode cX4_times 158 = .ok (.iadd, 1) := by decide +kernel
theorem dX4_times_159 : decode cX4_times 159 = .ok (.aload_n 0, 1) := by decide +kernel
theorem dX4_times_160 : decode cX4_times 160 = .ok (.getfield 17, 3) := by decide +kernel
theorem dX4_times_163 : decode cX4_times 163 = .ok (.iload 5, 2) := by decide +kernel
theorem dX4_times_165 : decode cX4_times 165 = .ok (.laload, 1) := by decide +kernel
theorem dX4_times_166 : decode cX4_times 166 = .ok (.lastore, 1) := by decide +kernel
theorem dX4_times_167 : decode cX4_times 167 = .ok (.iinc 5 1, 3) := by decide +kernel
theorem dX4_times_170 : decode cX4_times 170 = .ok (.goto (-29), 3) := by decide +kernel
theorem dX4_times_173 : decode cX4_times 173 = .ok (.aload_n 0, 1) := by decide +kernel
theorem dX4_times_174 : decode cX4_times 174 = .ok (.getfield 13, 3) := by decide +kernel
theorem dX4_times_177 : decode cX4_times 177 = .ok (.iload_n 1, 1) := by decide +kernel
theorem dX4_times_178 : decode cX4_times 178 = .ok (.iload 4, 2) := by decide +kernel
theorem dX4_times_180 : decode cX4_times 180 = .ok (.iastore, 1) := by decide +kernel
theorem dX4_times_181 : decode cX4_times 181 = .ok (.return_, 1) := by decide +kernel
theorem dX4_twice_0 : decode cX4_twice 0 = .ok (.aload_n 0, 1) := by decide +kernel
theorem dX4_twice_1 : decode cX4_twice 1 = .ok (.iload_n 1, 1) := by decide +kernel
theorem dX4_twice_2 : decode cX4_twice 2 = .ok (.iload_n 1, 1) := by decide +kernel
theorem dX4_twice_3 : decode cX4_twice 3 = .ok (.iload_n 1, 1) := by decide +kernel
theorem dX4_twice_4 : decode cX4_twice 4 = .ok (.iconst 1, 1) := by decide +kernel
theorem dX4_twice_5 : decode cX4_twice 5 = .ok (.invokevirtual 48, 3) := by decide +kernel
theorem dX4_twice_8 : decode cX4_twice 8 = .ok (.return_, 1) := by decide +kernel
theorem dX4_halve_0 : decode cX4_halve 0 = .ok (.iconst 0, 1) := by decide +kernel
theorem dX4_halve_1 : decode cX4_halve 1 = .ok (.istore_n 2, 1) := by decide +kernel
theorem dX4_halve_2 : decode cX4_halve 2 = .ok (.iload_n 2, 1) := by decide +kernel
theorem dX4_halve_3 : decode cX4_halve 3 = .ok (.bipush 6, 2) := by decide +kernel
theorem dX4_halve_5 : decode cX4_halve 5 = .ok (.if_icmp .ge 66, 3) := by decide +kernel
theorem dX4_halve_8 : decode cX4_halve 8 = .ok (.iload_n 2, 1) := by decide +kernel
theorem dX4_halve_9 : decode cX4_halve 9 = .ok (.iconst 1, 1) := by decide +kernel
theorem dX4_halve_10 : decode cX4_halve 10 = .ok (.iadd, 1) := by decide +kernel
theorem dX4_halve_11 : decode cX4_halve 11 = .ok (.bipush 6, 2) := by decide +kernel
theorem dX4_halve_13 : decode cX4_halve 13 = .ok (.if_icmp .ge 21, 3) := by decide +kernel
theorem dX4_halve_16 : decode cX4_halve 16 = .ok (.aload_n 0, 1) := by decide +kernel
theorem dX4_halve_17 : decode cX4_halve 17 = .ok (.getfield 7, 3) := by decide +kernel
theorem dX4_halve_20 : decode cX4_halve 20 = .ok (.bipush 6, 2) := by decide +kernel
theorem dX4_halve_22 : decode cX4_halve 22 = .ok (.iload_n 1, 1) := by decide +kernel
theorem dX4_halve_23 : decode cX4_halve 23 = .ok (.imul, 1) := by decide +kernel
theorem dX4_halve_24 : decode cX4_halve 24 = .ok (.iload_n 2, 1) := by decide +kernel
theorem dX4_halve_25 : decode cX4_halve 25 = .ok (.iadd, 1) := by decide +kernel
theorem dX4_halve_26 : decode cX4_halve 26 = .ok (.iconst 1, 1) := by decide +kernel
theorem dX4_halve_27 : decode cX4_halve 27 = .ok (.iadd, 1) := by decide +kernel
theorem dX4_halve_28 : decode cX4_halve 28 = .ok (.laload, 1) := by decide +kernel
theorem dX4_halve_29 : decode cX4_halve 29 = .ok (.lconst 1, 1) := by decide +kernel
theorem dX4_halve_30 : decode cX4_halve 30 = .ok (.land, 1) := by decide +kernel
theorem dX4_halve_31 : decode cX4_halve 31 = .ok (.goto 4, 3) := by decide +kernel
theorem dX4_halve_34 : decode cX4_halve 34 = .ok (.lconst 0, 1) := by decide +kernel
theorem dX4_halve_35 : decode cX4_halve 35 = .ok (.lstore_n 3, 1) := by decide +kernel
theorem dX4_halve_36 : decode cX4_halve 36 = .ok (.aload_n 0, 1) := by decide +kernel
theorem dX4_halve_37 : decode cX4_halve 37 = .ok (.getfield 7, 3) := by decide +kernel
theorem dX4_halve_40 : decode cX4_halve 40 = .ok (.bipush 6, 2) := by decide +kernel
theorem dX4_halve_42 : decode cX4_halve 42 = .ok (.iload_n 1, 1) := by decide +kernel
theorem dX4_halve_43 : decode cX4_halve 43 = .ok (.imul, 1) := by decide +kernel
theorem dX4_halve_44 : decode cX4_halve 44 = .ok (.iload_n 2, 1) := by decide +kernel
theorem dX4_halve_45 : decode cX4_halve 45 = .ok (.iadd, 1) := by decide +kernel
theorem dX4_halve_46 : decode cX4_halve 46 = .ok (.aload_n 0, 1) := by decide +kernel
theorem dX4_halve_47 : decode cX4_halve 47 = .ok (.getfield 7, 3) := by decide +kernel
theorem dX4_halve_50 : decode cX4_halve 50 = .ok (.bipush 6, 2) := by decide +kernel
theorem dX4_halve_52 : decode cX4_halve 52 = .ok (.iload_n 1, 1) := by decide +kernel
theorem dX4_halve_53 : decode cX4_halve 53 = .ok (.imul, 1) := by decide +kernel
theorem dX4_halve_54 : decode cX4_halve 54 = .ok (.iload_n 2, 1) := by decide +kernel
theorem dX4_halve_55 : decode cX4_halve 55 = .ok (.iadd, 1) := by decide +kernel
theorem dX4_halve_56 : decode cX4_halve 56 = .ok (.laload, 1) := by decide +kernel
theorem dX4_halve_57 : decode cX4_halve 57 = .ok (.iconst 1, 1) := by decide +kernel
theorem dX4_halve_58 : decode cX4_halve 58 = .ok (.lshr, 1) := by decide +kernel
theorem dX4_halve_59 : decode cX4_halve 59 = .ok (.lload_n 3, 1) := by decide +kernel
theorem dX4_halve_60 : decode cX4_halve 60 = .ok (.bipush 31, 2) := by decide +kernel
theorem dX4_halve_62 : decode cX4_halve 62 = .ok (.lshl, 1) := by decide +kernel
theorem dX4_halve_63 : decode cX4_halve 63 = .ok (.lor, 1) := by decide +kernel
theorem dX4_halve_64 : decode cX4_halve 64 = .ok (.lastore, 1) := by decide +kernel
theorem dX4_halve_65 : decode cX4_halve 65 = .ok (.iinc 2 1, 3) := by decide +kernel
theorem dX4_halve_68 : decode cX4_halve 68 = .ok (.goto (-66), 3) := by decide +kernel
theorem dX4_halve_71 : decode cX4_halve 71 = .ok (.return_, 1) := by decide +kernel
theorem dX4_isEven_0 : decode cX4_isEven 0 = .ok (.aload_n 0, 1) := by decide +kernel
theorem dX4_isEven_1 : decode cX4_isEven 1 = .ok (.getfield 7, 3) := by decide +kernel
theorem dX4_isEven_4 : decode cX4_isEven 4 = .ok (.bipush 6, 2) := by decide +kernel
theorem dX4_isEven_6 : decode cX4_isEven 6 = .ok (.iload_n 1, 1) := by decide +kernel
theorem dX4_isEven_7 : decode cX4_isEven 7 = .ok (.imul, 1) := by decide +kernel
theorem dX4_isEven_8 : decode cX4_isEven 8 = .ok (.laload, 1) := by decide +kernel
theorem dX4_isEven_9 : decode cX4_isEven 9 = .ok (.lconst 1, 1) := by decide +kernel
theorem dX4_isEven_10 : decode cX4_isEven 10 = .ok (.land, 1) := by decide +kernel
theorem dX4_isEven_11 : decode cX4_isEven 11 = .ok (.lconst 0, 1) := by decide +kernel
theorem dX4_isEven_12 : decode cX4_isEven 12 = .ok (.lcmp, 1) := by decide +kernel
theorem dX4_isEven_13 : decode cX4_isEven 13 = .ok (.ifCond .ne 7, 3) := by decide +kernel
theorem dX4_isEven_16 : decode cX4_isEven 16 = .ok (.iconst 1, 1) := by decide +kernel
theorem dX4_isEven_17 : decode cX4_isEven 17 = .ok (.goto 4, 3) := by decide +kernel
theorem dX4_isEven_20 : decode cX4_isEven 20 = .ok (.iconst 0, 1) := by decide +kernel
theorem dX4_isEven_21 : decode cX4_isEven 21 = .ok (.ireturn, 1) := by decide +kernel
theorem dX4_divide_0 : decode cX4_divide 0 = .ok (.aload_n 0, 1) := by decide +kernel
theorem dX4_divide_1 : decode cX4_divide 1 = .ok (.bipush 9, 2) := by decide +kernel
theorem dX4_divide_3 : decode cX4_divide 3 = .ok (.lconst 0, 1) := by decide +kernel
theorem dX4_divide_4 : decode cX4_divide 4 = .ok (.invokevirtual 60, 3) := by decide +kernel
theorem dX4_divide_7 : decode cX4_divide 7 = .ok (.aload_n 0, 1) := by decide +kernel
theorem dX4_divide_8 : decode cX4_divide 8 = .ok (.bipush 10, 2) := by decide +kernel
theorem dX4_divide_10 : decode cX4_divide 10 = .ok (.lconst 0, 1) := by decide +kernel
theorem dX4_divide_11 : decode cX4_divide 11 = .ok (.invokevirtual 60, 3) := by decide +kernel
theorem dX4_divide_14 : decode cX4_divide 14 = .ok (.sipush 191, 3) := by decide +kernel
theorem dX4_divide_17 : decode cX4_divide 17 = .ok (.istore_n 3, 1) := by decide +kernel
theorem dX4_divide_18 : decode cX4_divide 18 = .ok (.iload_n 3, 1) := by decide +kernel
theorem dX4_divide_19 : decode cX4_divide 19 = .ok (.ifCond .lt 65, 3) := by decide +kernel
theorem dX4_divide_22 : decode cX4_divide 22 = .ok (.aload_n 0, 1) := by decide +kernel
theorem dX4_divide_23 : decode cX4_divide 23 = .ok (.getfield 7, 3) := by decide +kernel
theorem dX4_divide_26 : decode cX4_divide 26 = .ok (.bipush 6, 2) := by decide +kernel
theorem dX4_divide_28 : decode cX4_divide 28 = .ok (.iload_n 1, 1) := by decide +kernel
theorem dX4_divide_29 : decode cX4_divide 29 = .ok (.imul, 1) := by decide +kernel
theorem dX4_divide_30 : decode cX4_divide 30 = .ok (.iload_n 3, 1) := by decide +kernel
theorem dX4_divide_31 : decode cX4_divide 31 = .ok (.bipush 32, 2) := by decide +kernel
theorem dX4_divide_33 : decode cX4_divide 33 = .ok (.idiv, 1) := by decide +kernel
theorem dX4_divide_34 : decode cX4_divide 34 = .ok (.iadd, 1) := by decide +kernel
theorem dX4_divide_35 : decode cX4_divide 35 = .ok (.laload, 1) := by decide +kernel
theorem dX4_divide_36 : decode cX4_divide 36 = .ok (.iload_n 3, 1) := by decide +kernel
theorem dX4_divide_37 : decode cX4_divide 37 = .ok (.bipush 32, 2) := by decide +kernel
theorem dX4_divide_39 : decode cX4_divide 39 = .ok (.irem, 1) := by decide +kernel
theorem dX4_divide_40 : decode cX4_divide 40 = .ok (.lshr, 1) := by decide +kernel
theorem dX4_divide_41 : decode cX4_divide 41 = .ok (.lconst 0, 1) := by decide +kernel
theorem dX4_divide_42 : decode cX4_divide 42 = .ok (.lcmp, 1) := by decide +kernel
theorem dX4_divide_43 : decode cX4_divide 43 = .ok (.ifCond .ne 41, 3) := by decide +kernel
theorem dX4_divide_46 : decode cX4_divide 46 = .ok (.aload_n 0, 1) := by decide +kernel
theorem dX4_divide_47 : decode cX4_divide 47 = .ok (.getfield 7, 3) := by decide +kernel
theorem dX4_divide_50 : decode cX4_divide 50 = .ok (.bipush 6, 2) := by decide +kernel
theorem dX4_divide_52 : decode cX4_divide 52 = .ok (.iload_n 1, 1) := by decide +kernel
theorem dX4_divide_53 : decode cX4_divide 53 = .ok (.imul, 1) := by decide +kernel
theorem dX4_divide_54 : decode cX4_divide 54 = .ok (.iload_n 3, 1) := by decide +kernel
theorem dX4_divide_55 : decode cX4_divide 55 = .ok (.bipush 32, 2) := by decide +kernel
theorem dX4_divide_57 : decode cX4_divide 57 = .ok (.idiv, 1) := by decide +kernel
theorem dX4_divide_58 : decode cX4_divide 58 = .ok (.iadd, 1) := by decide +kernel
theorem dX4_divide_59 : decode cX4_divide 59 = .ok (.laload, 1) := by decide +kernel
theorem dX4_divide_60 : decode cX4_divide 60 = .ok (.lconst 0, 1) := by decide +kernel
theorem dX4_divide_61 : decode cX4_divide 61 = .ok (.lcmp, 1) := by decide +kernel
theorem dX4_divide_62 : decode cX4_divide 62 = .ok (.ifCond .ne 15, 3) := by decide +kernel
theorem dX4_divide_65 : decode cX4_divide 65 = .ok (.iload_n 3, 1) := by decide +kernel
theorem dX4_divide_66 : decode cX4_divide 66 = .ok (.bipush 32, 2) := by decide +kernel
theorem dX4_divide_68 : decode cX4_divide 68 = .ok (.idiv, 1) := by decide +kernel
theorem dX4_divide_69 : decode cX4_divide 69 = .ok (.bipush 32, 2) := by decide +kernel
theorem dX4_divide_71 : decode cX4_divide 71 = .ok (.imul, 1) := by decide +kernel
theorem dX4_divide_72 : decode cX4_divide 72 = .ok (.iconst 1, 1) := by decide +kernel
theorem dX4_divide_73 : decode cX4_divide 73 = .ok (.isub, 1) := by decide +kernel
theorem dX4_divide_74 : decode cX4_divide 74 = .ok (.goto 6, 3) := by decide +kernel
theorem dX4_divide_77 : decode cX4_divide 77 = .ok (.iload_n 3, 1) := by decide +kernel
theorem dX4_divide_78 : decode cX4_divide 78 = .ok (.iconst 1, 1) := by decide +kernel
theorem dX4_divide_79 : decode cX4_divide 79 = .ok (.isub, 1) := by decide +kernel
theorem dX4_divide_80 : decode cX4_divide 80 = .ok (.istore_n 3, 1) := by decide +kernel
theorem dX4_divide_81 : decode cX4_divide 81 = .ok (.goto (-63), 3) := by decide +kernel
theorem dX4_divide_84 : decode cX4_divide 84 = .ok (.iload_n 3, 1) := by decide +kernel
theorem dX4_divide_85 : decode cX4_divide 85 = .ok (.ifCond .lt 102, 3) := by decide +kernel
theorem dX4_divide_88 : decode cX4_divide 88 = .ok (.aload_n 0, 1) := by decide +kernel
theorem dX4_divide_89 : decode cX4_divide 89 = .ok (.bipush 10, 2) := by decide +kernel
theorem dX4_divide_91 : decode cX4_divide 91 = .ok (.invokevirtual 64, 3) := by decide +kernel
theorem dX4_divide_94 : decode cX4_divide 94 = .ok (.aload_n 0, 1) := by decide +kernel
theorem dX4_divide_95 : decode cX4_divide 95 = .ok (.getfield 7, 3) := by decide +kernel
theorem dX4_divide_98 : decode cX4_divide 98 = .ok (.bipush 60, 2) := by decide +kernel
theorem dX4_divide_100 : decode cX4_divide 100 = .ok (.aload_n 0, 1) := by decide +kernel
theorem dX4_divide_101 : decode cX4_divide 101 = .ok (.getfield 7, 3) := by decide +kernel
theorem dX4_divide_104 : decode cX4_divide 104 = .ok (.bipush 60, 2) := by decide +kernel
theorem dX4_divide_106 : decode cX4_divide 106 = .ok (.laload, 1) := by decide +kernel
theorem dX4_divide_107 : decode cX4_divide 107 = .ok (.aload_n 0, 1) := by decide +kernel
theorem dX4_divide_108 : decode cX4_divide 108 = .ok (.getfield 7, 3) := by decide +kernel
theorem dX4_divide_111 : decode cX4_divide 111 = .ok (.bipush 6, 2) := by decide +kernel
theorem dX4_divide_113 : decode cX4_divide 113 = .ok (.iload_n 1, 1) := by decide +kernel
theorem dX4_divide_114 : decode cX4_divide 114 = .ok (.imul, 1) := by decide +kernel
theorem dX4_divide_115 : decode cX4_divide 115 = .ok (.iload_n 3, 1) := by decide +kernel
theorem dX4_divide_116 : decode cX4_divide 116 = .ok (.bipush 32, 2) := by decide +kernel
theorem dX4_divide_118 : decode cX4_divide 118 = .ok (.idiv, 1) := by decide +kernel
theorem dX4_divide_119 : decode cX4_divide 119 = .ok (.iadd, 1) := by decide +kernel
theorem dX4_divide_120 : decode cX4_divide 120 = .ok (.laload, 1) := by decide +kernel
theorem dX4_divide_121 : decode cX4_divide 121 = .ok (.iload_n 3, 1) := by decide +kernel
theorem dX4_divide_122 : decode cX4_divide 122 = .ok (.bipush 32, 2) := by decide +kernel
theorem dX4_divide_124 : decode cX4_divide 124 = .ok (.irem, 1) := by decide +kernel
theorem dX4_divide_125 : decode cX4_divide 125 = .ok (.lshr, 1) := by decide +kernel
theorem dX4_divide_126 : decode cX4_divide 126 = .ok (.lconst 1, 1) := by decide +kernel
theorem dX4_divide_127 : decode cX4_divide 127 = .ok (.land, 1) := by decide +kernel
theorem dX4_divide_128 : decode cX4_divide 128 = .ok (.lor, 1) := by decide +kernel
theorem dX4_divide_129 : decode cX4_divide 129 = .ok (.lastore, 1) := by decide +kernel
theorem dX4_divide_130 : decode cX4_divide 130 = .ok (.aload_n 0, 1) := by decide +kernel
theorem dX4_divide_131 : decode cX4_divide 131 = .ok (.bipush 10, 2) := by decide +kernel
theorem dX4_divide_133 : decode cX4_divide 133 = .ok (.iload_n 2, 1) := by decide +kernel
theorem dX4_divide_134 : decode cX4_divide 134 = .ok (.invokevirtual 52, 3) := by decide +kernel
theorem dX4_divide_137 : decode cX4_divide 137 = .ok (.ifCond .lt 44, 3) := by decide +kernel
theorem dX4_divide_140 : decode cX4_divide 140 = .ok (.aload_n 0, 1) := by decide +kernel
theorem dX4_divide_141 : decode cX4_divide 141 = .ok (.bipush 10, 2) := by decide +kernel
theorem dX4_divide_143 : decode cX4_divide 143 = .ok (.bipush 10, 2) := by decide +kernel
theorem dX4_divide_145 : decode cX4_divide 145 = .ok (.iload_n 2, 1) := by decide +kernel
theorem dX4_divide_146 : decode cX4_divide 146 = .ok (.iconst 0, 1) := by decide +kernel
theorem dX4_divide_147 : decode cX4_divide 147 = .ok (.invokevirtual 48, 3) := by decide +kernel
theorem dX4_divide_150 : decode cX4_divide 150 = .ok (.aload_n 0, 1) := by decide +kernel
theorem dX4_divide_151 : decode cX4_divide 151 = .ok (.getfield 7, 3) := by decide +kernel
theorem dX4_divide_154 : decode cX4_divide 154 = .ok (.bipush 54, 2) := by decide +kernel
theorem dX4_divide_156 : decode cX4_divide 156 = .ok (.iload_n 3, 1) := by decide +kernel
theorem dX4_divide_157 : decode cX4_divide 157 = .ok (.bipush 32, 2) := by decide +kernel
theorem dX4_divide_159 : decode cX4_divide 159 = .ok (.idiv, 1) := by decide +kernel
theorem dX4_divide_160 : decode cX4_divide 160 = .ok (.iadd, 1) := by decide +kernel
theorem dX4_divide_161 : decode cX4_divide 161 = .ok (.aload_n 0, 1) := by decide +kernel
theorem dX4_divide_162 : decode cX4_divide 162 = .ok (.getfield 7, 3) := by decide +kernel
theorem dX4_divide_165 : decode cX4_divide 165 = .ok (.bipush 54, 2) := by decide +kernel
theorem dX4_divide_167 : decode cX4_divide 167 = .ok (.iload_n 3, 1) := by decide +kernel
theorem dX4_divide_168 : decode cX4_divide 168 = .ok (.bipush 32, 2) := by decide +kernel
theorem dX4_divide_170 : decode cX4_divide 170 = .ok (.idiv, 1) := by decide +kernel
theorem dX4_divide_171 : decode cX4_divide 171 = .ok (.iadd, 1) := by decide +kernel
theorem dX4_divide_172 : decode cX4_divide 172 = .ok (.laload, 1) := by decide +kernel
theorem dX4_divide_173 : decode cX4_divide 173 = .ok (.lconst 1, 1) := by decide +kernel
theorem dX4_divide_174 : decode cX4_divide 174 = .ok (.iload_n 3, 1) := by decide +kernel
theorem dX4_divide_175 : decode cX4_divide 175 = .ok (.bipush 32, 2) := by decide +kernel
theorem dX4_divide_177 : decode cX4_divide 177 = .ok (.irem, 1) := by decide +kernel
theorem dX4_divide_178 : decode cX4_divide 178 = .ok (.lshl, 1) := by decide +kernel
theorem dX4_divide_179 : decode cX4_divide 179 = .ok (.lor, 1) := by decide +kernel
theorem dX4_divide_180 : decode cX4_divide 180 = .ok (.lastore, 1) := by decide +kernel
theorem dX4_divide_181 : decode cX4_divide 181 = .ok (.iinc 3 (-1), 3) := by decide +kernel
theorem dX4_divide_184 : decode cX4_divide 184 = .ok (.goto (-100), 3) := by decide +kernel
theorem dX4_divide_187 : decode cX4_divide 187 = .ok (.return_, 1) := by decide +kernel
theorem dX4_divisor_0 : decode cX4_divisor 0 = .ok (.aload_n 0, 1) := by decide +kernel
theorem dX4_divisor_1 : decode cX4_divisor 1 = .ok (.bipush 7, 2) := by decide +kernel
theorem dX4_divisor_3 : decode cX4_divisor 3 = .ok (.iload_n 1, 1) := by decide +kernel
theorem dX4_divisor_4 : decode cX4_divisor 4 = .ok (.invokevirtual 68, 3) := by decide +kernel
theorem dX4_divisor_7 : decode cX4_divisor 7 = .ok (.aload_n 0, 1) := by decide +kernel
theorem dX4_divisor_8 : decode cX4_divisor 8 = .ok (.bipush 8, 2) := by decide +kernel
theorem dX4_divisor_10 : decode cX4_divisor 10 = .ok (.iload_n 2, 1) := by decide +kernel
theorem dX4_divisor_11 : decode cX4_divisor 11 = .ok (.invokevirtual 68, 3) := by decide +kernel
theorem dX4_divisor_14 : decode cX4_divisor 14 = .ok (.iconst 0, 1) := by decide +kernel
theorem dX4_divisor_15 : decode cX4_divisor 15 = .ok (.istore_n 3, 1) := by decide +kernel
theorem dX4_divisor_16 : decode cX4_divisor 16 = .ok (.aload_n 0, 1) := by decide +kernel
theorem dX4_divisor_17 : decode cX4_divisor 17 = .ok (.bipush 7, 2) := by decide +kernel
theorem dX4_divisor_19 : decode cX4_divisor 19 = .ok (.invokevirtual 72, 3) := by decide +kernel
theorem dX4_divisor_22 : decode cX4_divisor 22 = .ok (.ifCond .eq 30, 3) := by decide +kernel
theorem dX4_divisor_25 : decode cX4_divisor 25 = .ok (.aload_n 0, 1) := by decide +kernel
theorem dX4_divisor_26 : decode cX4_divisor 26 = .ok (.bipush 8, 2) := by decide +kernel
theorem dX4_divisor_28 : decode cX4_divisor 28 = .ok (.invokevirtual 72, 3) := by decide +kernel
theorem dX4_divisor_31 : decode cX4_divisor 31 = .ok (.ifCond .eq 21, 3) := by decide +kernel
theorem dX4_divisor_34 : decode cX4_divisor 34 = .ok (.aload_n 0, 1) := by decide +kernel
theorem dX4_divisor_35 : decode cX4_divisor 35 = .ok (.bipush 7, 2) := by decide +kernel
theorem dX4_divisor_37 : decode cX4_divisor 37 = .ok (.invokevirtual 75, 3) := by decide +kernel
theorem dX4_divisor_40 : decode cX4_divisor 40 = .ok (.aload_n 0, 1) := by decide +kernel
theorem dX4_divisor_41 : decode cX4_divisor 41 = .ok (.bipush 8, 2) := by decide +kernel
theorem dX4_divisor_43 : decode cX4_divisor 43 = .ok (.invokevirtual 75, 3) := by decide +kernel
theorem dX4_divisor_46 : decode cX4_divisor 46 = .ok (.iinc 3 1, 3) := by decide +kernel
theorem dX4_divisor_49 : decode cX4_divisor 49 = .ok (.goto (-33), 3) := by decide +kernel
theorem dX4_divisor_52 : decode cX4_divisor 52 = .ok (.aload_n 0, 1) := by decide +kernel
theorem dX4_divisor_53 : decode cX4_divisor 53 = .ok (.bipush 7, 2) := by decide +kernel
theorem dX4_divisor_55 : decode cX4_divisor 55 = .ok (.invokevirtual 72, 3) := by decide +kernel
theorem dX4_divisor_58 : decode cX4_divisor 58 = .ok (.ifCond .eq 12, 3) := by decide +kernel
theorem dX4_divisor_61 : decode cX4_divisor 61 = .ok (.aload_n 0, 1) := by decide +kernel
theorem dX4_divisor_62 : decode cX4_divisor 62 = .ok (.bipush 7, 2) := by decide +kernel
theorem dX4_divisor_64 : decode cX4_divisor 64 = .ok (.invokevirtual 75, 3) := by decide +kernel
theorem dX4_divisor_67 : decode cX4_divisor 67 = .ok (.goto (-15), 3) := by decide +kernel
theorem dX4_divisor_70 : decode cX4_divisor 70 = .ok (.aload_n 0, 1) := by decide +kernel
theorem dX4_divisor_71 : decode cX4_divisor 71 = .ok (.bipush 8, 2) := by decide +kernel
theorem dX4_divisor_73 : decode cX4_divisor 73 = .ok (.invokevirtual 56, 3) := by decide +kernel
theorem dX4_divisor_76 : decode cX4_divisor 76 = .ok (.ifCond .ne 68, 3) := by decide +kernel
theorem dX4_divisor_79 : decode cX4_divisor 79 = .ok (.aload_n 0, 1) := by decide +kernel
theorem dX4_divisor_80 : decode cX4_divisor 80 = .ok (.bipush 8, 2) := by decide +kernel
theorem dX4_divisor_82 : decode cX4_divisor 82 = .ok (.invokevirtual 72, 3) := by decide +kernel
theorem dX4_divisor_85 : decode cX4_divisor 85 = .ok (.ifCond .eq 12, 3) := by decide +kernel
theorem dX4_divisor_88 : decode cX4_divisor 88 = .ok (.aload_n 0, 1) := by decide +kernel
theorem dX4_divisor_89 : decode cX4_divisor 89 = .ok (.bipush 8, 2) := by decide +kernel
theorem dX4_divisor_91 : decode cX4_divisor 91 = .ok (.invokevirtual 75, 3) := by decide +kernel
theorem dX4_divisor_94 : decode cX4_divisor 94 = .ok (.goto (-15), 3) := by decide +kernel
theorem dX4_divisor_97 : decode cX4_divisor 97 = .ok (.aload_n 0, 1) := by decide +kernel
theorem dX4_divisor_98 : decode cX4_divisor 98 = .ok (.bipush 7, 2) := by decide +kernel
theorem dX4_divisor_100 : decode cX4_divisor 100 = .ok (.bipush 8, 2) := by decide +kernel
theorem dX4_divisor_102 : decode cX4_divisor 102 = .ok (.invokevirtual 52, 3) := by decide +kernel
theorem dX4_divisor_105 : decode cX4_divisor 105 = .ok (.ifCond .le 25, 3) := by decide +kernel
theorem dX4_divisor_108 : decode cX4_divisor 108 = .ok (.aload_n 0, 1) := by decide +kernel
theorem dX4_divisor_109 : decode cX4_divisor 109 = .ok (.iconst 0, 1) := by decide +kernel
theorem dX4_divisor_110 : decode cX4_divisor 110 = .ok (.bipush 7, 2) := by decide +kernel
theorem dX4_divisor_112 : decode cX4_divisor 112 = .ok (.invokevirtual 68, 3) := by decide +kernel
theorem dX4_divisor_115 : decode cX4_divisor 115 = .ok (.aload_n 0, 1) := by decide +kernel
theorem dX4_divisor_116 : decode cX4_divisor 116 = .ok (.bipush 7, 2) := by decide +kernel
theorem dX4_divisor_118 : decode cX4_divisor 118 = .ok (.bipush 8, 2) := by decide +kernel
theorem dX4_divisor_120 : decode cX4_divisor 120 = .ok (.invokevirtual 68, 3) := by decide +kernel
theorem dX4_divisor_123 : decode cX4_divisor 123 = .ok (.aload_n 0, 1) := by decide +kernel
theorem dX4_divisor_124 : decode cX4_divisor 124 = .ok (.bipush 8, 2) := by decide +kernel
theorem dX4_divisor_126 : decode cX4_divisor 126 = .ok (.iconst 0, 1) := by decide +kernel
theorem dX4_divisor_127 : decode cX4_divisor 127 = .ok (.invokevirtual 68, 3) := by decide +kernel
theorem dX4_divisor_130 : decode cX4_divisor 130 = .ok (.aload_n 0, 1) := by decide +kernel
theorem dX4_divisor_131 : decode cX4_divisor 131 = .ok (.bipush 8, 2) := by decide +kernel
theorem dX4_divisor_133 : decode cX4_divisor 133 = .ok (.bipush 8, 2) := by decide +kernel
theorem dX4_divisor_135 : decode cX4_divisor 135 = .ok (.bipush 7, 2) := by decide +kernel
theorem dX4_divisor_137 : decode cX4_divisor 137 = .ok (.iconst 0, 1) := by decide +kernel
theorem dX4_divisor_138 : decode cX4_divisor 138 = .ok (.invokevirtual 48, 3) := by decide +kernel
theorem dX4_divisor_141 : decode cX4_divisor 141 = .ok (.goto (-71), 3) := by decide +kernel
theorem dX4_divisor_144 : decode cX4_divisor 144 = .ok (.iconst 0, 1) := by decide +kernel
theorem dX4_divisor_145 : decode cX4_divisor 145 = .ok (.istore 4, 2) := by decide +kernel
theorem dX4_divisor_147 : decode cX4_divisor 147 = .ok (.iload 4, 2) := by decide +kernel
theorem dX4_divisor_149 : decode cX4_divisor 149 = .ok (.iload_n 3, 1) := by decide +kernel
theorem dX4_divisor_150 : decode cX4_divisor 150 = .ok (.if_icmp .ge 15, 3) := by decide +kernel
theorem dX4_divisor_153 : decode cX4_divisor 153 = .ok (.aload_n 0, 1) := by decide +kernel
theorem dX4_divisor_154 : decode cX4_divisor 154 = .ok (.bipush 7, 2) := by decide +kernel
theorem dX4_divisor_156 : decode cX4_divisor 156 = .ok (.invokevirtual 64, 3) := by decide +kernel
theorem dX4_divisor_159 : decode cX4_divisor 159 = .ok (.iinc 4 1, 3) := by decide +kernel
theorem dX4_divisor_162 : decode cX4_divisor 162 = .ok (.goto (-15), 3) := by decide +kernel
theorem dX4_divisor_165 : decode cX4_divisor 165 = .ok (.return_, 1) := by decide +kernel
theorem dX4_reduce_0 : decode cX4_reduce 0 = .ok (.aload_n 0, 1) := by decide +kernel
theorem dX4_reduce_1 : decode cX4_reduce 1 = .ok (.getfield 13, 3) := by decide +kernel
theorem dX4_reduce_4 : decode cX4_reduce 4 = .ok (.iload_n 1, 1) := by decide +kernel
theorem dX4_reduce_5 : decode cX4_reduce 5 = .ok (.iaload, 1) := by decide +kernel
theorem dX4_reduce_6 : decode cX4_reduce 6 = .ok (.ifCond .ne 12, 3) := by decide +kernel
theorem dX4_reduce_9 : decode cX4_reduce 9 = .ok (.aload_n 0, 1) := by decide +kernel
theorem dX4_reduce_10 : decode cX4_reduce 10 = .ok (.iload_n 1, 1) := by decide +kernel
theorem dX4_reduce_11 : decode cX4_reduce 11 = .ok (.iconst 1, 1) := by decide +kernel
theorem dX4_reduce_12 : decode cX4_reduce 12 = .ok (.iadd, 1) := by decide +kernel
theorem dX4_reduce_13 : decode cX4_reduce 13 = .ok (.lconst 1, 1) := by decide +kernel
theorem dX4_reduce_14 : decode cX4_reduce 14 = .ok (.invokevirtual 60, 3) := by decide +kernel
theorem dX4_reduce_17 : decode cX4_reduce 17 = .ok (.return_, 1) := by decide +kernel
theorem dX4_reduce_18 : decode cX4_reduce 18 = .ok (.aload_n 0, 1) := by decide +kernel
theorem dX4_reduce_19 : decode cX4_reduce 19 = .ok (.iload_n 1, 1) := by decide +kernel
theorem dX4_reduce_20 : decode cX4_reduce 20 = .ok (.iload_n 1, 1) := by decide +kernel
theorem dX4_reduce_21 : decode cX4_reduce 21 = .ok (.iconst 1, 1) := by decide +kernel
theorem dX4_reduce_22 : decode cX4_reduce 22 = .ok (.iadd, 1) := by decide +kernel
theorem dX4_reduce_23 : decode cX4_reduce 23 = .ok (.invokevirtual 78, 3) := by decide +kernel
theorem dX4_reduce_26 : decode cX4_reduce 26 = .ok (.aload_n 0, 1) := by decide +kernel
theorem dX4_reduce_27 : decode cX4_reduce 27 = .ok (.getfield 13, 3) := by decide +kernel
theorem dX4_reduce_30 : decode cX4_reduce 30 = .ok (.iload_n 1, 1) := by decide +kernel
theorem dX4_reduce_31 : decode cX4_reduce 31 = .ok (.iaload, 1) := by decide +kernel
theorem dX4_reduce_32 : decode cX4_reduce 32 = .ok (.istore_n 2, 1) := by decide +kernel
theorem dX4_reduce_33 : decode cX4_reduce 33 = .ok (.aload_n 0, 1) := by decide +kernel
theorem dX4_reduce_34 : decode cX4_reduce 34 = .ok (.iload_n 1, 1) := by decide +kernel
theorem dX4_reduce_35 : decode cX4_reduce 35 = .ok (.bipush 7, 2) := by decide +kernel
theorem dX4_reduce_37 : decode cX4_reduce 37 = .ok (.invokevirtual 81, 3) := by decide +kernel
theorem dX4_reduce_40 : decode cX4_reduce 40 = .ok (.aload_n 0, 1) := by decide +kernel
theorem dX4_reduce_41 : decode cX4_reduce 41 = .ok (.iload_n 1, 1) := by decide +kernel
theorem dX4_reduce_42 : decode cX4_reduce 42 = .ok (.bipush 9, 2) := by decide +kernel
theorem dX4_reduce_44 : decode cX4_reduce 44 = .ok (.invokevirtual 68, 3) := by decide +kernel
theorem dX4_reduce_47 : decode cX4_reduce 47 = .ok (.aload_n 0, 1) := by decide +kernel
theorem dX4_reduce_48 : decode cX4_reduce 48 = .ok (.getfield 13, 3) := by decide +kernel
theorem dX4_reduce_51 : decode cX4_reduce 51 = .ok (.iload_n 1, 1) := by decide +kernel
theorem dX4_reduce_52 : decode cX4_reduce 52 = .ok (.iload_n 2, 1) := by decide +kernel
theorem dX4_reduce_53 : decode cX4_reduce 53 = .ok (.iastore, 1) := by decide +kernel
theorem dX4_reduce_54 : decode cX4_reduce 54 = .ok (.aload_n 0, 1) := by decide +kernel
theorem dX4_reduce_55 : decode cX4_reduce 55 = .ok (.iload_n 1, 1) := by decide +kernel
theorem dX4_reduce_56 : decode cX4_reduce 56 = .ok (.iconst 1, 1) := by decide +kernel
theorem dX4_reduce_57 : decode cX4_reduce 57 = .ok (.iadd, 1) := by decide +kernel
theorem dX4_reduce_58 : decode cX4_reduce 58 = .ok (.bipush 7, 2) := by decide +kernel
theorem dX4_reduce_60 : decode cX4_reduce 60 = .ok (.invokevirtual 81, 3) := by decide +kernel
theorem dX4_reduce_63 : decode cX4_reduce 63 = .ok (.aload_n 0, 1) := by decide +kernel
theorem dX4_reduce_64 : decode cX4_reduce 64 = .ok (.iload_n 1, 1) := by decide +kernel
theorem dX4_reduce_65 : decode cX4_reduce 65 = .ok (.iconst 1, 1) := by decide +kernel
theorem dX4_reduce_66 : decode cX4_reduce 66 = .ok (.iadd, 1) := by decide +kernel
theorem dX4_reduce_67 : decode cX4_reduce 67 = .ok (.bipush 9, 2) := by decide +kernel
theorem dX4_reduce_69 : decode cX4_reduce 69 = .ok (.invokevirtual 68, 3) := by decide +kernel
theorem dX4_reduce_72 : decode cX4_reduce 72 = .ok (.aload_n 0, 1) := by decide +kernel
theorem dX4_reduce_73 : decode cX4_reduce 73 = .ok (.getfield 13, 3) := by decide +kernel
theorem dX4_reduce_76 : decode cX4_reduce 76 = .ok (.iload_n 1, 1) := by decide +kernel
theorem dX4_reduce_77 : decode cX4_reduce 77 = .ok (.iconst 1, 1) := by decide +kernel
theorem dX4_reduce_78 : decode cX4_reduce 78 = .ok (.iadd, 1) := by decide +kernel
theorem dX4_reduce_79 : decode cX4_reduce 79 = .ok (.iconst 1, 1) := by decide +kernel
theorem dX4_reduce_80 : decode cX4_reduce 80 = .ok (.iastore, 1) := by decide +kernel
theorem dX4_reduce_81 : decode cX4_reduce 81 = .ok (.return_, 1) := by decide +kernel
theorem dX4_determinant_0 : decode cX4_determinant 0 = .ok (.aload_n 0, 1) := by decide +kernel
theorem dX4_determinant_1 : decode cX4_determinant 1 = .ok (.iconst 0, 1) := by decide +kernel
theorem dX4_determinant_2 : decode cX4_determinant 2 = .ok (.lload_n 2, 1) := by decide +kernel
theorem dX4_determinant_3 : decode cX4_determinant 3 = .ok (.invokevirtual 60, 3) := by decide +kernel
theorem dX4_determinant_6 : decode cX4_determinant 6 = .ok (.aload_n 0, 1) := by decide +kernel
theorem dX4_determinant_7 : decode cX4_determinant 7 = .ok (.iconst 1, 1) := by decide +kernel
theorem dX4_determinant_8 : decode cX4_determinant 8 = .ok (.lload 8, 2) := by decide +kernel
theorem dX4_determinant_10 : decode cX4_determinant 10 = .ok (.invokevirtual 60, 3) := by decide +kernel
theorem dX4_determinant_13 : decode cX4_determinant 13 = .ok (.aload_n 0, 1) := by decide +kernel
theorem dX4_determinant_14 : decode cX4_determinant 14 = .ok (.iconst 2, 1) := by decide +kernel
theorem dX4_determinant_15 : decode cX4_determinant 15 = .ok (.iconst 0, 1) := by decide +kernel
theorem dX4_determinant_16 : decode cX4_determinant 16 = .ok (.iconst 1, 1) := by decide +kernel
theorem dX4_determinant_17 : decode cX4_determinant 17 = .ok (.invokevirtual 84, 3) := by decide +kernel
theorem dX4_determinant_20 : decode cX4_determinant 20 = .ok (.aload_n 0, 1) := by decide +kernel
theorem dX4_determinant_21 : decode cX4_determinant 21 = .ok (.iconst 0, 1) := by decide +kernel
theorem dX4_determinant_22 : decode cX4_determinant 22 = .ok (.lload 4, 2) := by decide +kernel
theorem dX4_determinant_24 : decode cX4_determinant 24 = .ok (.invokevirtual 60, 3) := by decide +kernel
theorem dX4_determinant_27 : decode cX4_determinant 27 = .ok (.aload_n 0, 1) := by decide +kernel
theorem dX4_determinant_28 : decode cX4_determinant 28 = .ok (.iconst 1, 1) := by decide +kernel
theorem dX4_determinant_29 : decode cX4_determinant 29 = .ok (.lload 6, 2) := by decide +kernel
theorem dX4_determinant_31 : decode cX4_determinant 31 = .ok (.invokevirtual 60, 3) := by decide +kernel
theorem dX4_determinant_34 : decode cX4_determinant 34 = .ok (.aload_n 0, 1) := by decide +kernel
theorem dX4_determinant_35 : decode cX4_determinant 35 = .ok (.iconst 3, 1) := by decide +kernel
theorem dX4_determinant_36 : decode cX4_determinant 36 = .ok (.iconst 0, 1) := by decide +kernel
theorem dX4_determinant_37 : decode cX4_determinant 37 = .ok (.iconst 1, 1) := by decide +kernel
theorem dX4_determinant_38 : decode cX4_determinant 38 = .ok (.invokevirtual 84, 3) := by decide +kernel
theorem dX4_determinant_41 : decode cX4_determinant 41 = .ok (.aload_n 0, 1) := by decide +kernel
theorem dX4_determinant_42 : decode cX4_determinant 42 = .ok (.getfield 13, 3) := by decide +kernel
theorem dX4_determinant_45 : decode cX4_determinant 45 = .ok (.iconst 3, 1) := by decide +kernel
theorem dX4_determinant_46 : decode cX4_determinant 46 = .ok (.aload_n 0, 1) := by decide +kernel
theorem dX4_determinant_47 : decode cX4_determinant 47 = .ok (.getfield 13, 3) := by decide +kernel
theorem dX4_determinant_50 : decode cX4_determinant 50 = .ok (.iconst 3, 1) := by decide +kernel
theorem dX4_determinant_51 : decode cX4_determinant 51 = .ok (.iaload, 1) := by decide +kernel
theorem dX4_determinant_52 : decode cX4_determinant 52 = .ok (.ineg, 1) := by decide +kernel
theorem dX4_determinant_53 : decode cX4_determinant 53 = .ok (.iastore, 1) := by decide +kernel
theorem dX4_determinant_54 : decode cX4_determinant 54 = .ok (.aload_n 0, 1) := by decide +kernel
theorem dX4_determinant_55 : decode cX4_determinant 55 = .ok (.iload_n 1, 1) := by decide +kernel
theorem dX4_determinant_56 : decode cX4_determinant 56 = .ok (.iconst 2, 1) := by decide +kernel
theorem dX4_determinant_57 : decode cX4_determinant 57 = .ok (.iconst 3, 1) := by decide +kernel
theorem dX4_determinant_58 : decode cX4_determinant 58 = .ok (.invokevirtual 88, 3) := by decide +kernel
theorem dX4_determinant_61 : decode cX4_determinant 61 = .ok (.return_, 1) := by decide +kernel
theorem dX4_limbs_0 : decode cX4_limbs 0 = .ok (.bipush 6, 2) := by decide +kernel
theorem dX4_limbs_2 : decode cX4_limbs 2 = .ok (.istore_n 2, 1) := by decide +kernel
theorem dX4_limbs_3 : decode cX4_limbs 3 = .ok (.iload_n 2, 1) := by decide +kernel
theorem dX4_limbs_4 : decode cX4_limbs 4 = .ok (.iconst 1, 1) := by decide +kernel
theorem dX4_limbs_5 : decode cX4_limbs 5 = .ok (.if_icmp .le 27, 3) := by decide +kernel
theorem dX4_limbs_8 : decode cX4_limbs 8 = .ok (.aload_n 0, 1) := by decide +kernel
theorem dX4_limbs_9 : decode cX4_limbs 9 = .ok (.getfield 7, 3) := by decide +kernel
theorem dX4_limbs_12 : decode cX4_limbs 12 = .ok (.bipush 6, 2) := by decide +kernel
theorem dX4_limbs_14 : decode cX4_limbs 14 = .ok (.iload_n 1, 1) := by decide +kernel
theorem dX4_limbs_15 : decode cX4_limbs 15 = .ok (.imul, 1) := by decide +kernel
theorem dX4_limbs_16 : decode cX4_limbs 16 = .ok (.iload_n 2, 1) := by decide +kernel
theorem dX4_limbs_17 : decode cX4_limbs 17 = .ok (.iadd, 1) := by decide +kernel
theorem dX4_limbs_18 : decode cX4_limbs 18 = .ok (.iconst 1, 1) := by decide +kernel
theorem dX4_limbs_19 : decode cX4_limbs 19 = .ok (.isub, 1) := by decide +kernel
theorem dX4_limbs_20 : decode cX4_limbs 20 = .ok (.laload, 1) := by decide +kernel
theorem dX4_limbs_21 : decode cX4_limbs 21 = .ok (.lconst 0, 1) := by decide +kernel
theorem dX4_limbs_22 : decode cX4_limbs 22 = .ok (.lcmp, 1) := by decide +kernel
theorem dX4_limbs_23 : decode cX4_limbs 23 = .ok (.ifCond .ne 9, 3) := by decide +kernel
theorem dX4_limbs_26 : decode cX4_limbs 26 = .ok (.iinc 2 (-1), 3) := by decide +kernel
theorem dX4_limbs_29 : decode cX4_limbs 29 = .ok (.goto (-26), 3) := by decide +kernel
theorem dX4_limbs_32 : decode cX4_limbs 32 = .ok (.iload_n 2, 1) := by decide +kernel
theorem dX4_limbs_33 : decode cX4_limbs 33 = .ok (.ireturn, 1) := by decide +kernel
theorem dX4_limbOf_0 : decode cX4_limbOf 0 = .ok (.aload_n 0, 1) := by decide +kernel
theorem dX4_limbOf_1 : decode cX4_limbOf 1 = .ok (.iload_n 2, 1) := by decide +kernel
theorem dX4_limbOf_2 : decode cX4_limbOf 2 = .ok (.iconst (-1), 1) := by decide +kernel
theorem dX4_limbOf_3 : decode cX4_limbOf 3 = .ok (.if_icmp .lt 12, 3) := by decide +kernel
theorem dX4_limbOf_6 : decode cX4_limbOf 6 = .ok (.iload_n 2, 1) := by decide +kernel
theorem dX4_limbOf_7 : decode cX4_limbOf 7 = .ok (.aload_n 0, 1) := by decide +kernel
theorem dX4_limbOf_8 : decode cX4_limbOf 8 = .ok (.iload_n 1, 1) := by decide +kernel
theorem dX4_limbOf_9 : decode cX4_limbOf 9 = .ok (.invokevirtual 91, 3) := by decide +kernel
theorem dX4_limbOf_12 : decode cX4_limbOf 12 = .ok (.if_icmp .lt 7, 3) := by decide +kernel
theorem dX4_limbOf_15 : decode cX4_limbOf 15 = .ok (.iconst 1, 1) := by decide +kernel
theorem dX4_limbOf_16 : decode cX4_limbOf 16 = .ok (.goto 4, 3) := by decide +kernel
theorem dX4_limbOf_19 : decode cX4_limbOf 19 = .ok (.iconst 0, 1) := by decide +kernel
theorem dX4_limbOf_20 : decode cX4_limbOf 20 = .ok (.putfield 42, 3) := by decide +kernel
theorem dX4_limbOf_23 : decode cX4_limbOf 23 = .ok (.aload_n 0, 1) := by decide +kernel
theorem dX4_limbOf_24 : decode cX4_limbOf 24 = .ok (.getfield 42, 3) := by decide +kernel
theorem dX4_limbOf_27 : decode cX4_limbOf 27 = .ok (.ifCond .le 7, 3) := by decide +kernel
theorem dX4_limbOf_30 : decode cX4_limbOf 30 = .ok (.lconst 0, 1) := by decide +kernel
theorem dX4_limbOf_31 : decode cX4_limbOf 31 = .ok (.goto 28, 3) := by decide +kernel
theorem dX4_limbOf_34 : decode cX4_limbOf 34 = .ok (.iload_n 2, 1) := by decide +kernel
theorem dX4_limbOf_35 : decode cX4_limbOf 35 = .ok (.ifCond .ge 13, 3) := by decide +kernel
theorem dX4_limbOf_38 : decode cX4_limbOf 38 = .ok (.aload_n 0, 1) := by decide +kernel
theorem dX4_limbOf_39 : decode cX4_limbOf 39 = .ok (.getfield 13, 3) := by decide +kernel
theorem dX4_limbOf_42 : decode cX4_limbOf 42 = .ok (.iload_n 1, 1) := by decide +kernel
theorem dX4_limbOf_43 : decode cX4_limbOf 43 = .ok (.iaload, 1) := by decide +kernel
theorem dX4_limbOf_44 : decode cX4_limbOf 44 = .ok (.i2l, 1) := by decide +kernel
theorem dX4_limbOf_45 : decode cX4_limbOf 45 = .ok (.goto 14, 3) := by decide +kernel
theorem dX4_limbOf_48 : decode cX4_limbOf 48 = .ok (.aload_n 0, 1) := by decide +kernel
theorem dX4_limbOf_49 : decode cX4_limbOf 49 = .ok (.getfield 7, 3) := by decide +kernel
theorem dX4_limbOf_52 : decode cX4_limbOf 52 = .ok (.bipush 6, 2) := by decide +kernel
theorem dX4_limbOf_54 : decode cX4_limbOf 54 = .ok (.iload_n 1, 1) := by decide +kernel
theorem dX4_limbOf_55 : decode cX4_limbOf 55 = .ok (.imul, 1) := by decide +kernel
theorem dX4_limbOf_56 : decode cX4_limbOf 56 = .ok (.iload_n 2, 1) := by decide +kernel
theorem dX4_limbOf_57 : decode cX4_limbOf 57 = .ok (.iadd, 1) := by decide +kernel
theorem dX4_limbOf_58 : decode cX4_limbOf 58 = .ok (.laload, 1) := by decide +kernel
theorem dX4_limbOf_59 : decode cX4_limbOf 59 = .ok (.lreturn, 1) := by decide +kernel
theorem dX4_bits_0 : decode cX4_bits 0 = .ok (.aload_n 0, 1) := by decide +kernel
theorem dX4_bits_1 : decode cX4_bits 1 = .ok (.getfield 7, 3) := by decide +kernel
theorem dX4_bits_4 : decode cX4_bits 4 = .ok (.bipush 6, 2) := by decide +kernel
theorem dX4_bits_6 : decode cX4_bits 6 = .ok (.iload_n 1, 1) := by decide +kernel
theorem dX4_bits_7 : decode cX4_bits 7 = .ok (.imul, 1) := by decide +kernel
theorem dX4_bits_8 : decode cX4_bits 8 = .ok (.iconst 1, 1) := by decide +kernel
theorem dX4_bits_9 : decode cX4_bits 9 = .ok (.iadd, 1) := by decide +kernel
theorem dX4_bits_10 : decode cX4_bits 10 = .ok (.laload, 1) := by decide +kernel
theorem dX4_bits_11 : decode cX4_bits 11 = .ok (.bipush 32, 2) := by decide +kernel
theorem dX4_bits_13 : decode cX4_bits 13 = .ok (.lshl, 1) := by decide +kernel
theorem dX4_bits_14 : decode cX4_bits 14 = .ok (.aload_n 0, 1) := by decide +kernel
theorem dX4_bits_15 : decode cX4_bits 15 = .ok (.getfield 7, 3) := by decide +kernel
theorem dX4_bits_18 : decode cX4_bits 18 = .ok (.bipush 6, 2) := by decide +kernel
theorem dX4_bits_20 : decode cX4_bits 20 = .ok (.iload_n 1, 1) := by decide +kernel
theorem dX4_bits_21 : decode cX4_bits 21 = .ok (.imul, 1) := by decide +kernel
theorem dX4_bits_22 : decode cX4_bits 22 = .ok (.laload, 1) := by decide +kernel
theorem dX4_bits_23 : decode cX4_bits 23 = .ok (.lor, 1) := by decide +kernel
theorem dX4_bits_24 : decode cX4_bits 24 = .ok (.lstore_n 3, 1) := by decide +kernel
theorem dX4_bits_25 : decode cX4_bits 25 = .ok (.iload_n 2, 1) := by decide +kernel
theorem dX4_bits_26 : decode cX4_bits 26 = .ok (.ifCond .eq 8, 3) := by decide +kernel
theorem dX4_bits_29 : decode cX4_bits 29 = .ok (.lload_n 3, 1) := by decide +kernel
theorem dX4_bits_30 : decode cX4_bits 30 = .ok (.lneg, 1) := by decide +kernel
theorem dX4_bits_31 : decode cX4_bits 31 = .ok (.goto 4, 3) := by decide +kernel
theorem dX4_bits_34 : decode cX4_bits 34 = .ok (.lload_n 3, 1) := by decide +kernel
theorem dX4_bits_35 : decode cX4_bits 35 = .ok (.lreturn, 1) := by decide +kernel
theorem dX4_isPlace_0 : decode cX4_isPlace 0 = .ok (.lload_n 0, 1) := by decide +kernel
theorem dX4_isPlace_1 : decode cX4_isPlace 1 = .ok (.ldc2_w 95, 3) := by decide +kernel
theorem dX4_isPlace_4 : decode cX4_isPlace 4 = .ok (.lcmp, 1) := by decide +kernel
theorem dX4_isPlace_5 : decode cX4_isPlace 5 = .ok (.ifCond .lt 31, 3) := by decide +kernel
theorem dX4_isPlace_8 : decode cX4_isPlace 8 = .ok (.lload_n 0, 1) := by decide +kernel
theorem dX4_isPlace_9 : decode cX4_isPlace 9 = .ok (.ldc2_w 97, 3) := by decide +kernel
theorem dX4_isPlace_12 : decode cX4_isPlace 12 = .ok (.lcmp, 1) := by decide +kernel
theorem dX4_isPlace_13 : decode cX4_isPlace 13 = .ok (.ifCond .gt 23, 3) := by decide +kernel
theorem dX4_isPlace_16 : decode cX4_isPlace 16 = .ok (.lload_n 2, 1) := by decide +kernel
theorem dX4_isPlace_17 : decode cX4_isPlace 17 = .ok (.ldc2_w 95, 3) := by decide +kernel
theorem dX4_isPlace_20 : decode cX4_isPlace 20 = .ok (.lcmp, 1) := by decide +kernel
theorem dX4_isPlace_21 : decode cX4_isPlace 21 = .ok (.ifCond .lt 15, 3) := by decide +kernel
theorem dX4_isPlace_24 : decode cX4_isPlace 24 = .ok (.lload_n 2, 1) := by decide +kernel
theorem dX4_isPlace_25 : decode cX4_isPlace 25 = .ok (.ldc2_w 97, 3) := by decide +kernel
theorem dX4_isPlace_28 : decode cX4_isPlace 28 = .ok (.lcmp, 1) := by decide +kernel
theorem dX4_isPlace_29 : decode cX4_isPlace 29 = .ok (.ifCond .gt 7, 3) := by decide +kernel
theorem dX4_isPlace_32 : decode cX4_isPlace 32 = .ok (.iconst 1, 1) := by decide +kernel
theorem dX4_isPlace_33 : decode cX4_isPlace 33 = .ok (.goto 4, 3) := by decide +kernel
theorem dX4_isPlace_36 : decode cX4_isPlace 36 = .ok (.iconst 0, 1) := by decide +kernel
theorem dX4_isPlace_37 : decode cX4_isPlace 37 = .ok (.ireturn, 1) := by decide +kernel
theorem dX4_turned_0 : decode cX4_turned 0 = .ok (.aload_n 0, 1) := by decide +kernel
theorem dX4_turned_1 : decode cX4_turned 1 = .ok (.iconst 5, 1) := by decide +kernel
theorem dX4_turned_2 : decode cX4_turned 2 = .ok (.lload 5, 2) := by decide +kernel
theorem dX4_turned_4 : decode cX4_turned 4 = .ok (.lload_n 1, 1) := by decide +kernel
theorem dX4_turned_5 : decode cX4_turned 5 = .ok (.lsub, 1) := by decide +kernel
theorem dX4_turned_6 : decode cX4_turned 6 = .ok (.lload 7, 2) := by decide +kernel
theorem dX4_turned_8 : decode cX4_turned 8 = .ok (.lload_n 3, 1) := by decide +kernel
theorem dX4_turned_9 : decode cX4_turned 9 = .ok (.lsub, 1) := by decide +kernel
theorem dX4_turned_10 : decode cX4_turned 10 = .ok (.lload 9, 2) := by decide +kernel
theorem dX4_turned_12 : decode cX4_turned 12 = .ok (.lload_n 1, 1) := by decide +kernel
theorem dX4_turned_13 : decode cX4_turned 13 = .ok (.lsub, 1) := by decide +kernel
theorem dX4_turned_14 : decode cX4_turned 14 = .ok (.lload 11, 2) := by decide +kernel
theorem dX4_turned_16 : decode cX4_turned 16 = .ok (.lload_n 3, 1) := by decide +kernel
theorem dX4_turned_17 : decode cX4_turned 17 = .ok (.lsub, 1) := by decide +kernel
theorem dX4_turned_18 : decode cX4_turned 18 = .ok (.invokevirtual 99, 3) := by decide +kernel
theorem dX4_turned_21 : decode cX4_turned 21 = .ok (.aload_n 0, 1) := by decide +kernel
theorem dX4_turned_22 : decode cX4_turned 22 = .ok (.getfield 13, 3) := by decide +kernel
theorem dX4_turned_25 : decode cX4_turned 25 = .ok (.iconst 5, 1) := by decide +kernel
theorem dX4_turned_26 : decode cX4_turned 26 = .ok (.iaload, 1) := by decide +kernel
theorem dX4_turned_27 : decode cX4_turned 27 = .ok (.ireturn, 1) := by decide +kernel
theorem dX4_turn_0 : decode cX4_turn 0 = .ok (.aload_n 0, 1) := by decide +kernel
theorem dX4_turn_1 : decode cX4_turn 1 = .ok (.iconst 0, 1) := by decide +kernel
theorem dX4_turn_2 : decode cX4_turn 2 = .ok (.putfield 42, 3) := by decide +kernel
theorem dX4_turn_5 : decode cX4_turn 5 = .ok (.lload_n 1, 1) := by decide +kernel
theorem dX4_turn_6 : decode cX4_turn 6 = .ok (.lload_n 3, 1) := by decide +kernel
theorem dX4_turn_7 : decode cX4_turn 7 = .ok (.invokestatic 103, 3) := by decide +kernel
theorem dX4_turn_10 : decode cX4_turn 10 = .ok (.ifCond .eq 40, 3) := by decide +kernel
theorem dX4_turn_13 : decode cX4_turn 13 = .ok (.lload 5, 2) := by decide +kernel
theorem dX4_turn_15 : decode cX4_turn 15 = .ok (.lload 7, 2) := by decide +kernel
theorem dX4_turn_17 : decode cX4_turn 17 = .ok (.invokestatic 103, 3) := by decide +kernel
theorem dX4_turn_20 : decode cX4_turn 20 = .ok (.ifCond .eq 30, 3) := by decide +kernel
theorem dX4_turn_23 : decode cX4_turn 23 = .ok (.lload 9, 2) := by decide +kernel
theorem dX4_turn_25 : decode cX4_turn 25 = .ok (.lload 11, 2) := by decide +kernel
theorem dX4_turn_27 : decode cX4_turn 27 = .ok (.invokestatic 103, 3) := by decide +kernel
theorem dX4_turn_30 : decode cX4_turn 30 = .ok (.ifCond .eq 20, 3) := by decide +kernel
theorem dX4_turn_33 : decode cX4_turn 33 = .ok (.aload_n 0, 1) := by decide +kernel
theorem dX4_turn_34 : decode cX4_turn 34 = .ok (.lload_n 1, 1) := by decide +kernel
theorem dX4_turn_35 : decode cX4_turn 35 = .ok (.lload_n 3, 1) := by decide +kernel
theorem dX4_turn_36 : decode cX4_turn 36 = .ok (.lload 5, 2) := by decide +kernel
theorem dX4_turn_38 : decode cX4_turn 38 = .ok (.lload 7, 2) := by decide +kernel
theorem dX4_turn_40 : decode cX4_turn 40 = .ok (.lload 9, 2) := by decide +kernel
theorem dX4_turn_42 : decode cX4_turn 42 = .ok (.lload 11, 2) := by decide +kernel
theorem dX4_turn_44 : decode cX4_turn 44 = .ok (.invokevirtual 107, 3) := by decide +kernel
theorem dX4_turn_47 : decode cX4_turn 47 = .ok (.goto 5, 3) := by decide +kernel
theorem dX4_turn_50 : decode cX4_turn 50 = .ok (.bipush (-2), 2) := by decide +kernel
theorem dX4_turn_52 : decode cX4_turn 52 = .ok (.ireturn, 1) := by decide +kernel
theorem dX4_isLine_0 : decode cX4_isLine 0 = .ok (.iload_n 0, 1) := by decide +kernel
theorem dX4_isLine_1 : decode cX4_isLine 1 = .ok (.ifCond .lt 13, 3) := by decide +kernel
theorem dX4_isLine_4 : decode cX4_isLine 4 = .ok (.iload_n 0, 1) := by decide +kernel
theorem dX4_isLine_5 : decode cX4_isLine 5 = .ok (.bipush 16, 2) := by decide +kernel
theorem dX4_isLine_7 : decode cX4_isLine 7 = .ok (.if_icmp .ge 7, 3) := by decide +kernel
theorem dX4_isLine_10 : decode cX4_isLine 10 = .ok (.iconst 1, 1) := by decide +kernel
theorem dX4_isLine_11 : decode cX4_isLine 11 = .ok (.goto 4, 3) := by decide +kernel
theorem dX4_isLine_14 : decode cX4_isLine 14 = .ok (.iconst 0, 1) := by decide +kernel
theorem dX4_isLine_15 : decode cX4_isLine 15 = .ok (.ireturn, 1) := by decide +kernel
theorem dX4_line_0 : decode cX4_line 0 = .ok (.aload_n 0, 1) := by decide +kernel
theorem dX4_line_1 : decode cX4_line 1 = .ok (.iconst 0, 1) := by decide +kernel
theorem dX4_line_2 : decode cX4_line 2 = .ok (.putfield 42, 3) := by decide +kernel
theorem dX4_line_5 : decode cX4_line 5 = .ok (.iload_n 1, 1) := by decide +kernel
theorem dX4_line_6 : decode cX4_line 6 = .ok (.invokestatic 111, 3) := by decide +kernel
theorem dX4_line_9 : decode cX4_line 9 = .ok (.ifCond .eq 37, 3) := by decide +kernel
theorem dX4_line_12 : decode cX4_line 12 = .ok (.lload_n 2, 1) := by decide +kernel
theorem dX4_line_13 : decode cX4_line 13 = .ok (.lload 4, 2) := by decide +kernel
theorem dX4_line_15 : decode cX4_line 15 = .ok (.invokestatic 103, 3) := by decide +kernel
theorem dX4_line_18 : decode cX4_line 18 = .ok (.ifCond .eq 28, 3) := by decide +kernel
theorem dX4_line_21 : decode cX4_line 21 = .ok (.lload 6, 2) := by decide +kernel
theorem dX4_line_23 : decode cX4_line 23 = .ok (.lload 8, 2) := by decide +kernel
theorem dX4_line_25 : decode cX4_line 25 = .ok (.invokestatic 103, 3) := by decide +kernel
theorem dX4_line_28 : decode cX4_line 28 = .ok (.ifCond .eq 18, 3) := by decide +kernel
theorem dX4_line_31 : decode cX4_line 31 = .ok (.lload_n 2, 1) := by decide +kernel
theorem dX4_line_32 : decode cX4_line 32 = .ok (.lload 6, 2) := by decide +kernel
theorem dX4_line_34 : decode cX4_line 34 = .ok (.lcmp, 1) := by decide +kernel
theorem dX4_line_35 : decode cX4_line 35 = .ok (.ifCond .ne 13, 3) := by decide +kernel
theorem dX4_line_38 : decode cX4_line 38 = .ok (.lload 4, 2) := by decide +kernel
theorem dX4_line_40 : decode cX4_line 40 = .ok (.lload 8, 2) := by decide +kernel
theorem dX4_line_42 : decode cX4_line 42 = .ok (.lcmp, 1) := by decide +kernel
theorem dX4_line_43 : decode cX4_line 43 = .ok (.ifCond .ne 5, 3) := by decide +kernel
theorem dX4_line_46 : decode cX4_line 46 = .ok (.iconst 0, 1) := by decide +kernel
theorem dX4_line_47 : decode cX4_line 47 = .ok (.ireturn, 1) := by decide +kernel
theorem dX4_line_48 : decode cX4_line 48 = .ok (.aload_n 0, 1) := by decide +kernel
theorem dX4_line_49 : decode cX4_line 49 = .ok (.aload_n 0, 1) := by decide +kernel
theorem dX4_line_50 : decode cX4_line 50 = .ok (.getfield 20, 3) := by decide +kernel
theorem dX4_line_53 : decode cX4_line 53 = .ok (.iload_n 1, 1) := by decide +kernel
theorem dX4_line_54 : decode cX4_line 54 = .ok (.baload, 1) := by decide +kernel
theorem dX4_line_55 : decode cX4_line 55 = .ok (.ifCond .eq 10, 3) := by decide +kernel
theorem dX4_line_58 : decode cX4_line 58 = .ok (.aload_n 0, 1) := by decide +kernel
theorem dX4_line_59 : decode cX4_line 59 = .ok (.getfield 114, 3) := by decide +kernel
theorem dX4_line_62 : decode cX4_line 62 = .ok (.goto 9, 3) := by decide +kernel
theorem dX4_line_65 : decode cX4_line 65 = .ok (.aload_n 0, 1) := by decide +kernel
theorem dX4_line_66 : decode cX4_line 66 = .ok (.getfield 114, 3) := by decide +kernel
theorem dX4_line_69 : decode cX4_line 69 = .ok (.iconst 1, 1) := by decide +kernel
theorem dX4_line_70 : decode cX4_line 70 = .ok (.iadd, 1) := by decide +kernel
theorem dX4_line_71 : decode cX4_line 71 = .ok (.putfield 114, 3) := by decide +kernel
theorem dX4_line_74 : decode cX4_line 74 = .ok (.aload_n 0, 1) := by decide +kernel
theorem dX4_line_75 : decode cX4_line 75 = .ok (.getfield 20, 3) := by decide +kernel
theorem dX4_line_78 : decode cX4_line 78 = .ok (.iload_n 1, 1) := by decide +kernel
theorem dX4_line_79 : decode cX4_line 79 = .ok (.iconst 1, 1) := by decide +kernel
theorem dX4_line_80 : decode cX4_line 80 = .ok (.bastore, 1) := by decide +kernel
theorem dX4_line_81 : decode cX4_line 81 = .ok (.aload_n 0, 1) := by decide +kernel
theorem dX4_line_82 : decode cX4_line 82 = .ok (.getfield 24, 3) := by decide +kernel
theorem dX4_line_85 : decode cX4_line 85 = .ok (.iload_n 1, 1) := by decide +kernel
theorem dX4_line_86 : decode cX4_line 86 = .ok (.lload_n 2, 1) := by decide +kernel
theorem dX4_line_87 : decode cX4_line 87 = .ok (.lastore, 1) := by decide +kernel
theorem dX4_line_88 : decode cX4_line 88 = .ok (.aload_n 0, 1) := by decide +kernel
theorem dX4_line_89 : decode cX4_line 89 = .ok (.getfield 27, 3) := by decide +kernel
theorem dX4_line_92 : decode cX4_line 92 = .ok (.iload_n 1, 1) := by decide +kernel
theorem dX4_line_93 : decode cX4_line 93 = .ok (.lload 4, 2) := by decide +kernel
theorem dX4_line_95 : decode cX4_line 95 = .ok (.lastore, 1) := by decide +kernel
theorem dX4_line_96 : decode cX4_line 96 = .ok (.aload_n 0, 1) := by decide +kernel
theorem dX4_line_97 : decode cX4_line 97 = .ok (.getfield 30, 3) := by decide +kernel
theorem dX4_line_100 : decode cX4_line 100 = .ok (.iload_n 1, 1) := by decide +kernel
theorem dX4_line_101 : decode cX4_line 101 = .ok (.lload 6, 2) := by decide +kernel
theorem dX4_line_103 : decode cX4_line 103 = .ok (.lastore, 1) := by decide +kernel
theorem dX4_line_104 : decode cX4_line 104 = .ok (.aload_n 0, 1) := by decide +kernel
theorem dX4_line_105 : decode cX4_line 105 = .ok (.getfield 33, 3) := by decide +kernel
theorem dX4_line_108 : decode cX4_line 108 = .ok (.iload_n 1, 1) := by decide +kernel
theorem dX4_line_109 : decode cX4_line 109 = .ok (.lload 8, 2) := by decide +kernel
theorem dX4_line_111 : decode cX4_line 111 = .ok (.lastore, 1) := by decide +kernel
theorem dX4_line_112 : decode cX4_line 112 = .ok (.iconst 1, 1) := by decide +kernel
theorem dX4_line_113 : decode cX4_line 113 = .ok (.ireturn, 1) := by decide +kernel
theorem dX4_less_0 : decode cX4_less 0 = .ok (.lload_n 0, 1) := by decide +kernel
theorem dX4_less_1 : decode cX4_less 1 = .ok (.lload_n 2, 1) := by decide +kernel
theorem dX4_less_2 : decode cX4_less 2 = .ok (.lcmp, 1) := by decide +kernel
theorem dX4_less_3 : decode cX4_less 3 = .ok (.ifCond .ge 7, 3) := by decide +kernel
theorem dX4_less_6 : decode cX4_less 6 = .ok (.lload_n 0, 1) := by decide +kernel
theorem dX4_less_7 : decode cX4_less 7 = .ok (.goto 4, 3) := by decide +kernel
theorem dX4_less_10 : decode cX4_less 10 = .ok (.lload_n 2, 1) := by decide +kernel
theorem dX4_less_11 : decode cX4_less 11 = .ok (.lreturn, 1) := by decide +kernel
theorem dX4_overlap_0 : decode cX4_overlap 0 = .ok (.aload_n 0, 1) := by decide +kernel
theorem dX4_overlap_1 : decode cX4_overlap 1 = .ok (.getfield 24, 3) := by decide +kernel
theorem dX4_overlap_4 : decode cX4_overlap 4 = .ok (.iload_n 1, 1) := by decide +kernel
theorem dX4_overlap_5 : decode cX4_overlap 5 = .ok (.laload, 1) := by decide +kernel
theorem dX4_overlap_6 : decode cX4_overlap 6 = .ok (.aload_n 0, 1) := by decide +kernel
theorem dX4_overlap_7 : decode cX4_overlap 7 = .ok (.getfield 30, 3) := by decide +kernel
theorem dX4_overlap_10 : decode cX4_overlap 10 = .ok (.iload_n 1, 1) := by decide +kernel
theorem dX4_overlap_11 : decode cX4_overlap 11 = .ok (.laload, 1) := by decide +kernel
theorem dX4_overlap_12 : decode cX4_overlap 12 = .ok (.lcmp, 1) := by decide +kernel
theorem dX4_overlap_13 : decode cX4_overlap 13 = .ok (.ifCond .eq 7, 3) := by decide +kernel
theorem dX4_overlap_16 : decode cX4_overlap 16 = .ok (.iconst 1, 1) := by decide +kernel
theorem dX4_overlap_17 : decode cX4_overlap 17 = .ok (.goto 4, 3) := by decide +kernel
theorem dX4_overlap_20 : decode cX4_overlap 20 = .ok (.iconst 0, 1) := by decide +kernel
theorem dX4_overlap_21 : decode cX4_overlap 21 = .ok (.istore_n 3, 1) := by decide +kernel
theorem dX4_overlap_22 : decode cX4_overlap 22 = .ok (.iload_n 3, 1) := by decide +kernel
theorem dX4_overlap_23 : decode cX4_overlap 23 = .ok (.ifCond .eq 12, 3) := by decide +kernel
theorem dX4_overlap_26 : decode cX4_overlap 26 = .ok (.aload_n 0, 1) := by decide +kernel
theorem dX4_overlap_27 : decode cX4_overlap 27 = .ok (.getfield 24, 3) := by decide +kernel
theorem dX4_overlap_30 : decode cX4_overlap 30 = .ok (.iload_n 1, 1) := by decide +kernel
theorem dX4_overlap_31 : decode cX4_overlap 31 = .ok (.laload, 1) := by decide +kernel
theorem dX4_overlap_32 : decode cX4_overlap 32 = .ok (.goto 9, 3) := by decide +kernel
theorem dX4_overlap_35 : decode cX4_overlap 35 = .ok (.aload_n 0, 1) := by decide +kernel
theorem dX4_overlap_36 : decode cX4_overlap 36 = .ok (.getfield 27, 3) := by decide +kernel
theorem dX4_overlap_39 : decode cX4_overlap 39 = .ok (.iload_n 1, 1) := by decide +kernel
theorem dX4_overlap_40 : decode cX4_overlap 40 = .ok (.laload, 1) := by decide +kernel
theorem dX4_overlap_41 : decode cX4_overlap 41 = .ok (.lstore 4, 2) := by decide +kernel
theorem dX4_overlap_43 : decode cX4_overlap 43 = .ok (.iload_n 3, 1) := by decide +kernel
theorem dX4_overlap_44 : decode cX4_overlap 44 = .ok (.ifCond .eq 12, 3) := by decide +kernel
theorem dX4_overlap_47 : decode cX4_overlap 47 = .ok (.aload_n 0, 1) := by decide +kernel
theorem dX4_overlap_48 : decode cX4_overlap 48 = .ok (.getfield 30, 3) := by decide +kernel
theorem dX4_overlap_51 : decode cX4_overlap 51 = .ok (.iload_n 1, 1) := by decide +kernel
theorem dX4_overlap_52 : decode cX4_overlap 52 = .ok (.laload, 1) := by decide +kernel
theorem dX4_overlap_53 : decode cX4_overlap 53 = .ok (.goto 9, 3) := by decide +kernel
theorem dX4_overlap_56 : decode cX4_overlap 56 = .ok (.aload_n 0, 1) := by decide +kernel
theorem dX4_overlap_57 : decode cX4_overlap 57 = .ok (.getfield 33, 3) := by decide +kernel
theorem dX4_overlap_60 : decode cX4_overlap 60 = .ok (.iload_n 1, 1) := by decide +kernel
theorem dX4_overlap_61 : decode cX4_overlap 61 = .ok (.laload, 1) := by decide +kernel
theorem dX4_overlap_62 : decode cX4_overlap 62 = .ok (.lstore 6, 2) := by decide +kernel
theorem dX4_overlap_64 : decode cX4_overlap 64 = .ok (.iload_n 3, 1) := by decide +kernel
theorem dX4_overlap_65 : decode cX4_overlap 65 = .ok (.ifCond .eq 12, 3) := by decide +kernel
theorem dX4_overlap_68 : decode cX4_overlap 68 = .ok (.aload_n 0, 1) := by decide +kernel
theorem dX4_overlap_69 : decode cX4_overlap 69 = .ok (.getfield 24, 3) := by decide +kernel
theorem dX4_overlap_72 : decode cX4_overlap 72 = .ok (.iload_n 2, 1) := by decide +kernel
theorem dX4_overlap_73 : decode cX4_overlap 73 = .ok (.laload, 1) := by decide +kernel
theorem dX4_overlap_74 : decode cX4_overlap 74 = .ok (.goto 9, 3) := by decide +kernel
theorem dX4_overlap_77 : decode cX4_overlap 77 = .ok (.aload_n 0, 1) := by decide +kernel
theorem dX4_overlap_78 : decode cX4_overlap 78 = .ok (.getfield 27, 3) := by decide +kernel
theorem dX4_overlap_81 : decode cX4_overlap 81 = .ok (.iload_n 2, 1) := by decide +kernel
theorem dX4_overlap_82 : decode cX4_overlap 82 = .ok (.laload, 1) := by decide +kernel
theorem dX4_overlap_83 : decode cX4_overlap 83 = .ok (.lstore 8, 2) := by decide +kernel
theorem dX4_overlap_85 : decode cX4_overlap 85 = .ok (.iload_n 3, 1) := by decide +kernel
theorem dX4_overlap_86 : decode cX4_overlap 86 = .ok (.ifCond .eq 12, 3) := by decide +kernel
theorem dX4_overlap_89 : decode cX4_overlap 89 = .ok (.aload_n 0, 1) := by decide +kernel
theorem dX4_overlap_90 : decode cX4_overlap 90 = .ok (.getfield 30, 3) := by decide +kernel
theorem dX4_overlap_93 : decode cX4_overlap 93 = .ok (.iload_n 2, 1) := by decide +kernel
theorem dX4_overlap_94 : decode cX4_overlap 94 = .ok (.laload, 1) := by decide +kernel
theorem dX4_overlap_95 : decode cX4_overlap 95 = .ok (.goto 9, 3) := by decide +kernel
theorem dX4_overlap_98 : decode cX4_overlap 98 = .ok (.aload_n 0, 1) := by decide +kernel
theorem dX4_overlap_99 : decode cX4_overlap 99 = .ok (.getfield 33, 3) := by decide +kernel
theorem dX4_overlap_102 : decode cX4_overlap 102 = .ok (.iload_n 2, 1) := by decide +kernel
theorem dX4_overlap_103 : decode cX4_overlap 103 = .ok (.laload, 1) := by decide +kernel
theorem dX4_overlap_104 : decode cX4_overlap 104 = .ok (.lstore 10, 2) := by decide +kernel
theorem dX4_overlap_106 : decode cX4_overlap 106 = .ok (.lload 4, 2) := by decide +kernel
theorem dX4_overlap_108 : decode cX4_overlap 108 = .ok (.lload 6, 2) := by decide +kernel
theorem dX4_overlap_110 : decode cX4_overlap 110 = .ok (.invokestatic 117, 3) := by decide +kernel
theorem dX4_overlap_113 : decode cX4_overlap 113 = .ok (.lload 8, 2) := by decide +kernel
theorem dX4_overlap_115 : decode cX4_overlap 115 = .ok (.lload 10, 2) := by decide +kernel
theorem dX4_overlap_117 : decode cX4_overlap 117 = .ok (.invokestatic 117, 3) := by decide +kernel
theorem dX4_overlap_120 : decode cX4_overlap 120 = .ok (.lcmp, 1) := by decide +kernel
theorem dX4_overlap_121 : decode cX4_overlap 121 = .ok (.ifCond .le 13, 3) := by decide +kernel
theorem dX4_overlap_124 : decode cX4_overlap 124 = .ok (.lload 4, 2) := by decide +kernel
theorem dX4_overlap_126 : decode cX4_overlap 126 = .ok (.lload 6, 2) := by decide +kernel
theorem dX4_overlap_128 : decode cX4_overlap 128 = .ok (.invokestatic 117, 3) := by decide +kernel
theorem dX4_overlap_131 : decode cX4_overlap 131 = .ok (.goto 10, 3) := by decide +kernel
theorem dX4_overlap_134 : decode cX4_overlap 134 = .ok (.lload 8, 2) := by decide +kernel
theorem dX4_overlap_136 : decode cX4_overlap 136 = .ok (.lload 10, 2) := by decide +kernel
theorem dX4_overlap_138 : decode cX4_overlap 138 = .ok (.invokestatic 117, 3) := by decide +kernel
theorem dX4_overlap_141 : decode cX4_overlap 141 = .ok (.lstore 12, 2) := by decide +kernel
theorem dX4_overlap_143 : decode cX4_overlap 143 = .ok (.lload 4, 2) := by decide +kernel
theorem dX4_overlap_145 : decode cX4_overlap 145 = .ok (.lneg, 1) := by decide +kernel
theorem dX4_overlap_146 : decode cX4_overlap 146 = .ok (.lload 6, 2) := by decide +kernel
theorem dX4_overlap_148 : decode cX4_overlap 148 = .ok (.lneg, 1) := by decide +kernel
theorem dX4_overlap_149 : decode cX4_overlap 149 = .ok (.invokestatic 117, 3) := by decide +kernel
theorem dX4_overlap_152 : decode cX4_overlap 152 = .ok (.lneg, 1) := by decide +kernel
theorem dX4_overlap_153 : decode cX4_overlap 153 = .ok (.lload 8, 2) := by decide +kernel
theorem dX4_overlap_155 : decode cX4_overlap 155 = .ok (.lneg, 1) := by decide +kernel
theorem dX4_overlap_156 : decode cX4_overlap 156 = .ok (.lload 10, 2) := by decide +kernel
theorem dX4_overlap_158 : decode cX4_overlap 158 = .ok (.lneg, 1) := by decide +kernel
theorem dX4_overlap_159 : decode cX4_overlap 159 = .ok (.invokestatic 117, 3) := by decide +kernel
theorem dX4_overlap_162 : decode cX4_overlap 162 = .ok (.lneg, 1) := by decide +kernel
theorem dX4_overlap_163 : decode cX4_overlap 163 = .ok (.invokestatic 117, 3) := by decide +kernel
theorem dX4_overlap_166 : decode cX4_overlap 166 = .ok (.lstore 14, 2) := by decide +kernel
theorem dX4_overlap_168 : decode cX4_overlap 168 = .ok (.lload 12, 2) := by decide +kernel
theorem dX4_overlap_170 : decode cX4_overlap 170 = .ok (.lload 14, 2) := by decide +kernel
theorem dX4_overlap_172 : decode cX4_overlap 172 = .ok (.lcmp, 1) := by decide +kernel
theorem dX4_overlap_173 : decode cX4_overlap 173 = .ok (.ifCond .eq 17, 3) := by decide +kernel
theorem dX4_overlap_176 : decode cX4_overlap 176 = .ok (.lload 12, 2) := by decide +kernel
theorem dX4_overlap_178 : decode cX4_overlap 178 = .ok (.lload 14, 2) := by decide +kernel
theorem dX4_overlap_180 : decode cX4_overlap 180 = .ok (.lcmp, 1) := by decide +kernel
theorem dX4_overlap_181 : decode cX4_overlap 181 = .ok (.ifCond .ge 7, 3) := by decide +kernel
theorem dX4_overlap_184 : decode cX4_overlap 184 = .ok (.iconst 2, 1) := by decide +kernel
theorem dX4_overlap_185 : decode cX4_overlap 185 = .ok (.goto 4, 3) := by decide +kernel
theorem dX4_overlap_188 : decode cX4_overlap 188 = .ok (.iconst 0, 1) := by decide +kernel
theorem dX4_overlap_189 : decode cX4_overlap 189 = .ok (.ireturn, 1) := by decide +kernel
theorem dX4_overlap_190 : decode cX4_overlap 190 = .ok (.lload 4, 2) := by decide +kernel
theorem dX4_overlap_192 : decode cX4_overlap 192 = .ok (.lload 12, 2) := by decide +kernel
theorem dX4_overlap_194 : decode cX4_overlap 194 = .ok (.lcmp, 1) := by decide +kernel
theorem dX4_overlap_195 : decode cX4_overlap 195 = .ok (.ifCond .ne 7, 3) := by decide +kernel
theorem dX4_overlap_198 : decode cX4_overlap 198 = .ok (.iconst 1, 1) := by decide +kernel
theorem dX4_overlap_199 : decode cX4_overlap 199 = .ok (.goto 4, 3) := by decide +kernel
theorem dX4_overlap_202 : decode cX4_overlap 202 = .ok (.iconst 0, 1) := by decide +kernel
theorem dX4_overlap_203 : decode cX4_overlap 203 = .ok (.istore 16, 2) := by decide +kernel
theorem dX4_overlap_205 : decode cX4_overlap 205 = .ok (.aload_n 0, 1) := by decide +kernel
theorem dX4_overlap_206 : decode cX4_overlap 206 = .ok (.bipush 12, 2) := by decide +kernel
theorem dX4_overlap_208 : decode cX4_overlap 208 = .ok (.iload 16, 2) := by decide +kernel
theorem dX4_overlap_210 : decode cX4_overlap 210 = .ok (.ifCond .eq 12, 3) := by decide +kernel
theorem dX4_overlap_213 : decode cX4_overlap 213 = .ok (.aload_n 0, 1) := by decide +kernel
theorem dX4_overlap_214 : decode cX4_overlap 214 = .ok (.getfield 24, 3) := by decide +kernel
theorem dX4_overlap_217 : decode cX4_overlap 217 = .ok (.iload_n 1, 1) := by decide +kernel
theorem dX4_overlap_218 : decode cX4_overlap 218 = .ok (.laload, 1) := by decide +kernel
theorem dX4_overlap_219 : decode cX4_overlap 219 = .ok (.goto 9, 3) := by decide +kernel
theorem dX4_overlap_222 : decode cX4_overlap 222 = .ok (.aload_n 0, 1) := by decide +kernel
theorem dX4_overlap_223 : decode cX4_overlap 223 = .ok (.getfield 30, 3) := by decide +kernel
theorem dX4_overlap_226 : decode cX4_overlap 226 = .ok (.iload_n 1, 1) := by decide +kernel
theorem dX4_overlap_227 : decode cX4_overlap 227 = .ok (.laload, 1) := by decide +kernel
theorem dX4_overlap_228 : decode cX4_overlap 228 = .ok (.invokevirtual 60, 3) := by decide +kernel
theorem dX4_overlap_231 : decode cX4_overlap 231 = .ok (.aload_n 0, 1) := by decide +kernel
theorem dX4_overlap_232 : decode cX4_overlap 232 = .ok (.bipush 13, 2) := by decide +kernel
theorem dX4_overlap_234 : decode cX4_overlap 234 = .ok (.lconst 1, 1) := by decide +kernel
theorem dX4_overlap_235 : decode cX4_overlap 235 = .ok (.invokevirtual 60, 3) := by decide +kernel
theorem dX4_overlap_238 : decode cX4_overlap 238 = .ok (.aload_n 0, 1) := by decide +kernel
theorem dX4_overlap_239 : decode cX4_overlap 239 = .ok (.bipush 14, 2) := by decide +kernel
theorem dX4_overlap_241 : decode cX4_overlap 241 = .ok (.iload 16, 2) := by decide +kernel
theorem dX4_overlap_243 : decode cX4_overlap 243 = .ok (.ifCond .eq 12, 3) := by decide +kernel
theorem dX4_overlap_246 : decode cX4_overlap 246 = .ok (.aload_n 0, 1) := by decide +kernel
theorem dX4_overlap_247 : decode cX4_overlap 247 = .ok (.getfield 27, 3) := by decide +kernel
theorem dX4_overlap_250 : decode cX4_overlap 250 = .ok (.iload_n 1, 1) := by decide +kernel
theorem dX4_overlap_251 : decode cX4_overlap 251 = .ok (.laload, 1) := by decide +kernel
theorem dX4_overlap_252 : decode cX4_overlap 252 = .ok (.goto 9, 3) := by decide +kernel
theorem dX4_overlap_255 : decode cX4_overlap 255 = .ok (.aload_n 0, 1) := by decide +kernel
theorem dX4_overlap_256 : decode cX4_overlap 256 = .ok (.getfield 33, 3) := by decide +kernel
theorem dX4_overlap_259 : decode cX4_overlap 259 = .ok (.iload_n 1, 1) := by decide +kernel
theorem dX4_overlap_260 : decode cX4_overlap 260 = .ok (.laload, 1) := by decide +kernel
theorem dX4_overlap_261 : decode cX4_overlap 261 = .ok (.invokevirtual 60, 3) := by decide +kernel
theorem dX4_overlap_264 : decode cX4_overlap 264 = .ok (.aload_n 0, 1) := by decide +kernel
theorem dX4_overlap_265 : decode cX4_overlap 265 = .ok (.bipush 15, 2) := by decide +kernel
theorem dX4_overlap_267 : decode cX4_overlap 267 = .ok (.lconst 1, 1) := by decide +kernel
theorem dX4_overlap_268 : decode cX4_overlap 268 = .ok (.invokevirtual 60, 3) := by decide +kernel
theorem dX4_overlap_271 : decode cX4_overlap 271 = .ok (.iconst 1, 1) := by decide +kernel
theorem dX4_overlap_272 : decode cX4_overlap 272 = .ok (.ireturn, 1) := by decide +kernel
theorem dX4_place_0 : decode cX4_place 0 = .ok (.aload_n 0, 1) := by decide +kernel
theorem dX4_place_1 : decode cX4_place 1 = .ok (.iconst 0, 1) := by decide +kernel
theorem dX4_place_2 : decode cX4_place 2 = .ok (.lload_n 2, 1) := by decide +kernel
theorem dX4_place_3 : decode cX4_place 3 = .ok (.invokevirtual 60, 3) := by decide +kernel
theorem dX4_place_6 : decode cX4_place 6 = .ok (.aload_n 0, 1) := by decide +kernel
theorem dX4_place_7 : decode cX4_place 7 = .ok (.iconst 2, 1) := by decide +kernel
theorem dX4_place_8 : decode cX4_place 8 = .ok (.iconst 0, 1) := by decide +kernel
theorem dX4_place_9 : decode cX4_place 9 = .ok (.iconst 4, 1) := by decide +kernel
theorem dX4_place_10 : decode cX4_place 10 = .ok (.invokevirtual 84, 3) := by decide +kernel
theorem dX4_place_13 : decode cX4_place 13 = .ok (.aload_n 0, 1) := by decide +kernel
theorem dX4_place_14 : decode cX4_place 14 = .ok (.iconst 0, 1) := by decide +kernel
theorem dX4_place_15 : decode cX4_place 15 = .ok (.lload 4, 2) := by decide +kernel
theorem dX4_place_17 : decode cX4_place 17 = .ok (.invokevirtual 60, 3) := by decide +kernel
theorem dX4_place_20 : decode cX4_place 20 = .ok (.aload_n 0, 1) := by decide +kernel
theorem dX4_place_21 : decode cX4_place 21 = .ok (.iconst 3, 1) := by decide +kernel
theorem dX4_place_22 : decode cX4_place 22 = .ok (.iconst 0, 1) := by decide +kernel
theorem dX4_place_23 : decode cX4_place 23 = .ok (.iconst 5, 1) := by decide +kernel
theorem dX4_place_24 : decode cX4_place 24 = .ok (.invokevirtual 84, 3) := by decide +kernel
theorem dX4_place_27 : decode cX4_place 27 = .ok (.aload_n 0, 1) := by decide +kernel
theorem dX4_place_28 : decode cX4_place 28 = .ok (.iload_n 1, 1) := by decide +kernel
theorem dX4_place_29 : decode cX4_place 29 = .ok (.iconst 2, 1) := by decide +kernel
theorem dX4_place_30 : decode cX4_place 30 = .ok (.iconst 3, 1) := by decide +kernel
theorem dX4_place_31 : decode cX4_place 31 = .ok (.invokevirtual 88, 3) := by decide +kernel
theorem dX4_place_34 : decode cX4_place 34 = .ok (.aload_n 0, 1) := by decide +kernel
theorem dX4_place_35 : decode cX4_place 35 = .ok (.iload_n 1, 1) := by decide +kernel
theorem dX4_place_36 : decode cX4_place 36 = .ok (.iconst 1, 1) := by decide +kernel
theorem dX4_place_37 : decode cX4_place 37 = .ok (.iadd, 1) := by decide +kernel
theorem dX4_place_38 : decode cX4_place 38 = .ok (.iconst 4, 1) := by decide +kernel
theorem dX4_place_39 : decode cX4_place 39 = .ok (.invokevirtual 68, 3) := by decide +kernel
theorem dX4_place_42 : decode cX4_place 42 = .ok (.aload_n 0, 1) := by decide +kernel
theorem dX4_place_43 : decode cX4_place 43 = .ok (.iload_n 1, 1) := by decide +kernel
theorem dX4_place_44 : decode cX4_place 44 = .ok (.invokevirtual 121, 3) := by decide +kernel
theorem dX4_place_47 : decode cX4_place 47 = .ok (.return_, 1) := by decide +kernel
theorem dX4_meet_0 : decode cX4_meet 0 = .ok (.aload_n 0, 1) := by decide +kernel
theorem dX4_meet_1 : decode cX4_meet 1 = .ok (.getfield 30, 3) := by decide +kernel
theorem dX4_meet_4 : decode cX4_meet 4 = .ok (.iload_n 1, 1) := by decide +kernel
theorem dX4_meet_5 : decode cX4_meet 5 = .ok (.laload, 1) := by decide +kernel
theorem dX4_meet_6 : decode cX4_meet 6 = .ok (.aload_n 0, 1) := by decide +kernel
theorem dX4_meet_7 : decode cX4_meet 7 = .ok (.getfield 24, 3) := by decide +kernel
theorem dX4_meet_10 : decode cX4_meet 10 = .ok (.iload_n 1, 1) := by decide +kernel
theorem dX4_meet_11 : decode cX4_meet 11 = .ok (.laload, 1) := by decide +kernel
theorem dX4_meet_12 : decode cX4_meet 12 = .ok (.lsub, 1) := by decide +kernel
theorem dX4_meet_13 : decode cX4_meet 13 = .ok (.lstore_n 3, 1) := by decide +kernel
theorem dX4_meet_14 : decode cX4_meet 14 = .ok (.aload_n 0, 1) := by decide +kernel
theorem dX4_meet_15 : decode cX4_meet 15 = .ok (.getfield 33, 3) := by decide +kernel
theorem dX4_meet_18 : decode cX4_meet 18 = .ok (.iload_n 1, 1) := by decide +kernel
theorem dX4_meet_19 : decode cX4_meet 19 = .ok (.laload, 1) := by decide +kernel
theorem dX4_meet_20 : decode cX4_meet 20 = .ok (.aload_n 0, 1) := by decide +kernel
theorem dX4_meet_21 : decode cX4_meet 21 = .ok (.getfield 27, 3) := by decide +kernel
theorem dX4_meet_24 : decode cX4_meet 24 = .ok (.iload_n 1, 1) := by decide +kernel
theorem dX4_meet_25 : decode cX4_meet 25 = .ok (.laload, 1) := by decide +kernel
theorem dX4_meet_26 : decode cX4_meet 26 = .ok (.lsub, 1) := by decide +kernel
theorem dX4_meet_27 : decode cX4_meet 27 = .ok (.lstore 5, 2) := by decide +kernel
theorem dX4_meet_29 : decode cX4_meet 29 = .ok (.aload_n 0, 1) := by decide +kernel
theorem dX4_meet_30 : decode cX4_meet 30 = .ok (.getfield 30, 3) := by decide +kernel
theorem dX4_meet_33 : decode cX4_meet 33 = .ok (.iload_n 2, 1) := by decide +kernel
theorem dX4_meet_34 : decode cX4_meet 34 = .ok (.laload, 1) := by decide +kernel
theorem dX4_meet_35 : decode cX4_meet 35 = .ok (.aload_n 0, 1) := by decide +kernel
theorem dX4_meet_36 : decode cX4_meet 36 = .ok (.getfield 24, 3) := by decide +kernel
theorem dX4_meet_39 : decode cX4_meet 39 = .ok (.iload_n 2, 1) := by decide +kernel
theorem dX4_meet_40 : decode cX4_meet 40 = .ok (.laload, 1) := by decide +kernel
theorem dX4_meet_41 : decode cX4_meet 41 = .ok (.lsub, 1) := by decide +kernel
theorem dX4_meet_42 : decode cX4_meet 42 = .ok (.lstore 7, 2) := by decide +kernel
theorem dX4_meet_44 : decode cX4_meet 44 = .ok (.aload_n 0, 1) := by decide +kernel
theorem dX4_meet_45 : decode cX4_meet 45 = .ok (.getfield 33, 3) := by decide +kernel
theorem dX4_meet_48 : decode cX4_meet 48 = .ok (.iload_n 2, 1) := by decide +kernel
theorem dX4_meet_49 : decode cX4_meet 49 = .ok (.laload, 1) := by decide +kernel
theorem dX4_meet_50 : decode cX4_meet 50 = .ok (.aload_n 0, 1) := by decide +kernel
theorem dX4_meet_51 : decode cX4_meet 51 = .ok (.getfield 27, 3) := by decide +kernel
theorem dX4_meet_54 : decode cX4_meet 54 = .ok (.iload_n 2, 1) := by decide +kernel
theorem dX4_meet_55 : decode cX4_meet 55 = .ok (.laload, 1) := by decide +kernel
theorem dX4_meet_56 : decode cX4_meet 56 = .ok (.lsub, 1) := by decide +kernel
theorem dX4_meet_57 : decode cX4_meet 57 = .ok (.lstore 9, 2) := by decide +kernel
theorem dX4_meet_59 : decode cX4_meet 59 = .ok (.aload_n 0, 1) := by decide +kernel
theorem dX4_meet_60 : decode cX4_meet 60 = .ok (.getfield 24, 3) := by decide +kernel
theorem dX4_meet_63 : decode cX4_meet 63 = .ok (.iload_n 2, 1) := by decide +kernel
theorem dX4_meet_64 : decode cX4_meet 64 = .ok (.laload, 1) := by decide +kernel
theorem dX4_meet_65 : decode cX4_meet 65 = .ok (.aload_n 0, 1) := by decide +kernel
theorem dX4_meet_66 : decode cX4_meet 66 = .ok (.getfield 24, 3) := by decide +kernel
theorem dX4_meet_69 : decode cX4_meet 69 = .ok (.iload_n 1, 1) := by decide +kernel
theorem dX4_meet_70 : decode cX4_meet 70 = .ok (.laload, 1) := by decide +kernel
theorem dX4_meet_71 : decode cX4_meet 71 = .ok (.lsub, 1) := by decide +kernel
theorem dX4_meet_72 : decode cX4_meet 72 = .ok (.lstore 11, 2) := by decide +kernel
theorem dX4_meet_74 : decode cX4_meet 74 = .ok (.aload_n 0, 1) := by decide +kernel
theorem dX4_meet_75 : decode cX4_meet 75 = .ok (.getfield 27, 3) := by decide +kernel
theorem dX4_meet_78 : decode cX4_meet 78 = .ok (.iload_n 2, 1) := by decide +kernel
theorem dX4_meet_79 : decode cX4_meet 79 = .ok (.laload, 1) := by decide +kernel
theorem dX4_meet_80 : decode cX4_meet 80 = .ok (.aload_n 0, 1) := by decide +kernel
theorem dX4_meet_81 : decode cX4_meet 81 = .ok (.getfield 27, 3) := by decide +kernel
theorem dX4_meet_84 : decode cX4_meet 84 = .ok (.iload_n 1, 1) := by decide +kernel
theorem dX4_meet_85 : decode cX4_meet 85 = .ok (.laload, 1) := by decide +kernel
theorem dX4_meet_86 : decode cX4_meet 86 = .ok (.lsub, 1) := by decide +kernel
theorem dX4_meet_87 : decode cX4_meet 87 = .ok (.lstore 13, 2) := by decide +kernel
theorem dX4_meet_89 : decode cX4_meet 89 = .ok (.aload_n 0, 1) := by decide +kernel
theorem dX4_meet_90 : decode cX4_meet 90 = .ok (.iconst 4, 1) := by decide +kernel
theorem dX4_meet_91 : decode cX4_meet 91 = .ok (.lload_n 3, 1) := by decide +kernel
theorem dX4_meet_92 : decode cX4_meet 92 = .ok (.lload 5, 2) := by decide +kernel
theorem dX4_meet_94 : decode cX4_meet 94 = .ok (.lload 7, 2) := by decide +kernel
theorem dX4_meet_96 : decode cX4_meet 96 = .ok (.lload 9, 2) := by decide +kernel
theorem dX4_meet_98 : decode cX4_meet 98 = .ok (.invokevirtual 99, 3) := by decide +kernel
theorem dX4_meet_101 : decode cX4_meet 101 = .ok (.aload_n 0, 1) := by decide +kernel
theorem dX4_meet_102 : decode cX4_meet 102 = .ok (.iconst 5, 1) := by decide +kernel
theorem dX4_meet_103 : decode cX4_meet 103 = .ok (.lload 11, 2) := by decide +kernel
theorem dX4_meet_105 : decode cX4_meet 105 = .ok (.lload 13, 2) := by decide +kernel
theorem dX4_meet_107 : decode cX4_meet 107 = .ok (.lload 7, 2) := by decide +kernel
theorem dX4_meet_109 : decode cX4_meet 109 = .ok (.lload 9, 2) := by decide +kernel
theorem dX4_meet_111 : decode cX4_meet 111 = .ok (.invokevirtual 99, 3) := by decide +kernel
theorem dX4_meet_114 : decode cX4_meet 114 = .ok (.aload_n 0, 1) := by decide +kernel
theorem dX4_meet_115 : decode cX4_meet 115 = .ok (.bipush 6, 2) := by decide +kernel
theorem dX4_meet_117 : decode cX4_meet 117 = .ok (.lload 11, 2) := by decide +kernel
theorem dX4_meet_119 : decode cX4_meet 119 = .ok (.lload 13, 2) := by decide +kernel
theorem dX4_meet_121 : decode cX4_meet 121 = .ok (.lload_n 3, 1) := by decide +kernel
theorem dX4_meet_122 : decode cX4_meet 122 = .ok (.lload 5, 2) := by decide +kernel
theorem dX4_meet_124 : decode cX4_meet 124 = .ok (.invokevirtual 99, 3) := by decide +kernel
theorem dX4_meet_127 : decode cX4_meet 127 = .ok (.aload_n 0, 1) := by decide +kernel
theorem dX4_meet_128 : decode cX4_meet 128 = .ok (.getfield 13, 3) := by decide +kernel
theorem dX4_meet_131 : decode cX4_meet 131 = .ok (.iconst 4, 1) := by decide +kernel
theorem dX4_meet_132 : decode cX4_meet 132 = .ok (.iaload, 1) := by decide +kernel
theorem dX4_meet_133 : decode cX4_meet 133 = .ok (.ifCond .ne 24, 3) := by decide +kernel
theorem dX4_meet_136 : decode cX4_meet 136 = .ok (.aload_n 0, 1) := by decide +kernel
theorem dX4_meet_137 : decode cX4_meet 137 = .ok (.getfield 13, 3) := by decide +kernel
theorem dX4_meet_140 : decode cX4_meet 140 = .ok (.bipush 6, 2) := by decide +kernel
theorem dX4_meet_142 : decode cX4_meet 142 = .ok (.iaload, 1) := by decide +kernel
theorem dX4_meet_143 : decode cX4_meet 143 = .ok (.ifCond .ne 12, 3) := by decide +kernel
theorem dX4_meet_146 : decode cX4_meet 146 = .ok (.aload_n 0, 1) := by decide +kernel
theorem dX4_meet_147 : decode cX4_meet 147 = .ok (.iload_n 1, 1) := by decide +kernel
theorem dX4_meet_148 : decode cX4_meet 148 = .ok (.iload_n 2, 1) := by decide +kernel
theorem dX4_meet_149 : decode cX4_meet 149 = .ok (.invokevirtual 124, 3) := by decide +kernel
theorem dX4_meet_152 : decode cX4_meet 152 = .ok (.goto 4, 3) := by decide +kernel
theorem dX4_meet_155 : decode cX4_meet 155 = .ok (.iconst 0, 1) := by decide +kernel
theorem dX4_meet_156 : decode cX4_meet 156 = .ok (.ireturn, 1) := by decide +kernel
theorem dX4_meet_157 : decode cX4_meet 157 = .ok (.aload_n 0, 1) := by decide +kernel
theorem dX4_meet_158 : decode cX4_meet 158 = .ok (.getfield 13, 3) := by decide +kernel
theorem dX4_meet_161 : decode cX4_meet 161 = .ok (.iconst 4, 1) := by decide +kernel
theorem dX4_meet_162 : decode cX4_meet 162 = .ok (.iaload, 1) := by decide +kernel
theorem dX4_meet_163 : decode cX4_meet 163 = .ok (.istore 15, 2) := by decide +kernel
theorem dX4_meet_165 : decode cX4_meet 165 = .ok (.aload_n 0, 1) := by decide +kernel
theorem dX4_meet_166 : decode cX4_meet 166 = .ok (.getfield 13, 3) := by decide +kernel
theorem dX4_meet_169 : decode cX4_meet 169 = .ok (.iconst 4, 1) := by decide +kernel
theorem dX4_meet_170 : decode cX4_meet 170 = .ok (.iconst 1, 1) := by decide +kernel
theorem dX4_meet_171 : decode cX4_meet 171 = .ok (.iastore, 1) := by decide +kernel
theorem dX4_meet_172 : decode cX4_meet 172 = .ok (.aload_n 0, 1) := by decide +kernel
theorem dX4_meet_173 : decode cX4_meet 173 = .ok (.getfield 13, 3) := by decide +kernel
theorem dX4_meet_176 : decode cX4_meet 176 = .ok (.iconst 5, 1) := by decide +kernel
theorem dX4_meet_177 : decode cX4_meet 177 = .ok (.iload 15, 2) := by decide +kernel
theorem dX4_meet_179 : decode cX4_meet 179 = .ok (.aload_n 0, 1) := by decide +kernel
theorem dX4_meet_180 : decode cX4_meet 180 = .ok (.getfield 13, 3) := by decide +kernel
theorem dX4_meet_183 : decode cX4_meet 183 = .ok (.iconst 5, 1) := by decide +kernel
theorem dX4_meet_184 : decode cX4_meet 184 = .ok (.iaload, 1) := by decide +kernel
theorem dX4_meet_185 : decode cX4_meet 185 = .ok (.imul, 1) := by decide +kernel
theorem dX4_meet_186 : decode cX4_meet 186 = .ok (.iastore, 1) := by decide +kernel
theorem dX4_meet_187 : decode cX4_meet 187 = .ok (.aload_n 0, 1) := by decide +kernel
theorem dX4_meet_188 : decode cX4_meet 188 = .ok (.getfield 13, 3) := by decide +kernel
theorem dX4_meet_191 : decode cX4_meet 191 = .ok (.bipush 6, 2) := by decide +kernel
theorem dX4_meet_193 : decode cX4_meet 193 = .ok (.iload 15, 2) := by decide +kernel
theorem dX4_meet_195 : decode cX4_meet 195 = .ok (.aload_n 0, 1) := by decide +kernel
theorem dX4_meet_196 : decode cX4_meet 196 = .ok (.getfield 13, 3) := by decide +kernel
theorem dX4_meet_199 : decode cX4_meet 199 = .ok (.bipush 6, 2) := by decide +kernel
theorem dX4_meet_201 : decode cX4_meet 201 = .ok (.iaload, 1) := by decide +kernel
theorem dX4_meet_202 : decode cX4_meet 202 = .ok (.imul, 1) := by decide +kernel
theorem dX4_meet_203 : decode cX4_meet 203 = .ok (.iastore, 1) := by decide +kernel
theorem dX4_meet_204 : decode cX4_meet 204 = .ok (.aload_n 0, 1) := by decide +kernel
theorem dX4_meet_205 : decode cX4_meet 205 = .ok (.getfield 13, 3) := by decide +kernel
theorem dX4_meet_208 : decode cX4_meet 208 = .ok (.iconst 5, 1) := by decide +kernel
theorem dX4_meet_209 : decode cX4_meet 209 = .ok (.iaload, 1) := by decide +kernel
theorem dX4_meet_210 : decode cX4_meet 210 = .ok (.ifCond .lt 32, 3) := by decide +kernel
theorem dX4_meet_213 : decode cX4_meet 213 = .ok (.aload_n 0, 1) := by decide +kernel
theorem dX4_meet_214 : decode cX4_meet 214 = .ok (.getfield 13, 3) := by decide +kernel
theorem dX4_meet_217 : decode cX4_meet 217 = .ok (.bipush 6, 2) := by decide +kernel
theorem dX4_meet_219 : decode cX4_meet 219 = .ok (.iaload, 1) := by decide +kernel
theorem dX4_meet_220 : decode cX4_meet 220 = .ok (.ifCond .lt 22, 3) := by decide +kernel
theorem dX4_meet_223 : decode cX4_meet 223 = .ok (.aload_n 0, 1) := by decide +kernel
theorem dX4_meet_224 : decode cX4_meet 224 = .ok (.iconst 5, 1) := by decide +kernel
theorem dX4_meet_225 : decode cX4_meet 225 = .ok (.iconst 4, 1) := by decide +kernel
theorem dX4_meet_226 : decode cX4_meet 226 = .ok (.invokevirtual 52, 3) := by decide +kernel
theorem dX4_meet_229 : decode cX4_meet 229 = .ok (.ifCond .gt 13, 3) := by decide +kernel
theorem dX4_meet_232 : decode cX4_meet 232 = .ok (.aload_n 0, 1) := by decide +kernel
theorem dX4_meet_233 : decode cX4_meet 233 = .ok (.bipush 6, 2) := by decide +kernel
theorem dX4_meet_235 : decode cX4_meet 235 = .ok (.iconst 4, 1) := by decide +kernel
theorem dX4_meet_236 : decode cX4_meet 236 = .ok (.invokevirtual 52, 3) := by decide +kernel
theorem dX4_meet_239 : decode cX4_meet 239 = .ok (.ifCond .le 5, 3) := by decide +kernel
theorem dX4_meet_242 : decode cX4_meet 242 = .ok (.iconst 0, 1) := by decide +kernel
theorem dX4_meet_243 : decode cX4_meet 243 = .ok (.ireturn, 1) := by decide +kernel
theorem dX4_meet_244 : decode cX4_meet 244 = .ok (.aload_n 0, 1) := by decide +kernel
theorem dX4_meet_245 : decode cX4_meet 245 = .ok (.bipush 12, 2) := by decide +kernel
theorem dX4_meet_247 : decode cX4_meet 247 = .ok (.aload_n 0, 1) := by decide +kernel
theorem dX4_meet_248 : decode cX4_meet 248 = .ok (.getfield 24, 3) := by decide +kernel
theorem dX4_meet_251 : decode cX4_meet 251 = .ok (.iload_n 1, 1) := by decide +kernel
theorem dX4_meet_252 : decode cX4_meet 252 = .ok (.laload, 1) := by decide +kernel
theorem dX4_meet_253 : decode cX4_meet 253 = .ok (.lload_n 3, 1) := by decide +kernel
theorem dX4_meet_254 : decode cX4_meet 254 = .ok (.invokevirtual 127, 3) := by decide +kernel
theorem dX4_meet_257 : decode cX4_meet 257 = .ok (.aload_n 0, 1) := by decide +kernel
theorem dX4_meet_258 : decode cX4_meet 258 = .ok (.bipush 14, 2) := by decide +kernel
theorem dX4_meet_260 : decode cX4_meet 260 = .ok (.aload_n 0, 1) := by decide +kernel
theorem dX4_meet_261 : decode cX4_meet 261 = .ok (.getfield 27, 3) := by decide +kernel
theorem dX4_meet_264 : decode cX4_meet 264 = .ok (.iload_n 1, 1) := by decide +kernel
theorem dX4_meet_265 : decode cX4_meet 265 = .ok (.laload, 1) := by decide +kernel
theorem dX4_meet_266 : decode cX4_meet 266 = .ok (.lload 5, 2) := by decide +kernel
theorem dX4_meet_268 : decode cX4_meet 268 = .ok (.invokevirtual 127, 3) := by decide +kernel
theorem dX4_meet_271 : decode cX4_meet 271 = .ok (.iconst 1, 1) := by decide +kernel
theorem dX4_meet_272 : decode cX4_meet 272 = .ok (.ireturn, 1) := by decide +kernel
theorem dX4_cross_0 : decode cX4_cross 0 = .ok (.aload_n 0, 1) := by decide +kernel
theorem dX4_cross_1 : decode cX4_cross 1 = .ok (.iconst 0, 1) := by decide +kernel
theorem dX4_cross_2 : decode cX4_cross 2 = .ok (.putfield 42, 3) := by decide +kernel
theorem dX4_cross_5 : decode cX4_cross 5 = .ok (.iload_n 1, 1) := by decide +kernel
theorem dX4_cross_6 : decode cX4_cross 6 = .ok (.invokestatic 111, 3) := by decide +kernel
theorem dX4_cross_9 : decode cX4_cross 9 = .ok (.ifCond .eq 28, 3) := by decide +kernel
theorem dX4_cross_12 : decode cX4_cross 12 = .ok (.iload_n 2, 1) := by decide +kernel
theorem dX4_cross_13 : decode cX4_cross 13 = .ok (.invokestatic 111, 3) := by decide +kernel
theorem dX4_cross_16 : decode cX4_cross 16 = .ok (.ifCond .eq 21, 3) := by decide +kernel
theorem dX4_cross_19 : decode cX4_cross 19 = .ok (.aload_n 0, 1) := by decide +kernel
theorem dX4_cross_20 : decode cX4_cross 20 = .ok (.getfield 20, 3) := by decide +kernel
theorem dX4_cross_23 : decode cX4_cross 23 = .ok (.iload_n 1, 1) := by decide +kernel
theorem dX4_cross_24 : decode cX4_cross 24 = .ok (.baload, 1) := by decide +kernel
theorem dX4_cross_25 : decode cX4_cross 25 = .ok (.ifCond .eq 12, 3) := by decide +kernel
theorem dX4_cross_28 : decode cX4_cross 28 = .ok (.aload_n 0, 1) := by decide +kernel
theorem dX4_cross_29 : decode cX4_cross 29 = .ok (.getfield 20, 3) := by decide +kernel
theorem dX4_cross_32 : decode cX4_cross 32 = .ok (.iload_n 2, 1) := by decide +kernel
theorem dX4_cross_33 : decode cX4_cross 33 = .ok (.baload, 1) := by decide +kernel
theorem dX4_cross_34 : decode cX4_cross 34 = .ok (.ifCond .ne 5, 3) := by decide +kernel
theorem dX4_cross_37 : decode cX4_cross 37 = .ok (.iconst (-1), 1) := by decide +kernel
theorem dX4_cross_38 : decode cX4_cross 38 = .ok (.ireturn, 1) := by decide +kernel
theorem dX4_cross_39 : decode cX4_cross 39 = .ok (.aload_n 0, 1) := by decide +kernel
theorem dX4_cross_40 : decode cX4_cross 40 = .ok (.iload_n 1, 1) := by decide +kernel
theorem dX4_cross_41 : decode cX4_cross 41 = .ok (.iload_n 2, 1) := by decide +kernel
theorem dX4_cross_42 : decode cX4_cross 42 = .ok (.invokevirtual 131, 3) := by decide +kernel
theorem dX4_cross_45 : decode cX4_cross 45 = .ok (.istore_n 3, 1) := by decide +kernel
theorem dX4_cross_46 : decode cX4_cross 46 = .ok (.aload_n 0, 1) := by decide +kernel
theorem dX4_cross_47 : decode cX4_cross 47 = .ok (.iload_n 3, 1) := by decide +kernel
theorem dX4_cross_48 : decode cX4_cross 48 = .ok (.iconst 1, 1) := by decide +kernel
theorem dX4_cross_49 : decode cX4_cross 49 = .ok (.if_icmp .ne 7, 3) := by decide +kernel
theorem dX4_cross_52 : decode cX4_cross 52 = .ok (.iconst 1, 1) := by decide +kernel
theorem dX4_cross_53 : decode cX4_cross 53 = .ok (.goto 4, 3) := by decide +kernel
theorem dX4_cross_56 : decode cX4_cross 56 = .ok (.iconst 0, 1) := by decide +kernel
theorem dX4_cross_57 : decode cX4_cross 57 = .ok (.putfield 134, 3) := by decide +kernel
theorem dX4_cross_60 : decode cX4_cross 60 = .ok (.iload_n 3, 1) := by decide +kernel
theorem dX4_cross_61 : decode cX4_cross 61 = .ok (.ireturn, 1) := by decide +kernel
theorem dX4_at_0 : decode cX4_at 0 = .ok (.aload_n 0, 1) := by decide +kernel
theorem dX4_at_1 : decode cX4_at 1 = .ok (.iconst 0, 1) := by decide +kernel
theorem dX4_at_2 : decode cX4_at 2 = .ok (.putfield 42, 3) := by decide +kernel
theorem dX4_at_5 : decode cX4_at 5 = .ok (.aload_n 0, 1) := by decide +kernel
theorem dX4_at_6 : decode cX4_at 6 = .ok (.getfield 134, 3) := by decide +kernel
theorem dX4_at_9 : decode cX4_at 9 = .ok (.ifCond .eq 12, 3) := by decide +kernel
theorem dX4_at_12 : decode cX4_at 12 = .ok (.iload_n 1, 1) := by decide +kernel
theorem dX4_at_13 : decode cX4_at 13 = .ok (.ifCond .lt 8, 3) := by decide +kernel
theorem dX4_at_16 : decode cX4_at 16 = .ok (.iload_n 1, 1) := by decide +kernel
theorem dX4_at_17 : decode cX4_at 17 = .ok (.iconst 1, 1) := by decide +kernel
theorem dX4_at_18 : decode cX4_at 18 = .ok (.if_icmp .le 7, 3) := by decide +kernel
theorem dX4_at_21 : decode cX4_at 21 = .ok (.ldc2_w 138, 3) := by decide +kernel
theorem dX4_at_24 : decode cX4_at 24 = .ok (.lreturn, 1) := by decide +kernel
theorem dX4_at_25 : decode cX4_at 25 = .ok (.iload_n 1, 1) := by decide +kernel
theorem dX4_at_26 : decode cX4_at 26 = .ok (.ifCond .ne 8, 3) := by decide +kernel
theorem dX4_at_29 : decode cX4_at 29 = .ok (.bipush 12, 2) := by decide +kernel
theorem dX4_at_31 : decode cX4_at 31 = .ok (.goto 5, 3) := by decide +kernel
theorem dX4_at_34 : decode cX4_at 34 = .ok (.bipush 14, 2) := by decide +kernel
theorem dX4_at_36 : decode cX4_at 36 = .ok (.istore_n 2, 1) := by decide +kernel
theorem dX4_at_37 : decode cX4_at 37 = .ok (.aload_n 0, 1) := by decide +kernel
theorem dX4_at_38 : decode cX4_at 38 = .ok (.iconst 0, 1) := by decide +kernel
theorem dX4_at_39 : decode cX4_at 39 = .ok (.iload_n 2, 1) := by decide +kernel
theorem dX4_at_40 : decode cX4_at 40 = .ok (.invokevirtual 68, 3) := by decide +kernel
theorem dX4_at_43 : decode cX4_at 43 = .ok (.aload_n 0, 1) := by decide +kernel
theorem dX4_at_44 : decode cX4_at 44 = .ok (.iconst 0, 1) := by decide +kernel
theorem dX4_at_45 : decode cX4_at 45 = .ok (.invokevirtual 64, 3) := by decide +kernel
theorem dX4_at_48 : decode cX4_at 48 = .ok (.aload_n 0, 1) := by decide +kernel
theorem dX4_at_49 : decode cX4_at 49 = .ok (.iconst 0, 1) := by decide +kernel
theorem dX4_at_50 : decode cX4_at 50 = .ok (.iconst 0, 1) := by decide +kernel
theorem dX4_at_51 : decode cX4_at 51 = .ok (.iload_n 2, 1) := by decide +kernel
theorem dX4_at_52 : decode cX4_at 52 = .ok (.iconst 1, 1) := by decide +kernel
theorem dX4_at_53 : decode cX4_at 53 = .ok (.iadd, 1) := by decide +kernel
theorem dX4_at_54 : decode cX4_at 54 = .ok (.iconst 1, 1) := by decide +kernel
theorem dX4_at_55 : decode cX4_at 55 = .ok (.invokevirtual 48, 3) := by decide +kernel
theorem dX4_at_58 : decode cX4_at 58 = .ok (.aload_n 0, 1) := by decide +kernel
theorem dX4_at_59 : decode cX4_at 59 = .ok (.iconst 1, 1) := by decide +kernel
theorem dX4_at_60 : decode cX4_at 60 = .ok (.iload_n 2, 1) := by decide +kernel
theorem dX4_at_61 : decode cX4_at 61 = .ok (.iconst 1, 1) := by decide +kernel
theorem dX4_at_62 : decode cX4_at 62 = .ok (.iadd, 1) := by decide +kernel
theorem dX4_at_63 : decode cX4_at 63 = .ok (.invokevirtual 68, 3) := by decide +kernel
theorem dX4_at_66 : decode cX4_at 66 = .ok (.aload_n 0, 1) := by decide +kernel
theorem dX4_at_67 : decode cX4_at 67 = .ok (.iconst 1, 1) := by decide +kernel
theorem dX4_at_68 : decode cX4_at 68 = .ok (.invokevirtual 64, 3) := by decide +kernel
theorem dX4_at_71 : decode cX4_at 71 = .ok (.aload_n 0, 1) := by decide +kernel
theorem dX4_at_72 : decode cX4_at 72 = .ok (.iconst 0, 1) := by decide +kernel
theorem dX4_at_73 : decode cX4_at 73 = .ok (.iconst 1, 1) := by decide +kernel
theorem dX4_at_74 : decode cX4_at 74 = .ok (.invokevirtual 81, 3) := by decide +kernel
theorem dX4_at_77 : decode cX4_at 77 = .ok (.aload_n 0, 1) := by decide +kernel
theorem dX4_at_78 : decode cX4_at 78 = .ok (.bipush 9, 2) := by decide +kernel
theorem dX4_at_80 : decode cX4_at 80 = .ok (.aload_n 0, 1) := by decide +kernel
theorem dX4_at_81 : decode cX4_at 81 = .ok (.getfield 13, 3) := by decide +kernel
theorem dX4_at_84 : decode cX4_at 84 = .ok (.iload_n 2, 1) := by decide +kernel
theorem dX4_at_85 : decode cX4_at 85 = .ok (.iaload, 1) := by decide +kernel
theorem dX4_at_86 : decode cX4_at 86 = .ok (.ifCond .ge 7, 3) := by decide +kernel
theorem dX4_at_89 : decode cX4_at 89 = .ok (.iconst 1, 1) := by decide +kernel
theorem dX4_at_90 : decode cX4_at 90 = .ok (.goto 4, 3) := by decide +kernel
theorem dX4_at_93 : decode cX4_at 93 = .ok (.iconst 0, 1) := by decide +kernel
theorem dX4_at_94 : decode cX4_at 94 = .ok (.invokevirtual 140, 3) := by decide +kernel
theorem dX4_at_97 : decode cX4_at 97 = .ok (.lreturn, 1) := by decide +kernel
theorem dX4_exact_0 : decode cX4_exact 0 = .ok (.aload_n 0, 1) := by decide +kernel
theorem dX4_exact_1 : decode cX4_exact 1 = .ok (.iconst 0, 1) := by decide +kernel
theorem dX4_exact_2 : decode cX4_exact 2 = .ok (.putfield 42, 3) := by decide +kernel
theorem dX4_exact_5 : decode cX4_exact 5 = .ok (.aload_n 0, 1) := by decide +kernel
theorem dX4_exact_6 : decode cX4_exact 6 = .ok (.getfield 134, 3) := by decide +kernel
theorem dX4_exact_9 : decode cX4_exact 9 = .ok (.ifCond .eq 21, 3) := by decide +kernel
theorem dX4_exact_12 : decode cX4_exact 12 = .ok (.iload_n 1, 1) := by decide +kernel
theorem dX4_exact_13 : decode cX4_exact 13 = .ok (.ifCond .lt 17, 3) := by decide +kernel
theorem dX4_exact_16 : decode cX4_exact 16 = .ok (.iload_n 1, 1) := by decide +kernel
theorem dX4_exact_17 : decode cX4_exact 17 = .ok (.iconst 1, 1) := by decide +kernel
theorem dX4_exact_18 : decode cX4_exact 18 = .ok (.if_icmp .gt 12, 3) := by decide +kernel
theorem dX4_exact_21 : decode cX4_exact 21 = .ok (.iload_n 2, 1) := by decide +kernel
theorem dX4_exact_22 : decode cX4_exact 22 = .ok (.ifCond .lt 8, 3) := by decide +kernel
theorem dX4_exact_25 : decode cX4_exact 25 = .ok (.iload_n 2, 1) := by decide +kernel
theorem dX4_exact_26 : decode cX4_exact 26 = .ok (.iconst 1, 1) := by decide +kernel
theorem dX4_exact_27 : decode cX4_exact 27 = .ok (.if_icmp .le 7, 3) := by decide +kernel
theorem dX4_exact_30 : decode cX4_exact 30 = .ok (.ldc2_w 138, 3) := by decide +kernel
theorem dX4_exact_33 : decode cX4_exact 33 = .ok (.lreturn, 1) := by decide +kernel
theorem dX4_exact_34 : decode cX4_exact 34 = .ok (.aload_n 0, 1) := by decide +kernel
theorem dX4_exact_35 : decode cX4_exact 35 = .ok (.iload_n 1, 1) := by decide +kernel
theorem dX4_exact_36 : decode cX4_exact 36 = .ok (.ifCond .ne 8, 3) := by decide +kernel
theorem dX4_exact_39 : decode cX4_exact 39 = .ok (.bipush 12, 2) := by decide +kernel
theorem dX4_exact_41 : decode cX4_exact 41 = .ok (.goto 5, 3) := by decide +kernel
theorem dX4_exact_44 : decode cX4_exact 44 = .ok (.bipush 14, 2) := by decide +kernel
theorem dX4_exact_46 : decode cX4_exact 46 = .ok (.iload_n 2, 1) := by decide +kernel
theorem dX4_exact_47 : decode cX4_exact 47 = .ok (.iadd, 1) := by decide +kernel
theorem dX4_exact_48 : decode cX4_exact 48 = .ok (.iload_n 3, 1) := by decide +kernel
theorem dX4_exact_49 : decode cX4_exact 49 = .ok (.invokevirtual 144, 3) := by decide +kernel
theorem dX4_exact_52 : decode cX4_exact 52 = .ok (.lreturn, 1) := by decide +kernel
theorem dX4_corner_0 : decode cX4_corner 0 = .ok (.aload_n 0, 1) := by decide +kernel
theorem dX4_corner_1 : decode cX4_corner 1 = .ok (.iconst 0, 1) := by decide +kernel
theorem dX4_corner_2 : decode cX4_corner 2 = .ok (.putfield 42, 3) := by decide +kernel
theorem dX4_corner_5 : decode cX4_corner 5 = .ok (.lload_n 1, 1) := by decide +kernel
theorem dX4_corner_6 : decode cX4_corner 6 = .ok (.lload_n 3, 1) := by decide +kernel
theorem dX4_corner_7 : decode cX4_corner 7 = .ok (.invokestatic 103, 3) := by decide +kernel
theorem dX4_corner_10 : decode cX4_corner 10 = .ok (.ifCond .eq 12, 3) := by decide +kernel
theorem dX4_corner_13 : decode cX4_corner 13 = .ok (.aload_n 0, 1) := by decide +kernel
theorem dX4_corner_14 : decode cX4_corner 14 = .ok (.getfield 148, 3) := by decide +kernel
theorem dX4_corner_17 : decode cX4_corner 17 = .ok (.bipush 64, 2) := by decide +kernel
theorem dX4_corner_19 : decode cX4_corner 19 = .ok (.if_icmp .ne 5, 3) := by decide +kernel
theorem dX4_corner_22 : decode cX4_corner 22 = .ok (.iconst 0, 1) := by decide +kernel
theorem dX4_corner_23 : decode cX4_corner 23 = .ok (.ireturn, 1) := by decide +kernel
theorem dX4_corner_24 : decode cX4_corner 24 = .ok (.aload_n 0, 1) := by decide +kernel
theorem dX4_corner_25 : decode cX4_corner 25 = .ok (.getfield 36, 3) := by decide +kernel
theorem dX4_corner_28 : decode cX4_corner 28 = .ok (.aload_n 0, 1) := by decide +kernel
theorem dX4_corner_29 : decode cX4_corner 29 = .ok (.getfield 148, 3) := by decide +kernel
theorem dX4_corner_32 : decode cX4_corner 32 = .ok (.lload_n 1, 1) := by decide +kernel
theorem dX4_corner_33 : decode cX4_corner 33 = .ok (.lastore, 1) := by decide +kernel
theorem dX4_corner_34 : decode cX4_corner 34 = .ok (.aload_n 0, 1) := by decide +kernel
theorem dX4_corner_35 : decode cX4_corner 35 = .ok (.getfield 39, 3) := by decide +kernel
theorem dX4_corner_38 : decode cX4_corner 38 = .ok (.aload_n 0, 1) := by decide +kernel
theorem dX4_corner_39 : decode cX4_corner 39 = .ok (.getfield 148, 3) := by decide +kernel
theorem dX4_corner_42 : decode cX4_corner 42 = .ok (.lload_n 3, 1) := by decide +kernel
theorem dX4_corner_43 : decode cX4_corner 43 = .ok (.lastore, 1) := by decide +kernel
theorem dX4_corner_44 : decode cX4_corner 44 = .ok (.aload_n 0, 1) := by decide +kernel
theorem dX4_corner_45 : decode cX4_corner 45 = .ok (.dup, 1) := by decide +kernel
theorem dX4_corner_46 : decode cX4_corner 46 = .ok (.getfield 148, 3) := by decide +kernel
theorem dX4_corner_49 : decode cX4_corner 49 = .ok (.iconst 1, 1) := by decide +kernel
theorem dX4_corner_50 : decode cX4_corner 50 = .ok (.iadd, 1) := by decide +kernel
theorem dX4_corner_51 : decode cX4_corner 51 = .ok (.putfield 148, 3) := by decide +kernel
theorem dX4_corner_54 : decode cX4_corner 54 = .ok (.iconst 1, 1) := by decide +kernel
theorem dX4_corner_55 : decode cX4_corner 55 = .ok (.ireturn, 1) := by decide +kernel
theorem dX4_area2_0 : decode cX4_area2 0 = .ok (.aload_n 0, 1) := by decide +kernel
theorem dX4_area2_1 : decode cX4_area2 1 = .ok (.bipush 11, 2) := by decide +kernel
theorem dX4_area2_3 : decode cX4_area2 3 = .ok (.lconst 0, 1) := by decide +kernel
theorem dX4_area2_4 : decode cX4_area2 4 = .ok (.invokevirtual 60, 3) := by decide +kernel
theorem dX4_area2_7 : decode cX4_area2 7 = .ok (.iconst 0, 1) := by decide +kernel
theorem dX4_area2_8 : decode cX4_area2 8 = .ok (.istore_n 2, 1) := by decide +kernel
theorem dX4_area2_9 : decode cX4_area2 9 = .ok (.iload_n 2, 1) := by decide +kernel
theorem dX4_area2_10 : decode cX4_area2 10 = .ok (.aload_n 0, 1) := by decide +kernel
theorem dX4_area2_11 : decode cX4_area2 11 = .ok (.getfield 148, 3) := by decide +kernel
theorem dX4_area2_14 : decode cX4_area2 14 = .ok (.if_icmp .ge 72, 3) := by decide +kernel
theorem dX4_area2_17 : decode cX4_area2 17 = .ok (.aload_n 0, 1) := by decide +kernel
theorem dX4_area2_18 : decode cX4_area2 18 = .ok (.getfield 148, 3) := by decide +kernel
theorem dX4_area2_21 : decode cX4_area2 21 = .ok (.iconst 2, 1) := by decide +kernel
theorem dX4_area2_22 : decode cX4_area2 22 = .ok (.if_icmp .le 64, 3) := by decide +kernel
theorem dX4_area2_25 : decode cX4_area2 25 = .ok (.iload_n 2, 1) := by decide +kernel
theorem dX4_area2_26 : decode cX4_area2 26 = .ok (.iconst 1, 1) := by decide +kernel
theorem dX4_area2_27 : decode cX4_area2 27 = .ok (.iadd, 1) := by decide +kernel
theorem dX4_area2_28 : decode cX4_area2 28 = .ok (.aload_n 0, 1) := by decide +kernel
theorem dX4_area2_29 : decode cX4_area2 29 = .ok (.getfield 148, 3) := by decide +kernel
theorem dX4_area2_32 : decode cX4_area2 32 = .ok (.irem, 1) := by decide +kernel
theorem dX4_area2_33 : decode cX4_area2 33 = .ok (.istore_n 3, 1) := by decide +kernel
theorem dX4_area2_34 : decode cX4_area2 34 = .ok (.aload_n 0, 1) := by decide +kernel
theorem dX4_area2_35 : decode cX4_area2 35 = .ok (.iconst 5, 1) := by decide +kernel
theorem dX4_area2_36 : decode cX4_area2 36 = .ok (.aload_n 0, 1) := by decide +kernel
theorem dX4_area2_37 : decode cX4_area2 37 = .ok (.getfield 36, 3) := by decide +kernel
theorem dX4_area2_40 : decode cX4_area2 40 = .ok (.iload_n 2, 1) := by decide +kernel
theorem dX4_area2_41 : decode cX4_area2 41 = .ok (.laload, 1) := by decide +kernel
theorem dX4_area2_42 : decode cX4_area2 42 = .ok (.aload_n 0, 1) := by decide +kernel
theorem dX4_area2_43 : decode cX4_area2 43 = .ok (.getfield 39, 3) := by decide +kernel
theorem dX4_area2_46 : decode cX4_area2 46 = .ok (.iload_n 2, 1) := by decide +kernel
theorem dX4_area2_47 : decode cX4_area2 47 = .ok (.laload, 1) := by decide +kernel
theorem dX4_area2_48 : decode cX4_area2 48 = .ok (.aload_n 0, 1) := by decide +kernel
theorem dX4_area2_49 : decode cX4_area2 49 = .ok (.getfield 36, 3) := by decide +kernel
theorem dX4_area2_52 : decode cX4_area2 52 = .ok (.iload_n 3, 1) := by decide +kernel
theorem dX4_area2_53 : decode cX4_area2 53 = .ok (.laload, 1) := by decide +kernel
theorem dX4_area2_54 : decode cX4_area2 54 = .ok (.aload_n 0, 1) := by decide +kernel
theorem dX4_area2_55 : decode cX4_area2 55 = .ok (.getfield 39, 3) := by decide +kernel
theorem dX4_area2_58 : decode cX4_area2 58 = .ok (.iload_n 3, 1) := by decide +kernel
theorem dX4_area2_59 : decode cX4_area2 59 = .ok (.laload, 1) := by decide +kernel
theorem dX4_area2_60 : decode cX4_area2 60 = .ok (.invokevirtual 99, 3) := by decide +kernel
theorem dX4_area2_63 : decode cX4_area2 63 = .ok (.aload_n 0, 1) := by decide +kernel
theorem dX4_area2_64 : decode cX4_area2 64 = .ok (.bipush 6, 2) := by decide +kernel
theorem dX4_area2_66 : decode cX4_area2 66 = .ok (.bipush 11, 2) := by decide +kernel
theorem dX4_area2_68 : decode cX4_area2 68 = .ok (.invokevirtual 68, 3) := by decide +kernel
theorem dX4_area2_71 : decode cX4_area2 71 = .ok (.aload_n 0, 1) := by decide +kernel
theorem dX4_area2_72 : decode cX4_area2 72 = .ok (.bipush 11, 2) := by decide +kernel
theorem dX4_area2_74 : decode cX4_area2 74 = .ok (.bipush 6, 2) := by decide +kernel
theorem dX4_area2_76 : decode cX4_area2 76 = .ok (.iconst 5, 1) := by decide +kernel
theorem dX4_area2_77 : decode cX4_area2 77 = .ok (.invokevirtual 88, 3) := by decide +kernel
theorem dX4_area2_80 : decode cX4_area2 80 = .ok (.iinc 2 1, 3) := by decide +kernel
theorem dX4_area2_83 : decode cX4_area2 83 = .ok (.goto (-74), 3) := by decide +kernel
theorem dX4_area2_86 : decode cX4_area2 86 = .ok (.aload_n 0, 1) := by decide +kernel
theorem dX4_area2_87 : decode cX4_area2 87 = .ok (.bipush 11, 2) := by decide +kernel
theorem dX4_area2_89 : decode cX4_area2 89 = .ok (.iload_n 1, 1) := by decide +kernel
theorem dX4_area2_90 : decode cX4_area2 90 = .ok (.invokevirtual 144, 3) := by decide +kernel
theorem dX4_area2_93 : decode cX4_area2 93 = .ok (.lreturn, 1) := by decide +kernel
theorem dX4_inside_0 : decode cX4_inside 0 = .ok (.aload_n 0, 1) := by decide +kernel
theorem dX4_inside_1 : decode cX4_inside 1 = .ok (.iconst 0, 1) := by decide +kernel
theorem dX4_inside_2 : decode cX4_inside 2 = .ok (.putfield 42, 3) := by decide +kernel
theorem dX4_inside_5 : decode cX4_inside 5 = .ok (.lload_n 1, 1) := by decide +kernel
theorem dX4_inside_6 : decode cX4_inside 6 = .ok (.lload_n 3, 1) := by decide +kernel
theorem dX4_inside_7 : decode cX4_inside 7 = .ok (.invokestatic 103, 3) := by decide +kernel
theorem dX4_inside_10 : decode cX4_inside 10 = .ok (.ifCond .eq 11, 3) := by decide +kernel
theorem dX4_inside_13 : decode cX4_inside 13 = .ok (.aload_n 0, 1) := by decide +kernel
theorem dX4_inside_14 : decode cX4_inside 14 = .ok (.getfield 148, 3) := by decide +kernel
theorem dX4_inside_17 : decode cX4_inside 17 = .ok (.iconst 3, 1) := by decide +kernel
theorem dX4_inside_18 : decode cX4_inside 18 = .ok (.if_icmp .ge 6, 3) := by decide +kernel
theorem dX4_inside_21 : decode cX4_inside 21 = .ok (.bipush (-2), 2) := by decide +kernel
theorem dX4_inside_23 : decode cX4_inside 23 = .ok (.ireturn, 1) := by decide +kernel
theorem dX4_inside_24 : decode cX4_inside 24 = .ok (.iconst 0, 1) := by decide +kernel
theorem dX4_inside_25 : decode cX4_inside 25 = .ok (.istore 5, 2) := by decide +kernel
theorem dX4_inside_27 : decode cX4_inside 27 = .ok (.iconst 0, 1) := by decide +kernel
theorem dX4_inside_28 : decode cX4_inside 28 = .ok (.istore 6, 2) := by decide +kernel
theorem dX4_inside_30 : decode cX4_inside 30 = .ok (.iconst 0, 1) := by decide +kernel
theorem dX4_inside_31 : decode cX4_inside 31 = .ok (.istore 7, 2) := by decide +kernel
theorem dX4_inside_33 : decode cX4_inside 33 = .ok (.iload 7, 2) := by decide +kernel
theorem dX4_inside_35 : decode cX4_inside 35 = .ok (.aload_n 0, 1) := by decide +kernel
theorem dX4_inside_36 : decode cX4_inside 36 = .ok (.getfield 148, 3) := by decide +kernel
theorem dX4_inside_39 : decode cX4_inside 39 = .ok (.if_icmp .ge 234, 3) := by decide +kernel
theorem dX4_inside_42 : decode cX4_inside 42 = .ok (.iload 7, 2) := by decide +kernel
theorem dX4_inside_44 : decode cX4_inside 44 = .ok (.iconst 1, 1) := by decide +kernel
theorem dX4_inside_45 : decode cX4_inside 45 = .ok (.iadd, 1) := by decide +kernel
theorem dX4_inside_46 : decode cX4_inside 46 = .ok (.aload_n 0, 1) := by decide +kernel
theorem dX4_inside_47 : decode cX4_inside 47 = .ok (.getfield 148, 3) := by decide +kernel
theorem dX4_inside_50 : decode cX4_inside 50 = .ok (.irem, 1) := by decide +kernel
theorem dX4_inside_51 : decode cX4_inside 51 = .ok (.istore 8, 2) := by decide +kernel
theorem dX4_inside_53 : decode cX4_inside 53 = .ok (.aload_n 0, 1) := by decide +kernel
theorem dX4_inside_54 : decode cX4_inside 54 = .ok (.getfield 36, 3) := by decide +kernel
theorem dX4_inside_57 : decode cX4_inside 57 = .ok (.iload 7, 2) := by decide +kernel
theorem dX4_inside_59 : decode cX4_inside 59 = .ok (.laload, 1) := by decide +kernel
theorem dX4_inside_60 : decode cX4_inside 60 = .ok (.lstore 9, 2) := by decide +kernel
theorem dX4_inside_62 : decode cX4_inside 62 = .ok (.aload_n 0, 1) := by decide +kernel
theorem dX4_inside_63 : decode cX4_inside 63 = .ok (.getfield 39, 3) := by decide +kernel
theorem dX4_inside_66 : decode cX4_inside 66 = .ok (.iload 7, 2) := by decide +kernel
theorem dX4_inside_68 : decode cX4_inside 68 = .ok (.laload, 1) := by decide +kernel
theorem dX4_inside_69 : decode cX4_inside 69 = .ok (.lstore 11, 2) := by decide +kernel
theorem dX4_inside_71 : decode cX4_inside 71 = .ok (.aload_n 0, 1) := by decide +kernel
theorem dX4_inside_72 : decode cX4_inside 72 = .ok (.getfield 36, 3) := by decide +kernel
theorem dX4_inside_75 : decode cX4_inside 75 = .ok (.iload 8, 2) := by decide +kernel
theorem dX4_inside_77 : decode cX4_inside 77 = .ok (.laload, 1) := by decide +kernel
theorem dX4_inside_78 : decode cX4_inside 78 = .ok (.lstore 13, 2) := by decide +kernel
theorem dX4_inside_80 : decode cX4_inside 80 = .ok (.aload_n 0, 1) := by decide +kernel
theorem dX4_inside_81 : decode cX4_inside 81 = .ok (.getfield 39, 3) := by decide +kernel
theorem dX4_inside_84 : decode cX4_inside 84 = .ok (.iload 8, 2) := by decide +kernel
theorem dX4_inside_86 : decode cX4_inside 86 = .ok (.laload, 1) := by decide +kernel
theorem dX4_inside_87 : decode cX4_inside 87 = .ok (.lstore 15, 2) := by decide +kernel
theorem dX4_inside_89 : decode cX4_inside 89 = .ok (.aload_n 0, 1) := by decide +kernel
theorem dX4_inside_90 : decode cX4_inside 90 = .ok (.lload 9, 2) := by decide +kernel
theorem dX4_inside_92 : decode cX4_inside 92 = .ok (.lload 11, 2) := by decide +kernel
theorem dX4_inside_94 : decode cX4_inside 94 = .ok (.lload 13, 2) := by decide +kernel
theorem dX4_inside_96 : decode cX4_inside 96 = .ok (.lload 15, 2) := by decide +kernel
theorem dX4_inside_98 : decode cX4_inside 98 = .ok (.lload_n 1, 1) := by decide +kernel
theorem dX4_inside_99 : decode cX4_inside 99 = .ok (.lload_n 3, 1) := by decide +kernel
theorem dX4_inside_100 : decode cX4_inside 100 = .ok (.invokevirtual 107, 3) := by decide +kernel
theorem dX4_inside_103 : decode cX4_inside 103 = .ok (.istore 17, 2) := by decide +kernel
theorem dX4_inside_105 : decode cX4_inside 105 = .ok (.lload 9, 2) := by decide +kernel
theorem dX4_inside_107 : decode cX4_inside 107 = .ok (.lload 13, 2) := by decide +kernel
theorem dX4_inside_109 : decode cX4_inside 109 = .ok (.invokestatic 117, 3) := by decide +kernel
theorem dX4_inside_112 : decode cX4_inside 112 = .ok (.lload_n 1, 1) := by decide +kernel
theorem dX4_inside_113 : decode cX4_inside 113 = .ok (.lcmp, 1) := by decide +kernel
theorem dX4_inside_114 : decode cX4_inside 114 = .ok (.ifCond .gt 49, 3) := by decide +kernel
theorem dX4_inside_117 : decode cX4_inside 117 = .ok (.lload_n 1, 1) := by decide +kernel
theorem dX4_inside_118 : decode cX4_inside 118 = .ok (.lload 9, 2) := by decide +kernel
theorem dX4_inside_120 : decode cX4_inside 120 = .ok (.lneg, 1) := by decide +kernel
theorem dX4_inside_121 : decode cX4_inside 121 = .ok (.lload 13, 2) := by decide +kernel
theorem dX4_inside_123 : decode cX4_inside 123 = .ok (.lneg, 1) := by decide +kernel
theorem dX4_inside_124 : decode cX4_inside 124 = .ok (.invokestatic 117, 3) := by decide +kernel
theorem dX4_inside_127 : decode cX4_inside 127 = .ok (.lneg, 1) := by decide +kernel
theorem dX4_inside_128 : decode cX4_inside 128 = .ok (.lcmp, 1) := by decide +kernel
theorem dX4_inside_129 : decode cX4_inside 129 = .ok (.ifCond .gt 34, 3) := by decide +kernel
theorem dX4_inside_132 : decode cX4_inside 132 = .ok (.lload 11, 2) := by decide +kernel
theorem dX4_inside_134 : decode cX4_inside 134 = .ok (.lload 15, 2) := by decide +kernel
theorem dX4_inside_136 : decode cX4_inside 136 = .ok (.invokestatic 117, 3) := by decide +kernel
theorem dX4_inside_139 : decode cX4_inside 139 = .ok (.lload_n 3, 1) := by decide +kernel
theorem dX4_inside_140 : decode cX4_inside 140 = .ok (.lcmp, 1) := by decide +kernel
theorem dX4_inside_141 : decode cX4_inside 141 = .ok (.ifCond .gt 22, 3) := by decide +kernel
theorem dX4_inside_144 : decode cX4_inside 144 = .ok (.lload_n 3, 1) := by decide +kernel
theorem dX4_inside_145 : decode cX4_inside 145 = .ok (.lload 11, 2) := by decide +kernel
theorem dX4_inside_147 : decode cX4_inside 147 = .ok (.lneg, 1) := by decide +kernel
theorem dX4_inside_148 : decode cX4_inside 148 = .ok (.lload 15, 2) := by decide +kernel
theorem dX4_inside_150 : decode cX4_inside 150 = .ok (.lneg, 1) := by decide +kernel
theorem dX4_inside_151 : decode cX4_inside 151 = .ok (.invokestatic 117, 3) := by decide +kernel
theorem dX4_inside_154 : decode cX4_inside 154 = .ok (.lneg, 1) := by decide +kernel
theorem dX4_inside_155 : decode cX4_inside 155 = .ok (.lcmp, 1) := by decide +kernel
theorem dX4_inside_156 : decode cX4_inside 156 = .ok (.ifCond .gt 7, 3) := by decide +kernel
theorem dX4_inside_159 : decode cX4_inside 159 = .ok (.iconst 1, 1) := by decide +kernel
theorem dX4_inside_160 : decode cX4_inside 160 = .ok (.goto 4, 3) := by decide +kernel
theorem dX4_inside_163 : decode cX4_inside 163 = .ok (.iconst 0, 1) := by decide +kernel
theorem dX4_inside_164 : decode cX4_inside 164 = .ok (.istore 18, 2) := by decide +kernel
theorem dX4_inside_166 : decode cX4_inside 166 = .ok (.iload 6, 2) := by decide +kernel
theorem dX4_inside_168 : decode cX4_inside 168 = .ok (.ifCond .ne 13, 3) := by decide +kernel
theorem dX4_inside_171 : decode cX4_inside 171 = .ok (.iload 17, 2) := by decide +kernel
theorem dX4_inside_173 : decode cX4_inside 173 = .ok (.ifCond .ne 12, 3) := by decide +kernel
theorem dX4_inside_176 : decode cX4_inside 176 = .ok (.iload 18, 2) := by decide +kernel
theorem dX4_inside_178 : decode cX4_inside 178 = .ok (.ifCond .eq 7, 3) := by decide +kernel
theorem dX4_inside_181 : decode cX4_inside 181 = .ok (.iconst 1, 1) := by decide +kernel
theorem dX4_inside_182 : decode cX4_inside 182 = .ok (.goto 4, 3) := by decide +kernel
theorem dX4_inside_185 : decode cX4_inside 185 = .ok (.iconst 0, 1) := by decide +kernel
theorem dX4_inside_186 : decode cX4_inside 186 = .ok (.istore 6, 2) := by decide +kernel
theorem dX4_inside_188 : decode cX4_inside 188 = .ok (.lload 11, 2) := by decide +kernel
theorem dX4_inside_190 : decode cX4_inside 190 = .ok (.lload_n 3, 1) := by decide +kernel
theorem dX4_inside_191 : decode cX4_inside 191 = .ok (.lcmp, 1) := by decide +kernel
theorem dX4_inside_192 : decode cX4_inside 192 = .ok (.ifCond .gt 14, 3) := by decide +kernel
theorem dX4_inside_195 : decode cX4_inside 195 = .ok (.lload 15, 2) := by decide +kernel
theorem dX4_inside_197 : decode cX4_inside 197 = .ok (.lload_n 3, 1) := by decide +kernel
theorem dX4_inside_198 : decode cX4_inside 198 = .ok (.lcmp, 1) := by decide +kernel
theorem dX4_inside_199 : decode cX4_inside 199 = .ok (.ifCond .le 7, 3) := by decide +kernel
theorem dX4_inside_202 : decode cX4_inside 202 = .ok (.iconst 1, 1) := by decide +kernel
theorem dX4_inside_203 : decode cX4_inside 203 = .ok (.goto 4, 3) := by decide +kernel
theorem dX4_inside_206 : decode cX4_inside 206 = .ok (.iconst 0, 1) := by decide +kernel
theorem dX4_inside_207 : decode cX4_inside 207 = .ok (.istore 19, 2) := by decide +kernel
theorem dX4_inside_209 : decode cX4_inside 209 = .ok (.lload 15, 2) := by decide +kernel
theorem dX4_inside_211 : decode cX4_inside 211 = .ok (.lload_n 3, 1) := by decide +kernel
theorem dX4_inside_212 : decode cX4_inside 212 = .ok (.lcmp, 1) := by decide +kernel
theorem dX4_inside_213 : decode cX4_inside 213 = .ok (.ifCond .gt 14, 3) := by decide +kernel
theorem dX4_inside_216 : decode cX4_inside 216 = .ok (.lload 11, 2) := by decide +kernel
theorem dX4_inside_218 : decode cX4_inside 218 = .ok (.lload_n 3, 1) := by decide +kernel
theorem dX4_inside_219 : decode cX4_inside 219 = .ok (.lcmp, 1) := by decide +kernel
theorem dX4_inside_220 : decode cX4_inside 220 = .ok (.ifCond .le 7, 3) := by decide +kernel
theorem dX4_inside_223 : decode cX4_inside 223 = .ok (.iconst 1, 1) := by decide +kernel
theorem dX4_inside_224 : decode cX4_inside 224 = .ok (.goto 4, 3) := by decide +kernel
theorem dX4_inside_227 : decode cX4_inside 227 = .ok (.iconst 0, 1) := by decide +kernel
theorem dX4_inside_228 : decode cX4_inside 228 = .ok (.istore 20, 2) := by decide +kernel
theorem dX4_inside_230 : decode cX4_inside 230 = .ok (.iload 19, 2) := by decide +kernel
theorem dX4_inside_232 : decode cX4_inside 232 = .ok (.ifCond .eq 8, 3) := by decide +kernel
theorem dX4_inside_235 : decode cX4_inside 235 = .ok (.iload 17, 2) := by decide +kernel
theorem dX4_inside_237 : decode cX4_inside 237 = .ok (.ifCond .gt 13, 3) := by decide +kernel
theorem dX4_inside_240 : decode cX4_inside 240 = .ok (.iload 20, 2) := by decide +kernel
theorem dX4_inside_242 : decode cX4_inside 242 = .ok (.ifCond .eq 21, 3) := by decide +kernel
theorem dX4_inside_245 : decode cX4_inside 245 = .ok (.iload 17, 2) := by decide +kernel
theorem dX4_inside_247 : decode cX4_inside 247 = .ok (.ifCond .ge 16, 3) := by decide +kernel
theorem dX4_inside_250 : decode cX4_inside 250 = .ok (.iload 5, 2) := by decide +kernel
theorem dX4_inside_252 : decode cX4_inside 252 = .ok (.ifCond .ne 7, 3) := by decide +kernel
theorem dX4_inside_255 : decode cX4_inside 255 = .ok (.iconst 1, 1) := by decide +kernel
theorem dX4_inside_256 : decode cX4_inside 256 = .ok (.goto 9, 3) := by decide +kernel
theorem dX4_inside_259 : decode cX4_inside 259 = .ok (.iconst 0, 1) := by decide +kernel
theorem dX4_inside_260 : decode cX4_inside 260 = .ok (.goto 5, 3) := by decide +kernel
theorem dX4_inside_263 : decode cX4_inside 263 = .ok (.iload 5, 2) := by decide +kernel
theorem dX4_inside_265 : decode cX4_inside 265 = .ok (.istore 5, 2) := by decide +kernel
theorem dX4_inside_267 : decode cX4_inside 267 = .ok (.iinc 7 1, 3) := by decide +kernel
theorem dX4_inside_270 : decode cX4_inside 270 = .ok (.goto (-237), 3) := by decide +kernel
theorem dX4_inside_273 : decode cX4_inside 273 = .ok (.iload 6, 2) := by decide +kernel
theorem dX4_inside_275 : decode cX4_inside 275 = .ok (.ifCond .eq 7, 3) := by decide +kernel
theorem dX4_inside_278 : decode cX4_inside 278 = .ok (.iconst 0, 1) := by decide +kernel
theorem dX4_inside_279 : decode cX4_inside 279 = .ok (.goto 13, 3) := by decide +kernel
theorem dX4_inside_282 : decode cX4_inside 282 = .ok (.iload 5, 2) := by decide +kernel
theorem dX4_inside_284 : decode cX4_inside 284 = .ok (.ifCond .eq 7, 3) := by decide +kernel
theorem dX4_inside_287 : decode cX4_inside 287 = .ok (.iconst 1, 1) := by decide +kernel
theorem dX4_inside_288 : decode cX4_inside 288 = .ok (.goto 4, 3) := by decide +kernel
theorem dX4_inside_291 : decode cX4_inside 291 = .ok (.iconst (-1), 1) := by decide +kernel
theorem dX4_inside_292 : decode cX4_inside 292 = .ok (.ireturn, 1) := by decide +kernel
theorem dX4_quotient_0 : decode cX4_quotient 0 = .ok (.aload_n 0, 1) := by decide +kernel
theorem dX4_quotient_1 : decode cX4_quotient 1 = .ok (.bipush 10, 2) := by decide +kernel
theorem dX4_quotient_3 : decode cX4_quotient 3 = .ok (.invokevirtual 56, 3) := by decide +kernel
theorem dX4_quotient_6 : decode cX4_quotient 6 = .ok (.ifCond .ne 7, 3) := by decide +kernel
theorem dX4_quotient_9 : decode cX4_quotient 9 = .ok (.iconst 1, 1) := by decide +kernel
theorem dX4_quotient_10 : decode cX4_quotient 10 = .ok (.goto 4, 3) := by decide +kernel
theorem dX4_quotient_13 : decode cX4_quotient 13 = .ok (.iconst 0, 1) := by decide +kernel
theorem dX4_quotient_14 : decode cX4_quotient 14 = .ok (.istore_n 3, 1) := by decide +kernel
theorem dX4_quotient_15 : decode cX4_quotient 15 = .ok (.aload_n 0, 1) := by decide +kernel
theorem dX4_quotient_16 : decode cX4_quotient 16 = .ok (.bipush 10, 2) := by decide +kernel
theorem dX4_quotient_18 : decode cX4_quotient 18 = .ok (.invokevirtual 64, 3) := by decide +kernel
theorem dX4_quotient_21 : decode cX4_quotient 21 = .ok (.aload_n 0, 1) := by decide +kernel
theorem dX4_quotient_22 : decode cX4_quotient 22 = .ok (.bipush 10, 2) := by decide +kernel
theorem dX4_quotient_24 : decode cX4_quotient 24 = .ok (.iconst 1, 1) := by decide +kernel
theorem dX4_quotient_25 : decode cX4_quotient 25 = .ok (.invokevirtual 52, 3) := by decide +kernel
theorem dX4_quotient_28 : decode cX4_quotient 28 = .ok (.istore 4, 2) := by decide +kernel
theorem dX4_quotient_30 : decode cX4_quotient 30 = .ok (.aload_n 0, 1) := by decide +kernel
theorem dX4_quotient_31 : decode cX4_quotient 31 = .ok (.bipush 9, 2) := by decide +kernel
theorem dX4_quotient_33 : decode cX4_quotient 33 = .ok (.invokevirtual 72, 3) := by decide +kernel
theorem dX4_quotient_36 : decode cX4_quotient 36 = .ok (.ifCond .ne 7, 3) := by decide +kernel
theorem dX4_quotient_39 : decode cX4_quotient 39 = .ok (.iconst 1, 1) := by decide +kernel
theorem dX4_quotient_40 : decode cX4_quotient 40 = .ok (.goto 4, 3) := by decide +kernel
theorem dX4_quotient_43 : decode cX4_quotient 43 = .ok (.iconst 0, 1) := by decide +kernel
theorem dX4_quotient_44 : decode cX4_quotient 44 = .ok (.istore 5, 2) := by decide +kernel
theorem dX4_quotient_46 : decode cX4_quotient 46 = .ok (.iload_n 1, 1) := by decide +kernel
theorem dX4_quotient_47 : decode cX4_quotient 47 = .ok (.ifCond .ne 19, 3) := by decide +kernel
theorem dX4_quotient_50 : decode cX4_quotient 50 = .ok (.iload_n 2, 1) := by decide +kernel
theorem dX4_quotient_51 : decode cX4_quotient 51 = .ok (.ifCond .eq 11, 3) := by decide +kernel
theorem dX4_quotient_54 : decode cX4_quotient 54 = .ok (.iload_n 3, 1) := by decide +kernel
theorem dX4_quotient_55 : decode cX4_quotient 55 = .ok (.ifCond .eq 7, 3) := by decide +kernel
theorem dX4_quotient_58 : decode cX4_quotient 58 = .ok (.iconst 1, 1) := by decide +kernel
theorem dX4_quotient_59 : decode cX4_quotient 59 = .ok (.goto 42, 3) := by decide +kernel
theorem dX4_quotient_62 : decode cX4_quotient 62 = .ok (.iconst 0, 1) := by decide +kernel
theorem dX4_quotient_63 : decode cX4_quotient 63 = .ok (.goto 38, 3) := by decide +kernel
theorem dX4_quotient_66 : decode cX4_quotient 66 = .ok (.iload_n 1, 1) := by decide +kernel
theorem dX4_quotient_67 : decode cX4_quotient 67 = .ok (.iconst 1, 1) := by decide +kernel
theorem dX4_quotient_68 : decode cX4_quotient 68 = .ok (.if_icmp .ne 19, 3) := by decide +kernel
theorem dX4_quotient_71 : decode cX4_quotient 71 = .ok (.iload_n 2, 1) := by decide +kernel
theorem dX4_quotient_72 : decode cX4_quotient 72 = .ok (.ifCond .ne 11, 3) := by decide +kernel
theorem dX4_quotient_75 : decode cX4_quotient 75 = .ok (.iload_n 3, 1) := by decide +kernel
theorem dX4_quotient_76 : decode cX4_quotient 76 = .ok (.ifCond .eq 7, 3) := by decide +kernel
theorem dX4_quotient_79 : decode cX4_quotient 79 = .ok (.iconst 1, 1) := by decide +kernel
theorem dX4_quotient_80 : decode cX4_quotient 80 = .ok (.goto 21, 3) := by decide +kernel
theorem dX4_quotient_83 : decode cX4_quotient 83 = .ok (.iconst 0, 1) := by decide +kernel
theorem dX4_quotient_84 : decode cX4_quotient 84 = .ok (.goto 17, 3) := by decide +kernel
theorem dX4_quotient_87 : decode cX4_quotient 87 = .ok (.iload_n 1, 1) := by decide +kernel
theorem dX4_quotient_88 : decode cX4_quotient 88 = .ok (.iconst 3, 1) := by decide +kernel
theorem dX4_quotient_89 : decode cX4_quotient 89 = .ok (.if_icmp .ne 11, 3) := by decide +kernel
theorem dX4_quotient_92 : decode cX4_quotient 92 = .ok (.iload_n 3, 1) := by decide +kernel
theorem dX4_quotient_93 : decode cX4_quotient 93 = .ok (.ifCond .eq 7, 3) := by decide +kernel
theorem dX4_quotient_96 : decode cX4_quotient 96 = .ok (.iconst 1, 1) := by decide +kernel
theorem dX4_quotient_97 : decode cX4_quotient 97 = .ok (.goto 4, 3) := by decide +kernel
theorem dX4_quotient_100 : decode cX4_quotient 100 = .ok (.iconst 0, 1) := by decide +kernel
theorem dX4_quotient_101 : decode cX4_quotient 101 = .ok (.istore 6, 2) := by decide +kernel
theorem dX4_quotient_103 : decode cX4_quotient 103 = .ok (.iload_n 1, 1) := by decide +kernel
theorem dX4_quotient_104 : decode cX4_quotient 104 = .ok (.iconst 3, 1) := by decide +kernel
theorem dX4_quotient_105 : decode cX4_quotient 105 = .ok (.if_icmp .le 36, 3) := by decide +kernel
theorem dX4_quotient_108 : decode cX4_quotient 108 = .ok (.iload 4, 2) := by decide +kernel
theorem dX4_quotient_110 : decode cX4_quotient 110 = .ok (.ifCond .gt 24, 3) := by decide +kernel
theorem dX4_quotient_113 : decode cX4_quotient 113 = .ok (.iload 4, 2) := by decide +kernel
theorem dX4_quotient_115 : decode cX4_quotient 115 = .ok (.ifCond .ne 23, 3) := by decide +kernel
theorem dX4_quotient_118 : decode cX4_quotient 118 = .ok (.iload_n 1, 1) := by decide +kernel
theorem dX4_quotient_119 : decode cX4_quotient 119 = .ok (.iconst 4, 1) := by decide +kernel
theorem dX4_quotient_120 : decode cX4_quotient 120 = .ok (.if_icmp .eq 14, 3) := by decide +kernel
theorem dX4_quotient_123 : decode cX4_quotient 123 = .ok (.iload_n 1, 1) := by decide +kernel
theorem dX4_quotient_124 : decode cX4_quotient 124 = .ok (.bipush 6, 2) := by decide +kernel
theorem dX4_quotient_126 : decode cX4_quotient 126 = .ok (.if_icmp .ne 12, 3) := by decide +kernel
theorem dX4_quotient_129 : decode cX4_quotient 129 = .ok (.iload 5, 2) := by decide +kernel
theorem dX4_quotient_131 : decode cX4_quotient 131 = .ok (.ifCond .eq 7, 3) := by decide +kernel
theorem dX4_quotient_134 : decode cX4_quotient 134 = .ok (.iconst 1, 1) := by decide +kernel
theorem dX4_quotient_135 : decode cX4_quotient 135 = .ok (.goto 4, 3) := by decide +kernel
theorem dX4_quotient_138 : decode cX4_quotient 138 = .ok (.iconst 0, 1) := by decide +kernel
theorem dX4_quotient_139 : decode cX4_quotient 139 = .ok (.istore 6, 2) := by decide +kernel
theorem dX4_quotient_141 : decode cX4_quotient 141 = .ok (.aload_n 0, 1) := by decide +kernel
theorem dX4_quotient_142 : decode cX4_quotient 142 = .ok (.bipush 9, 2) := by decide +kernel
theorem dX4_quotient_144 : decode cX4_quotient 144 = .ok (.iconst 0, 1) := by decide +kernel
theorem dX4_quotient_145 : decode cX4_quotient 145 = .ok (.invokevirtual 140, 3) := by decide +kernel
theorem dX4_quotient_148 : decode cX4_quotient 148 = .ok (.lstore 7, 2) := by decide +kernel
theorem dX4_quotient_150 : decode cX4_quotient 150 = .ok (.iload 6, 2) := by decide +kernel
theorem dX4_quotient_152 : decode cX4_quotient 152 = .ok (.ifCond .eq 10, 3) := by decide +kernel
theorem dX4_quotient_155 : decode cX4_quotient 155 = .ok (.lload 7, 2) := by decide +kernel
theorem dX4_quotient_157 : decode cX4_quotient 157 = .ok (.lconst 1, 1) := by decide +kernel
theorem dX4_quotient_158 : decode cX4_quotient 158 = .ok (.ladd, 1) := by decide +kernel
theorem dX4_quotient_159 : decode cX4_quotient 159 = .ok (.goto 5, 3) := by decide +kernel
theorem dX4_quotient_162 : decode cX4_quotient 162 = .ok (.lload 7, 2) := by decide +kernel
theorem dX4_quotient_164 : decode cX4_quotient 164 = .ok (.lstore 7, 2) := by decide +kernel
theorem dX4_quotient_166 : decode cX4_quotient 166 = .ok (.iload_n 2, 1) := by decide +kernel
theorem dX4_quotient_167 : decode cX4_quotient 167 = .ok (.ifCond .eq 9, 3) := by decide +kernel
theorem dX4_quotient_170 : decode cX4_quotient 170 = .ok (.lload 7, 2) := by decide +kernel
theorem dX4_quotient_172 : decode cX4_quotient 172 = .ok (.lneg, 1) := by decide +kernel
theorem dX4_quotient_173 : decode cX4_quotient 173 = .ok (.goto 5, 3) := by decide +kernel
theorem dX4_quotient_176 : decode cX4_quotient 176 = .ok (.lload 7, 2) := by decide +kernel
theorem dX4_quotient_178 : decode cX4_quotient 178 = .ok (.lreturn, 1) := by decide +kernel
theorem dX4_ratioOf_0 : decode cX4_ratioOf 0 = .ok (.aload_n 0, 1) := by decide +kernel
theorem dX4_ratioOf_1 : decode cX4_ratioOf 1 = .ok (.iconst 0, 1) := by decide +kernel
theorem dX4_ratioOf_2 : decode cX4_ratioOf 2 = .ok (.lload_n 1, 1) := by decide +kernel
theorem dX4_ratioOf_3 : decode cX4_ratioOf 3 = .ok (.invokevirtual 60, 3) := by decide +kernel
theorem dX4_ratioOf_6 : decode cX4_ratioOf 6 = .ok (.aload_n 0, 1) := by decide +kernel
theorem dX4_ratioOf_7 : decode cX4_ratioOf 7 = .ok (.iconst 1, 1) := by decide +kernel
theorem dX4_ratioOf_8 : decode cX4_ratioOf 8 = .ok (.lload_n 3, 1) := by decide +kernel
theorem dX4_ratioOf_9 : decode cX4_ratioOf 9 = .ok (.invokevirtual 60, 3) := by decide +kernel
theorem dX4_ratioOf_12 : decode cX4_ratioOf 12 = .ok (.aload_n 0, 1) := by decide +kernel
theorem dX4_ratioOf_13 : decode cX4_ratioOf 13 = .ok (.iconst 2, 1) := by decide +kernel
theorem dX4_ratioOf_14 : decode cX4_ratioOf 14 = .ok (.iconst 0, 1) := by decide +kernel
theorem dX4_ratioOf_15 : decode cX4_ratioOf 15 = .ok (.iconst 1, 1) := by decide +kernel
theorem dX4_ratioOf_16 : decode cX4_ratioOf 16 = .ok (.invokevirtual 84, 3) := by decide +kernel
theorem dX4_ratioOf_19 : decode cX4_ratioOf 19 = .ok (.aload_n 0, 1) := by decide +kernel
theorem dX4_ratioOf_20 : decode cX4_ratioOf 20 = .ok (.iconst 1, 1) := by decide +kernel
theorem dX4_ratioOf_21 : decode cX4_ratioOf 21 = .ok (.lload 5, 2) := by decide +kernel
theorem dX4_ratioOf_23 : decode cX4_ratioOf 23 = .ok (.invokevirtual 60, 3) := by decide +kernel
theorem dX4_ratioOf_26 : decode cX4_ratioOf 26 = .ok (.aload_n 0, 1) := by decide +kernel
theorem dX4_ratioOf_27 : decode cX4_ratioOf 27 = .ok (.getfield 13, 3) := by decide +kernel
theorem dX4_ratioOf_30 : decode cX4_ratioOf 30 = .ok (.iconst 2, 1) := by decide +kernel
theorem dX4_ratioOf_31 : decode cX4_ratioOf 31 = .ok (.iaload, 1) := by decide +kernel
theorem dX4_ratioOf_32 : decode cX4_ratioOf 32 = .ok (.aload_n 0, 1) := by decide +kernel
theorem dX4_ratioOf_33 : decode cX4_ratioOf 33 = .ok (.getfield 13, 3) := by decide +kernel
theorem dX4_ratioOf_36 : decode cX4_ratioOf 36 = .ok (.iconst 1, 1) := by decide +kernel
theorem dX4_ratioOf_37 : decode cX4_ratioOf 37 = .ok (.iaload, 1) := by decide +kernel
theorem dX4_ratioOf_38 : decode cX4_ratioOf 38 = .ok (.imul, 1) := by decide +kernel
theorem dX4_ratioOf_39 : decode cX4_ratioOf 39 = .ok (.ifCond .ge 7, 3) := by decide +kernel
theorem dX4_ratioOf_42 : decode cX4_ratioOf 42 = .ok (.iconst 1, 1) := by decide +kernel
theorem dX4_ratioOf_43 : decode cX4_ratioOf 43 = .ok (.goto 4, 3) := by decide +kernel
theorem dX4_ratioOf_46 : decode cX4_ratioOf 46 = .ok (.iconst 0, 1) := by decide +kernel
theorem dX4_ratioOf_47 : decode cX4_ratioOf 47 = .ok (.istore 8, 2) := by decide +kernel
theorem dX4_ratioOf_49 : decode cX4_ratioOf 49 = .ok (.aload_n 0, 1) := by decide +kernel
theorem dX4_ratioOf_50 : decode cX4_ratioOf 50 = .ok (.iconst 2, 1) := by decide +kernel
theorem dX4_ratioOf_51 : decode cX4_ratioOf 51 = .ok (.iconst 1, 1) := by decide +kernel
theorem dX4_ratioOf_52 : decode cX4_ratioOf 52 = .ok (.invokevirtual 81, 3) := by decide +kernel
theorem dX4_ratioOf_55 : decode cX4_ratioOf 55 = .ok (.aload_n 0, 1) := by decide +kernel
theorem dX4_ratioOf_56 : decode cX4_ratioOf 56 = .ok (.iload 7, 2) := by decide +kernel
theorem dX4_ratioOf_58 : decode cX4_ratioOf 58 = .ok (.iload 8, 2) := by decide +kernel
theorem dX4_ratioOf_60 : decode cX4_ratioOf 60 = .ok (.invokevirtual 151, 3) := by decide +kernel
theorem dX4_ratioOf_63 : decode cX4_ratioOf 63 = .ok (.lreturn, 1) := by decide +kernel
theorem dX4_over_0 : decode cX4_over 0 = .ok (.iload 5, 2) := by decide +kernel
theorem dX4_over_2 : decode cX4_over 2 = .ok (.ifCond .lt 14, 3) := by decide +kernel
theorem dX4_over_5 : decode cX4_over 5 = .ok (.iload 5, 2) := by decide +kernel
theorem dX4_over_7 : decode cX4_over 7 = .ok (.bipush 6, 2) := by decide +kernel
theorem dX4_over_9 : decode cX4_over 9 = .ok (.if_icmp .gt 7, 3) := by decide +kernel
theorem dX4_over_12 : decode cX4_over 12 = .ok (.iconst 1, 1) := by decide +kernel
theorem dX4_over_13 : decode cX4_over 13 = .ok (.goto 4, 3) := by decide +kernel
theorem dX4_over_16 : decode cX4_over 16 = .ok (.iconst 0, 1) := by decide +kernel
theorem dX4_over_17 : decode cX4_over 17 = .ok (.istore 6, 2) := by decide +kernel
theorem dX4_over_19 : decode cX4_over 19 = .ok (.aload_n 0, 1) := by decide +kernel
theorem dX4_over_20 : decode cX4_over 20 = .ok (.iload 6, 2) := by decide +kernel
theorem dX4_over_22 : decode cX4_over 22 = .ok (.ifCond .eq 13, 3) := by decide +kernel
theorem dX4_over_25 : decode cX4_over 25 = .ok (.lload_n 3, 1) := by decide +kernel
theorem dX4_over_26 : decode cX4_over 26 = .ok (.lconst 0, 1) := by decide +kernel
theorem dX4_over_27 : decode cX4_over 27 = .ok (.lcmp, 1) := by decide +kernel
theorem dX4_over_28 : decode cX4_over 28 = .ok (.ifCond .ne 7, 3) := by decide +kernel
theorem dX4_over_31 : decode cX4_over 31 = .ok (.iconst 1, 1) := by decide +kernel
theorem dX4_over_32 : decode cX4_over 32 = .ok (.goto 4, 3) := by decide +kernel
theorem dX4_over_35 : decode cX4_over 35 = .ok (.iconst 0, 1) := by decide +kernel
theorem dX4_over_36 : decode cX4_over 36 = .ok (.putfield 42, 3) := by decide +kernel
theorem dX4_over_39 : decode cX4_over 39 = .ok (.iload 6, 2) := by decide +kernel
theorem dX4_over_41 : decode cX4_over 41 = .ok (.ifCond .ne 9, 3) := by decide +kernel
theorem dX4_over_44 : decode cX4_over 44 = .ok (.ldc2_w 138, 3) := by decide +kernel
theorem dX4_over_47 : decode cX4_over 47 = .ok (.goto 23, 3) := by decide +kernel
theorem dX4_over_50 : decode cX4_over 50 = .ok (.aload_n 0, 1) := by decide +kernel
theorem dX4_over_51 : decode cX4_over 51 = .ok (.getfield 42, 3) := by decide +kernel
theorem dX4_over_54 : decode cX4_over 54 = .ok (.ifCond .le 7, 3) := by decide +kernel
theorem dX4_over_57 : decode cX4_over 57 = .ok (.lconst 0, 1) := by decide +kernel
theorem dX4_over_58 : decode cX4_over 58 = .ok (.goto 12, 3) := by decide +kernel
theorem dX4_over_61 : decode cX4_over 61 = .ok (.aload_n 0, 1) := by decide +kernel
theorem dX4_over_62 : decode cX4_over 62 = .ok (.lload_n 1, 1) := by decide +kernel
theorem dX4_over_63 : decode cX4_over 63 = .ok (.lconst 1, 1) := by decide +kernel
theorem dX4_over_64 : decode cX4_over 64 = .ok (.lload_n 3, 1) := by decide +kernel
theorem dX4_over_65 : decode cX4_over 65 = .ok (.iload 5, 2) := by decide +kernel
theorem dX4_over_67 : decode cX4_over 67 = .ok (.invokevirtual 154, 3) := by decide +kernel
theorem dX4_over_70 : decode cX4_over 70 = .ok (.lreturn, 1) := by decide +kernel
theorem dX4_product_0 : decode cX4_product 0 = .ok (.aload_n 0, 1) := by decide +kernel
theorem dX4_product_1 : decode cX4_product 1 = .ok (.iconst 0, 1) := by decide +kernel
theorem dX4_product_2 : decode cX4_product 2 = .ok (.lload_n 1, 1) := by decide +kernel
theorem dX4_product_3 : decode cX4_product 3 = .ok (.invokevirtual 60, 3) := by decide +kernel
theorem dX4_product_6 : decode cX4_product 6 = .ok (.aload_n 0, 1) := by decide +kernel
theorem dX4_product_7 : decode cX4_product 7 = .ok (.iconst 1, 1) := by decide +kernel
theorem dX4_product_8 : decode cX4_product 8 = .ok (.lload_n 3, 1) := by decide +kernel
theorem dX4_product_9 : decode cX4_product 9 = .ok (.invokevirtual 60, 3) := by decide +kernel
theorem dX4_product_12 : decode cX4_product 12 = .ok (.aload_n 0, 1) := by decide +kernel
theorem dX4_product_13 : decode cX4_product 13 = .ok (.iconst 2, 1) := by decide +kernel
theorem dX4_product_14 : decode cX4_product 14 = .ok (.iconst 0, 1) := by decide +kernel
theorem dX4_product_15 : decode cX4_product 15 = .ok (.iconst 1, 1) := by decide +kernel
theorem dX4_product_16 : decode cX4_product 16 = .ok (.invokevirtual 84, 3) := by decide +kernel
theorem dX4_product_19 : decode cX4_product 19 = .ok (.aload_n 0, 1) := by decide +kernel
theorem dX4_product_20 : decode cX4_product 20 = .ok (.iconst 2, 1) := by decide +kernel
theorem dX4_product_21 : decode cX4_product 21 = .ok (.iload 5, 2) := by decide +kernel
theorem dX4_product_23 : decode cX4_product 23 = .ok (.invokevirtual 144, 3) := by decide +kernel
theorem dX4_product_26 : decode cX4_product 26 = .ok (.lreturn, 1) := by decide +kernel
theorem dX4_ratio_0 : decode cX4_ratio 0 = .ok (.iload 7, 2) := by decide +kernel
theorem dX4_ratio_2 : decode cX4_ratio 2 = .ok (.ifCond .lt 14, 3) := by decide +kernel
theorem dX4_ratio_5 : decode cX4_ratio 5 = .ok (.iload 7, 2) := by decide +kernel
theorem dX4_ratio_7 : decode cX4_ratio 7 = .ok (.bipush 6, 2) := by decide +kernel
theorem dX4_ratio_9 : decode cX4_ratio 9 = .ok (.if_icmp .gt 7, 3) := by decide +kernel
theorem dX4_ratio_12 : decode cX4_ratio 12 = .ok (.iconst 1, 1) := by decide +kernel
theorem dX4_ratio_13 : decode cX4_ratio 13 = .ok (.goto 4, 3) := by decide +kernel
theorem dX4_ratio_16 : decode cX4_ratio 16 = .ok (.iconst 0, 1) := by decide +kernel
theorem dX4_ratio_17 : decode cX4_ratio 17 = .ok (.istore 8, 2) := by decide +kernel
theorem dX4_ratio_19 : decode cX4_ratio 19 = .ok (.aload_n 0, 1) := by decide +kernel
theorem dX4_ratio_20 : decode cX4_ratio 20 = .ok (.iload 8, 2) := by decide +kernel
theorem dX4_ratio_22 : decode cX4_ratio 22 = .ok (.ifCond .eq 14, 3) := by decide +kernel
theorem dX4_ratio_25 : decode cX4_ratio 25 = .ok (.lload 5, 2) := by decide +kernel
theorem dX4_ratio_27 : decode cX4_ratio 27 = .ok (.lconst 0, 1) := by decide +kernel
theorem dX4_ratio_28 : decode cX4_ratio 28 = .ok (.lcmp, 1) := by decide +kernel
theorem dX4_ratio_29 : decode cX4_ratio 29 = .ok (.ifCond .ne 7, 3) := by decide +kernel
theorem dX4_ratio_32 : decode cX4_ratio 32 = .ok (.iconst 1, 1) := by decide +kernel
theorem dX4_ratio_33 : decode cX4_ratio 33 = .ok (.goto 4, 3) := by decide +kernel
theorem dX4_ratio_36 : decode cX4_ratio 36 = .ok (.iconst 0, 1) := by decide +kernel
theorem dX4_ratio_37 : decode cX4_ratio 37 = .ok (.putfield 42, 3) := by decide +kernel
theorem dX4_ratio_40 : decode cX4_ratio 40 = .ok (.iload 8, 2) := by decide +kernel
theorem dX4_ratio_42 : decode cX4_ratio 42 = .ok (.ifCond .ne 9, 3) := by decide +kernel
theorem dX4_ratio_45 : decode cX4_ratio 45 = .ok (.ldc2_w 138, 3) := by decide +kernel
theorem dX4_ratio_48 : decode cX4_ratio 48 = .ok (.goto 24, 3) := by decide +kernel
theorem dX4_ratio_51 : decode cX4_ratio 51 = .ok (.aload_n 0, 1) := by decide +kernel
theorem dX4_ratio_52 : decode cX4_ratio 52 = .ok (.getfield 42, 3) := by decide +kernel
theorem dX4_ratio_55 : decode cX4_ratio 55 = .ok (.ifCond .le 7, 3) := by decide +kernel
theorem dX4_ratio_58 : decode cX4_ratio 58 = .ok (.lconst 0, 1) := by decide +kernel
theorem dX4_ratio_59 : decode cX4_ratio 59 = .ok (.goto 13, 3) := by decide +kernel
theorem dX4_ratio_62 : decode cX4_ratio 62 = .ok (.aload_n 0, 1) := by decide +kernel
theorem dX4_ratio_63 : decode cX4_ratio 63 = .ok (.lload_n 1, 1) := by decide +kernel
theorem dX4_ratio_64 : decode cX4_ratio 64 = .ok (.lload_n 3, 1) := by decide +kernel
theorem dX4_ratio_65 : decode cX4_ratio 65 = .ok (.lload 5, 2) := by decide +kernel
theorem dX4_ratio_67 : decode cX4_ratio 67 = .ok (.iload 7, 2) := by decide +kernel
theorem dX4_ratio_69 : decode cX4_ratio 69 = .ok (.invokevirtual 154, 3) := by decide +kernel
theorem dX4_ratio_72 : decode cX4_ratio 72 = .ok (.lreturn, 1) := by decide +kernel
theorem dX4_share_0 : decode cX4_share 0 = .ok (.aload_n 0, 1) := by decide +kernel
theorem dX4_share_1 : decode cX4_share 1 = .ok (.iconst 0, 1) := by decide +kernel
theorem dX4_share_2 : decode cX4_share 2 = .ok (.putfield 42, 3) := by decide +kernel
theorem dX4_share_5 : decode cX4_share 5 = .ok (.iload 4, 2) := by decide +kernel
theorem dX4_share_7 : decode cX4_share 7 = .ok (.iconst 1, 1) := by decide +kernel
theorem dX4_share_8 : decode cX4_share 8 = .ok (.if_icmp .lt 10, 3) := by decide +kernel
theorem dX4_share_11 : decode cX4_share 11 = .ok (.iload 4, 2) := by decide +kernel
theorem dX4_share_13 : decode cX4_share 13 = .ok (.ldc 158, 2) := by decide +kernel
theorem dX4_share_15 : decode cX4_share 15 = .ok (.if_icmp .le 7, 3) := by decide +kernel
theorem dX4_share_18 : decode cX4_share 18 = .ok (.ldc2_w 138, 3) := by decide +kernel
theorem dX4_share_21 : decode cX4_share 21 = .ok (.lreturn, 1) := by decide +kernel
theorem dX4_share_22 : decode cX4_share 22 = .ok (.aload_n 0, 1) := by decide +kernel
theorem dX4_share_23 : decode cX4_share 23 = .ok (.iload_n 3, 1) := by decide +kernel
theorem dX4_share_24 : decode cX4_share 24 = .ok (.ifCond .lt 9, 3) := by decide +kernel
theorem dX4_share_27 : decode cX4_share 27 = .ok (.iload_n 3, 1) := by decide +kernel
theorem dX4_share_28 : decode cX4_share 28 = .ok (.iload 4, 2) := by decide +kernel
theorem dX4_share_30 : decode cX4_share 30 = .ok (.if_icmp .lt 7, 3) := by decide +kernel
theorem dX4_share_33 : decode cX4_share 33 = .ok (.iconst 1, 1) := by decide +kernel
theorem dX4_share_34 : decode cX4_share 34 = .ok (.goto 4, 3) := by decide +kernel
theorem dX4_share_37 : decode cX4_share 37 = .ok (.iconst 0, 1) := by decide +kernel
theorem dX4_share_38 : decode cX4_share 38 = .ok (.putfield 42, 3) := by decide +kernel
theorem dX4_share_41 : decode cX4_share 41 = .ok (.aload_n 0, 1) := by decide +kernel
theorem dX4_share_42 : decode cX4_share 42 = .ok (.getfield 42, 3) := by decide +kernel
theorem dX4_share_45 : decode cX4_share 45 = .ok (.ifCond .le 5, 3) := by decide +kernel
theorem dX4_share_48 : decode cX4_share 48 = .ok (.lconst 0, 1) := by decide +kernel
theorem dX4_share_49 : decode cX4_share 49 = .ok (.lreturn, 1) := by decide +kernel
theorem dX4_share_50 : decode cX4_share 50 = .ok (.lload_n 1, 1) := by decide +kernel
theorem dX4_share_51 : decode cX4_share 51 = .ok (.iload 4, 2) := by decide +kernel
theorem dX4_share_53 : decode cX4_share 53 = .ok (.i2l, 1) := by decide +kernel
theorem dX4_share_54 : decode cX4_share 54 = .ok (.ldiv, 1) := by decide +kernel
theorem dX4_share_55 : decode cX4_share 55 = .ok (.lstore 5, 2) := by decide +kernel
theorem dX4_share_57 : decode cX4_share 57 = .ok (.lload_n 1, 1) := by decide +kernel
theorem dX4_share_58 : decode cX4_share 58 = .ok (.iload 4, 2) := by decide +kernel
theorem dX4_share_60 : decode cX4_share 60 = .ok (.i2l, 1) := by decide +kernel
theorem dX4_share_61 : decode cX4_share 61 = .ok (.lrem, 1) := by decide +kernel
theorem dX4_share_62 : decode cX4_share 62 = .ok (.lstore 7, 2) := by decide +kernel
theorem dX4_share_64 : decode cX4_share 64 = .ok (.lload 7, 2) := by decide +kernel
theorem dX4_share_66 : decode cX4_share 66 = .ok (.lconst 0, 1) := by decide +kernel
theorem dX4_share_67 : decode cX4_share 67 = .ok (.lcmp, 1) := by decide +kernel
theorem dX4_share_68 : decode cX4_share 68 = .ok (.ifCond .ge 17, 3) := by decide +kernel
theorem dX4_share_71 : decode cX4_share 71 = .ok (.lload 7, 2) := by decide +kernel
theorem dX4_share_73 : decode cX4_share 73 = .ok (.iload 4, 2) := by decide +kernel
theorem dX4_share_75 : decode cX4_share 75 = .ok (.i2l, 1) := by decide +kernel
theorem dX4_share_76 : decode cX4_share 76 = .ok (.ladd, 1) := by decide +kernel
theorem dX4_share_77 : decode cX4_share 77 = .ok (.lstore 7, 2) := by decide +kernel
theorem dX4_share_79 : decode cX4_share 79 = .ok (.lload 5, 2) := by decide +kernel
theorem dX4_share_81 : decode cX4_share 81 = .ok (.lconst 1, 1) := by decide +kernel
theorem dX4_share_82 : decode cX4_share 82 = .ok (.lsub, 1) := by decide +kernel
theorem dX4_share_83 : decode cX4_share 83 = .ok (.lstore 5, 2) := by decide +kernel
theorem dX4_share_85 : decode cX4_share 85 = .ok (.iload_n 3, 1) := by decide +kernel
theorem dX4_share_86 : decode cX4_share 86 = .ok (.i2l, 1) := by decide +kernel
theorem dX4_share_87 : decode cX4_share 87 = .ok (.lload 7, 2) := by decide +kernel
theorem dX4_share_89 : decode cX4_share 89 = .ok (.lcmp, 1) := by decide +kernel
theorem dX4_share_90 : decode cX4_share 90 = .ok (.ifCond .ge 10, 3) := by decide +kernel
theorem dX4_share_93 : decode cX4_share 93 = .ok (.lload 5, 2) := by decide +kernel
theorem dX4_share_95 : decode cX4_share 95 = .ok (.lconst 1, 1) := by decide +kernel
theorem dX4_share_96 : decode cX4_share 96 = .ok (.ladd, 1) := by decide +kernel
theorem dX4_share_97 : decode cX4_share 97 = .ok (.goto 5, 3) := by decide +kernel
theorem dX4_share_100 : decode cX4_share 100 = .ok (.lload 5, 2) := by decide +kernel
theorem dX4_share_102 : decode cX4_share 102 = .ok (.lreturn, 1) := by decide +kernel
theorem dX4_digit_0 : decode cX4_digit 0 = .ok (.aload_n 0, 1) := by decide +kernel
theorem dX4_digit_1 : decode cX4_digit 1 = .ok (.iconst 0, 1) := by decide +kernel
theorem dX4_digit_2 : decode cX4_digit 2 = .ok (.putfield 42, 3) := by decide +kernel
theorem dX4_digit_5 : decode cX4_digit 5 = .ok (.iload_n 3, 1) := by decide +kernel
theorem dX4_digit_6 : decode cX4_digit 6 = .ok (.iconst 2, 1) := by decide +kernel
theorem dX4_digit_7 : decode cX4_digit 7 = .ok (.if_icmp .lt 9, 3) := by decide +kernel
theorem dX4_digit_10 : decode cX4_digit 10 = .ok (.iload_n 3, 1) := by decide +kernel
theorem dX4_digit_11 : decode cX4_digit 11 = .ok (.bipush 36, 2) := by decide +kernel
theorem dX4_digit_13 : decode cX4_digit 13 = .ok (.if_icmp .le 5, 3) := by decide +kernel
theorem dX4_digit_16 : decode cX4_digit 16 = .ok (.iconst (-1), 1) := by decide +kernel
theorem dX4_digit_17 : decode cX4_digit 17 = .ok (.ireturn, 1) := by decide +kernel
theorem dX4_digit_18 : decode cX4_digit 18 = .ok (.lload_n 1, 1) := by decide +kernel
theorem dX4_digit_19 : decode cX4_digit 19 = .ok (.lconst 0, 1) := by decide +kernel
theorem dX4_digit_20 : decode cX4_digit 20 = .ok (.lcmp, 1) := by decide +kernel
theorem dX4_digit_21 : decode cX4_digit 21 = .ok (.ifCond .ge 8, 3) := by decide +kernel
theorem dX4_digit_24 : decode cX4_digit 24 = .ok (.lload_n 1, 1) := by decide +kernel
theorem dX4_digit_25 : decode cX4_digit 25 = .ok (.lneg, 1) := by decide +kernel
theorem dX4_digit_26 : decode cX4_digit 26 = .ok (.goto 4, 3) := by decide +kernel
theorem dX4_digit_29 : decode cX4_digit 29 = .ok (.lload_n 1, 1) := by decide +kernel
theorem dX4_digit_30 : decode cX4_digit 30 = .ok (.lstore 5, 2) := by decide +kernel
theorem dX4_digit_32 : decode cX4_digit 32 = .ok (.lload 5, 2) := by decide +kernel
theorem dX4_digit_34 : decode cX4_digit 34 = .ok (.bipush 32, 2) := by decide +kernel
theorem dX4_digit_36 : decode cX4_digit 36 = .ok (.lushr, 1) := by decide +kernel
theorem dX4_digit_37 : decode cX4_digit 37 = .ok (.lstore 7, 2) := by decide +kernel
theorem dX4_digit_39 : decode cX4_digit 39 = .ok (.lload 5, 2) := by decide +kernel
theorem dX4_digit_41 : decode cX4_digit 41 = .ok (.ldc2_w 46, 3) := by decide +kernel
theorem dX4_digit_44 : decode cX4_digit 44 = .ok (.land, 1) := by decide +kernel
theorem dX4_digit_45 : decode cX4_digit 45 = .ok (.lstore 9, 2) := by decide +kernel
theorem dX4_digit_47 : decode cX4_digit 47 = .ok (.iconst 0, 1) := by decide +kernel
theorem dX4_digit_48 : decode cX4_digit 48 = .ok (.istore 11, 2) := by decide +kernel
theorem dX4_digit_50 : decode cX4_digit 50 = .ok (.iload 4, 2) := by decide +kernel
theorem dX4_digit_52 : decode cX4_digit 52 = .ok (.ifCond .lt 7, 3) := by decide +kernel
theorem dX4_digit_55 : decode cX4_digit 55 = .ok (.iconst 1, 1) := by decide +kernel
theorem dX4_digit_56 : decode cX4_digit 56 = .ok (.goto 4, 3) := by decide +kernel
theorem dX4_digit_59 : decode cX4_digit 59 = .ok (.iconst 0, 1) := by decide +kernel
theorem dX4_digit_60 : decode cX4_digit 60 = .ok (.istore 12, 2) := by decide +kernel
theorem dX4_digit_62 : decode cX4_digit 62 = .ok (.iconst 0, 1) := by decide +kernel
theorem dX4_digit_63 : decode cX4_digit 63 = .ok (.istore 13, 2) := by decide +kernel
theorem dX4_digit_65 : decode cX4_digit 65 = .ok (.iload 13, 2) := by decide +kernel
theorem dX4_digit_67 : decode cX4_digit 67 = .ok (.iload 4, 2) := by decide +kernel
theorem dX4_digit_69 : decode cX4_digit 69 = .ok (.if_icmp .gt 79, 3) := by decide +kernel
theorem dX4_digit_72 : decode cX4_digit 72 = .ok (.iload 12, 2) := by decide +kernel
theorem dX4_digit_74 : decode cX4_digit 74 = .ok (.ifCond .eq 74, 3) := by decide +kernel
theorem dX4_digit_77 : decode cX4_digit 77 = .ok (.iload 13, 2) := by decide +kernel
theorem dX4_digit_79 : decode cX4_digit 79 = .ok (.ifCond .eq 17, 3) := by decide +kernel
theorem dX4_digit_82 : decode cX4_digit 82 = .ok (.lload 7, 2) := by decide +kernel
theorem dX4_digit_84 : decode cX4_digit 84 = .ok (.lconst 0, 1) := by decide +kernel
theorem dX4_digit_85 : decode cX4_digit 85 = .ok (.lcmp, 1) := by decide +kernel
theorem dX4_digit_86 : decode cX4_digit 86 = .ok (.ifCond .gt 10, 3) := by decide +kernel
theorem dX4_digit_89 : decode cX4_digit 89 = .ok (.lload 9, 2) := by decide +kernel
theorem dX4_digit_91 : decode cX4_digit 91 = .ok (.lconst 0, 1) := by decide +kernel
theorem dX4_digit_92 : decode cX4_digit 92 = .ok (.lcmp, 1) := by decide +kernel
theorem dX4_digit_93 : decode cX4_digit 93 = .ok (.ifCond .le 7, 3) := by decide +kernel
theorem dX4_digit_96 : decode cX4_digit 96 = .ok (.iconst 1, 1) := by decide +kernel
theorem dX4_digit_97 : decode cX4_digit 97 = .ok (.goto 4, 3) := by decide +kernel
theorem dX4_digit_100 : decode cX4_digit 100 = .ok (.iconst 0, 1) := by decide +kernel
theorem dX4_digit_101 : decode cX4_digit 101 = .ok (.istore 12, 2) := by decide +kernel
theorem dX4_digit_103 : decode cX4_digit 103 = .ok (.lload 7, 2) := by decide +kernel
theorem dX4_digit_105 : decode cX4_digit 105 = .ok (.iload_n 3, 1) := by decide +kernel
theorem dX4_digit_106 : decode cX4_digit 106 = .ok (.i2l, 1) := by decide +kernel
theorem dX4_digit_107 : decode cX4_digit 107 = .ok (.lrem, 1) := by decide +kernel
theorem dX4_digit_108 : decode cX4_digit 108 = .ok (.lstore 14, 2) := by decide +kernel
theorem dX4_digit_110 : decode cX4_digit 110 = .ok (.lload 7, 2) := by decide +kernel
theorem dX4_digit_112 : decode cX4_digit 112 = .ok (.iload_n 3, 1) := by decide +kernel
theorem dX4_digit_113 : decode cX4_digit 113 = .ok (.i2l, 1) := by decide +kernel
theorem dX4_digit_114 : decode cX4_digit 114 = .ok (.ldiv, 1) := by decide +kernel
theorem dX4_digit_115 : decode cX4_digit 115 = .ok (.lstore 7, 2) := by decide +kernel
theorem dX4_digit_117 : decode cX4_digit 117 = .ok (.lload 14, 2) := by decide +kernel
theorem dX4_digit_119 : decode cX4_digit 119 = .ok (.bipush 32, 2) := by decide +kernel
theorem dX4_digit_121 : decode cX4_digit 121 = .ok (.lshl, 1) := by decide +kernel
theorem dX4_digit_122 : decode cX4_digit 122 = .ok (.lload 9, 2) := by decide +kernel
theorem dX4_digit_124 : decode cX4_digit 124 = .ok (.lor, 1) := by decide +kernel
theorem dX4_digit_125 : decode cX4_digit 125 = .ok (.lstore 16, 2) := by decide +kernel
theorem dX4_digit_127 : decode cX4_digit 127 = .ok (.lload 16, 2) := by decide +kernel
theorem dX4_digit_129 : decode cX4_digit 129 = .ok (.iload_n 3, 1) := by decide +kernel
theorem dX4_digit_130 : decode cX4_digit 130 = .ok (.i2l, 1) := by decide +kernel
theorem dX4_digit_131 : decode cX4_digit 131 = .ok (.lrem, 1) := by decide +kernel
theorem dX4_digit_132 : decode cX4_digit 132 = .ok (.l2i, 1) := by decide +kernel
theorem dX4_digit_133 : decode cX4_digit 133 = .ok (.istore 11, 2) := by decide +kernel
theorem dX4_digit_135 : decode cX4_digit 135 = .ok (.lload 16, 2) := by decide +kernel
theorem dX4_digit_137 : decode cX4_digit 137 = .ok (.iload_n 3, 1) := by decide +kernel
theorem dX4_digit_138 : decode cX4_digit 138 = .ok (.i2l, 1) := by decide +kernel
theorem dX4_digit_139 : decode cX4_digit 139 = .ok (.ldiv, 1) := by decide +kernel
theorem dX4_digit_140 : decode cX4_digit 140 = .ok (.lstore 9, 2) := by decide +kernel
theorem dX4_digit_142 : decode cX4_digit 142 = .ok (.iinc 13 1, 3) := by decide +kernel
theorem dX4_digit_145 : decode cX4_digit 145 = .ok (.goto (-80), 3) := by decide +kernel
theorem dX4_digit_148 : decode cX4_digit 148 = .ok (.aload_n 0, 1) := by decide +kernel
theorem dX4_digit_149 : decode cX4_digit 149 = .ok (.iload 12, 2) := by decide +kernel
theorem dX4_digit_151 : decode cX4_digit 151 = .ok (.ifCond .eq 7, 3) := by decide +kernel
theorem dX4_digit_154 : decode cX4_digit 154 = .ok (.iconst 0, 1) := by decide +kernel
theorem dX4_digit_155 : decode cX4_digit 155 = .ok (.goto 4, 3) := by decide +kernel
theorem dX4_digit_158 : decode cX4_digit 158 = .ok (.iconst 1, 1) := by decide +kernel
theorem dX4_digit_159 : decode cX4_digit 159 = .ok (.putfield 42, 3) := by decide +kernel
theorem dX4_digit_162 : decode cX4_digit 162 = .ok (.iload 12, 2) := by decide +kernel
theorem dX4_digit_164 : decode cX4_digit 164 = .ok (.ifCond .eq 8, 3) := by decide +kernel
theorem dX4_digit_167 : decode cX4_digit 167 = .ok (.iload 11, 2) := by decide +kernel
theorem dX4_digit_169 : decode cX4_digit 169 = .ok (.goto 4, 3) := by decide +kernel
theorem dX4_digit_172 : decode cX4_digit 172 = .ok (.iconst 0, 1) := by decide +kernel
theorem dX4_digit_173 : decode cX4_digit 173 = .ok (.ireturn, 1) := by decide +kernel
theorem dX4_clear_0 : decode cX4_clear 0 = .ok (.aload_n 0, 1) := by decide +kernel
theorem dX4_clear_1 : decode cX4_clear 1 = .ok (.iconst 0, 1) := by decide +kernel
theorem dX4_clear_2 : decode cX4_clear 2 = .ok (.putfield 42, 3) := by decide +kernel
theorem dX4_clear_5 : decode cX4_clear 5 = .ok (.iconst 0, 1) := by decide +kernel
theorem dX4_clear_6 : decode cX4_clear 6 = .ok (.istore_n 1, 1) := by decide +kernel
theorem dX4_clear_7 : decode cX4_clear 7 = .ok (.iload_n 1, 1) := by decide +kernel
theorem dX4_clear_8 : decode cX4_clear 8 = .ok (.bipush 16, 2) := by decide +kernel
theorem dX4_clear_10 : decode cX4_clear 10 = .ok (.if_icmp .ge 16, 3) := by decide +kernel
theorem dX4_clear_13 : decode cX4_clear 13 = .ok (.aload_n 0, 1) := by decide +kernel
theorem dX4_clear_14 : decode cX4_clear 14 = .ok (.getfield 20, 3) := by decide +kernel
theorem dX4_clear_17 : decode cX4_clear 17 = .ok (.iload_n 1, 1) := by decide +kernel
theorem dX4_clear_18 : decode cX4_clear 18 = .ok (.iconst 0, 1) := by decide +kernel
theorem dX4_clear_19 : decode cX4_clear 19 = .ok (.bastore, 1) := by decide +kernel
theorem dX4_clear_20 : decode cX4_clear 20 = .ok (.iinc 1 1, 3) := by decide +kernel
theorem dX4_clear_23 : decode cX4_clear 23 = .ok (.goto (-16), 3) := by decide +kernel
theorem dX4_clear_26 : decode cX4_clear 26 = .ok (.aload_n 0, 1) := by decide +kernel
theorem dX4_clear_27 : decode cX4_clear 27 = .ok (.iconst 0, 1) := by decide +kernel
theorem dX4_clear_28 : decode cX4_clear 28 = .ok (.putfield 114, 3) := by decide +kernel
theorem dX4_clear_31 : decode cX4_clear 31 = .ok (.aload_n 0, 1) := by decide +kernel
theorem dX4_clear_32 : decode cX4_clear 32 = .ok (.iconst 0, 1) := by decide +kernel
theorem dX4_clear_33 : decode cX4_clear 33 = .ok (.putfield 148, 3) := by decide +kernel
theorem dX4_clear_36 : decode cX4_clear 36 = .ok (.aload_n 0, 1) := by decide +kernel
theorem dX4_clear_37 : decode cX4_clear 37 = .ok (.iconst 0, 1) := by decide +kernel
theorem dX4_clear_38 : decode cX4_clear 38 = .ok (.putfield 134, 3) := by decide +kernel
theorem dX4_clear_41 : decode cX4_clear 41 = .ok (.return_, 1) := by decide +kernel
theorem dX4_count_0 : decode cX4_count 0 = .ok (.aload_n 0, 1) := by decide +kernel
theorem dX4_count_1 : decode cX4_count 1 = .ok (.iconst 0, 1) := by decide +kernel
theorem dX4_count_2 : decode cX4_count 2 = .ok (.putfield 42, 3) := by decide +kernel
theorem dX4_count_5 : decode cX4_count 5 = .ok (.iload_n 1, 1) := by decide +kernel
theorem dX4_count_6 : decode cX4_count 6 = .ok (.ifCond .ne 10, 3) := by decide +kernel
theorem dX4_count_9 : decode cX4_count 9 = .ok (.aload_n 0, 1) := by decide +kernel
theorem dX4_count_10 : decode cX4_count 10 = .ok (.getfield 114, 3) := by decide +kernel
theorem dX4_count_13 : decode cX4_count 13 = .ok (.goto 36, 3) := by decide +kernel
theorem dX4_count_16 : decode cX4_count 16 = .ok (.iload_n 1, 1) := by decide +kernel
theorem dX4_count_17 : decode cX4_count 17 = .ok (.iconst 1, 1) := by decide +kernel
theorem dX4_count_18 : decode cX4_count 18 = .ok (.if_icmp .ne 10, 3) := by decide +kernel
theorem dX4_count_21 : decode cX4_count 21 = .ok (.aload_n 0, 1) := by decide +kernel
theorem dX4_count_22 : decode cX4_count 22 = .ok (.getfield 148, 3) := by decide +kernel
theorem dX4_count_25 : decode cX4_count 25 = .ok (.goto 24, 3) := by decide +kernel
theorem dX4_count_28 : decode cX4_count 28 = .ok (.iload_n 1, 1) := by decide +kernel
theorem dX4_count_29 : decode cX4_count 29 = .ok (.iconst 2, 1) := by decide +kernel
theorem dX4_count_30 : decode cX4_count 30 = .ok (.if_icmp .ne 18, 3) := by decide +kernel
theorem dX4_count_33 : decode cX4_count 33 = .ok (.aload_n 0, 1) := by decide +kernel
theorem dX4_count_34 : decode cX4_count 34 = .ok (.getfield 134, 3) := by decide +kernel
theorem dX4_count_37 : decode cX4_count 37 = .ok (.ifCond .eq 7, 3) := by decide +kernel
theorem dX4_count_40 : decode cX4_count 40 = .ok (.iconst 1, 1) := by decide +kernel
theorem dX4_count_41 : decode cX4_count 41 = .ok (.goto 8, 3) := by decide +kernel
theorem dX4_count_44 : decode cX4_count 44 = .ok (.iconst 0, 1) := by decide +kernel
theorem dX4_count_45 : decode cX4_count 45 = .ok (.goto 4, 3) := by decide +kernel
theorem dX4_count_48 : decode cX4_count 48 = .ok (.iconst (-1), 1) := by decide +kernel
theorem dX4_count_49 : decode cX4_count 49 = .ok (.ireturn, 1) := by decide +kernel
