theorem dX3_init_0 : decode cX3_init 0 = .ok (.aload_n 0, 1) := by decide +kernel
theorem dX3_init_1 : decode cX3_init 1 = .ok (.invokespecial 1, 3) := by decide +kernel
theorem dX3_init_4 : decode cX3_init 4 = .ok (.aload_n 0, 1) := by decide +kernel
theorem dX3_init_5 : decode cX3_init 5 = .ok (.bipush 16, 2) := by decide +kernel
theorem dX3_init_7 : decode cX3_init 7 = .ok (.newarray .boolean, 2) := by decide +kernel
theorem dX3_init_9 : decode cX3_init 9 = .ok (.putfield 9, 3) := by decide +kernel
theorem dX3_init_12 : decode cX3_init 12 = .ok (.aload_n 0, 1) := by decide +kernel
theorem dX3_init_13 : decode cX3_init 13 = .ok (.bipush 16, 2) := by decide +kernel
theorem dX3_init_15 : decode cX3_init 15 = .ok (.newarray .long, 2) := by decide +kernel
theorem dX3_init_17 : decode cX3_init 17 = .ok (.putfield 13, 3) := by decide +kernel
theorem dX3_init_20 : decode cX3_init 20 = .ok (.aload_n 0, 1) := by decide +kernel
theorem dX3_init_21 : decode cX3_init 21 = .ok (.bipush 16, 2) := by decide +kernel
theorem dX3_init_23 : decode cX3_init 23 = .ok (.newarray .long, 2) := by decide +kernel
theorem dX3_init_25 : decode cX3_init 25 = .ok (.putfield 17, 3) := by decide +kernel
theorem dX3_init_28 : decode cX3_init 28 = .ok (.aload_n 0, 1) := by decide +kernel
theorem dX3_init_29 : decode cX3_init 29 = .ok (.bipush 16, 2) := by decide +kernel
theorem dX3_init_31 : decode cX3_init 31 = .ok (.newarray .long, 2) := by decide +kernel
theorem dX3_init_33 : decode cX3_init 33 = .ok (.putfield 20, 3) := by decide +kernel
theorem dX3_init_36 : decode cX3_init 36 = .ok (.aload_n 0, 1) := by decide +kernel
theorem dX3_init_37 : decode cX3_init 37 = .ok (.bipush 16, 2) := by decide +kernel
theorem dX3_init_39 : decode cX3_init 39 = .ok (.newarray .long, 2) := by decide +kernel
theorem dX3_init_41 : decode cX3_init 41 = .ok (.putfield 23, 3) := by decide +kernel
theorem dX3_init_44 : decode cX3_init 44 = .ok (.aload_n 0, 1) := by decide +kernel
theorem dX3_init_45 : decode cX3_init 45 = .ok (.bipush 64, 2) := by decide +kernel
theorem dX3_init_47 : decode cX3_init 47 = .ok (.newarray .long, 2) := by decide +kernel
theorem dX3_init_49 : decode cX3_init 49 = .ok (.putfield 26, 3) := by decide +kernel
theorem dX3_init_52 : decode cX3_init 52 = .ok (.aload_n 0, 1) := by decide +kernel
theorem dX3_init_53 : decode cX3_init 53 = .ok (.bipush 64, 2) := by decide +kernel
theorem dX3_init_55 : decode cX3_init 55 = .ok (.newarray .long, 2) := by decide +kernel
theorem dX3_init_57 : decode cX3_init 57 = .ok (.putfield 29, 3) := by decide +kernel
theorem dX3_init_60 : decode cX3_init 60 = .ok (.aload_n 0, 1) := by decide +kernel
theorem dX3_init_61 : decode cX3_init 61 = .ok (.new 32, 3) := by decide +kernel
theorem dX3_init_64 : decode cX3_init 64 = .ok (.dup, 1) := by decide +kernel
theorem dX3_init_65 : decode cX3_init 65 = .ok (.invokespecial 34, 3) := by decide +kernel
theorem dX3_init_68 : decode cX3_init 68 = .ok (.putfield 35, 3) := by decide +kernel
theorem dX3_init_71 : decode cX3_init 71 = .ok (.aload_n 0, 1) := by decide +kernel
theorem dX3_init_72 : decode cX3_init 72 = .ok (.new 32, 3) := by decide +kernel
theorem dX3_init_75 : decode cX3_init 75 = .ok (.dup, 1) := by decide +kernel
theorem dX3_init_76 : decode cX3_init 76 = .ok (.invokespecial 34, 3) := by decide +kernel
theorem dX3_init_79 : decode cX3_init 79 = .ok (.putfield 39, 3) := by decide +kernel
theorem dX3_init_82 : decode cX3_init 82 = .ok (.aload_n 0, 1) := by decide +kernel
theorem dX3_init_83 : decode cX3_init 83 = .ok (.new 42, 3) := by decide +kernel
theorem dX3_init_86 : decode cX3_init 86 = .ok (.dup, 1) := by decide +kernel
theorem dX3_init_87 : decode cX3_init 87 = .ok (.invokespecial 44, 3) := by decide +kernel
theorem dX3_init_90 : decode cX3_init 90 = .ok (.putfield 45, 3) := by decide +kernel
theorem dX3_init_93 : decode cX3_init 93 = .ok (.aload_n 0, 1) := by decide +kernel
theorem dX3_init_94 : decode cX3_init 94 = .ok (.new 49, 3) := by decide +kernel
theorem dX3_init_97 : decode cX3_init 97 = .ok (.dup, 1) := by decide +kernel
theorem dX3_init_98 : decode cX3_init 98 = .ok (.invokespecial 51, 3) := by decide +kernel
theorem dX3_init_101 : decode cX3_init 101 = .ok (.putfield 52, 3) := by decide +kernel
theorem dX3_init_104 : decode cX3_init 104 = .ok (.aload_n 0, 1) := by decide +kernel
theorem dX3_init_105 : decode cX3_init 105 = .ok (.new 49, 3) := by decide +kernel
theorem dX3_init_108 : decode cX3_init 108 = .ok (.dup, 1) := by decide +kernel
theorem dX3_init_109 : decode cX3_init 109 = .ok (.invokespecial 51, 3) := by decide +kernel
theorem dX3_init_112 : decode cX3_init 112 = .ok (.putfield 56, 3) := by decide +kernel
theorem dX3_init_115 : decode cX3_init 115 = .ok (.aload_n 0, 1) := by decide +kernel
theorem dX3_init_116 : decode cX3_init 116 = .ok (.new 49, 3) := by decide +kernel
theorem dX3_init_119 : decode cX3_init 119 = .ok (.dup, 1) := by decide +kernel
theorem dX3_init_120 : decode cX3_init 120 = .ok (.invokespecial 51, 3) := by decide +kernel
theorem dX3_init_123 : decode cX3_init 123 = .ok (.putfield 59, 3) := by decide +kernel
theorem dX3_init_126 : decode cX3_init 126 = .ok (.aload_n 0, 1) := by decide +kernel
theorem dX3_init_127 : decode cX3_init 127 = .ok (.iconst 0, 1) := by decide +kernel
theorem dX3_init_128 : decode cX3_init 128 = .ok (.putfield 62, 3) := by decide +kernel
theorem dX3_init_131 : decode cX3_init 131 = .ok (.aload_n 0, 1) := by decide +kernel
theorem dX3_init_132 : decode cX3_init 132 = .ok (.iconst 0, 1) := by decide +kernel
theorem dX3_init_133 : decode cX3_init 133 = .ok (.putfield 66, 3) := by decide +kernel
theorem dX3_init_136 : decode cX3_init 136 = .ok (.return_, 1) := by decide +kernel
theorem dX3_turn_0 : decode cX3_turn 0 = .ok (.lload_n 1, 1) := by decide +kernel
theorem dX3_turn_1 : decode cX3_turn 1 = .ok (.lload_n 3, 1) := by decide +kernel
theorem dX3_turn_2 : decode cX3_turn 2 = .ok (.invokestatic 70, 3) := by decide +kernel
theorem dX3_turn_5 : decode cX3_turn 5 = .ok (.ifCond .eq 23, 3) := by decide +kernel
theorem dX3_turn_8 : decode cX3_turn 8 = .ok (.lload 5, 2) := by decide +kernel
theorem dX3_turn_10 : decode cX3_turn 10 = .ok (.lload 7, 2) := by decide +kernel
theorem dX3_turn_12 : decode cX3_turn 12 = .ok (.invokestatic 70, 3) := by decide +kernel
theorem dX3_turn_15 : decode cX3_turn 15 = .ok (.ifCond .eq 13, 3) := by decide +kernel
theorem dX3_turn_18 : decode cX3_turn 18 = .ok (.lload 9, 2) := by decide +kernel
theorem dX3_turn_20 : decode cX3_turn 20 = .ok (.lload 11, 2) := by decide +kernel
theorem dX3_turn_22 : decode cX3_turn 22 = .ok (.invokestatic 70, 3) := by decide +kernel
theorem dX3_turn_25 : decode cX3_turn 25 = .ok (.ifCond .ne 6, 3) := by decide +kernel
theorem dX3_turn_28 : decode cX3_turn 28 = .ok (.bipush (-2), 2) := by decide +kernel
theorem dX3_turn_30 : decode cX3_turn 30 = .ok (.ireturn, 1) := by decide +kernel
theorem dX3_turn_31 : decode cX3_turn 31 = .ok (.aload_n 0, 1) := by decide +kernel
theorem dX3_turn_32 : decode cX3_turn 32 = .ok (.lload_n 1, 1) := by decide +kernel
theorem dX3_turn_33 : decode cX3_turn 33 = .ok (.lload_n 3, 1) := by decide +kernel
theorem dX3_turn_34 : decode cX3_turn 34 = .ok (.lload 5, 2) := by decide +kernel
theorem dX3_turn_36 : decode cX3_turn 36 = .ok (.lload 7, 2) := by decide +kernel
theorem dX3_turn_38 : decode cX3_turn 38 = .ok (.lload 9, 2) := by decide +kernel
theorem dX3_turn_40 : decode cX3_turn 40 = .ok (.lload 11, 2) := by decide +kernel
theorem dX3_turn_42 : decode cX3_turn 42 = .ok (.invokevirtual 74, 3) := by decide +kernel
theorem dX3_turn_45 : decode cX3_turn 45 = .ok (.ireturn, 1) := by decide +kernel
theorem dX3_line_0 : decode cX3_line 0 = .ok (.iload_n 1, 1) := by decide +kernel
theorem dX3_line_1 : decode cX3_line 1 = .ok (.ifCond .lt 28, 3) := by decide +kernel
theorem dX3_line_4 : decode cX3_line 4 = .ok (.iload_n 1, 1) := by decide +kernel
theorem dX3_line_5 : decode cX3_line 5 = .ok (.bipush 16, 2) := by decide +kernel
theorem dX3_line_7 : decode cX3_line 7 = .ok (.if_icmp .ge 22, 3) := by decide +kernel
theorem dX3_line_10 : decode cX3_line 10 = .ok (.lload_n 2, 1) := by decide +kernel
theorem dX3_line_11 : decode cX3_line 11 = .ok (.lload 4, 2) := by decide +kernel
theorem dX3_line_13 : decode cX3_line 13 = .ok (.invokestatic 70, 3) := by decide +kernel
theorem dX3_line_16 : decode cX3_line 16 = .ok (.ifCond .eq 13, 3) := by decide +kernel
theorem dX3_line_19 : decode cX3_line 19 = .ok (.lload 6, 2) := by decide +kernel
theorem dX3_line_21 : decode cX3_line 21 = .ok (.lload 8, 2) := by decide +kernel
theorem dX3_line_23 : decode cX3_line 23 = .ok (.invokestatic 70, 3) := by decide +kernel
theorem dX3_line_26 : decode cX3_line 26 = .ok (.ifCond .ne 5, 3) := by decide +kernel
theorem dX3_line_29 : decode cX3_line 29 = .ok (.iconst 0, 1) := by decide +kernel
theorem dX3_line_30 : decode cX3_line 30 = .ok (.ireturn, 1) := by decide +kernel
theorem dX3_line_31 : decode cX3_line 31 = .ok (.lload_n 2, 1) := by decide +kernel
theorem dX3_line_32 : decode cX3_line 32 = .ok (.lload 6, 2) := by decide +kernel
theorem dX3_line_34 : decode cX3_line 34 = .ok (.lcmp, 1) := by decide +kernel
theorem dX3_line_35 : decode cX3_line 35 = .ok (.ifCond .ne 13, 3) := by decide +kernel
theorem dX3_line_38 : decode cX3_line 38 = .ok (.lload 4, 2) := by decide +kernel
theorem dX3_line_40 : decode cX3_line 40 = .ok (.lload 8, 2) := by decide +kernel
theorem dX3_line_42 : decode cX3_line 42 = .ok (.lcmp, 1) := by decide +kernel
theorem dX3_line_43 : decode cX3_line 43 = .ok (.ifCond .ne 5, 3) := by decide +kernel
theorem dX3_line_46 : decode cX3_line 46 = .ok (.iconst 0, 1) := by decide +kernel
theorem dX3_line_47 : decode cX3_line 47 = .ok (.ireturn, 1) := by decide +kernel
theorem dX3_line_48 : decode cX3_line 48 = .ok (.aload_n 0, 1) := by decide +kernel
theorem dX3_line_49 : decode cX3_line 49 = .ok (.getfield 9, 3) := by decide +kernel
theorem dX3_line_52 : decode cX3_line 52 = .ok (.iload_n 1, 1) := by decide +kernel
theorem dX3_line_53 : decode cX3_line 53 = .ok (.iconst 1, 1) := by decide +kernel
theorem dX3_line_54 : decode cX3_line 54 = .ok (.bastore, 1) := by decide +kernel
theorem dX3_line_55 : decode cX3_line 55 = .ok (.aload_n 0, 1) := by decide +kernel
theorem dX3_line_56 : decode cX3_line 56 = .ok (.getfield 13, 3) := by decide +kernel
theorem dX3_line_59 : decode cX3_line 59 = .ok (.iload_n 1, 1) := by decide +kernel
theorem dX3_line_60 : decode cX3_line 60 = .ok (.lload_n 2, 1) := by decide +kernel
theorem dX3_line_61 : decode cX3_line 61 = .ok (.lastore, 1) := by decide +kernel
theorem dX3_line_62 : decode cX3_line 62 = .ok (.aload_n 0, 1) := by decide +kernel
theorem dX3_line_63 : decode cX3_line 63 = .ok (.getfield 17, 3) := by decide +kernel
theorem dX3_line_66 : decode cX3_line 66 = .ok (.iload_n 1, 1) := by decide +kernel
theorem dX3_line_67 : decode cX3_line 67 = .ok (.lload 4, 2) := by decide +kernel
theorem dX3_line_69 : decode cX3_line 69 = .ok (.lastore, 1) := by decide +kernel
theorem dX3_line_70 : decode cX3_line 70 = .ok (.aload_n 0, 1) := by decide +kernel
theorem dX3_line_71 : decode cX3_line 71 = .ok (.getfield 20, 3) := by decide +kernel
theorem dX3_line_74 : decode cX3_line 74 = .ok (.iload_n 1, 1) := by decide +kernel
theorem dX3_line_75 : decode cX3_line 75 = .ok (.lload 6, 2) := by decide +kernel
theorem dX3_line_77 : decode cX3_line 77 = .ok (.lload_n 2, 1) := by decide +kernel
theorem dX3_line_78 : decode cX3_line 78 = .ok (.lsub, 1) := by decide +kernel
theorem dX3_line_79 : decode cX3_line 79 = .ok (.lastore, 1) := by decide +kernel
theorem dX3_line_80 : decode cX3_line 80 = .ok (.aload_n 0, 1) := by decide +kernel
theorem dX3_line_81 : decode cX3_line 81 = .ok (.getfield 23, 3) := by decide +kernel
theorem dX3_line_84 : decode cX3_line 84 = .ok (.iload_n 1, 1) := by decide +kernel
theorem dX3_line_85 : decode cX3_line 85 = .ok (.lload 8, 2) := by decide +kernel
theorem dX3_line_87 : decode cX3_line 87 = .ok (.lload 4, 2) := by decide +kernel
theorem dX3_line_89 : decode cX3_line 89 = .ok (.lsub, 1) := by decide +kernel
theorem dX3_line_90 : decode cX3_line 90 = .ok (.lastore, 1) := by decide +kernel
theorem dX3_line_91 : decode cX3_line 91 = .ok (.iconst 1, 1) := by decide +kernel
theorem dX3_line_92 : decode cX3_line 92 = .ok (.ireturn, 1) := by decide +kernel
theorem dX3_cross_0 : decode cX3_cross 0 = .ok (.aload_n 0, 1) := by decide +kernel
theorem dX3_cross_1 : decode cX3_cross 1 = .ok (.iload_n 1, 1) := by decide +kernel
theorem dX3_cross_2 : decode cX3_cross 2 = .ok (.invokevirtual 78, 3) := by decide +kernel
theorem dX3_cross_5 : decode cX3_cross 5 = .ok (.ifCond .eq 11, 3) := by decide +kernel
theorem dX3_cross_8 : decode cX3_cross 8 = .ok (.aload_n 0, 1) := by decide +kernel
theorem dX3_cross_9 : decode cX3_cross 9 = .ok (.iload_n 2, 1) := by decide +kernel
theorem dX3_cross_10 : decode cX3_cross 10 = .ok (.invokevirtual 78, 3) := by decide +kernel
theorem dX3_cross_13 : decode cX3_cross 13 = .ok (.ifCond .ne 5, 3) := by decide +kernel
theorem dX3_cross_16 : decode cX3_cross 16 = .ok (.iconst (-1), 1) := by decide +kernel
theorem dX3_cross_17 : decode cX3_cross 17 = .ok (.ireturn, 1) := by decide +kernel
theorem dX3_cross_18 : decode cX3_cross 18 = .ok (.aload_n 0, 1) := by decide +kernel
theorem dX3_cross_19 : decode cX3_cross 19 = .ok (.getfield 52, 3) := by decide +kernel
theorem dX3_cross_22 : decode cX3_cross 22 = .ok (.aload_n 0, 1) := by decide +kernel
theorem dX3_cross_23 : decode cX3_cross 23 = .ok (.getfield 20, 3) := by decide +kernel
theorem dX3_cross_26 : decode cX3_cross 26 = .ok (.iload_n 1, 1) := by decide +kernel
theorem dX3_cross_27 : decode cX3_cross 27 = .ok (.laload, 1) := by decide +kernel
theorem dX3_cross_28 : decode cX3_cross 28 = .ok (.aload_n 0, 1) := by decide +kernel
theorem dX3_cross_29 : decode cX3_cross 29 = .ok (.getfield 23, 3) := by decide +kernel
theorem dX3_cross_32 : decode cX3_cross 32 = .ok (.iload_n 1, 1) := by decide +kernel
theorem dX3_cross_33 : decode cX3_cross 33 = .ok (.laload, 1) := by decide +kernel
theorem dX3_cross_34 : decode cX3_cross 34 = .ok (.aload_n 0, 1) := by decide +kernel
theorem dX3_cross_35 : decode cX3_cross 35 = .ok (.getfield 20, 3) := by decide +kernel
theorem dX3_cross_38 : decode cX3_cross 38 = .ok (.iload_n 2, 1) := by decide +kernel
theorem dX3_cross_39 : decode cX3_cross 39 = .ok (.laload, 1) := by decide +kernel
theorem dX3_cross_40 : decode cX3_cross 40 = .ok (.aload_n 0, 1) := by decide +kernel
theorem dX3_cross_41 : decode cX3_cross 41 = .ok (.getfield 23, 3) := by decide +kernel
theorem dX3_cross_44 : decode cX3_cross 44 = .ok (.iload_n 2, 1) := by decide +kernel
theorem dX3_cross_45 : decode cX3_cross 45 = .ok (.laload, 1) := by decide +kernel
theorem dX3_cross_46 : decode cX3_cross 46 = .ok (.invokevirtual 82, 3) := by decide +kernel
theorem dX3_cross_49 : decode cX3_cross 49 = .ok (.aload_n 0, 1) := by decide +kernel
theorem dX3_cross_50 : decode cX3_cross 50 = .ok (.getfield 52, 3) := by decide +kernel
theorem dX3_cross_53 : decode cX3_cross 53 = .ok (.invokevirtual 86, 3) := by decide +kernel
theorem dX3_cross_56 : decode cX3_cross 56 = .ok (.ifCond .ne 12, 3) := by decide +kernel
theorem dX3_cross_59 : decode cX3_cross 59 = .ok (.aload_n 0, 1) := by decide +kernel
theorem dX3_cross_60 : decode cX3_cross 60 = .ok (.iload_n 1, 1) := by decide +kernel
theorem dX3_cross_61 : decode cX3_cross 61 = .ok (.iload_n 2, 1) := by decide +kernel
theorem dX3_cross_62 : decode cX3_cross 62 = .ok (.invokevirtual 90, 3) := by decide +kernel
theorem dX3_cross_65 : decode cX3_cross 65 = .ok (.goto 9, 3) := by decide +kernel
theorem dX3_cross_68 : decode cX3_cross 68 = .ok (.aload_n 0, 1) := by decide +kernel
theorem dX3_cross_69 : decode cX3_cross 69 = .ok (.iload_n 1, 1) := by decide +kernel
theorem dX3_cross_70 : decode cX3_cross 70 = .ok (.iload_n 2, 1) := by decide +kernel
theorem dX3_cross_71 : decode cX3_cross 71 = .ok (.invokevirtual 94, 3) := by decide +kernel
theorem dX3_cross_74 : decode cX3_cross 74 = .ok (.istore_n 3, 1) := by decide +kernel
theorem dX3_cross_75 : decode cX3_cross 75 = .ok (.aload_n 0, 1) := by decide +kernel
theorem dX3_cross_76 : decode cX3_cross 76 = .ok (.iload_n 3, 1) := by decide +kernel
theorem dX3_cross_77 : decode cX3_cross 77 = .ok (.iconst 1, 1) := by decide +kernel
theorem dX3_cross_78 : decode cX3_cross 78 = .ok (.if_icmp .ne 7, 3) := by decide +kernel
theorem dX3_cross_81 : decode cX3_cross 81 = .ok (.iconst 1, 1) := by decide +kernel
theorem dX3_cross_82 : decode cX3_cross 82 = .ok (.goto 4, 3) := by decide +kernel
theorem dX3_cross_85 : decode cX3_cross 85 = .ok (.iconst 0, 1) := by decide +kernel
theorem dX3_cross_86 : decode cX3_cross 86 = .ok (.putfield 66, 3) := by decide +kernel
theorem dX3_cross_89 : decode cX3_cross 89 = .ok (.iload_n 3, 1) := by decide +kernel
theorem dX3_cross_90 : decode cX3_cross 90 = .ok (.ireturn, 1) := by decide +kernel
theorem dX3_at_0 : decode cX3_at 0 = .ok (.aload_n 0, 1) := by decide +kernel
theorem dX3_at_1 : decode cX3_at 1 = .ok (.iload_n 1, 1) := by decide +kernel
theorem dX3_at_2 : decode cX3_at 2 = .ok (.invokevirtual 97, 3) := by decide +kernel
theorem dX3_at_5 : decode cX3_at 5 = .ok (.ifCond .ne 7, 3) := by decide +kernel
theorem dX3_at_8 : decode cX3_at 8 = .ok (.ldc2_w 100, 3) := by decide +kernel
theorem dX3_at_11 : decode cX3_at 11 = .ok (.lreturn, 1) := by decide +kernel
theorem dX3_at_12 : decode cX3_at 12 = .ok (.iload_n 1, 1) := by decide +kernel
theorem dX3_at_13 : decode cX3_at 13 = .ok (.ifCond .ne 10, 3) := by decide +kernel
theorem dX3_at_16 : decode cX3_at 16 = .ok (.aload_n 0, 1) := by decide +kernel
theorem dX3_at_17 : decode cX3_at 17 = .ok (.getfield 35, 3) := by decide +kernel
theorem dX3_at_20 : decode cX3_at 20 = .ok (.goto 7, 3) := by decide +kernel
theorem dX3_at_23 : decode cX3_at 23 = .ok (.aload_n 0, 1) := by decide +kernel
theorem dX3_at_24 : decode cX3_at 24 = .ok (.getfield 39, 3) := by decide +kernel
theorem dX3_at_27 : decode cX3_at 27 = .ok (.astore_n 2, 1) := by decide +kernel
theorem dX3_at_28 : decode cX3_at 28 = .ok (.aload_n 0, 1) := by decide +kernel
theorem dX3_at_29 : decode cX3_at 29 = .ok (.getfield 45, 3) := by decide +kernel
theorem dX3_at_32 : decode cX3_at 32 = .ok (.aload_n 2, 1) := by decide +kernel
theorem dX3_at_33 : decode cX3_at 33 = .ok (.getfield 102, 3) := by decide +kernel
theorem dX3_at_36 : decode cX3_at 36 = .ok (.aload_n 2, 1) := by decide +kernel
theorem dX3_at_37 : decode cX3_at 37 = .ok (.getfield 105, 3) := by decide +kernel
theorem dX3_at_40 : decode cX3_at 40 = .ok (.iconst 4, 1) := by decide +kernel
theorem dX3_at_41 : decode cX3_at 41 = .ok (.invokevirtual 108, 3) := by decide +kernel
theorem dX3_at_44 : decode cX3_at 44 = .ok (.lreturn, 1) := by decide +kernel
theorem dX3_exact_0 : decode cX3_exact 0 = .ok (.aload_n 0, 1) := by decide +kernel
theorem dX3_exact_1 : decode cX3_exact 1 = .ok (.iload_n 1, 1) := by decide +kernel
theorem dX3_exact_2 : decode cX3_exact 2 = .ok (.invokevirtual 97, 3) := by decide +kernel
theorem dX3_exact_5 : decode cX3_exact 5 = .ok (.ifCond .eq 12, 3) := by decide +kernel
theorem dX3_exact_8 : decode cX3_exact 8 = .ok (.iload_n 2, 1) := by decide +kernel
theorem dX3_exact_9 : decode cX3_exact 9 = .ok (.ifCond .lt 8, 3) := by decide +kernel
theorem dX3_exact_12 : decode cX3_exact 12 = .ok (.iload_n 2, 1) := by decide +kernel
theorem dX3_exact_13 : decode cX3_exact 13 = .ok (.iconst 1, 1) := by decide +kernel
theorem dX3_exact_14 : decode cX3_exact 14 = .ok (.if_icmp .le 7, 3) := by decide +kernel
theorem dX3_exact_17 : decode cX3_exact 17 = .ok (.ldc2_w 100, 3) := by decide +kernel
theorem dX3_exact_20 : decode cX3_exact 20 = .ok (.lreturn, 1) := by decide +kernel
theorem dX3_exact_21 : decode cX3_exact 21 = .ok (.iload_n 1, 1) := by decide +kernel
theorem dX3_exact_22 : decode cX3_exact 22 = .ok (.ifCond .ne 10, 3) := by decide +kernel
theorem dX3_exact_25 : decode cX3_exact 25 = .ok (.aload_n 0, 1) := by decide +kernel
theorem dX3_exact_26 : decode cX3_exact 26 = .ok (.getfield 35, 3) := by decide +kernel
theorem dX3_exact_29 : decode cX3_exact 29 = .ok (.goto 7, 3) := by decide +kernel
theorem dX3_exact_32 : decode cX3_exact 32 = .ok (.aload_n 0, 1) := by decide +kernel
theorem dX3_exact_33 : decode cX3_exact 33 = .ok (.getfield 39, 3) := by decide +kernel
theorem dX3_exact_36 : decode cX3_exact 36 = .ok (.astore 4, 2) := by decide +kernel
theorem dX3_exact_38 : decode cX3_exact 38 = .ok (.iload_n 2, 1) := by decide +kernel
theorem dX3_exact_39 : decode cX3_exact 39 = .ok (.ifCond .ne 11, 3) := by decide +kernel
theorem dX3_exact_42 : decode cX3_exact 42 = .ok (.aload 4, 2) := by decide +kernel
theorem dX3_exact_44 : decode cX3_exact 44 = .ok (.getfield 102, 3) := by decide +kernel
theorem dX3_exact_47 : decode cX3_exact 47 = .ok (.goto 8, 3) := by decide +kernel
theorem dX3_exact_50 : decode cX3_exact 50 = .ok (.aload 4, 2) := by decide +kernel
theorem dX3_exact_52 : decode cX3_exact 52 = .ok (.getfield 105, 3) := by decide +kernel
theorem dX3_exact_55 : decode cX3_exact 55 = .ok (.iload_n 3, 1) := by decide +kernel
theorem dX3_exact_56 : decode cX3_exact 56 = .ok (.invokestatic 112, 3) := by decide +kernel
theorem dX3_exact_59 : decode cX3_exact 59 = .ok (.lreturn, 1) := by decide +kernel
theorem dX3_corner_0 : decode cX3_corner 0 = .ok (.aload_n 0, 1) := by decide +kernel
theorem dX3_corner_1 : decode cX3_corner 1 = .ok (.getfield 62, 3) := by decide +kernel
theorem dX3_corner_4 : decode cX3_corner 4 = .ok (.bipush 64, 2) := by decide +kernel
theorem dX3_corner_6 : decode cX3_corner 6 = .ok (.if_icmp .ge 11, 3) := by decide +kernel
theorem dX3_corner_9 : decode cX3_corner 9 = .ok (.lload_n 1, 1) := by decide +kernel
theorem dX3_corner_10 : decode cX3_corner 10 = .ok (.lload_n 3, 1) := by decide +kernel
theorem dX3_corner_11 : decode cX3_corner 11 = .ok (.invokestatic 70, 3) := by decide +kernel
theorem dX3_corner_14 : decode cX3_corner 14 = .ok (.ifCond .ne 5, 3) := by decide +kernel
theorem dX3_corner_17 : decode cX3_corner 17 = .ok (.iconst 0, 1) := by decide +kernel
theorem dX3_corner_18 : decode cX3_corner 18 = .ok (.ireturn, 1) := by decide +kernel
theorem dX3_corner_19 : decode cX3_corner 19 = .ok (.aload_n 0, 1) := by decide +kernel
theorem dX3_corner_20 : decode cX3_corner 20 = .ok (.getfield 26, 3) := by decide +kernel
theorem dX3_corner_23 : decode cX3_corner 23 = .ok (.aload_n 0, 1) := by decide +kernel
theorem dX3_corner_24 : decode cX3_corner 24 = .ok (.getfield 62, 3) := by decide +kernel
theorem dX3_corner_27 : decode cX3_corner 27 = .ok (.lload_n 1, 1) := by decide +kernel
theorem dX3_corner_28 : decode cX3_corner 28 = .ok (.lastore, 1) := by decide +kernel
theorem dX3_corner_29 : decode cX3_corner 29 = .ok (.aload_n 0, 1) := by decide +kernel
theorem dX3_corner_30 : decode cX3_corner 30 = .ok (.getfield 29, 3) := by decide +kernel
theorem dX3_corner_33 : decode cX3_corner 33 = .ok (.aload_n 0, 1) := by decide +kernel
theorem dX3_corner_34 : decode cX3_corner 34 = .ok (.getfield 62, 3) := by decide +kernel
theorem dX3_corner_37 : decode cX3_corner 37 = .ok (.lload_n 3, 1) := by decide +kernel
theorem dX3_corner_38 : decode cX3_corner 38 = .ok (.lastore, 1) := by decide +kernel
theorem dX3_corner_39 : decode cX3_corner 39 = .ok (.aload_n 0, 1) := by decide +kernel
theorem dX3_corner_40 : decode cX3_corner 40 = .ok (.dup, 1) := by decide +kernel
theorem dX3_corner_41 : decode cX3_corner 41 = .ok (.getfield 62, 3) := by decide +kernel
theorem dX3_corner_44 : decode cX3_corner 44 = .ok (.iconst 1, 1) := by decide +kernel
theorem dX3_corner_45 : decode cX3_corner 45 = .ok (.iadd, 1) := by decide +kernel
theorem dX3_corner_46 : decode cX3_corner 46 = .ok (.putfield 62, 3) := by decide +kernel
theorem dX3_corner_49 : decode cX3_corner 49 = .ok (.iconst 1, 1) := by decide +kernel
theorem dX3_corner_50 : decode cX3_corner 50 = .ok (.ireturn, 1) := by decide +kernel
theorem dX3_area2_0 : decode cX3_area2 0 = .ok (.aload_n 0, 1) := by decide +kernel
theorem dX3_area2_1 : decode cX3_area2 1 = .ok (.getfield 52, 3) := by decide +kernel
theorem dX3_area2_4 : decode cX3_area2 4 = .ok (.lconst 0, 1) := by decide +kernel
theorem dX3_area2_5 : decode cX3_area2 5 = .ok (.invokevirtual 116, 3) := by decide +kernel
theorem dX3_area2_8 : decode cX3_area2 8 = .ok (.iconst 0, 1) := by decide +kernel
theorem dX3_area2_9 : decode cX3_area2 9 = .ok (.istore_n 2, 1) := by decide +kernel
theorem dX3_area2_10 : decode cX3_area2 10 = .ok (.iload_n 2, 1) := by decide +kernel
theorem dX3_area2_11 : decode cX3_area2 11 = .ok (.aload_n 0, 1) := by decide +kernel
theorem dX3_area2_12 : decode cX3_area2 12 = .ok (.getfield 62, 3) := by decide +kernel
theorem dX3_area2_15 : decode cX3_area2 15 = .ok (.if_icmp .ge 46, 3) := by decide +kernel
theorem dX3_area2_18 : decode cX3_area2 18 = .ok (.aload_n 0, 1) := by decide +kernel
theorem dX3_area2_19 : decode cX3_area2 19 = .ok (.iload_n 2, 1) := by decide +kernel
theorem dX3_area2_20 : decode cX3_area2 20 = .ok (.invokevirtual 120, 3) := by decide +kernel
theorem dX3_area2_23 : decode cX3_area2 23 = .ok (.istore_n 3, 1) := by decide +kernel
theorem dX3_area2_24 : decode cX3_area2 24 = .ok (.aload_n 0, 1) := by decide +kernel
theorem dX3_area2_25 : decode cX3_area2 25 = .ok (.getfield 52, 3) := by decide +kernel
theorem dX3_area2_28 : decode cX3_area2 28 = .ok (.aload_n 0, 1) := by decide +kernel
theorem dX3_area2_29 : decode cX3_area2 29 = .ok (.getfield 26, 3) := by decide +kernel
theorem dX3_area2_32 : decode cX3_area2 32 = .ok (.iload_n 2, 1) := by decide +kernel
theorem dX3_area2_33 : decode cX3_area2 33 = .ok (.laload, 1) := by decide +kernel
theorem dX3_area2_34 : decode cX3_area2 34 = .ok (.aload_n 0, 1) := by decide +kernel
theorem dX3_area2_35 : decode cX3_area2 35 = .ok (.getfield 29, 3) := by decide +kernel
theorem dX3_area2_38 : decode cX3_area2 38 = .ok (.iload_n 2, 1) := by decide +kernel
theorem dX3_area2_39 : decode cX3_area2 39 = .ok (.laload, 1) := by decide +kernel
theorem dX3_area2_40 : decode cX3_area2 40 = .ok (.aload_n 0, 1) := by decide +kernel
theorem dX3_area2_41 : decode cX3_area2 41 = .ok (.getfield 26, 3) := by decide +kernel
theorem dX3_area2_44 : decode cX3_area2 44 = .ok (.iload_n 3, 1) := by decide +kernel
theorem dX3_area2_45 : decode cX3_area2 45 = .ok (.laload, 1) := by decide +kernel
theorem dX3_area2_46 : decode cX3_area2 46 = .ok (.aload_n 0, 1) := by decide +kernel
theorem dX3_area2_47 : decode cX3_area2 47 = .ok (.getfield 29, 3) := by decide +kernel
theorem dX3_area2_50 : decode cX3_area2 50 = .ok (.iload_n 3, 1) := by decide +kernel
theorem dX3_area2_51 : decode cX3_area2 51 = .ok (.laload, 1) := by decide +kernel
theorem dX3_area2_52 : decode cX3_area2 52 = .ok (.invokevirtual 124, 3) := by decide +kernel
theorem dX3_area2_55 : decode cX3_area2 55 = .ok (.iinc 2 1, 3) := by decide +kernel
theorem dX3_area2_58 : decode cX3_area2 58 = .ok (.goto (-48), 3) := by decide +kernel
theorem dX3_area2_61 : decode cX3_area2 61 = .ok (.aload_n 0, 1) := by decide +kernel
theorem dX3_area2_62 : decode cX3_area2 62 = .ok (.getfield 52, 3) := by decide +kernel
theorem dX3_area2_65 : decode cX3_area2 65 = .ok (.iload_n 1, 1) := by decide +kernel
theorem dX3_area2_66 : decode cX3_area2 66 = .ok (.invokestatic 112, 3) := by decide +kernel
theorem dX3_area2_69 : decode cX3_area2 69 = .ok (.lreturn, 1) := by decide +kernel
theorem dX3_inside_0 : decode cX3_inside 0 = .ok (.aload_n 0, 1) := by decide +kernel
theorem dX3_inside_1 : decode cX3_inside 1 = .ok (.getfield 62, 3) := by decide +kernel
theorem dX3_inside_4 : decode cX3_inside 4 = .ok (.iconst 3, 1) := by decide +kernel
theorem dX3_inside_5 : decode cX3_inside 5 = .ok (.if_icmp .lt 11, 3) := by decide +kernel
theorem dX3_inside_8 : decode cX3_inside 8 = .ok (.lload_n 1, 1) := by decide +kernel
theorem dX3_inside_9 : decode cX3_inside 9 = .ok (.lload_n 3, 1) := by decide +kernel
theorem dX3_inside_10 : decode cX3_inside 10 = .ok (.invokestatic 70, 3) := by decide +kernel
theorem dX3_inside_13 : decode cX3_inside 13 = .ok (.ifCond .ne 6, 3) := by decide +kernel
theorem dX3_inside_16 : decode cX3_inside 16 = .ok (.bipush (-2), 2) := by decide +kernel
theorem dX3_inside_18 : decode cX3_inside 18 = .ok (.ireturn, 1) := by decide +kernel
theorem dX3_inside_19 : decode cX3_inside 19 = .ok (.iconst 0, 1) := by decide +kernel
theorem dX3_inside_20 : decode cX3_inside 20 = .ok (.istore 5, 2) := by decide +kernel
theorem dX3_inside_22 : decode cX3_inside 22 = .ok (.iconst 0, 1) := by decide +kernel
theorem dX3_inside_23 : decode cX3_inside 23 = .ok (.istore 6, 2) := by decide +kernel
theorem dX3_inside_25 : decode cX3_inside 25 = .ok (.iload 6, 2) := by decide +kernel
theorem dX3_inside_27 : decode cX3_inside 27 = .ok (.aload_n 0, 1) := by decide +kernel
theorem dX3_inside_28 : decode cX3_inside 28 = .ok (.getfield 62, 3) := by decide +kernel
theorem dX3_inside_31 : decode cX3_inside 31 = .ok (.if_icmp .ge 137, 3) := by decide +kernel
theorem dX3_inside_34 : decode cX3_inside 34 = .ok (.aload_n 0, 1) := by decide +kernel
theorem dX3_inside_35 : decode cX3_inside 35 = .ok (.iload 6, 2) := by decide +kernel
theorem dX3_inside_37 : decode cX3_inside 37 = .ok (.invokevirtual 120, 3) := by decide +kernel
theorem dX3_inside_40 : decode cX3_inside 40 = .ok (.istore 7, 2) := by decide +kernel
theorem dX3_inside_42 : decode cX3_inside 42 = .ok (.aload_n 0, 1) := by decide +kernel
theorem dX3_inside_43 : decode cX3_inside 43 = .ok (.aload_n 0, 1) := by decide +kernel
theorem dX3_inside_44 : decode cX3_inside 44 = .ok (.getfield 26, 3) := by decide +kernel
theorem dX3_inside_47 : decode cX3_inside 47 = .ok (.iload 6, 2) := by decide +kernel
theorem dX3_inside_49 : decode cX3_inside 49 = .ok (.laload, 1) := by decide +kernel
theorem dX3_inside_50 : decode cX3_inside 50 = .ok (.aload_n 0, 1) := by decide +kernel
theorem dX3_inside_51 : decode cX3_inside 51 = .ok (.getfield 29, 3) := by decide +kernel
theorem dX3_inside_54 : decode cX3_inside 54 = .ok (.iload 6, 2) := by decide +kernel
theorem dX3_inside_56 : decode cX3_inside 56 = .ok (.laload, 1) := by decide +kernel
theorem dX3_inside_57 : decode cX3_inside 57 = .ok (.aload_n 0, 1) := by decide +kernel
theorem dX3_inside_58 : decode cX3_inside 58 = .ok (.getfield 26, 3) := by decide +kernel
theorem dX3_inside_61 : decode cX3_inside 61 = .ok (.iload 7, 2) := by decide +kernel
theorem dX3_inside_63 : decode cX3_inside 63 = .ok (.laload, 1) := by decide +kernel
theorem dX3_inside_64 : decode cX3_inside 64 = .ok (.aload_n 0, 1) := by decide +kernel
theorem dX3_inside_65 : decode cX3_inside 65 = .ok (.getfield 29, 3) := by decide +kernel
theorem dX3_inside_68 : decode cX3_inside 68 = .ok (.iload 7, 2) := by decide +kernel
theorem dX3_inside_70 : decode cX3_inside 70 = .ok (.laload, 1) := by decide +kernel
theorem dX3_inside_71 : decode cX3_inside 71 = .ok (.lload_n 1, 1) := by decide +kernel
theorem dX3_inside_72 : decode cX3_inside 72 = .ok (.lload_n 3, 1) := by decide +kernel
theorem dX3_inside_73 : decode cX3_inside 73 = .ok (.invokevirtual 74, 3) := by decide +kernel
theorem dX3_inside_76 : decode cX3_inside 76 = .ok (.istore 8, 2) := by decide +kernel
theorem dX3_inside_78 : decode cX3_inside 78 = .ok (.iload 8, 2) := by decide +kernel
theorem dX3_inside_80 : decode cX3_inside 80 = .ok (.ifCond .ne 47, 3) := by decide +kernel
theorem dX3_inside_83 : decode cX3_inside 83 = .ok (.aload_n 0, 1) := by decide +kernel
theorem dX3_inside_84 : decode cX3_inside 84 = .ok (.getfield 26, 3) := by decide +kernel
theorem dX3_inside_87 : decode cX3_inside 87 = .ok (.iload 6, 2) := by decide +kernel
theorem dX3_inside_89 : decode cX3_inside 89 = .ok (.laload, 1) := by decide +kernel
theorem dX3_inside_90 : decode cX3_inside 90 = .ok (.lload_n 1, 1) := by decide +kernel
theorem dX3_inside_91 : decode cX3_inside 91 = .ok (.aload_n 0, 1) := by decide +kernel
theorem dX3_inside_92 : decode cX3_inside 92 = .ok (.getfield 26, 3) := by decide +kernel
theorem dX3_inside_95 : decode cX3_inside 95 = .ok (.iload 7, 2) := by decide +kernel
theorem dX3_inside_97 : decode cX3_inside 97 = .ok (.laload, 1) := by decide +kernel
theorem dX3_inside_98 : decode cX3_inside 98 = .ok (.invokestatic 127, 3) := by decide +kernel
theorem dX3_inside_101 : decode cX3_inside 101 = .ok (.ifCond .eq 26, 3) := by decide +kernel
theorem dX3_inside_104 : decode cX3_inside 104 = .ok (.aload_n 0, 1) := by decide +kernel
theorem dX3_inside_105 : decode cX3_inside 105 = .ok (.getfield 29, 3) := by decide +kernel
theorem dX3_inside_108 : decode cX3_inside 108 = .ok (.iload 6, 2) := by decide +kernel
theorem dX3_inside_110 : decode cX3_inside 110 = .ok (.laload, 1) := by decide +kernel
theorem dX3_inside_111 : decode cX3_inside 111 = .ok (.lload_n 3, 1) := by decide +kernel
theorem dX3_inside_112 : decode cX3_inside 112 = .ok (.aload_n 0, 1) := by decide +kernel
theorem dX3_inside_113 : decode cX3_inside 113 = .ok (.getfield 29, 3) := by decide +kernel
theorem dX3_inside_116 : decode cX3_inside 116 = .ok (.iload 7, 2) := by decide +kernel
theorem dX3_inside_118 : decode cX3_inside 118 = .ok (.laload, 1) := by decide +kernel
theorem dX3_inside_119 : decode cX3_inside 119 = .ok (.invokestatic 127, 3) := by decide +kernel
theorem dX3_inside_122 : decode cX3_inside 122 = .ok (.ifCond .eq 5, 3) := by decide +kernel
theorem dX3_inside_125 : decode cX3_inside 125 = .ok (.iconst 0, 1) := by decide +kernel
theorem dX3_inside_126 : decode cX3_inside 126 = .ok (.ireturn, 1) := by decide +kernel
theorem dX3_inside_127 : decode cX3_inside 127 = .ok (.aload_n 0, 1) := by decide +kernel
theorem dX3_inside_128 : decode cX3_inside 128 = .ok (.getfield 29, 3) := by decide +kernel
theorem dX3_inside_131 : decode cX3_inside 131 = .ok (.iload 6, 2) := by decide +kernel
theorem dX3_inside_133 : decode cX3_inside 133 = .ok (.laload, 1) := by decide +kernel
theorem dX3_inside_134 : decode cX3_inside 134 = .ok (.aload_n 0, 1) := by decide +kernel
theorem dX3_inside_135 : decode cX3_inside 135 = .ok (.getfield 29, 3) := by decide +kernel
theorem dX3_inside_138 : decode cX3_inside 138 = .ok (.iload 7, 2) := by decide +kernel
theorem dX3_inside_140 : decode cX3_inside 140 = .ok (.laload, 1) := by decide +kernel
theorem dX3_inside_141 : decode cX3_inside 141 = .ok (.lload_n 3, 1) := by decide +kernel
theorem dX3_inside_142 : decode cX3_inside 142 = .ok (.iload 8, 2) := by decide +kernel
theorem dX3_inside_144 : decode cX3_inside 144 = .ok (.invokestatic 131, 3) := by decide +kernel
theorem dX3_inside_147 : decode cX3_inside 147 = .ok (.ifCond .eq 15, 3) := by decide +kernel
theorem dX3_inside_150 : decode cX3_inside 150 = .ok (.iload 5, 2) := by decide +kernel
theorem dX3_inside_152 : decode cX3_inside 152 = .ok (.ifCond .ne 7, 3) := by decide +kernel
theorem dX3_inside_155 : decode cX3_inside 155 = .ok (.iconst 1, 1) := by decide +kernel
theorem dX3_inside_156 : decode cX3_inside 156 = .ok (.goto 4, 3) := by decide +kernel
theorem dX3_inside_159 : decode cX3_inside 159 = .ok (.iconst 0, 1) := by decide +kernel
theorem dX3_inside_160 : decode cX3_inside 160 = .ok (.istore 5, 2) := by decide +kernel
theorem dX3_inside_162 : decode cX3_inside 162 = .ok (.iinc 6 1, 3) := by decide +kernel
theorem dX3_inside_165 : decode cX3_inside 165 = .ok (.goto (-140), 3) := by decide +kernel
theorem dX3_inside_168 : decode cX3_inside 168 = .ok (.iload 5, 2) := by decide +kernel
theorem dX3_inside_170 : decode cX3_inside 170 = .ok (.ifCond .eq 7, 3) := by decide +kernel
theorem dX3_inside_173 : decode cX3_inside 173 = .ok (.iconst 1, 1) := by decide +kernel
theorem dX3_inside_174 : decode cX3_inside 174 = .ok (.goto 4, 3) := by decide +kernel
theorem dX3_inside_177 : decode cX3_inside 177 = .ok (.iconst (-1), 1) := by decide +kernel
theorem dX3_inside_178 : decode cX3_inside 178 = .ok (.ireturn, 1) := by decide +kernel
theorem dX3_over_0 : decode cX3_over 0 = .ok (.aload_n 0, 1) := by decide +kernel
theorem dX3_over_1 : decode cX3_over 1 = .ok (.lload_n 1, 1) := by decide +kernel
theorem dX3_over_2 : decode cX3_over 2 = .ok (.lconst 1, 1) := by decide +kernel
theorem dX3_over_3 : decode cX3_over 3 = .ok (.lload_n 3, 1) := by decide +kernel
theorem dX3_over_4 : decode cX3_over 4 = .ok (.iload 5, 2) := by decide +kernel
theorem dX3_over_6 : decode cX3_over 6 = .ok (.invokevirtual 135, 3) := by decide +kernel
theorem dX3_over_9 : decode cX3_over 9 = .ok (.lreturn, 1) := by decide +kernel
theorem dX3_product_0 : decode cX3_product 0 = .ok (.aload_n 0, 1) := by decide +kernel
theorem dX3_product_1 : decode cX3_product 1 = .ok (.getfield 52, 3) := by decide +kernel
theorem dX3_product_4 : decode cX3_product 4 = .ok (.lconst 0, 1) := by decide +kernel
theorem dX3_product_5 : decode cX3_product 5 = .ok (.invokevirtual 116, 3) := by decide +kernel
theorem dX3_product_8 : decode cX3_product 8 = .ok (.aload_n 0, 1) := by decide +kernel
theorem dX3_product_9 : decode cX3_product 9 = .ok (.getfield 52, 3) := by decide +kernel
theorem dX3_product_12 : decode cX3_product 12 = .ok (.lload_n 1, 1) := by decide +kernel
theorem dX3_product_13 : decode cX3_product 13 = .ok (.lload_n 3, 1) := by decide +kernel
theorem dX3_product_14 : decode cX3_product 14 = .ok (.invokevirtual 139, 3) := by decide +kernel
theorem dX3_product_17 : decode cX3_product 17 = .ok (.aload_n 0, 1) := by decide +kernel
theorem dX3_product_18 : decode cX3_product 18 = .ok (.getfield 52, 3) := by decide +kernel
theorem dX3_product_21 : decode cX3_product 21 = .ok (.iload 5, 2) := by decide +kernel
theorem dX3_product_23 : decode cX3_product 23 = .ok (.invokestatic 112, 3) := by decide +kernel
theorem dX3_product_26 : decode cX3_product 26 = .ok (.lreturn, 1) := by decide +kernel
theorem dX3_ratio_0 : decode cX3_ratio 0 = .ok (.aload_n 0, 1) := by decide +kernel
theorem dX3_ratio_1 : decode cX3_ratio 1 = .ok (.lload_n 1, 1) := by decide +kernel
theorem dX3_ratio_2 : decode cX3_ratio 2 = .ok (.lload_n 3, 1) := by decide +kernel
theorem dX3_ratio_3 : decode cX3_ratio 3 = .ok (.lload 5, 2) := by decide +kernel
theorem dX3_ratio_5 : decode cX3_ratio 5 = .ok (.iload 7, 2) := by decide +kernel
theorem dX3_ratio_7 : decode cX3_ratio 7 = .ok (.invokevirtual 135, 3) := by decide +kernel
theorem dX3_ratio_10 : decode cX3_ratio 10 = .ok (.lreturn, 1) := by decide +kernel
theorem dX3_share_0 : decode cX3_share 0 = .ok (.iload 4, 2) := by decide +kernel
theorem dX3_share_2 : decode cX3_share 2 = .ok (.iconst 1, 1) := by decide +kernel
theorem dX3_share_3 : decode cX3_share 3 = .ok (.if_icmp .lt 10, 3) := by decide +kernel
theorem dX3_share_6 : decode cX3_share 6 = .ok (.iload 4, 2) := by decide +kernel
theorem dX3_share_8 : decode cX3_share 8 = .ok (.ldc 143, 2) := by decide +kernel
theorem dX3_share_10 : decode cX3_share 10 = .ok (.if_icmp .le 7, 3) := by decide +kernel
theorem dX3_share_13 : decode cX3_share 13 = .ok (.ldc2_w 100, 3) := by decide +kernel
theorem dX3_share_16 : decode cX3_share 16 = .ok (.lreturn, 1) := by decide +kernel
theorem dX3_share_17 : decode cX3_share 17 = .ok (.iload_n 3, 1) := by decide +kernel
theorem dX3_share_18 : decode cX3_share 18 = .ok (.ifCond .lt 9, 3) := by decide +kernel
theorem dX3_share_21 : decode cX3_share 21 = .ok (.iload_n 3, 1) := by decide +kernel
theorem dX3_share_22 : decode cX3_share 22 = .ok (.iload 4, 2) := by decide +kernel
theorem dX3_share_24 : decode cX3_share 24 = .ok (.if_icmp .lt 13, 3) := by decide +kernel
theorem dX3_share_27 : decode cX3_share 27 = .ok (.new 144, 3) := by decide +kernel
theorem dX3_share_30 : decode cX3_share 30 = .ok (.dup, 1) := by decide +kernel
theorem dX3_share_31 : decode cX3_share 31 = .ok (.ldc 146, 2) := by decide +kernel
theorem dX3_share_33 : decode cX3_share 33 = .ok (.invokespecial 148, 3) := by decide +kernel
theorem dX3_share_36 : decode cX3_share 36 = .ok (.athrow, 1) := by decide +kernel
theorem dX3_share_37 : decode cX3_share 37 = .ok (.iload 4, 2) := by decide +kernel
theorem dX3_share_39 : decode cX3_share 39 = .ok (.i2l, 1) := by decide +kernel
theorem dX3_share_40 : decode cX3_share 40 = .ok (.lstore 5, 2) := by decide +kernel
theorem dX3_share_42 : decode cX3_share 42 = .ok (.lload_n 1, 1) := by decide +kernel
theorem dX3_share_43 : decode cX3_share 43 = .ok (.lload 5, 2) := by decide +kernel
theorem dX3_share_45 : decode cX3_share 45 = .ok (.invokestatic 151, 3) := by decide +kernel
theorem dX3_share_48 : decode cX3_share 48 = .ok (.lstore 7, 2) := by decide +kernel
theorem dX3_share_50 : decode cX3_share 50 = .ok (.iload_n 3, 1) := by decide +kernel
theorem dX3_share_51 : decode cX3_share 51 = .ok (.i2l, 1) := by decide +kernel
theorem dX3_share_52 : decode cX3_share 52 = .ok (.lload_n 1, 1) := by decide +kernel
theorem dX3_share_53 : decode cX3_share 53 = .ok (.lload 5, 2) := by decide +kernel
theorem dX3_share_55 : decode cX3_share 55 = .ok (.invokestatic 157, 3) := by decide +kernel
theorem dX3_share_58 : decode cX3_share 58 = .ok (.lcmp, 1) := by decide +kernel
theorem dX3_share_59 : decode cX3_share 59 = .ok (.ifCond .ge 10, 3) := by decide +kernel
theorem dX3_share_62 : decode cX3_share 62 = .ok (.lload 7, 2) := by decide +kernel
theorem dX3_share_64 : decode cX3_share 64 = .ok (.lconst 1, 1) := by decide +kernel
theorem dX3_share_65 : decode cX3_share 65 = .ok (.ladd, 1) := by decide +kernel
theorem dX3_share_66 : decode cX3_share 66 = .ok (.goto 5, 3) := by decide +kernel
theorem dX3_share_69 : decode cX3_share 69 = .ok (.lload 7, 2) := by decide +kernel
theorem dX3_share_71 : decode cX3_share 71 = .ok (.lreturn, 1) := by decide +kernel
theorem dX3_digit_0 : decode cX3_digit 0 = .ok (.iload_n 3, 1) := by decide +kernel
theorem dX3_digit_1 : decode cX3_digit 1 = .ok (.iconst 2, 1) := by decide +kernel
theorem dX3_digit_2 : decode cX3_digit 2 = .ok (.if_icmp .lt 9, 3) := by decide +kernel
theorem dX3_digit_5 : decode cX3_digit 5 = .ok (.iload_n 3, 1) := by decide +kernel
theorem dX3_digit_6 : decode cX3_digit 6 = .ok (.bipush 36, 2) := by decide +kernel
theorem dX3_digit_8 : decode cX3_digit 8 = .ok (.if_icmp .le 5, 3) := by decide +kernel
theorem dX3_digit_11 : decode cX3_digit 11 = .ok (.iconst (-1), 1) := by decide +kernel
theorem dX3_digit_12 : decode cX3_digit 12 = .ok (.ireturn, 1) := by decide +kernel
theorem dX3_digit_13 : decode cX3_digit 13 = .ok (.lload_n 1, 1) := by decide +kernel
theorem dX3_digit_14 : decode cX3_digit 14 = .ok (.lconst 0, 1) := by decide +kernel
theorem dX3_digit_15 : decode cX3_digit 15 = .ok (.lcmp, 1) := by decide +kernel
theorem dX3_digit_16 : decode cX3_digit 16 = .ok (.ifCond .ge 7, 3) := by decide +kernel
theorem dX3_digit_19 : decode cX3_digit 19 = .ok (.lload_n 1, 1) := by decide +kernel
theorem dX3_digit_20 : decode cX3_digit 20 = .ok (.goto 5, 3) := by decide +kernel
theorem dX3_digit_23 : decode cX3_digit 23 = .ok (.lload_n 1, 1) := by decide +kernel
theorem dX3_digit_24 : decode cX3_digit 24 = .ok (.lneg, 1) := by decide +kernel
theorem dX3_digit_25 : decode cX3_digit 25 = .ok (.lstore 5, 2) := by decide +kernel
theorem dX3_digit_27 : decode cX3_digit 27 = .ok (.iconst 0, 1) := by decide +kernel
theorem dX3_digit_28 : decode cX3_digit 28 = .ok (.istore 7, 2) := by decide +kernel
theorem dX3_digit_30 : decode cX3_digit 30 = .ok (.iload 7, 2) := by decide +kernel
theorem dX3_digit_32 : decode cX3_digit 32 = .ok (.iload 4, 2) := by decide +kernel
theorem dX3_digit_34 : decode cX3_digit 34 = .ok (.if_icmp .ge 23, 3) := by decide +kernel
theorem dX3_digit_37 : decode cX3_digit 37 = .ok (.iload 7, 2) := by decide +kernel
theorem dX3_digit_39 : decode cX3_digit 39 = .ok (.bipush 64, 2) := by decide +kernel
theorem dX3_digit_41 : decode cX3_digit 41 = .ok (.if_icmp .ge 16, 3) := by decide +kernel
theorem dX3_digit_44 : decode cX3_digit 44 = .ok (.lload 5, 2) := by decide +kernel
theorem dX3_digit_46 : decode cX3_digit 46 = .ok (.iload_n 3, 1) := by decide +kernel
theorem dX3_digit_47 : decode cX3_digit 47 = .ok (.i2l, 1) := by decide +kernel
theorem dX3_digit_48 : decode cX3_digit 48 = .ok (.ldiv, 1) := by decide +kernel
theorem dX3_digit_49 : decode cX3_digit 49 = .ok (.lstore 5, 2) := by decide +kernel
theorem dX3_digit_51 : decode cX3_digit 51 = .ok (.iinc 7 1, 3) := by decide +kernel
theorem dX3_digit_54 : decode cX3_digit 54 = .ok (.goto (-24), 3) := by decide +kernel
theorem dX3_digit_57 : decode cX3_digit 57 = .ok (.iload 4, 2) := by decide +kernel
theorem dX3_digit_59 : decode cX3_digit 59 = .ok (.ifCond .lt 22, 3) := by decide +kernel
theorem dX3_digit_62 : decode cX3_digit 62 = .ok (.iload 4, 2) := by decide +kernel
theorem dX3_digit_64 : decode cX3_digit 64 = .ok (.bipush 64, 2) := by decide +kernel
theorem dX3_digit_66 : decode cX3_digit 66 = .ok (.if_icmp .ge 15, 3) := by decide +kernel
theorem dX3_digit_69 : decode cX3_digit 69 = .ok (.iload 4, 2) := by decide +kernel
theorem dX3_digit_71 : decode cX3_digit 71 = .ok (.ifCond .le 20, 3) := by decide +kernel
theorem dX3_digit_74 : decode cX3_digit 74 = .ok (.lload 5, 2) := by decide +kernel
theorem dX3_digit_76 : decode cX3_digit 76 = .ok (.lconst 0, 1) := by decide +kernel
theorem dX3_digit_77 : decode cX3_digit 77 = .ok (.lcmp, 1) := by decide +kernel
theorem dX3_digit_78 : decode cX3_digit 78 = .ok (.ifCond .ne 13, 3) := by decide +kernel
theorem dX3_digit_81 : decode cX3_digit 81 = .ok (.new 144, 3) := by decide +kernel
theorem dX3_digit_84 : decode cX3_digit 84 = .ok (.dup, 1) := by decide +kernel
theorem dX3_digit_85 : decode cX3_digit 85 = .ok (.ldc 160, 2) := by decide +kernel
theorem dX3_digit_87 : decode cX3_digit 87 = .ok (.invokespecial 148, 3) := by decide +kernel
theorem dX3_digit_90 : decode cX3_digit 90 = .ok (.athrow, 1) := by decide +kernel
theorem dX3_digit_91 : decode cX3_digit 91 = .ok (.lload 5, 2) := by decide +kernel
theorem dX3_digit_93 : decode cX3_digit 93 = .ok (.iload_n 3, 1) := by decide +kernel
theorem dX3_digit_94 : decode cX3_digit 94 = .ok (.i2l, 1) := by decide +kernel
theorem dX3_digit_95 : decode cX3_digit 95 = .ok (.lrem, 1) := by decide +kernel
theorem dX3_digit_96 : decode cX3_digit 96 = .ok (.lneg, 1) := by decide +kernel
theorem dX3_digit_97 : decode cX3_digit 97 = .ok (.l2i, 1) := by decide +kernel
theorem dX3_digit_98 : decode cX3_digit 98 = .ok (.ireturn, 1) := by decide +kernel
theorem dX3_clear_0 : decode cX3_clear 0 = .ok (.iconst 0, 1) := by decide +kernel
theorem dX3_clear_1 : decode cX3_clear 1 = .ok (.istore_n 1, 1) := by decide +kernel
theorem dX3_clear_2 : decode cX3_clear 2 = .ok (.iload_n 1, 1) := by decide +kernel
theorem dX3_clear_3 : decode cX3_clear 3 = .ok (.bipush 16, 2) := by decide +kernel
theorem dX3_clear_5 : decode cX3_clear 5 = .ok (.if_icmp .ge 16, 3) := by decide +kernel
theorem dX3_clear_8 : decode cX3_clear 8 = .ok (.aload_n 0, 1) := by decide +kernel
theorem dX3_clear_9 : decode cX3_clear 9 = .ok (.getfield 9, 3) := by decide +kernel
theorem dX3_clear_12 : decode cX3_clear 12 = .ok (.iload_n 1, 1) := by decide +kernel
theorem dX3_clear_13 : decode cX3_clear 13 = .ok (.iconst 0, 1) := by decide +kernel
theorem dX3_clear_14 : decode cX3_clear 14 = .ok (.bastore, 1) := by decide +kernel
theorem dX3_clear_15 : decode cX3_clear 15 = .ok (.iinc 1 1, 3) := by decide +kernel
theorem dX3_clear_18 : decode cX3_clear 18 = .ok (.goto (-16), 3) := by decide +kernel
theorem dX3_clear_21 : decode cX3_clear 21 = .ok (.aload_n 0, 1) := by decide +kernel
theorem dX3_clear_22 : decode cX3_clear 22 = .ok (.iconst 0, 1) := by decide +kernel
theorem dX3_clear_23 : decode cX3_clear 23 = .ok (.putfield 62, 3) := by decide +kernel
theorem dX3_clear_26 : decode cX3_clear 26 = .ok (.aload_n 0, 1) := by decide +kernel
theorem dX3_clear_27 : decode cX3_clear 27 = .ok (.iconst 0, 1) := by decide +kernel
theorem dX3_clear_28 : decode cX3_clear 28 = .ok (.putfield 66, 3) := by decide +kernel
theorem dX3_clear_31 : decode cX3_clear 31 = .ok (.return_, 1) := by decide +kernel
theorem dX3_count_0 : decode cX3_count 0 = .ok (.iload_n 1, 1) := by decide +kernel
theorem dX3_count_1 : decode cX3_count 1 = .ok (.tableswitch 50 0 2 #[27, 32, 37], 27) := by decide +kernel
theorem dX3_count_28 : decode cX3_count 28 = .ok (.aload_n 0, 1) := by decide +kernel
theorem dX3_count_29 : decode cX3_count 29 = .ok (.invokevirtual 162, 3) := by decide +kernel
theorem dX3_count_32 : decode cX3_count 32 = .ok (.ireturn, 1) := by decide +kernel
theorem dX3_count_33 : decode cX3_count 33 = .ok (.aload_n 0, 1) := by decide +kernel
theorem dX3_count_34 : decode cX3_count 34 = .ok (.getfield 62, 3) := by decide +kernel
theorem dX3_count_37 : decode cX3_count 37 = .ok (.ireturn, 1) := by decide +kernel
theorem dX3_count_38 : decode cX3_count 38 = .ok (.aload_n 0, 1) := by decide +kernel
theorem dX3_count_39 : decode cX3_count 39 = .ok (.getfield 66, 3) := by decide +kernel
theorem dX3_count_42 : decode cX3_count 42 = .ok (.ifCond .eq 7, 3) := by decide +kernel
theorem dX3_count_45 : decode cX3_count 45 = .ok (.iconst 1, 1) := by decide +kernel
theorem dX3_count_46 : decode cX3_count 46 = .ok (.goto 4, 3) := by decide +kernel
theorem dX3_count_49 : decode cX3_count 49 = .ok (.iconst 0, 1) := by decide +kernel
theorem dX3_count_50 : decode cX3_count 50 = .ok (.ireturn, 1) := by decide +kernel
theorem dX3_count_51 : decode cX3_count 51 = .ok (.iconst (-1), 1) := by decide +kernel
theorem dX3_count_52 : decode cX3_count 52 = .ok (.ireturn, 1) := by decide +kernel
theorem dX3_isOnGrid_0 : decode cX3_isOnGrid 0 = .ok (.lload_n 0, 1) := by decide +kernel
theorem dX3_isOnGrid_1 : decode cX3_isOnGrid 1 = .ok (.ldc2_w 165, 3) := by decide +kernel
theorem dX3_isOnGrid_4 : decode cX3_isOnGrid 4 = .ok (.lcmp, 1) := by decide +kernel
theorem dX3_isOnGrid_5 : decode cX3_isOnGrid 5 = .ok (.ifCond .lt 31, 3) := by decide +kernel
theorem dX3_isOnGrid_8 : decode cX3_isOnGrid 8 = .ok (.lload_n 0, 1) := by decide +kernel
theorem dX3_isOnGrid_9 : decode cX3_isOnGrid 9 = .ok (.ldc2_w 167, 3) := by decide +kernel
theorem dX3_isOnGrid_12 : decode cX3_isOnGrid 12 = .ok (.lcmp, 1) := by decide +kernel
theorem dX3_isOnGrid_13 : decode cX3_isOnGrid 13 = .ok (.ifCond .gt 23, 3) := by decide +kernel
theorem dX3_isOnGrid_16 : decode cX3_isOnGrid 16 = .ok (.lload_n 2, 1) := by decide +kernel
theorem dX3_isOnGrid_17 : decode cX3_isOnGrid 17 = .ok (.ldc2_w 165, 3) := by decide +kernel
theorem dX3_isOnGrid_20 : decode cX3_isOnGrid 20 = .ok (.lcmp, 1) := by decide +kernel
theorem dX3_isOnGrid_21 : decode cX3_isOnGrid 21 = .ok (.ifCond .lt 15, 3) := by decide +kernel
theorem dX3_isOnGrid_24 : decode cX3_isOnGrid 24 = .ok (.lload_n 2, 1) := by decide +kernel
theorem dX3_isOnGrid_25 : decode cX3_isOnGrid 25 = .ok (.ldc2_w 167, 3) := by decide +kernel
theorem dX3_isOnGrid_28 : decode cX3_isOnGrid 28 = .ok (.lcmp, 1) := by decide +kernel
theorem dX3_isOnGrid_29 : decode cX3_isOnGrid 29 = .ok (.ifCond .gt 7, 3) := by decide +kernel
theorem dX3_isOnGrid_32 : decode cX3_isOnGrid 32 = .ok (.iconst 1, 1) := by decide +kernel
theorem dX3_isOnGrid_33 : decode cX3_isOnGrid 33 = .ok (.goto 4, 3) := by decide +kernel
theorem dX3_isOnGrid_36 : decode cX3_isOnGrid 36 = .ok (.iconst 0, 1) := by decide +kernel
theorem dX3_isOnGrid_37 : decode cX3_isOnGrid 37 = .ok (.ireturn, 1) := by decide +kernel
theorem dX3_isBetween_0 : decode cX3_isBetween 0 = .ok (.lload_n 0, 1) := by decide +kernel
theorem dX3_isBetween_1 : decode cX3_isBetween 1 = .ok (.lload 4, 2) := by decide +kernel
theorem dX3_isBetween_3 : decode cX3_isBetween 3 = .ok (.invokestatic 169, 3) := by decide +kernel
theorem dX3_isBetween_6 : decode cX3_isBetween 6 = .ok (.lload_n 2, 1) := by decide +kernel
theorem dX3_isBetween_7 : decode cX3_isBetween 7 = .ok (.lcmp, 1) := by decide +kernel
theorem dX3_isBetween_8 : decode cX3_isBetween 8 = .ok (.ifCond .gt 18, 3) := by decide +kernel
theorem dX3_isBetween_11 : decode cX3_isBetween 11 = .ok (.lload_n 2, 1) := by decide +kernel
theorem dX3_isBetween_12 : decode cX3_isBetween 12 = .ok (.lload_n 0, 1) := by decide +kernel
theorem dX3_isBetween_13 : decode cX3_isBetween 13 = .ok (.lload 4, 2) := by decide +kernel
theorem dX3_isBetween_15 : decode cX3_isBetween 15 = .ok (.invokestatic 172, 3) := by decide +kernel
theorem dX3_isBetween_18 : decode cX3_isBetween 18 = .ok (.lcmp, 1) := by decide +kernel
theorem dX3_isBetween_19 : decode cX3_isBetween 19 = .ok (.ifCond .gt 7, 3) := by decide +kernel
theorem dX3_isBetween_22 : decode cX3_isBetween 22 = .ok (.iconst 1, 1) := by decide +kernel
theorem dX3_isBetween_23 : decode cX3_isBetween 23 = .ok (.goto 4, 3) := by decide +kernel
theorem dX3_isBetween_26 : decode cX3_isBetween 26 = .ok (.iconst 0, 1) := by decide +kernel
theorem dX3_isBetween_27 : decode cX3_isBetween 27 = .ok (.ireturn, 1) := by decide +kernel
theorem dX3_isTold_0 : decode cX3_isTold 0 = .ok (.iload_n 1, 1) := by decide +kernel
theorem dX3_isTold_1 : decode cX3_isTold 1 = .ok (.ifCond .lt 22, 3) := by decide +kernel
theorem dX3_isTold_4 : decode cX3_isTold 4 = .ok (.iload_n 1, 1) := by decide +kernel
theorem dX3_isTold_5 : decode cX3_isTold 5 = .ok (.bipush 16, 2) := by decide +kernel
theorem dX3_isTold_7 : decode cX3_isTold 7 = .ok (.if_icmp .ge 16, 3) := by decide +kernel
theorem dX3_isTold_10 : decode cX3_isTold 10 = .ok (.aload_n 0, 1) := by decide +kernel
theorem dX3_isTold_11 : decode cX3_isTold 11 = .ok (.getfield 9, 3) := by decide +kernel
theorem dX3_isTold_14 : decode cX3_isTold 14 = .ok (.iload_n 1, 1) := by decide +kernel
theorem dX3_isTold_15 : decode cX3_isTold 15 = .ok (.baload, 1) := by decide +kernel
theorem dX3_isTold_16 : decode cX3_isTold 16 = .ok (.ifCond .eq 7, 3) := by decide +kernel
theorem dX3_isTold_19 : decode cX3_isTold 19 = .ok (.iconst 1, 1) := by decide +kernel
theorem dX3_isTold_20 : decode cX3_isTold 20 = .ok (.goto 4, 3) := by decide +kernel
theorem dX3_isTold_23 : decode cX3_isTold 23 = .ok (.iconst 0, 1) := by decide +kernel
theorem dX3_isTold_24 : decode cX3_isTold 24 = .ok (.ireturn, 1) := by decide +kernel
theorem dX3_isAnswerable_0 : decode cX3_isAnswerable 0 = .ok (.aload_n 0, 1) := by decide +kernel
theorem dX3_isAnswerable_1 : decode cX3_isAnswerable 1 = .ok (.getfield 66, 3) := by decide +kernel
theorem dX3_isAnswerable_4 : decode cX3_isAnswerable 4 = .ok (.ifCond .eq 16, 3) := by decide +kernel
theorem dX3_isAnswerable_7 : decode cX3_isAnswerable 7 = .ok (.iload_n 1, 1) := by decide +kernel
theorem dX3_isAnswerable_8 : decode cX3_isAnswerable 8 = .ok (.ifCond .eq 8, 3) := by decide +kernel
theorem dX3_isAnswerable_11 : decode cX3_isAnswerable 11 = .ok (.iload_n 1, 1) := by decide +kernel
theorem dX3_isAnswerable_12 : decode cX3_isAnswerable 12 = .ok (.iconst 1, 1) := by decide +kernel
theorem dX3_isAnswerable_13 : decode cX3_isAnswerable 13 = .ok (.if_icmp .ne 7, 3) := by decide +kernel
theorem dX3_isAnswerable_16 : decode cX3_isAnswerable 16 = .ok (.iconst 1, 1) := by decide +kernel
theorem dX3_isAnswerable_17 : decode cX3_isAnswerable 17 = .ok (.goto 4, 3) := by decide +kernel
theorem dX3_isAnswerable_20 : decode cX3_isAnswerable 20 = .ok (.iconst 0, 1) := by decide +kernel
theorem dX3_isAnswerable_21 : decode cX3_isAnswerable 21 = .ok (.ireturn, 1) := by decide +kernel
theorem dX3_linesTold_0 : decode cX3_linesTold 0 = .ok (.iconst 0, 1) := by decide +kernel
theorem dX3_linesTold_1 : decode cX3_linesTold 1 = .ok (.istore_n 1, 1) := by decide +kernel
theorem dX3_linesTold_2 : decode cX3_linesTold 2 = .ok (.iconst 0, 1) := by decide +kernel
theorem dX3_linesTold_3 : decode cX3_linesTold 3 = .ok (.istore_n 2, 1) := by decide +kernel
theorem dX3_linesTold_4 : decode cX3_linesTold 4 = .ok (.iload_n 2, 1) := by decide +kernel
theorem dX3_linesTold_5 : decode cX3_linesTold 5 = .ok (.bipush 16, 2) := by decide +kernel
theorem dX3_linesTold_7 : decode cX3_linesTold 7 = .ok (.if_icmp .ge 21, 3) := by decide +kernel
theorem dX3_linesTold_10 : decode cX3_linesTold 10 = .ok (.aload_n 0, 1) := by decide +kernel
theorem dX3_linesTold_11 : decode cX3_linesTold 11 = .ok (.getfield 9, 3) := by decide +kernel
theorem dX3_linesTold_14 : decode cX3_linesTold 14 = .ok (.iload_n 2, 1) := by decide +kernel
theorem dX3_linesTold_15 : decode cX3_linesTold 15 = .ok (.baload, 1) := by decide +kernel
theorem dX3_linesTold_16 : decode cX3_linesTold 16 = .ok (.ifCond .eq 6, 3) := by decide +kernel
theorem dX3_linesTold_19 : decode cX3_linesTold 19 = .ok (.iinc 1 1, 3) := by decide +kernel
theorem dX3_linesTold_22 : decode cX3_linesTold 22 = .ok (.iinc 2 1, 3) := by decide +kernel
theorem dX3_linesTold_25 : decode cX3_linesTold 25 = .ok (.goto (-21), 3) := by decide +kernel
theorem dX3_linesTold_28 : decode cX3_linesTold 28 = .ok (.iload_n 1, 1) := by decide +kernel
theorem dX3_linesTold_29 : decode cX3_linesTold 29 = .ok (.ireturn, 1) := by decide +kernel
theorem dX3_cornerBehind_0 : decode cX3_cornerBehind 0 = .ok (.iload_n 1, 1) := by decide +kernel
theorem dX3_cornerBehind_1 : decode cX3_cornerBehind 1 = .ok (.iconst 1, 1) := by decide +kernel
theorem dX3_cornerBehind_2 : decode cX3_cornerBehind 2 = .ok (.iadd, 1) := by decide +kernel
theorem dX3_cornerBehind_3 : decode cX3_cornerBehind 3 = .ok (.aload_n 0, 1) := by decide +kernel
theorem dX3_cornerBehind_4 : decode cX3_cornerBehind 4 = .ok (.getfield 62, 3) := by decide +kernel
theorem dX3_cornerBehind_7 : decode cX3_cornerBehind 7 = .ok (.if_icmp .ge 9, 3) := by decide +kernel
theorem dX3_cornerBehind_10 : decode cX3_cornerBehind 10 = .ok (.iload_n 1, 1) := by decide +kernel
theorem dX3_cornerBehind_11 : decode cX3_cornerBehind 11 = .ok (.iconst 1, 1) := by decide +kernel
theorem dX3_cornerBehind_12 : decode cX3_cornerBehind 12 = .ok (.iadd, 1) := by decide +kernel
theorem dX3_cornerBehind_13 : decode cX3_cornerBehind 13 = .ok (.goto 4, 3) := by decide +kernel
theorem dX3_cornerBehind_16 : decode cX3_cornerBehind 16 = .ok (.iconst 0, 1) := by decide +kernel
theorem dX3_cornerBehind_17 : decode cX3_cornerBehind 17 = .ok (.ireturn, 1) := by decide +kernel
theorem dX3_sideOf_0 : decode cX3_sideOf 0 = .ok (.aload_n 0, 1) := by decide +kernel
theorem dX3_sideOf_1 : decode cX3_sideOf 1 = .ok (.getfield 52, 3) := by decide +kernel
theorem dX3_sideOf_4 : decode cX3_sideOf 4 = .ok (.lload 5, 2) := by decide +kernel
theorem dX3_sideOf_6 : decode cX3_sideOf 6 = .ok (.lload_n 1, 1) := by decide +kernel
theorem dX3_sideOf_7 : decode cX3_sideOf 7 = .ok (.lsub, 1) := by decide +kernel
theorem dX3_sideOf_8 : decode cX3_sideOf 8 = .ok (.lload 7, 2) := by decide +kernel
theorem dX3_sideOf_10 : decode cX3_sideOf 10 = .ok (.lload_n 3, 1) := by decide +kernel
theorem dX3_sideOf_11 : decode cX3_sideOf 11 = .ok (.lsub, 1) := by decide +kernel
theorem dX3_sideOf_12 : decode cX3_sideOf 12 = .ok (.lload 9, 2) := by decide +kernel
theorem dX3_sideOf_14 : decode cX3_sideOf 14 = .ok (.lload_n 1, 1) := by decide +kernel
theorem dX3_sideOf_15 : decode cX3_sideOf 15 = .ok (.lsub, 1) := by decide +kernel
theorem dX3_sideOf_16 : decode cX3_sideOf 16 = .ok (.lload 11, 2) := by decide +kernel
theorem dX3_sideOf_18 : decode cX3_sideOf 18 = .ok (.lload_n 3, 1) := by decide +kernel
theorem dX3_sideOf_19 : decode cX3_sideOf 19 = .ok (.lsub, 1) := by decide +kernel
theorem dX3_sideOf_20 : decode cX3_sideOf 20 = .ok (.invokevirtual 82, 3) := by decide +kernel
theorem dX3_sideOf_23 : decode cX3_sideOf 23 = .ok (.aload_n 0, 1) := by decide +kernel
theorem dX3_sideOf_24 : decode cX3_sideOf 24 = .ok (.getfield 52, 3) := by decide +kernel
theorem dX3_sideOf_27 : decode cX3_sideOf 27 = .ok (.invokevirtual 86, 3) := by decide +kernel
theorem dX3_sideOf_30 : decode cX3_sideOf 30 = .ok (.ireturn, 1) := by decide +kernel
theorem dX3_meetsRay_0 : decode cX3_meetsRay 0 = .ok (.lload_n 0, 1) := by decide +kernel
theorem dX3_meetsRay_1 : decode cX3_meetsRay 1 = .ok (.lload 4, 2) := by decide +kernel
theorem dX3_meetsRay_3 : decode cX3_meetsRay 3 = .ok (.lcmp, 1) := by decide +kernel
theorem dX3_meetsRay_4 : decode cX3_meetsRay 4 = .ok (.ifCond .gt 21, 3) := by decide +kernel
theorem dX3_meetsRay_7 : decode cX3_meetsRay 7 = .ok (.lload 4, 2) := by decide +kernel
theorem dX3_meetsRay_9 : decode cX3_meetsRay 9 = .ok (.lload_n 2, 1) := by decide +kernel
theorem dX3_meetsRay_10 : decode cX3_meetsRay 10 = .ok (.lcmp, 1) := by decide +kernel
theorem dX3_meetsRay_11 : decode cX3_meetsRay 11 = .ok (.ifCond .ge 14, 3) := by decide +kernel
theorem dX3_meetsRay_14 : decode cX3_meetsRay 14 = .ok (.iload 6, 2) := by decide +kernel
theorem dX3_meetsRay_16 : decode cX3_meetsRay 16 = .ok (.ifCond .le 7, 3) := by decide +kernel
theorem dX3_meetsRay_19 : decode cX3_meetsRay 19 = .ok (.iconst 1, 1) := by decide +kernel
theorem dX3_meetsRay_20 : decode cX3_meetsRay 20 = .ok (.goto 4, 3) := by decide +kernel
theorem dX3_meetsRay_23 : decode cX3_meetsRay 23 = .ok (.iconst 0, 1) := by decide +kernel
theorem dX3_meetsRay_24 : decode cX3_meetsRay 24 = .ok (.ireturn, 1) := by decide +kernel
theorem dX3_meetsRay_25 : decode cX3_meetsRay 25 = .ok (.lload_n 2, 1) := by decide +kernel
theorem dX3_meetsRay_26 : decode cX3_meetsRay 26 = .ok (.lload 4, 2) := by decide +kernel
theorem dX3_meetsRay_28 : decode cX3_meetsRay 28 = .ok (.lcmp, 1) := by decide +kernel
theorem dX3_meetsRay_29 : decode cX3_meetsRay 29 = .ok (.ifCond .gt 19, 3) := by decide +kernel
theorem dX3_meetsRay_32 : decode cX3_meetsRay 32 = .ok (.lload 4, 2) := by decide +kernel
theorem dX3_meetsRay_34 : decode cX3_meetsRay 34 = .ok (.lload_n 0, 1) := by decide +kernel
theorem dX3_meetsRay_35 : decode cX3_meetsRay 35 = .ok (.lcmp, 1) := by decide +kernel
theorem dX3_meetsRay_36 : decode cX3_meetsRay 36 = .ok (.ifCond .ge 12, 3) := by decide +kernel
theorem dX3_meetsRay_39 : decode cX3_meetsRay 39 = .ok (.iload 6, 2) := by decide +kernel
theorem dX3_meetsRay_41 : decode cX3_meetsRay 41 = .ok (.ifCond .ge 7, 3) := by decide +kernel
theorem dX3_meetsRay_44 : decode cX3_meetsRay 44 = .ok (.iconst 1, 1) := by decide +kernel
theorem dX3_meetsRay_45 : decode cX3_meetsRay 45 = .ok (.goto 4, 3) := by decide +kernel
theorem dX3_meetsRay_48 : decode cX3_meetsRay 48 = .ok (.iconst 0, 1) := by decide +kernel
theorem dX3_meetsRay_49 : decode cX3_meetsRay 49 = .ok (.ireturn, 1) := by decide +kernel
theorem dX3_meetOfOthers_0 : decode cX3_meetOfOthers 0 = .ok (.aload_n 0, 1) := by decide +kernel
theorem dX3_meetOfOthers_1 : decode cX3_meetOfOthers 1 = .ok (.getfield 13, 3) := by decide +kernel
theorem dX3_meetOfOthers_4 : decode cX3_meetOfOthers 4 = .ok (.iload_n 2, 1) := by decide +kernel
theorem dX3_meetOfOthers_5 : decode cX3_meetOfOthers 5 = .ok (.laload, 1) := by decide +kernel
theorem dX3_meetOfOthers_6 : decode cX3_meetOfOthers 6 = .ok (.aload_n 0, 1) := by decide +kernel
theorem dX3_meetOfOthers_7 : decode cX3_meetOfOthers 7 = .ok (.getfield 13, 3) := by decide +kernel
theorem dX3_meetOfOthers_10 : decode cX3_meetOfOthers 10 = .ok (.iload_n 1, 1) := by decide +kernel
theorem dX3_meetOfOthers_11 : decode cX3_meetOfOthers 11 = .ok (.laload, 1) := by decide +kernel
theorem dX3_meetOfOthers_12 : decode cX3_meetOfOthers 12 = .ok (.lsub, 1) := by decide +kernel
theorem dX3_meetOfOthers_13 : decode cX3_meetOfOthers 13 = .ok (.lstore_n 3, 1) := by decide +kernel
theorem dX3_meetOfOthers_14 : decode cX3_meetOfOthers 14 = .ok (.aload_n 0, 1) := by decide +kernel
theorem dX3_meetOfOthers_15 : decode cX3_meetOfOthers 15 = .ok (.getfield 17, 3) := by decide +kernel
theorem dX3_meetOfOthers_18 : decode cX3_meetOfOthers 18 = .ok (.iload_n 2, 1) := by decide +kernel
theorem dX3_meetOfOthers_19 : decode cX3_meetOfOthers 19 = .ok (.laload, 1) := by decide +kernel
theorem dX3_meetOfOthers_20 : decode cX3_meetOfOthers 20 = .ok (.aload_n 0, 1) := by decide +kernel
theorem dX3_meetOfOthers_21 : decode cX3_meetOfOthers 21 = .ok (.getfield 17, 3) := by decide +kernel
theorem dX3_meetOfOthers_24 : decode cX3_meetOfOthers 24 = .ok (.iload_n 1, 1) := by decide +kernel
theorem dX3_meetOfOthers_25 : decode cX3_meetOfOthers 25 = .ok (.laload, 1) := by decide +kernel
theorem dX3_meetOfOthers_26 : decode cX3_meetOfOthers 26 = .ok (.lsub, 1) := by decide +kernel
theorem dX3_meetOfOthers_27 : decode cX3_meetOfOthers 27 = .ok (.lstore 5, 2) := by decide +kernel
theorem dX3_meetOfOthers_29 : decode cX3_meetOfOthers 29 = .ok (.aload_n 0, 1) := by decide +kernel
theorem dX3_meetOfOthers_30 : decode cX3_meetOfOthers 30 = .ok (.getfield 56, 3) := by decide +kernel
theorem dX3_meetOfOthers_33 : decode cX3_meetOfOthers 33 = .ok (.lload_n 3, 1) := by decide +kernel
theorem dX3_meetOfOthers_34 : decode cX3_meetOfOthers 34 = .ok (.lload 5, 2) := by decide +kernel
theorem dX3_meetOfOthers_36 : decode cX3_meetOfOthers 36 = .ok (.aload_n 0, 1) := by decide +kernel
theorem dX3_meetOfOthers_37 : decode cX3_meetOfOthers 37 = .ok (.getfield 20, 3) := by decide +kernel
theorem dX3_meetOfOthers_40 : decode cX3_meetOfOthers 40 = .ok (.iload_n 2, 1) := by decide +kernel
theorem dX3_meetOfOthers_41 : decode cX3_meetOfOthers 41 = .ok (.laload, 1) := by decide +kernel
theorem dX3_meetOfOthers_42 : decode cX3_meetOfOthers 42 = .ok (.aload_n 0, 1) := by decide +kernel
theorem dX3_meetOfOthers_43 : decode cX3_meetOfOthers 43 = .ok (.getfield 23, 3) := by decide +kernel
theorem dX3_meetOfOthers_46 : decode cX3_meetOfOthers 46 = .ok (.iload_n 2, 1) := by decide +kernel
theorem dX3_meetOfOthers_47 : decode cX3_meetOfOthers 47 = .ok (.laload, 1) := by decide +kernel
theorem dX3_meetOfOthers_48 : decode cX3_meetOfOthers 48 = .ok (.invokevirtual 82, 3) := by decide +kernel
theorem dX3_meetOfOthers_51 : decode cX3_meetOfOthers 51 = .ok (.aload_n 0, 1) := by decide +kernel
theorem dX3_meetOfOthers_52 : decode cX3_meetOfOthers 52 = .ok (.getfield 59, 3) := by decide +kernel
theorem dX3_meetOfOthers_55 : decode cX3_meetOfOthers 55 = .ok (.lload_n 3, 1) := by decide +kernel
theorem dX3_meetOfOthers_56 : decode cX3_meetOfOthers 56 = .ok (.lload 5, 2) := by decide +kernel
theorem dX3_meetOfOthers_58 : decode cX3_meetOfOthers 58 = .ok (.aload_n 0, 1) := by decide +kernel
theorem dX3_meetOfOthers_59 : decode cX3_meetOfOthers 59 = .ok (.getfield 20, 3) := by decide +kernel
theorem dX3_meetOfOthers_62 : decode cX3_meetOfOthers 62 = .ok (.iload_n 1, 1) := by decide +kernel
theorem dX3_meetOfOthers_63 : decode cX3_meetOfOthers 63 = .ok (.laload, 1) := by decide +kernel
theorem dX3_meetOfOthers_64 : decode cX3_meetOfOthers 64 = .ok (.aload_n 0, 1) := by decide +kernel
theorem dX3_meetOfOthers_65 : decode cX3_meetOfOthers 65 = .ok (.getfield 23, 3) := by decide +kernel
theorem dX3_meetOfOthers_68 : decode cX3_meetOfOthers 68 = .ok (.iload_n 1, 1) := by decide +kernel
theorem dX3_meetOfOthers_69 : decode cX3_meetOfOthers 69 = .ok (.laload, 1) := by decide +kernel
theorem dX3_meetOfOthers_70 : decode cX3_meetOfOthers 70 = .ok (.invokevirtual 82, 3) := by decide +kernel
theorem dX3_meetOfOthers_73 : decode cX3_meetOfOthers 73 = .ok (.aload_n 0, 1) := by decide +kernel
theorem dX3_meetOfOthers_74 : decode cX3_meetOfOthers 74 = .ok (.getfield 52, 3) := by decide +kernel
theorem dX3_meetOfOthers_77 : decode cX3_meetOfOthers 77 = .ok (.invokevirtual 86, 3) := by decide +kernel
theorem dX3_meetOfOthers_80 : decode cX3_meetOfOthers 80 = .ok (.ifCond .ge 24, 3) := by decide +kernel
theorem dX3_meetOfOthers_83 : decode cX3_meetOfOthers 83 = .ok (.aload_n 0, 1) := by decide +kernel
theorem dX3_meetOfOthers_84 : decode cX3_meetOfOthers 84 = .ok (.getfield 52, 3) := by decide +kernel
theorem dX3_meetOfOthers_87 : decode cX3_meetOfOthers 87 = .ok (.invokevirtual 175, 3) := by decide +kernel
theorem dX3_meetOfOthers_90 : decode cX3_meetOfOthers 90 = .ok (.aload_n 0, 1) := by decide +kernel
theorem dX3_meetOfOthers_91 : decode cX3_meetOfOthers 91 = .ok (.getfield 56, 3) := by decide +kernel
theorem dX3_meetOfOthers_94 : decode cX3_meetOfOthers 94 = .ok (.invokevirtual 175, 3) := by decide +kernel
theorem dX3_meetOfOthers_97 : decode cX3_meetOfOthers 97 = .ok (.aload_n 0, 1) := by decide +kernel
theorem dX3_meetOfOthers_98 : decode cX3_meetOfOthers 98 = .ok (.getfield 59, 3) := by decide +kernel
theorem dX3_meetOfOthers_101 : decode cX3_meetOfOthers 101 = .ok (.invokevirtual 175, 3) := by decide +kernel
theorem dX3_meetOfOthers_104 : decode cX3_meetOfOthers 104 = .ok (.aload_n 0, 1) := by decide +kernel
theorem dX3_meetOfOthers_105 : decode cX3_meetOfOthers 105 = .ok (.aload_n 0, 1) := by decide +kernel
theorem dX3_meetOfOthers_106 : decode cX3_meetOfOthers 106 = .ok (.getfield 56, 3) := by decide +kernel
theorem dX3_meetOfOthers_109 : decode cX3_meetOfOthers 109 = .ok (.invokevirtual 178, 3) := by decide +kernel
theorem dX3_meetOfOthers_112 : decode cX3_meetOfOthers 112 = .ok (.ifCond .eq 14, 3) := by decide +kernel
theorem dX3_meetOfOthers_115 : decode cX3_meetOfOthers 115 = .ok (.aload_n 0, 1) := by decide +kernel
theorem dX3_meetOfOthers_116 : decode cX3_meetOfOthers 116 = .ok (.aload_n 0, 1) := by decide +kernel
theorem dX3_meetOfOthers_117 : decode cX3_meetOfOthers 117 = .ok (.getfield 59, 3) := by decide +kernel
theorem dX3_meetOfOthers_120 : decode cX3_meetOfOthers 120 = .ok (.invokevirtual 178, 3) := by decide +kernel
theorem dX3_meetOfOthers_123 : decode cX3_meetOfOthers 123 = .ok (.ifCond .ne 5, 3) := by decide +kernel
theorem dX3_meetOfOthers_126 : decode cX3_meetOfOthers 126 = .ok (.iconst 0, 1) := by decide +kernel
theorem dX3_meetOfOthers_127 : decode cX3_meetOfOthers 127 = .ok (.ireturn, 1) := by decide +kernel
theorem dX3_meetOfOthers_128 : decode cX3_meetOfOthers 128 = .ok (.aload_n 0, 1) := by decide +kernel
theorem dX3_meetOfOthers_129 : decode cX3_meetOfOthers 129 = .ok (.getfield 35, 3) := by decide +kernel
theorem dX3_meetOfOthers_132 : decode cX3_meetOfOthers 132 = .ok (.aload_n 0, 1) := by decide +kernel
theorem dX3_meetOfOthers_133 : decode cX3_meetOfOthers 133 = .ok (.getfield 13, 3) := by decide +kernel
theorem dX3_meetOfOthers_136 : decode cX3_meetOfOthers 136 = .ok (.iload_n 1, 1) := by decide +kernel
theorem dX3_meetOfOthers_137 : decode cX3_meetOfOthers 137 = .ok (.laload, 1) := by decide +kernel
theorem dX3_meetOfOthers_138 : decode cX3_meetOfOthers 138 = .ok (.aload_n 0, 1) := by decide +kernel
theorem dX3_meetOfOthers_139 : decode cX3_meetOfOthers 139 = .ok (.getfield 20, 3) := by decide +kernel
theorem dX3_meetOfOthers_142 : decode cX3_meetOfOthers 142 = .ok (.iload_n 1, 1) := by decide +kernel
theorem dX3_meetOfOthers_143 : decode cX3_meetOfOthers 143 = .ok (.laload, 1) := by decide +kernel
theorem dX3_meetOfOthers_144 : decode cX3_meetOfOthers 144 = .ok (.aload_n 0, 1) := by decide +kernel
theorem dX3_meetOfOthers_145 : decode cX3_meetOfOthers 145 = .ok (.getfield 56, 3) := by decide +kernel
theorem dX3_meetOfOthers_148 : decode cX3_meetOfOthers 148 = .ok (.aload_n 0, 1) := by decide +kernel
theorem dX3_meetOfOthers_149 : decode cX3_meetOfOthers 149 = .ok (.getfield 52, 3) := by decide +kernel
theorem dX3_meetOfOthers_152 : decode cX3_meetOfOthers 152 = .ok (.invokevirtual 182, 3) := by decide +kernel
theorem dX3_meetOfOthers_155 : decode cX3_meetOfOthers 155 = .ok (.aload_n 0, 1) := by decide +kernel
theorem dX3_meetOfOthers_156 : decode cX3_meetOfOthers 156 = .ok (.getfield 35, 3) := by decide +kernel
theorem dX3_meetOfOthers_159 : decode cX3_meetOfOthers 159 = .ok (.aload_n 0, 1) := by decide +kernel
theorem dX3_meetOfOthers_160 : decode cX3_meetOfOthers 160 = .ok (.getfield 45, 3) := by decide +kernel
theorem dX3_meetOfOthers_163 : decode cX3_meetOfOthers 163 = .ok (.invokevirtual 186, 3) := by decide +kernel
theorem dX3_meetOfOthers_166 : decode cX3_meetOfOthers 166 = .ok (.aload_n 0, 1) := by decide +kernel
theorem dX3_meetOfOthers_167 : decode cX3_meetOfOthers 167 = .ok (.getfield 39, 3) := by decide +kernel
theorem dX3_meetOfOthers_170 : decode cX3_meetOfOthers 170 = .ok (.aload_n 0, 1) := by decide +kernel
theorem dX3_meetOfOthers_171 : decode cX3_meetOfOthers 171 = .ok (.getfield 17, 3) := by decide +kernel
theorem dX3_meetOfOthers_174 : decode cX3_meetOfOthers 174 = .ok (.iload_n 1, 1) := by decide +kernel
theorem dX3_meetOfOthers_175 : decode cX3_meetOfOthers 175 = .ok (.laload, 1) := by decide +kernel
theorem dX3_meetOfOthers_176 : decode cX3_meetOfOthers 176 = .ok (.aload_n 0, 1) := by decide +kernel
theorem dX3_meetOfOthers_177 : decode cX3_meetOfOthers 177 = .ok (.getfield 23, 3) := by decide +kernel
theorem dX3_meetOfOthers_180 : decode cX3_meetOfOthers 180 = .ok (.iload_n 1, 1) := by decide +kernel
theorem dX3_meetOfOthers_181 : decode cX3_meetOfOthers 181 = .ok (.laload, 1) := by decide +kernel
theorem dX3_meetOfOthers_182 : decode cX3_meetOfOthers 182 = .ok (.aload_n 0, 1) := by decide +kernel
theorem dX3_meetOfOthers_183 : decode cX3_meetOfOthers 183 = .ok (.getfield 56, 3) := by decide +kernel
theorem dX3_meetOfOthers_186 : decode cX3_meetOfOthers 186 = .ok (.aload_n 0, 1) := by decide +kernel
theorem dX3_meetOfOthers_187 : decode cX3_meetOfOthers 187 = .ok (.getfield 52, 3) := by decide +kernel
theorem dX3_meetOfOthers_190 : decode cX3_meetOfOthers 190 = .ok (.invokevirtual 182, 3) := by decide +kernel
theorem dX3_meetOfOthers_193 : decode cX3_meetOfOthers 193 = .ok (.aload_n 0, 1) := by decide +kernel
theorem dX3_meetOfOthers_194 : decode cX3_meetOfOthers 194 = .ok (.getfield 39, 3) := by decide +kernel
theorem dX3_meetOfOthers_197 : decode cX3_meetOfOthers 197 = .ok (.aload_n 0, 1) := by decide +kernel
theorem dX3_meetOfOthers_198 : decode cX3_meetOfOthers 198 = .ok (.getfield 45, 3) := by decide +kernel
theorem dX3_meetOfOthers_201 : decode cX3_meetOfOthers 201 = .ok (.invokevirtual 186, 3) := by decide +kernel
theorem dX3_meetOfOthers_204 : decode cX3_meetOfOthers 204 = .ok (.iconst 1, 1) := by decide +kernel
theorem dX3_meetOfOthers_205 : decode cX3_meetOfOthers 205 = .ok (.ireturn, 1) := by decide +kernel
theorem dX3_isPartOfSpan_0 : decode cX3_isPartOfSpan 0 = .ok (.aload_n 1, 1) := by decide +kernel
theorem dX3_isPartOfSpan_1 : decode cX3_isPartOfSpan 1 = .ok (.invokevirtual 86, 3) := by decide +kernel
theorem dX3_isPartOfSpan_4 : decode cX3_isPartOfSpan 4 = .ok (.ifCond .lt 18, 3) := by decide +kernel
theorem dX3_isPartOfSpan_7 : decode cX3_isPartOfSpan 7 = .ok (.aload_n 1, 1) := by decide +kernel
theorem dX3_isPartOfSpan_8 : decode cX3_isPartOfSpan 8 = .ok (.aload_n 0, 1) := by decide +kernel
theorem dX3_isPartOfSpan_9 : decode cX3_isPartOfSpan 9 = .ok (.getfield 52, 3) := by decide +kernel
theorem dX3_isPartOfSpan_12 : decode cX3_isPartOfSpan 12 = .ok (.invokevirtual 190, 3) := by decide +kernel
theorem dX3_isPartOfSpan_15 : decode cX3_isPartOfSpan 15 = .ok (.ifCond .gt 7, 3) := by decide +kernel
theorem dX3_isPartOfSpan_18 : decode cX3_isPartOfSpan 18 = .ok (.iconst 1, 1) := by decide +kernel
theorem dX3_isPartOfSpan_19 : decode cX3_isPartOfSpan 19 = .ok (.goto 4, 3) := by decide +kernel
theorem dX3_isPartOfSpan_22 : decode cX3_isPartOfSpan 22 = .ok (.iconst 0, 1) := by decide +kernel
theorem dX3_isPartOfSpan_23 : decode cX3_isPartOfSpan 23 = .ok (.ireturn, 1) := by decide +kernel
theorem dX3_meetOfParallels_0 : decode cX3_meetOfParallels 0 = .ok (.aload_n 0, 1) := by decide +kernel
theorem dX3_meetOfParallels_1 : decode cX3_meetOfParallels 1 = .ok (.getfield 52, 3) := by decide +kernel
theorem dX3_meetOfParallels_4 : decode cX3_meetOfParallels 4 = .ok (.aload_n 0, 1) := by decide +kernel
theorem dX3_meetOfParallels_5 : decode cX3_meetOfParallels 5 = .ok (.getfield 13, 3) := by decide +kernel
theorem dX3_meetOfParallels_8 : decode cX3_meetOfParallels 8 = .ok (.iload_n 2, 1) := by decide +kernel
theorem dX3_meetOfParallels_9 : decode cX3_meetOfParallels 9 = .ok (.laload, 1) := by decide +kernel
theorem dX3_meetOfParallels_10 : decode cX3_meetOfParallels 10 = .ok (.aload_n 0, 1) := by decide +kernel
theorem dX3_meetOfParallels_11 : decode cX3_meetOfParallels 11 = .ok (.getfield 13, 3) := by decide +kernel
theorem dX3_meetOfParallels_14 : decode cX3_meetOfParallels 14 = .ok (.iload_n 1, 1) := by decide +kernel
theorem dX3_meetOfParallels_15 : decode cX3_meetOfParallels 15 = .ok (.laload, 1) := by decide +kernel
theorem dX3_meetOfParallels_16 : decode cX3_meetOfParallels 16 = .ok (.lsub, 1) := by decide +kernel
theorem dX3_meetOfParallels_17 : decode cX3_meetOfParallels 17 = .ok (.aload_n 0, 1) := by decide +kernel
theorem dX3_meetOfParallels_18 : decode cX3_meetOfParallels 18 = .ok (.getfield 17, 3) := by decide +kernel
theorem dX3_meetOfParallels_21 : decode cX3_meetOfParallels 21 = .ok (.iload_n 2, 1) := by decide +kernel
theorem dX3_meetOfParallels_22 : decode cX3_meetOfParallels 22 = .ok (.laload, 1) := by decide +kernel
theorem dX3_meetOfParallels_23 : decode cX3_meetOfParallels 23 = .ok (.aload_n 0, 1) := by decide +kernel
theorem dX3_meetOfParallels_24 : decode cX3_meetOfParallels 24 = .ok (.getfield 17, 3) := by decide +kernel
theorem dX3_meetOfParallels_27 : decode cX3_meetOfParallels 27 = .ok (.iload_n 1, 1) := by decide +kernel
theorem dX3_meetOfParallels_28 : decode cX3_meetOfParallels 28 = .ok (.laload, 1) := by decide +kernel
theorem dX3_meetOfParallels_29 : decode cX3_meetOfParallels 29 = .ok (.lsub, 1) := by decide +kernel
theorem dX3_meetOfParallels_30 : decode cX3_meetOfParallels 30 = .ok (.aload_n 0, 1) := by decide +kernel
theorem dX3_meetOfParallels_31 : decode cX3_meetOfParallels 31 = .ok (.getfield 20, 3) := by decide +kernel
theorem dX3_meetOfParallels_34 : decode cX3_meetOfParallels 34 = .ok (.iload_n 1, 1) := by decide +kernel
theorem dX3_meetOfParallels_35 : decode cX3_meetOfParallels 35 = .ok (.laload, 1) := by decide +kernel
theorem dX3_meetOfParallels_36 : decode cX3_meetOfParallels 36 = .ok (.aload_n 0, 1) := by decide +kernel
theorem dX3_meetOfParallels_37 : decode cX3_meetOfParallels 37 = .ok (.getfield 23, 3) := by decide +kernel
theorem dX3_meetOfParallels_40 : decode cX3_meetOfParallels 40 = .ok (.iload_n 1, 1) := by decide +kernel
theorem dX3_meetOfParallels_41 : decode cX3_meetOfParallels 41 = .ok (.laload, 1) := by decide +kernel
theorem dX3_meetOfParallels_42 : decode cX3_meetOfParallels 42 = .ok (.invokevirtual 82, 3) := by decide +kernel
theorem dX3_meetOfParallels_45 : decode cX3_meetOfParallels 45 = .ok (.aload_n 0, 1) := by decide +kernel
theorem dX3_meetOfParallels_46 : decode cX3_meetOfParallels 46 = .ok (.getfield 52, 3) := by decide +kernel
theorem dX3_meetOfParallels_49 : decode cX3_meetOfParallels 49 = .ok (.invokevirtual 86, 3) := by decide +kernel
theorem dX3_meetOfParallels_52 : decode cX3_meetOfParallels 52 = .ok (.ifCond .eq 5, 3) := by decide +kernel
theorem dX3_meetOfParallels_55 : decode cX3_meetOfParallels 55 = .ok (.iconst 0, 1) := by decide +kernel
theorem dX3_meetOfParallels_56 : decode cX3_meetOfParallels 56 = .ok (.ireturn, 1) := by decide +kernel
theorem dX3_meetOfParallels_57 : decode cX3_meetOfParallels 57 = .ok (.aload_n 0, 1) := by decide +kernel
theorem dX3_meetOfParallels_58 : decode cX3_meetOfParallels 58 = .ok (.getfield 20, 3) := by decide +kernel
theorem dX3_meetOfParallels_61 : decode cX3_meetOfParallels 61 = .ok (.iload_n 1, 1) := by decide +kernel
theorem dX3_meetOfParallels_62 : decode cX3_meetOfParallels 62 = .ok (.laload, 1) := by decide +kernel
theorem dX3_meetOfParallels_63 : decode cX3_meetOfParallels 63 = .ok (.lconst 0, 1) := by decide +kernel
theorem dX3_meetOfParallels_64 : decode cX3_meetOfParallels 64 = .ok (.lcmp, 1) := by decide +kernel
theorem dX3_meetOfParallels_65 : decode cX3_meetOfParallels 65 = .ok (.ifCond .eq 7, 3) := by decide +kernel
theorem dX3_meetOfParallels_68 : decode cX3_meetOfParallels 68 = .ok (.iconst 1, 1) := by decide +kernel
theorem dX3_meetOfParallels_69 : decode cX3_meetOfParallels 69 = .ok (.goto 4, 3) := by decide +kernel
theorem dX3_meetOfParallels_72 : decode cX3_meetOfParallels 72 = .ok (.iconst 0, 1) := by decide +kernel
theorem dX3_meetOfParallels_73 : decode cX3_meetOfParallels 73 = .ok (.istore_n 3, 1) := by decide +kernel
theorem dX3_meetOfParallels_74 : decode cX3_meetOfParallels 74 = .ok (.iload_n 3, 1) := by decide +kernel
theorem dX3_meetOfParallels_75 : decode cX3_meetOfParallels 75 = .ok (.ifCond .eq 12, 3) := by decide +kernel
theorem dX3_meetOfParallels_78 : decode cX3_meetOfParallels 78 = .ok (.aload_n 0, 1) := by decide +kernel
theorem dX3_meetOfParallels_79 : decode cX3_meetOfParallels 79 = .ok (.getfield 13, 3) := by decide +kernel
theorem dX3_meetOfParallels_82 : decode cX3_meetOfParallels 82 = .ok (.iload_n 1, 1) := by decide +kernel
theorem dX3_meetOfParallels_83 : decode cX3_meetOfParallels 83 = .ok (.laload, 1) := by decide +kernel
theorem dX3_meetOfParallels_84 : decode cX3_meetOfParallels 84 = .ok (.goto 9, 3) := by decide +kernel
theorem dX3_meetOfParallels_87 : decode cX3_meetOfParallels 87 = .ok (.aload_n 0, 1) := by decide +kernel
theorem dX3_meetOfParallels_88 : decode cX3_meetOfParallels 88 = .ok (.getfield 17, 3) := by decide +kernel
theorem dX3_meetOfParallels_91 : decode cX3_meetOfParallels 91 = .ok (.iload_n 1, 1) := by decide +kernel
theorem dX3_meetOfParallels_92 : decode cX3_meetOfParallels 92 = .ok (.laload, 1) := by decide +kernel
theorem dX3_meetOfParallels_93 : decode cX3_meetOfParallels 93 = .ok (.lstore 4, 2) := by decide +kernel
theorem dX3_meetOfParallels_95 : decode cX3_meetOfParallels 95 = .ok (.lload 4, 2) := by decide +kernel
theorem dX3_meetOfParallels_97 : decode cX3_meetOfParallels 97 = .ok (.iload_n 3, 1) := by decide +kernel
theorem dX3_meetOfParallels_98 : decode cX3_meetOfParallels 98 = .ok (.ifCond .eq 12, 3) := by decide +kernel
theorem dX3_meetOfParallels_101 : decode cX3_meetOfParallels 101 = .ok (.aload_n 0, 1) := by decide +kernel
theorem dX3_meetOfParallels_102 : decode cX3_meetOfParallels 102 = .ok (.getfield 20, 3) := by decide +kernel
theorem dX3_meetOfParallels_105 : decode cX3_meetOfParallels 105 = .ok (.iload_n 1, 1) := by decide +kernel
theorem dX3_meetOfParallels_106 : decode cX3_meetOfParallels 106 = .ok (.laload, 1) := by decide +kernel
theorem dX3_meetOfParallels_107 : decode cX3_meetOfParallels 107 = .ok (.goto 9, 3) := by decide +kernel
theorem dX3_meetOfParallels_110 : decode cX3_meetOfParallels 110 = .ok (.aload_n 0, 1) := by decide +kernel
theorem dX3_meetOfParallels_111 : decode cX3_meetOfParallels 111 = .ok (.getfield 23, 3) := by decide +kernel
theorem dX3_meetOfParallels_114 : decode cX3_meetOfParallels 114 = .ok (.iload_n 1, 1) := by decide +kernel
theorem dX3_meetOfParallels_115 : decode cX3_meetOfParallels 115 = .ok (.laload, 1) := by decide +kernel
theorem dX3_meetOfParallels_116 : decode cX3_meetOfParallels 116 = .ok (.ladd, 1) := by decide +kernel
theorem dX3_meetOfParallels_117 : decode cX3_meetOfParallels 117 = .ok (.lstore 6, 2) := by decide +kernel
theorem dX3_meetOfParallels_119 : decode cX3_meetOfParallels 119 = .ok (.iload_n 3, 1) := by decide +kernel
theorem dX3_meetOfParallels_120 : decode cX3_meetOfParallels 120 = .ok (.ifCond .eq 12, 3) := by decide +kernel
theorem dX3_meetOfParallels_123 : decode cX3_meetOfParallels 123 = .ok (.aload_n 0, 1) := by decide +kernel
theorem dX3_meetOfParallels_124 : decode cX3_meetOfParallels 124 = .ok (.getfield 13, 3) := by decide +kernel
theorem dX3_meetOfParallels_127 : decode cX3_meetOfParallels 127 = .ok (.iload_n 2, 1) := by decide +kernel
theorem dX3_meetOfParallels_128 : decode cX3_meetOfParallels 128 = .ok (.laload, 1) := by decide +kernel
theorem dX3_meetOfParallels_129 : decode cX3_meetOfParallels 129 = .ok (.goto 9, 3) := by decide +kernel
theorem dX3_meetOfParallels_132 : decode cX3_meetOfParallels 132 = .ok (.aload_n 0, 1) := by decide +kernel
theorem dX3_meetOfParallels_133 : decode cX3_meetOfParallels 133 = .ok (.getfield 17, 3) := by decide +kernel
theorem dX3_meetOfParallels_136 : decode cX3_meetOfParallels 136 = .ok (.iload_n 2, 1) := by decide +kernel
theorem dX3_meetOfParallels_137 : decode cX3_meetOfParallels 137 = .ok (.laload, 1) := by decide +kernel
theorem dX3_meetOfParallels_138 : decode cX3_meetOfParallels 138 = .ok (.lstore 8, 2) := by decide +kernel
theorem dX3_meetOfParallels_140 : decode cX3_meetOfParallels 140 = .ok (.lload 8, 2) := by decide +kernel
theorem dX3_meetOfParallels_142 : decode cX3_meetOfParallels 142 = .ok (.iload_n 3, 1) := by decide +kernel
theorem dX3_meetOfParallels_143 : decode cX3_meetOfParallels 143 = .ok (.ifCond .eq 12, 3) := by decide +kernel
theorem dX3_meetOfParallels_146 : decode cX3_meetOfParallels 146 = .ok (.aload_n 0, 1) := by decide +kernel
theorem dX3_meetOfParallels_147 : decode cX3_meetOfParallels 147 = .ok (.getfield 20, 3) := by decide +kernel
theorem dX3_meetOfParallels_150 : decode cX3_meetOfParallels 150 = .ok (.iload_n 2, 1) := by decide +kernel
theorem dX3_meetOfParallels_151 : decode cX3_meetOfParallels 151 = .ok (.laload, 1) := by decide +kernel
theorem dX3_meetOfParallels_152 : decode cX3_meetOfParallels 152 = .ok (.goto 9, 3) := by decide +kernel
theorem dX3_meetOfParallels_155 : decode cX3_meetOfParallels 155 = .ok (.aload_n 0, 1) := by decide +kernel
theorem dX3_meetOfParallels_156 : decode cX3_meetOfParallels 156 = .ok (.getfield 23, 3) := by decide +kernel
theorem dX3_meetOfParallels_159 : decode cX3_meetOfParallels 159 = .ok (.iload_n 2, 1) := by decide +kernel
theorem dX3_meetOfParallels_160 : decode cX3_meetOfParallels 160 = .ok (.laload, 1) := by decide +kernel
theorem dX3_meetOfParallels_161 : decode cX3_meetOfParallels 161 = .ok (.ladd, 1) := by decide +kernel
theorem dX3_meetOfParallels_162 : decode cX3_meetOfParallels 162 = .ok (.lstore 10, 2) := by decide +kernel
theorem dX3_meetOfParallels_164 : decode cX3_meetOfParallels 164 = .ok (.lload 4, 2) := by decide +kernel
theorem dX3_meetOfParallels_166 : decode cX3_meetOfParallels 166 = .ok (.lload 6, 2) := by decide +kernel
theorem dX3_meetOfParallels_168 : decode cX3_meetOfParallels 168 = .ok (.invokestatic 169, 3) := by decide +kernel
theorem dX3_meetOfParallels_171 : decode cX3_meetOfParallels 171 = .ok (.lload 8, 2) := by decide +kernel
theorem dX3_meetOfParallels_173 : decode cX3_meetOfParallels 173 = .ok (.lload 10, 2) := by decide +kernel
theorem dX3_meetOfParallels_175 : decode cX3_meetOfParallels 175 = .ok (.invokestatic 169, 3) := by decide +kernel
theorem dX3_meetOfParallels_178 : decode cX3_meetOfParallels 178 = .ok (.invokestatic 172, 3) := by decide +kernel
theorem dX3_meetOfParallels_181 : decode cX3_meetOfParallels 181 = .ok (.lstore 12, 2) := by decide +kernel
theorem dX3_meetOfParallels_183 : decode cX3_meetOfParallels 183 = .ok (.lload 4, 2) := by decide +kernel
theorem dX3_meetOfParallels_185 : decode cX3_meetOfParallels 185 = .ok (.lload 6, 2) := by decide +kernel
theorem dX3_meetOfParallels_187 : decode cX3_meetOfParallels 187 = .ok (.invokestatic 172, 3) := by decide +kernel
theorem dX3_meetOfParallels_190 : decode cX3_meetOfParallels 190 = .ok (.lload 8, 2) := by decide +kernel
theorem dX3_meetOfParallels_192 : decode cX3_meetOfParallels 192 = .ok (.lload 10, 2) := by decide +kernel
theorem dX3_meetOfParallels_194 : decode cX3_meetOfParallels 194 = .ok (.invokestatic 172, 3) := by decide +kernel
theorem dX3_meetOfParallels_197 : decode cX3_meetOfParallels 197 = .ok (.invokestatic 169, 3) := by decide +kernel
theorem dX3_meetOfParallels_200 : decode cX3_meetOfParallels 200 = .ok (.lstore 14, 2) := by decide +kernel
theorem dX3_meetOfParallels_202 : decode cX3_meetOfParallels 202 = .ok (.lload 12, 2) := by decide +kernel
theorem dX3_meetOfParallels_204 : decode cX3_meetOfParallels 204 = .ok (.lload 14, 2) := by decide +kernel
theorem dX3_meetOfParallels_206 : decode cX3_meetOfParallels 206 = .ok (.lcmp, 1) := by decide +kernel
theorem dX3_meetOfParallels_207 : decode cX3_meetOfParallels 207 = .ok (.ifCond .eq 17, 3) := by decide +kernel
theorem dX3_meetOfParallels_210 : decode cX3_meetOfParallels 210 = .ok (.lload 12, 2) := by decide +kernel
theorem dX3_meetOfParallels_212 : decode cX3_meetOfParallels 212 = .ok (.lload 14, 2) := by decide +kernel
theorem dX3_meetOfParallels_214 : decode cX3_meetOfParallels 214 = .ok (.lcmp, 1) := by decide +kernel
theorem dX3_meetOfParallels_215 : decode cX3_meetOfParallels 215 = .ok (.ifCond .le 7, 3) := by decide +kernel
theorem dX3_meetOfParallels_218 : decode cX3_meetOfParallels 218 = .ok (.iconst 0, 1) := by decide +kernel
theorem dX3_meetOfParallels_219 : decode cX3_meetOfParallels 219 = .ok (.goto 4, 3) := by decide +kernel
theorem dX3_meetOfParallels_222 : decode cX3_meetOfParallels 222 = .ok (.iconst 2, 1) := by decide +kernel
theorem dX3_meetOfParallels_223 : decode cX3_meetOfParallels 223 = .ok (.ireturn, 1) := by decide +kernel
theorem dX3_meetOfParallels_224 : decode cX3_meetOfParallels 224 = .ok (.lload 4, 2) := by decide +kernel
theorem dX3_meetOfParallels_226 : decode cX3_meetOfParallels 226 = .ok (.lload 12, 2) := by decide +kernel
theorem dX3_meetOfParallels_228 : decode cX3_meetOfParallels 228 = .ok (.lcmp, 1) := by decide +kernel
theorem dX3_meetOfParallels_229 : decode cX3_meetOfParallels 229 = .ok (.ifCond .ne 7, 3) := by decide +kernel
theorem dX3_meetOfParallels_232 : decode cX3_meetOfParallels 232 = .ok (.iconst 1, 1) := by decide +kernel
theorem dX3_meetOfParallels_233 : decode cX3_meetOfParallels 233 = .ok (.goto 4, 3) := by decide +kernel
theorem dX3_meetOfParallels_236 : decode cX3_meetOfParallels 236 = .ok (.iconst 0, 1) := by decide +kernel
theorem dX3_meetOfParallels_237 : decode cX3_meetOfParallels 237 = .ok (.istore 16, 2) := by decide +kernel
theorem dX3_meetOfParallels_239 : decode cX3_meetOfParallels 239 = .ok (.aload_n 0, 1) := by decide +kernel
theorem dX3_meetOfParallels_240 : decode cX3_meetOfParallels 240 = .ok (.getfield 35, 3) := by decide +kernel
theorem dX3_meetOfParallels_243 : decode cX3_meetOfParallels 243 = .ok (.iload 16, 2) := by decide +kernel
theorem dX3_meetOfParallels_245 : decode cX3_meetOfParallels 245 = .ok (.ifCond .eq 12, 3) := by decide +kernel
theorem dX3_meetOfParallels_248 : decode cX3_meetOfParallels 248 = .ok (.aload_n 0, 1) := by decide +kernel
theorem dX3_meetOfParallels_249 : decode cX3_meetOfParallels 249 = .ok (.getfield 13, 3) := by decide +kernel
theorem dX3_meetOfParallels_252 : decode cX3_meetOfParallels 252 = .ok (.iload_n 1, 1) := by decide +kernel
theorem dX3_meetOfParallels_253 : decode cX3_meetOfParallels 253 = .ok (.laload, 1) := by decide +kernel
theorem dX3_meetOfParallels_254 : decode cX3_meetOfParallels 254 = .ok (.goto 16, 3) := by decide +kernel
theorem dX3_meetOfParallels_257 : decode cX3_meetOfParallels 257 = .ok (.aload_n 0, 1) := by decide +kernel
theorem dX3_meetOfParallels_258 : decode cX3_meetOfParallels 258 = .ok (.getfield 13, 3) := by decide +kernel
theorem dX3_meetOfParallels_261 : decode cX3_meetOfParallels 261 = .ok (.iload_n 1, 1) := by decide +kernel
theorem dX3_meetOfParallels_262 : decode cX3_meetOfParallels 262 = .ok (.laload, 1) := by decide +kernel
theorem dX3_meetOfParallels_263 : decode cX3_meetOfParallels 263 = .ok (.aload_n 0, 1) := by decide +kernel
theorem dX3_meetOfParallels_264 : decode cX3_meetOfParallels 264 = .ok (.getfield 20, 3) := by decide +kernel
theorem dX3_meetOfParallels_267 : decode cX3_meetOfParallels 267 = .ok (.iload_n 1, 1) := by decide +kernel
theorem dX3_meetOfParallels_268 : decode cX3_meetOfParallels 268 = .ok (.laload, 1) := by decide +kernel
theorem dX3_meetOfParallels_269 : decode cX3_meetOfParallels 269 = .ok (.ladd, 1) := by decide +kernel
theorem dX3_meetOfParallels_270 : decode cX3_meetOfParallels 270 = .ok (.invokevirtual 194, 3) := by decide +kernel
theorem dX3_meetOfParallels_273 : decode cX3_meetOfParallels 273 = .ok (.aload_n 0, 1) := by decide +kernel
theorem dX3_meetOfParallels_274 : decode cX3_meetOfParallels 274 = .ok (.getfield 39, 3) := by decide +kernel
theorem dX3_meetOfParallels_277 : decode cX3_meetOfParallels 277 = .ok (.iload 16, 2) := by decide +kernel
theorem dX3_meetOfParallels_279 : decode cX3_meetOfParallels 279 = .ok (.ifCond .eq 12, 3) := by decide +kernel
theorem dX3_meetOfParallels_282 : decode cX3_meetOfParallels 282 = .ok (.aload_n 0, 1) := by decide +kernel
theorem dX3_meetOfParallels_283 : decode cX3_meetOfParallels 283 = .ok (.getfield 17, 3) := by decide +kernel
theorem dX3_meetOfParallels_286 : decode cX3_meetOfParallels 286 = .ok (.iload_n 1, 1) := by decide +kernel
theorem dX3_meetOfParallels_287 : decode cX3_meetOfParallels 287 = .ok (.laload, 1) := by decide +kernel
theorem dX3_meetOfParallels_288 : decode cX3_meetOfParallels 288 = .ok (.goto 16, 3) := by decide +kernel
theorem dX3_meetOfParallels_291 : decode cX3_meetOfParallels 291 = .ok (.aload_n 0, 1) := by decide +kernel
theorem dX3_meetOfParallels_292 : decode cX3_meetOfParallels 292 = .ok (.getfield 17, 3) := by decide +kernel
theorem dX3_meetOfParallels_295 : decode cX3_meetOfParallels 295 = .ok (.iload_n 1, 1) := by decide +kernel
theorem dX3_meetOfParallels_296 : decode cX3_meetOfParallels 296 = .ok (.laload, 1) := by decide +kernel
theorem dX3_meetOfParallels_297 : decode cX3_meetOfParallels 297 = .ok (.aload_n 0, 1) := by decide +kernel
theorem dX3_meetOfParallels_298 : decode cX3_meetOfParallels 298 = .ok (.getfield 23, 3) := by decide +kernel
theorem dX3_meetOfParallels_301 : decode cX3_meetOfParallels 301 = .ok (.iload_n 1, 1) := by decide +kernel
theorem dX3_meetOfParallels_302 : decode cX3_meetOfParallels 302 = .ok (.laload, 1) := by decide +kernel
theorem dX3_meetOfParallels_303 : decode cX3_meetOfParallels 303 = .ok (.ladd, 1) := by decide +kernel
theorem dX3_meetOfParallels_304 : decode cX3_meetOfParallels 304 = .ok (.invokevirtual 194, 3) := by decide +kernel
theorem dX3_meetOfParallels_307 : decode cX3_meetOfParallels 307 = .ok (.iconst 1, 1) := by decide +kernel
theorem dX3_meetOfParallels_308 : decode cX3_meetOfParallels 308 = .ok (.ireturn, 1) := by decide +kernel
theorem dX3_ratioByRule_0 : decode cX3_ratioByRule 0 = .ok (.iload 7, 2) := by decide +kernel
theorem dX3_ratioByRule_2 : decode cX3_ratioByRule 2 = .ok (.ifCond .lt 10, 3) := by decide +kernel
theorem dX3_ratioByRule_5 : decode cX3_ratioByRule 5 = .ok (.iload 7, 2) := by decide +kernel
theorem dX3_ratioByRule_7 : decode cX3_ratioByRule 7 = .ok (.bipush 6, 2) := by decide +kernel
theorem dX3_ratioByRule_9 : decode cX3_ratioByRule 9 = .ok (.if_icmp .le 7, 3) := by decide +kernel
theorem dX3_ratioByRule_12 : decode cX3_ratioByRule 12 = .ok (.ldc2_w 100, 3) := by decide +kernel
theorem dX3_ratioByRule_15 : decode cX3_ratioByRule 15 = .ok (.lreturn, 1) := by decide +kernel
theorem dX3_ratioByRule_16 : decode cX3_ratioByRule 16 = .ok (.lload 5, 2) := by decide +kernel
theorem dX3_ratioByRule_18 : decode cX3_ratioByRule 18 = .ok (.lconst 0, 1) := by decide +kernel
theorem dX3_ratioByRule_19 : decode cX3_ratioByRule 19 = .ok (.lcmp, 1) := by decide +kernel
theorem dX3_ratioByRule_20 : decode cX3_ratioByRule 20 = .ok (.ifCond .ne 13, 3) := by decide +kernel
theorem dX3_ratioByRule_23 : decode cX3_ratioByRule 23 = .ok (.new 197, 3) := by decide +kernel
theorem dX3_ratioByRule_26 : decode cX3_ratioByRule 26 = .ok (.dup, 1) := by decide +kernel
theorem dX3_ratioByRule_27 : decode cX3_ratioByRule 27 = .ok (.ldc 199, 2) := by decide +kernel
theorem dX3_ratioByRule_29 : decode cX3_ratioByRule 29 = .ok (.invokespecial 201, 3) := by decide +kernel
theorem dX3_ratioByRule_32 : decode cX3_ratioByRule 32 = .ok (.athrow, 1) := by decide +kernel
theorem dX3_ratioByRule_33 : decode cX3_ratioByRule 33 = .ok (.aload_n 0, 1) := by decide +kernel
theorem dX3_ratioByRule_34 : decode cX3_ratioByRule 34 = .ok (.getfield 56, 3) := by decide +kernel
theorem dX3_ratioByRule_37 : decode cX3_ratioByRule 37 = .ok (.lconst 0, 1) := by decide +kernel
theorem dX3_ratioByRule_38 : decode cX3_ratioByRule 38 = .ok (.invokevirtual 116, 3) := by decide +kernel
theorem dX3_ratioByRule_41 : decode cX3_ratioByRule 41 = .ok (.aload_n 0, 1) := by decide +kernel
theorem dX3_ratioByRule_42 : decode cX3_ratioByRule 42 = .ok (.getfield 56, 3) := by decide +kernel
theorem dX3_ratioByRule_45 : decode cX3_ratioByRule 45 = .ok (.lload_n 1, 1) := by decide +kernel
theorem dX3_ratioByRule_46 : decode cX3_ratioByRule 46 = .ok (.lload_n 3, 1) := by decide +kernel
theorem dX3_ratioByRule_47 : decode cX3_ratioByRule 47 = .ok (.invokevirtual 139, 3) := by decide +kernel
theorem dX3_ratioByRule_50 : decode cX3_ratioByRule 50 = .ok (.aload_n 0, 1) := by decide +kernel
theorem dX3_ratioByRule_51 : decode cX3_ratioByRule 51 = .ok (.getfield 59, 3) := by decide +kernel
theorem dX3_ratioByRule_54 : decode cX3_ratioByRule 54 = .ok (.lload 5, 2) := by decide +kernel
theorem dX3_ratioByRule_56 : decode cX3_ratioByRule 56 = .ok (.invokevirtual 116, 3) := by decide +kernel
theorem dX3_ratioByRule_59 : decode cX3_ratioByRule 59 = .ok (.aload_n 0, 1) := by decide +kernel
theorem dX3_ratioByRule_60 : decode cX3_ratioByRule 60 = .ok (.getfield 45, 3) := by decide +kernel
theorem dX3_ratioByRule_63 : decode cX3_ratioByRule 63 = .ok (.aload_n 0, 1) := by decide +kernel
theorem dX3_ratioByRule_64 : decode cX3_ratioByRule 64 = .ok (.getfield 56, 3) := by decide +kernel
theorem dX3_ratioByRule_67 : decode cX3_ratioByRule 67 = .ok (.aload_n 0, 1) := by decide +kernel
theorem dX3_ratioByRule_68 : decode cX3_ratioByRule 68 = .ok (.getfield 59, 3) := by decide +kernel
theorem dX3_ratioByRule_71 : decode cX3_ratioByRule 71 = .ok (.iload 7, 2) := by decide +kernel
theorem dX3_ratioByRule_73 : decode cX3_ratioByRule 73 = .ok (.invokevirtual 108, 3) := by decide +kernel
theorem dX3_ratioByRule_76 : decode cX3_ratioByRule 76 = .ok (.lreturn, 1) := by decide +kernel
theorem dX3_limbOf_0 : decode cX3_limbOf 0 = .ok (.iload_n 1, 1) := by decide +kernel
theorem dX3_limbOf_1 : decode cX3_limbOf 1 = .ok (.iconst (-1), 1) := by decide +kernel
theorem dX3_limbOf_2 : decode cX3_limbOf 2 = .ok (.if_icmp .ne 9, 3) := by decide +kernel
theorem dX3_limbOf_5 : decode cX3_limbOf 5 = .ok (.aload_n 0, 1) := by decide +kernel
theorem dX3_limbOf_6 : decode cX3_limbOf 6 = .ok (.invokevirtual 86, 3) := by decide +kernel
theorem dX3_limbOf_9 : decode cX3_limbOf 9 = .ok (.i2l, 1) := by decide +kernel
theorem dX3_limbOf_10 : decode cX3_limbOf 10 = .ok (.lreturn, 1) := by decide +kernel
theorem dX3_limbOf_11 : decode cX3_limbOf 11 = .ok (.iload_n 1, 1) := by decide +kernel
theorem dX3_limbOf_12 : decode cX3_limbOf 12 = .ok (.ifCond .lt 11, 3) := by decide +kernel
theorem dX3_limbOf_15 : decode cX3_limbOf 15 = .ok (.iload_n 1, 1) := by decide +kernel
theorem dX3_limbOf_16 : decode cX3_limbOf 16 = .ok (.aload_n 0, 1) := by decide +kernel
theorem dX3_limbOf_17 : decode cX3_limbOf 17 = .ok (.invokevirtual 202, 3) := by decide +kernel
theorem dX3_limbOf_20 : decode cX3_limbOf 20 = .ok (.if_icmp .lt 13, 3) := by decide +kernel
theorem dX3_limbOf_23 : decode cX3_limbOf 23 = .ok (.new 144, 3) := by decide +kernel
theorem dX3_limbOf_26 : decode cX3_limbOf 26 = .ok (.dup, 1) := by decide +kernel
theorem dX3_limbOf_27 : decode cX3_limbOf 27 = .ok (.ldc 205, 2) := by decide +kernel
theorem dX3_limbOf_29 : decode cX3_limbOf 29 = .ok (.invokespecial 148, 3) := by decide +kernel
theorem dX3_limbOf_32 : decode cX3_limbOf 32 = .ok (.athrow, 1) := by decide +kernel
theorem dX3_limbOf_33 : decode cX3_limbOf 33 = .ok (.aload_n 0, 1) := by decide +kernel
theorem dX3_limbOf_34 : decode cX3_limbOf 34 = .ok (.iload_n 1, 1) := by decide +kernel
theorem dX3_limbOf_35 : decode cX3_limbOf 35 = .ok (.invokevirtual 207, 3) := by decide +kernel
theorem dX3_limbOf_38 : decode cX3_limbOf 38 = .ok (.lreturn, 1) := by decide +kernel
