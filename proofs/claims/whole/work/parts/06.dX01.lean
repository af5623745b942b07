theorem dX0_init_0 : decode cX0_init 0 = .ok (.aload_n 0, 1) := by decide +kernel
theorem dX0_init_1 : decode cX0_init 1 = .ok (.invokespecial 3, 3) := by decide +kernel
theorem dX0_init_4 : decode cX0_init 4 = .ok (.aload_n 0, 1) := by decide +kernel
theorem dX0_init_5 : decode cX0_init 5 = .ok (.new 9, 3) := by decide +kernel
theorem dX0_init_8 : decode cX0_init 8 = .ok (.dup, 1) := by decide +kernel
theorem dX0_init_9 : decode cX0_init 9 = .ok (.invokespecial 11, 3) := by decide +kernel
theorem dX0_init_12 : decode cX0_init 12 = .ok (.putfield 12, 3) := by decide +kernel
theorem dX0_init_15 : decode cX0_init 15 = .ok (.aload_n 0, 1) := by decide +kernel
theorem dX0_init_16 : decode cX0_init 16 = .ok (.new 9, 3) := by decide +kernel
theorem dX0_init_19 : decode cX0_init 19 = .ok (.dup, 1) := by decide +kernel
theorem dX0_init_20 : decode cX0_init 20 = .ok (.invokespecial 11, 3) := by decide +kernel
theorem dX0_init_23 : decode cX0_init 23 = .ok (.putfield 18, 3) := by decide +kernel
theorem dX0_init_26 : decode cX0_init 26 = .ok (.aload_n 0, 1) := by decide +kernel
theorem dX0_init_27 : decode cX0_init 27 = .ok (.new 9, 3) := by decide +kernel
theorem dX0_init_30 : decode cX0_init 30 = .ok (.dup, 1) := by decide +kernel
theorem dX0_init_31 : decode cX0_init 31 = .ok (.invokespecial 11, 3) := by decide +kernel
theorem dX0_init_34 : decode cX0_init 34 = .ok (.putfield 21, 3) := by decide +kernel
theorem dX0_init_37 : decode cX0_init 37 = .ok (.aload_n 0, 1) := by decide +kernel
theorem dX0_init_38 : decode cX0_init 38 = .ok (.new 9, 3) := by decide +kernel
theorem dX0_init_41 : decode cX0_init 41 = .ok (.dup, 1) := by decide +kernel
theorem dX0_init_42 : decode cX0_init 42 = .ok (.invokespecial 11, 3) := by decide +kernel
theorem dX0_init_45 : decode cX0_init 45 = .ok (.putfield 24, 3) := by decide +kernel
theorem dX0_init_48 : decode cX0_init 48 = .ok (.aload_n 0, 1) := by decide +kernel
theorem dX0_init_49 : decode cX0_init 49 = .ok (.new 9, 3) := by decide +kernel
theorem dX0_init_52 : decode cX0_init 52 = .ok (.dup, 1) := by decide +kernel
theorem dX0_init_53 : decode cX0_init 53 = .ok (.invokespecial 11, 3) := by decide +kernel
theorem dX0_init_56 : decode cX0_init 56 = .ok (.putfield 27, 3) := by decide +kernel
theorem dX0_init_59 : decode cX0_init 59 = .ok (.return_, 1) := by decide +kernel
theorem dX0_rounded_0 : decode cX0_rounded 0 = .ok (.aload_n 1, 1) := by decide +kernel
theorem dX0_rounded_1 : decode cX0_rounded 1 = .ok (.invokevirtual 30, 3) := by decide +kernel
theorem dX0_rounded_4 : decode cX0_rounded 4 = .ok (.aload_n 2, 1) := by decide +kernel
theorem dX0_rounded_5 : decode cX0_rounded 5 = .ok (.invokevirtual 30, 3) := by decide +kernel
theorem dX0_rounded_8 : decode cX0_rounded 8 = .ok (.imul, 1) := by decide +kernel
theorem dX0_rounded_9 : decode cX0_rounded 9 = .ok (.ifCond .ge 7, 3) := by decide +kernel
theorem dX0_rounded_12 : decode cX0_rounded 12 = .ok (.iconst 1, 1) := by decide +kernel
theorem dX0_rounded_13 : decode cX0_rounded 13 = .ok (.goto 4, 3) := by decide +kernel
theorem dX0_rounded_16 : decode cX0_rounded 16 = .ok (.iconst 0, 1) := by decide +kernel
theorem dX0_rounded_17 : decode cX0_rounded 17 = .ok (.istore 4, 2) := by decide +kernel
theorem dX0_rounded_19 : decode cX0_rounded 19 = .ok (.aload_n 0, 1) := by decide +kernel
theorem dX0_rounded_20 : decode cX0_rounded 20 = .ok (.aload_n 1, 1) := by decide +kernel
theorem dX0_rounded_21 : decode cX0_rounded 21 = .ok (.aload_n 2, 1) := by decide +kernel
theorem dX0_rounded_22 : decode cX0_rounded 22 = .ok (.invokevirtual 34, 3) := by decide +kernel
theorem dX0_rounded_25 : decode cX0_rounded 25 = .ok (.aload_n 0, 1) := by decide +kernel
theorem dX0_rounded_26 : decode cX0_rounded 26 = .ok (.iload 4, 2) := by decide +kernel
theorem dX0_rounded_28 : decode cX0_rounded 28 = .ok (.iload_n 3, 1) := by decide +kernel
theorem dX0_rounded_29 : decode cX0_rounded 29 = .ok (.invokevirtual 38, 3) := by decide +kernel
theorem dX0_rounded_32 : decode cX0_rounded 32 = .ok (.ifCond .eq 15, 3) := by decide +kernel
theorem dX0_rounded_35 : decode cX0_rounded 35 = .ok (.aload_n 0, 1) := by decide +kernel
theorem dX0_rounded_36 : decode cX0_rounded 36 = .ok (.getfield 12, 3) := by decide +kernel
theorem dX0_rounded_39 : decode cX0_rounded 39 = .ok (.getfield 42, 3) := by decide +kernel
theorem dX0_rounded_42 : decode cX0_rounded 42 = .ok (.lconst 1, 1) := by decide +kernel
theorem dX0_rounded_43 : decode cX0_rounded 43 = .ok (.ladd, 1) := by decide +kernel
theorem dX0_rounded_44 : decode cX0_rounded 44 = .ok (.goto 10, 3) := by decide +kernel
theorem dX0_rounded_47 : decode cX0_rounded 47 = .ok (.aload_n 0, 1) := by decide +kernel
theorem dX0_rounded_48 : decode cX0_rounded 48 = .ok (.getfield 12, 3) := by decide +kernel
theorem dX0_rounded_51 : decode cX0_rounded 51 = .ok (.getfield 42, 3) := by decide +kernel
theorem dX0_rounded_54 : decode cX0_rounded 54 = .ok (.lstore 5, 2) := by decide +kernel
theorem dX0_rounded_56 : decode cX0_rounded 56 = .ok (.iload 4, 2) := by decide +kernel
theorem dX0_rounded_58 : decode cX0_rounded 58 = .ok (.ifCond .eq 9, 3) := by decide +kernel
theorem dX0_rounded_61 : decode cX0_rounded 61 = .ok (.lload 5, 2) := by decide +kernel
theorem dX0_rounded_63 : decode cX0_rounded 63 = .ok (.lneg, 1) := by decide +kernel
theorem dX0_rounded_64 : decode cX0_rounded 64 = .ok (.goto 5, 3) := by decide +kernel
theorem dX0_rounded_67 : decode cX0_rounded 67 = .ok (.lload 5, 2) := by decide +kernel
theorem dX0_rounded_69 : decode cX0_rounded 69 = .ok (.lreturn, 1) := by decide +kernel
theorem dX0_divideAmounts_0 : decode cX0_divideAmounts 0 = .ok (.aload_n 0, 1) := by decide +kernel
theorem dX0_divideAmounts_1 : decode cX0_divideAmounts 1 = .ok (.getfield 12, 3) := by decide +kernel
theorem dX0_divideAmounts_4 : decode cX0_divideAmounts 4 = .ok (.lconst 0, 1) := by decide +kernel
theorem dX0_divideAmounts_5 : decode cX0_divideAmounts 5 = .ok (.invokevirtual 46, 3) := by decide +kernel
theorem dX0_divideAmounts_8 : decode cX0_divideAmounts 8 = .ok (.aload_n 0, 1) := by decide +kernel
theorem dX0_divideAmounts_9 : decode cX0_divideAmounts 9 = .ok (.getfield 18, 3) := by decide +kernel
theorem dX0_divideAmounts_12 : decode cX0_divideAmounts 12 = .ok (.aload_n 1, 1) := by decide +kernel
theorem dX0_divideAmounts_13 : decode cX0_divideAmounts 13 = .ok (.invokevirtual 50, 3) := by decide +kernel
theorem dX0_divideAmounts_16 : decode cX0_divideAmounts 16 = .ok (.aload_n 0, 1) := by decide +kernel
theorem dX0_divideAmounts_17 : decode cX0_divideAmounts 17 = .ok (.getfield 21, 3) := by decide +kernel
theorem dX0_divideAmounts_20 : decode cX0_divideAmounts 20 = .ok (.aload_n 2, 1) := by decide +kernel
theorem dX0_divideAmounts_21 : decode cX0_divideAmounts 21 = .ok (.invokevirtual 50, 3) := by decide +kernel
theorem dX0_divideAmounts_24 : decode cX0_divideAmounts 24 = .ok (.aload_n 0, 1) := by decide +kernel
theorem dX0_divideAmounts_25 : decode cX0_divideAmounts 25 = .ok (.getfield 24, 3) := by decide +kernel
theorem dX0_divideAmounts_28 : decode cX0_divideAmounts 28 = .ok (.aload_n 0, 1) := by decide +kernel
theorem dX0_divideAmounts_29 : decode cX0_divideAmounts 29 = .ok (.getfield 18, 3) := by decide +kernel
theorem dX0_divideAmounts_32 : decode cX0_divideAmounts 32 = .ok (.invokevirtual 54, 3) := by decide +kernel
theorem dX0_divideAmounts_35 : decode cX0_divideAmounts 35 = .ok (.aload_n 0, 1) := by decide +kernel
theorem dX0_divideAmounts_36 : decode cX0_divideAmounts 36 = .ok (.getfield 24, 3) := by decide +kernel
theorem dX0_divideAmounts_39 : decode cX0_divideAmounts 39 = .ok (.invokevirtual 57, 3) := by decide +kernel
theorem dX0_divideAmounts_42 : decode cX0_divideAmounts 42 = .ok (.iconst 0, 1) := by decide +kernel
theorem dX0_divideAmounts_43 : decode cX0_divideAmounts 43 = .ok (.istore_n 3, 1) := by decide +kernel
theorem dX0_divideAmounts_44 : decode cX0_divideAmounts 44 = .ok (.iload_n 3, 1) := by decide +kernel
theorem dX0_divideAmounts_45 : decode cX0_divideAmounts 45 = .ok (.bipush 127, 2) := by decide +kernel
theorem dX0_divideAmounts_47 : decode cX0_divideAmounts 47 = .ok (.if_icmp .ge 30, 3) := by decide +kernel
theorem dX0_divideAmounts_50 : decode cX0_divideAmounts 50 = .ok (.aload_n 0, 1) := by decide +kernel
theorem dX0_divideAmounts_51 : decode cX0_divideAmounts 51 = .ok (.getfield 21, 3) := by decide +kernel
theorem dX0_divideAmounts_54 : decode cX0_divideAmounts 54 = .ok (.aload_n 0, 1) := by decide +kernel
theorem dX0_divideAmounts_55 : decode cX0_divideAmounts 55 = .ok (.getfield 24, 3) := by decide +kernel
theorem dX0_divideAmounts_58 : decode cX0_divideAmounts 58 = .ok (.invokevirtual 60, 3) := by decide +kernel
theorem dX0_divideAmounts_61 : decode cX0_divideAmounts 61 = .ok (.ifCond .gt 16, 3) := by decide +kernel
theorem dX0_divideAmounts_64 : decode cX0_divideAmounts 64 = .ok (.aload_n 0, 1) := by decide +kernel
theorem dX0_divideAmounts_65 : decode cX0_divideAmounts 65 = .ok (.getfield 21, 3) := by decide +kernel
theorem dX0_divideAmounts_68 : decode cX0_divideAmounts 68 = .ok (.invokevirtual 64, 3) := by decide +kernel
theorem dX0_divideAmounts_71 : decode cX0_divideAmounts 71 = .ok (.iinc 3 1, 3) := by decide +kernel
theorem dX0_divideAmounts_74 : decode cX0_divideAmounts 74 = .ok (.goto (-30), 3) := by decide +kernel
theorem dX0_divideAmounts_77 : decode cX0_divideAmounts 77 = .ok (.iload_n 3, 1) := by decide +kernel
theorem dX0_divideAmounts_78 : decode cX0_divideAmounts 78 = .ok (.istore 4, 2) := by decide +kernel
theorem dX0_divideAmounts_80 : decode cX0_divideAmounts 80 = .ok (.iload 4, 2) := by decide +kernel
theorem dX0_divideAmounts_82 : decode cX0_divideAmounts 82 = .ok (.ifCond .lt 60, 3) := by decide +kernel
theorem dX0_divideAmounts_85 : decode cX0_divideAmounts 85 = .ok (.aload_n 0, 1) := by decide +kernel
theorem dX0_divideAmounts_86 : decode cX0_divideAmounts 86 = .ok (.getfield 12, 3) := by decide +kernel
theorem dX0_divideAmounts_89 : decode cX0_divideAmounts 89 = .ok (.invokevirtual 64, 3) := by decide +kernel
theorem dX0_divideAmounts_92 : decode cX0_divideAmounts 92 = .ok (.aload_n 0, 1) := by decide +kernel
theorem dX0_divideAmounts_93 : decode cX0_divideAmounts 93 = .ok (.getfield 21, 3) := by decide +kernel
theorem dX0_divideAmounts_96 : decode cX0_divideAmounts 96 = .ok (.aload_n 0, 1) := by decide +kernel
theorem dX0_divideAmounts_97 : decode cX0_divideAmounts 97 = .ok (.getfield 18, 3) := by decide +kernel
theorem dX0_divideAmounts_100 : decode cX0_divideAmounts 100 = .ok (.invokevirtual 60, 3) := by decide +kernel
theorem dX0_divideAmounts_103 : decode cX0_divideAmounts 103 = .ok (.ifCond .gt 21, 3) := by decide +kernel
theorem dX0_divideAmounts_106 : decode cX0_divideAmounts 106 = .ok (.aload_n 0, 1) := by decide +kernel
theorem dX0_divideAmounts_107 : decode cX0_divideAmounts 107 = .ok (.getfield 18, 3) := by decide +kernel
theorem dX0_divideAmounts_110 : decode cX0_divideAmounts 110 = .ok (.aload_n 0, 1) := by decide +kernel
theorem dX0_divideAmounts_111 : decode cX0_divideAmounts 111 = .ok (.getfield 21, 3) := by decide +kernel
theorem dX0_divideAmounts_114 : decode cX0_divideAmounts 114 = .ok (.invokevirtual 67, 3) := by decide +kernel
theorem dX0_divideAmounts_117 : decode cX0_divideAmounts 117 = .ok (.aload_n 0, 1) := by decide +kernel
theorem dX0_divideAmounts_118 : decode cX0_divideAmounts 118 = .ok (.getfield 12, 3) := by decide +kernel
theorem dX0_divideAmounts_121 : decode cX0_divideAmounts 121 = .ok (.invokevirtual 70, 3) := by decide +kernel
theorem dX0_divideAmounts_124 : decode cX0_divideAmounts 124 = .ok (.iload 4, 2) := by decide +kernel
theorem dX0_divideAmounts_126 : decode cX0_divideAmounts 126 = .ok (.ifCond .le 10, 3) := by decide +kernel
theorem dX0_divideAmounts_129 : decode cX0_divideAmounts 129 = .ok (.aload_n 0, 1) := by decide +kernel
theorem dX0_divideAmounts_130 : decode cX0_divideAmounts 130 = .ok (.getfield 21, 3) := by decide +kernel
theorem dX0_divideAmounts_133 : decode cX0_divideAmounts 133 = .ok (.invokevirtual 57, 3) := by decide +kernel
theorem dX0_divideAmounts_136 : decode cX0_divideAmounts 136 = .ok (.iinc 4 (-1), 3) := by decide +kernel
theorem dX0_divideAmounts_139 : decode cX0_divideAmounts 139 = .ok (.goto (-59), 3) := by decide +kernel
theorem dX0_divideAmounts_142 : decode cX0_divideAmounts 142 = .ok (.return_, 1) := by decide +kernel
theorem dX0_isOneMore_0 : decode cX0_isOneMore 0 = .ok (.aload_n 0, 1) := by decide +kernel
theorem dX0_isOneMore_1 : decode cX0_isOneMore 1 = .ok (.getfield 18, 3) := by decide +kernel
theorem dX0_isOneMore_4 : decode cX0_isOneMore 4 = .ok (.invokevirtual 30, 3) := by decide +kernel
theorem dX0_isOneMore_7 : decode cX0_isOneMore 7 = .ok (.ifCond .ne 5, 3) := by decide +kernel
theorem dX0_isOneMore_10 : decode cX0_isOneMore 10 = .ok (.iconst 0, 1) := by decide +kernel
theorem dX0_isOneMore_11 : decode cX0_isOneMore 11 = .ok (.ireturn, 1) := by decide +kernel
theorem dX0_isOneMore_12 : decode cX0_isOneMore 12 = .ok (.iload_n 2, 1) := by decide +kernel
theorem dX0_isOneMore_13 : decode cX0_isOneMore 13 = .ok (.tableswitch 47 0 3 #[31, 33, 43, 45], 31) := by decide +kernel
theorem dX0_isOneMore_44 : decode cX0_isOneMore 44 = .ok (.iload_n 1, 1) := by decide +kernel
theorem dX0_isOneMore_45 : decode cX0_isOneMore 45 = .ok (.ireturn, 1) := by decide +kernel
theorem dX0_isOneMore_46 : decode cX0_isOneMore 46 = .ok (.iload_n 1, 1) := by decide +kernel
theorem dX0_isOneMore_47 : decode cX0_isOneMore 47 = .ok (.ifCond .ne 7, 3) := by decide +kernel
theorem dX0_isOneMore_50 : decode cX0_isOneMore 50 = .ok (.iconst 1, 1) := by decide +kernel
theorem dX0_isOneMore_51 : decode cX0_isOneMore 51 = .ok (.goto 4, 3) := by decide +kernel
theorem dX0_isOneMore_54 : decode cX0_isOneMore 54 = .ok (.iconst 0, 1) := by decide +kernel
theorem dX0_isOneMore_55 : decode cX0_isOneMore 55 = .ok (.ireturn, 1) := by decide +kernel
theorem dX0_isOneMore_56 : decode cX0_isOneMore 56 = .ok (.iconst 0, 1) := by decide +kernel
theorem dX0_isOneMore_57 : decode cX0_isOneMore 57 = .ok (.ireturn, 1) := by decide +kernel
theorem dX0_isOneMore_58 : decode cX0_isOneMore 58 = .ok (.iconst 1, 1) := by decide +kernel
theorem dX0_isOneMore_59 : decode cX0_isOneMore 59 = .ok (.ireturn, 1) := by decide +kernel
theorem dX0_isOneMore_60 : decode cX0_isOneMore 60 = .ok (.aload_n 0, 1) := by decide +kernel
theorem dX0_isOneMore_61 : decode cX0_isOneMore 61 = .ok (.iload_n 2, 1) := by decide +kernel
theorem dX0_isOneMore_62 : decode cX0_isOneMore 62 = .ok (.invokevirtual 73, 3) := by decide +kernel
theorem dX0_isOneMore_65 : decode cX0_isOneMore 65 = .ok (.ireturn, 1) := by decide +kernel
theorem dX0_isOneMoreNearer_0 : decode cX0_isOneMoreNearer 0 = .ok (.aload_n 0, 1) := by decide +kernel
theorem dX0_isOneMoreNearer_1 : decode cX0_isOneMoreNearer 1 = .ok (.getfield 18, 3) := by decide +kernel
theorem dX0_isOneMoreNearer_4 : decode cX0_isOneMoreNearer 4 = .ok (.invokevirtual 64, 3) := by decide +kernel
theorem dX0_isOneMoreNearer_7 : decode cX0_isOneMoreNearer 7 = .ok (.aload_n 0, 1) := by decide +kernel
theorem dX0_isOneMoreNearer_8 : decode cX0_isOneMoreNearer 8 = .ok (.getfield 18, 3) := by decide +kernel
theorem dX0_isOneMoreNearer_11 : decode cX0_isOneMoreNearer 11 = .ok (.aload_n 0, 1) := by decide +kernel
theorem dX0_isOneMoreNearer_12 : decode cX0_isOneMoreNearer 12 = .ok (.getfield 21, 3) := by decide +kernel
theorem dX0_isOneMoreNearer_15 : decode cX0_isOneMoreNearer 15 = .ok (.invokevirtual 60, 3) := by decide +kernel
theorem dX0_isOneMoreNearer_18 : decode cX0_isOneMoreNearer 18 = .ok (.istore_n 2, 1) := by decide +kernel
theorem dX0_isOneMoreNearer_19 : decode cX0_isOneMoreNearer 19 = .ok (.iload_n 2, 1) := by decide +kernel
theorem dX0_isOneMoreNearer_20 : decode cX0_isOneMoreNearer 20 = .ok (.ifCond .eq 13, 3) := by decide +kernel
theorem dX0_isOneMoreNearer_23 : decode cX0_isOneMoreNearer 23 = .ok (.iload_n 2, 1) := by decide +kernel
theorem dX0_isOneMoreNearer_24 : decode cX0_isOneMoreNearer 24 = .ok (.ifCond .le 7, 3) := by decide +kernel
theorem dX0_isOneMoreNearer_27 : decode cX0_isOneMoreNearer 27 = .ok (.iconst 1, 1) := by decide +kernel
theorem dX0_isOneMoreNearer_28 : decode cX0_isOneMoreNearer 28 = .ok (.goto 4, 3) := by decide +kernel
theorem dX0_isOneMoreNearer_31 : decode cX0_isOneMoreNearer 31 = .ok (.iconst 0, 1) := by decide +kernel
theorem dX0_isOneMoreNearer_32 : decode cX0_isOneMoreNearer 32 = .ok (.ireturn, 1) := by decide +kernel
theorem dX0_isOneMoreNearer_33 : decode cX0_isOneMoreNearer 33 = .ok (.iload_n 1, 1) := by decide +kernel
theorem dX0_isOneMoreNearer_34 : decode cX0_isOneMoreNearer 34 = .ok (.iconst 4, 1) := by decide +kernel
theorem dX0_isOneMoreNearer_35 : decode cX0_isOneMoreNearer 35 = .ok (.if_icmp .eq 19, 3) := by decide +kernel
theorem dX0_isOneMoreNearer_38 : decode cX0_isOneMoreNearer 38 = .ok (.iload_n 1, 1) := by decide +kernel
theorem dX0_isOneMoreNearer_39 : decode cX0_isOneMoreNearer 39 = .ok (.bipush 6, 2) := by decide +kernel
theorem dX0_isOneMoreNearer_41 : decode cX0_isOneMoreNearer 41 = .ok (.if_icmp .ne 17, 3) := by decide +kernel
theorem dX0_isOneMoreNearer_44 : decode cX0_isOneMoreNearer 44 = .ok (.aload_n 0, 1) := by decide +kernel
theorem dX0_isOneMoreNearer_45 : decode cX0_isOneMoreNearer 45 = .ok (.getfield 12, 3) := by decide +kernel
theorem dX0_isOneMoreNearer_48 : decode cX0_isOneMoreNearer 48 = .ok (.invokevirtual 77, 3) := by decide +kernel
theorem dX0_isOneMoreNearer_51 : decode cX0_isOneMoreNearer 51 = .ok (.ifCond .eq 7, 3) := by decide +kernel
theorem dX0_isOneMoreNearer_54 : decode cX0_isOneMoreNearer 54 = .ok (.iconst 1, 1) := by decide +kernel
theorem dX0_isOneMoreNearer_55 : decode cX0_isOneMoreNearer 55 = .ok (.goto 4, 3) := by decide +kernel
theorem dX0_isOneMoreNearer_58 : decode cX0_isOneMoreNearer 58 = .ok (.iconst 0, 1) := by decide +kernel
theorem dX0_isOneMoreNearer_59 : decode cX0_isOneMoreNearer 59 = .ok (.ireturn, 1) := by decide +kernel
theorem dX0_findCommon_0 : decode cX0_findCommon 0 = .ok (.aload_n 0, 1) := by decide +kernel
theorem dX0_findCommon_1 : decode cX0_findCommon 1 = .ok (.getfield 18, 3) := by decide +kernel
theorem dX0_findCommon_4 : decode cX0_findCommon 4 = .ok (.aload_n 1, 1) := by decide +kernel
theorem dX0_findCommon_5 : decode cX0_findCommon 5 = .ok (.invokevirtual 50, 3) := by decide +kernel
theorem dX0_findCommon_8 : decode cX0_findCommon 8 = .ok (.aload_n 0, 1) := by decide +kernel
theorem dX0_findCommon_9 : decode cX0_findCommon 9 = .ok (.getfield 27, 3) := by decide +kernel
theorem dX0_findCommon_12 : decode cX0_findCommon 12 = .ok (.aload_n 2, 1) := by decide +kernel
theorem dX0_findCommon_13 : decode cX0_findCommon 13 = .ok (.invokevirtual 54, 3) := by decide +kernel
theorem dX0_findCommon_16 : decode cX0_findCommon 16 = .ok (.iconst 0, 1) := by decide +kernel
theorem dX0_findCommon_17 : decode cX0_findCommon 17 = .ok (.istore_n 3, 1) := by decide +kernel
theorem dX0_findCommon_18 : decode cX0_findCommon 18 = .ok (.iconst 0, 1) := by decide +kernel
theorem dX0_findCommon_19 : decode cX0_findCommon 19 = .ok (.istore 4, 2) := by decide +kernel
theorem dX0_findCommon_21 : decode cX0_findCommon 21 = .ok (.iload 4, 2) := by decide +kernel
theorem dX0_findCommon_23 : decode cX0_findCommon 23 = .ok (.sipush 254, 3) := by decide +kernel
theorem dX0_findCommon_26 : decode cX0_findCommon 26 = .ok (.if_icmp .ge 83, 3) := by decide +kernel
theorem dX0_findCommon_29 : decode cX0_findCommon 29 = .ok (.aload_n 0, 1) := by decide +kernel
theorem dX0_findCommon_30 : decode cX0_findCommon 30 = .ok (.getfield 18, 3) := by decide +kernel
theorem dX0_findCommon_33 : decode cX0_findCommon 33 = .ok (.invokevirtual 30, 3) := by decide +kernel
theorem dX0_findCommon_36 : decode cX0_findCommon 36 = .ok (.ifCond .eq 73, 3) := by decide +kernel
theorem dX0_findCommon_39 : decode cX0_findCommon 39 = .ok (.aload_n 0, 1) := by decide +kernel
theorem dX0_findCommon_40 : decode cX0_findCommon 40 = .ok (.getfield 18, 3) := by decide +kernel
theorem dX0_findCommon_43 : decode cX0_findCommon 43 = .ok (.invokevirtual 77, 3) := by decide +kernel
theorem dX0_findCommon_46 : decode cX0_findCommon 46 = .ok (.ifCond .ne 33, 3) := by decide +kernel
theorem dX0_findCommon_49 : decode cX0_findCommon 49 = .ok (.aload_n 0, 1) := by decide +kernel
theorem dX0_findCommon_50 : decode cX0_findCommon 50 = .ok (.getfield 18, 3) := by decide +kernel
theorem dX0_findCommon_53 : decode cX0_findCommon 53 = .ok (.invokevirtual 57, 3) := by decide +kernel
theorem dX0_findCommon_56 : decode cX0_findCommon 56 = .ok (.aload_n 0, 1) := by decide +kernel
theorem dX0_findCommon_57 : decode cX0_findCommon 57 = .ok (.getfield 27, 3) := by decide +kernel
theorem dX0_findCommon_60 : decode cX0_findCommon 60 = .ok (.invokevirtual 77, 3) := by decide +kernel
theorem dX0_findCommon_63 : decode cX0_findCommon 63 = .ok (.ifCond .ne 40, 3) := by decide +kernel
theorem dX0_findCommon_66 : decode cX0_findCommon 66 = .ok (.aload_n 0, 1) := by decide +kernel
theorem dX0_findCommon_67 : decode cX0_findCommon 67 = .ok (.getfield 27, 3) := by decide +kernel
theorem dX0_findCommon_70 : decode cX0_findCommon 70 = .ok (.invokevirtual 57, 3) := by decide +kernel
theorem dX0_findCommon_73 : decode cX0_findCommon 73 = .ok (.iinc 3 1, 3) := by decide +kernel
theorem dX0_findCommon_76 : decode cX0_findCommon 76 = .ok (.goto 27, 3) := by decide +kernel
theorem dX0_findCommon_79 : decode cX0_findCommon 79 = .ok (.aload_n 0, 1) := by decide +kernel
theorem dX0_findCommon_80 : decode cX0_findCommon 80 = .ok (.getfield 27, 3) := by decide +kernel
theorem dX0_findCommon_83 : decode cX0_findCommon 83 = .ok (.invokevirtual 77, 3) := by decide +kernel
theorem dX0_findCommon_86 : decode cX0_findCommon 86 = .ok (.ifCond .ne 13, 3) := by decide +kernel
theorem dX0_findCommon_89 : decode cX0_findCommon 89 = .ok (.aload_n 0, 1) := by decide +kernel
theorem dX0_findCommon_90 : decode cX0_findCommon 90 = .ok (.getfield 27, 3) := by decide +kernel
theorem dX0_findCommon_93 : decode cX0_findCommon 93 = .ok (.invokevirtual 57, 3) := by decide +kernel
theorem dX0_findCommon_96 : decode cX0_findCommon 96 = .ok (.goto 7, 3) := by decide +kernel
theorem dX0_findCommon_99 : decode cX0_findCommon 99 = .ok (.aload_n 0, 1) := by decide +kernel
theorem dX0_findCommon_100 : decode cX0_findCommon 100 = .ok (.invokevirtual 81, 3) := by decide +kernel
theorem dX0_findCommon_103 : decode cX0_findCommon 103 = .ok (.iinc 4 1, 3) := by decide +kernel
theorem dX0_findCommon_106 : decode cX0_findCommon 106 = .ok (.goto (-85), 3) := by decide +kernel
theorem dX0_findCommon_109 : decode cX0_findCommon 109 = .ok (.iconst 0, 1) := by decide +kernel
theorem dX0_findCommon_110 : decode cX0_findCommon 110 = .ok (.istore 4, 2) := by decide +kernel
theorem dX0_findCommon_112 : decode cX0_findCommon 112 = .ok (.iload 4, 2) := by decide +kernel
theorem dX0_findCommon_114 : decode cX0_findCommon 114 = .ok (.iload_n 3, 1) := by decide +kernel
theorem dX0_findCommon_115 : decode cX0_findCommon 115 = .ok (.if_icmp .ge 16, 3) := by decide +kernel
theorem dX0_findCommon_118 : decode cX0_findCommon 118 = .ok (.aload_n 0, 1) := by decide +kernel
theorem dX0_findCommon_119 : decode cX0_findCommon 119 = .ok (.getfield 27, 3) := by decide +kernel
theorem dX0_findCommon_122 : decode cX0_findCommon 122 = .ok (.invokevirtual 64, 3) := by decide +kernel
theorem dX0_findCommon_125 : decode cX0_findCommon 125 = .ok (.iinc 4 1, 3) := by decide +kernel
theorem dX0_findCommon_128 : decode cX0_findCommon 128 = .ok (.goto (-16), 3) := by decide +kernel
theorem dX0_findCommon_131 : decode cX0_findCommon 131 = .ok (.return_, 1) := by decide +kernel
theorem dX0_takeLessFromGreater_0 : decode cX0_takeLessFromGreater 0 = .ok (.aload_n 0, 1) := by decide +kernel
theorem dX0_takeLessFromGreater_1 : decode cX0_takeLessFromGreater 1 = .ok (.getfield 27, 3) := by decide +kernel
theorem dX0_takeLessFromGreater_4 : decode cX0_takeLessFromGreater 4 = .ok (.aload_n 0, 1) := by decide +kernel
theorem dX0_takeLessFromGreater_5 : decode cX0_takeLessFromGreater 5 = .ok (.getfield 18, 3) := by decide +kernel
theorem dX0_takeLessFromGreater_8 : decode cX0_takeLessFromGreater 8 = .ok (.invokevirtual 60, 3) := by decide +kernel
theorem dX0_takeLessFromGreater_11 : decode cX0_takeLessFromGreater 11 = .ok (.ifCond .gt 24, 3) := by decide +kernel
theorem dX0_takeLessFromGreater_14 : decode cX0_takeLessFromGreater 14 = .ok (.aload_n 0, 1) := by decide +kernel
theorem dX0_takeLessFromGreater_15 : decode cX0_takeLessFromGreater 15 = .ok (.getfield 18, 3) := by decide +kernel
theorem dX0_takeLessFromGreater_18 : decode cX0_takeLessFromGreater 18 = .ok (.aload_n 0, 1) := by decide +kernel
theorem dX0_takeLessFromGreater_19 : decode cX0_takeLessFromGreater 19 = .ok (.getfield 27, 3) := by decide +kernel
theorem dX0_takeLessFromGreater_22 : decode cX0_takeLessFromGreater 22 = .ok (.invokevirtual 67, 3) := by decide +kernel
theorem dX0_takeLessFromGreater_25 : decode cX0_takeLessFromGreater 25 = .ok (.aload_n 0, 1) := by decide +kernel
theorem dX0_takeLessFromGreater_26 : decode cX0_takeLessFromGreater 26 = .ok (.getfield 18, 3) := by decide +kernel
theorem dX0_takeLessFromGreater_29 : decode cX0_takeLessFromGreater 29 = .ok (.invokevirtual 57, 3) := by decide +kernel
theorem dX0_takeLessFromGreater_32 : decode cX0_takeLessFromGreater 32 = .ok (.goto 21, 3) := by decide +kernel
theorem dX0_takeLessFromGreater_35 : decode cX0_takeLessFromGreater 35 = .ok (.aload_n 0, 1) := by decide +kernel
theorem dX0_takeLessFromGreater_36 : decode cX0_takeLessFromGreater 36 = .ok (.getfield 27, 3) := by decide +kernel
theorem dX0_takeLessFromGreater_39 : decode cX0_takeLessFromGreater 39 = .ok (.aload_n 0, 1) := by decide +kernel
theorem dX0_takeLessFromGreater_40 : decode cX0_takeLessFromGreater 40 = .ok (.getfield 18, 3) := by decide +kernel
theorem dX0_takeLessFromGreater_43 : decode cX0_takeLessFromGreater 43 = .ok (.invokevirtual 67, 3) := by decide +kernel
theorem dX0_takeLessFromGreater_46 : decode cX0_takeLessFromGreater 46 = .ok (.aload_n 0, 1) := by decide +kernel
theorem dX0_takeLessFromGreater_47 : decode cX0_takeLessFromGreater 47 = .ok (.getfield 27, 3) := by decide +kernel
theorem dX0_takeLessFromGreater_50 : decode cX0_takeLessFromGreater 50 = .ok (.invokevirtual 57, 3) := by decide +kernel
theorem dX0_takeLessFromGreater_53 : decode cX0_takeLessFromGreater 53 = .ok (.return_, 1) := by decide +kernel
theorem dX0_takeCommonOut_0 : decode cX0_takeCommonOut 0 = .ok (.aload_n 0, 1) := by decide +kernel
theorem dX0_takeCommonOut_1 : decode cX0_takeCommonOut 1 = .ok (.getfield 27, 3) := by decide +kernel
theorem dX0_takeCommonOut_4 : decode cX0_takeCommonOut 4 = .ok (.invokevirtual 84, 3) := by decide +kernel
theorem dX0_takeCommonOut_7 : decode cX0_takeCommonOut 7 = .ok (.ifCond .eq 4, 3) := by decide +kernel
theorem dX0_takeCommonOut_10 : decode cX0_takeCommonOut 10 = .ok (.return_, 1) := by decide +kernel
theorem dX0_takeCommonOut_11 : decode cX0_takeCommonOut 11 = .ok (.aload_n 1, 1) := by decide +kernel
theorem dX0_takeCommonOut_12 : decode cX0_takeCommonOut 12 = .ok (.invokevirtual 30, 3) := by decide +kernel
theorem dX0_takeCommonOut_15 : decode cX0_takeCommonOut 15 = .ok (.ifCond .ge 7, 3) := by decide +kernel
theorem dX0_takeCommonOut_18 : decode cX0_takeCommonOut 18 = .ok (.iconst 1, 1) := by decide +kernel
theorem dX0_takeCommonOut_19 : decode cX0_takeCommonOut 19 = .ok (.goto 4, 3) := by decide +kernel
theorem dX0_takeCommonOut_22 : decode cX0_takeCommonOut 22 = .ok (.iconst 0, 1) := by decide +kernel
theorem dX0_takeCommonOut_23 : decode cX0_takeCommonOut 23 = .ok (.istore_n 2, 1) := by decide +kernel
theorem dX0_takeCommonOut_24 : decode cX0_takeCommonOut 24 = .ok (.aload_n 0, 1) := by decide +kernel
theorem dX0_takeCommonOut_25 : decode cX0_takeCommonOut 25 = .ok (.aload_n 1, 1) := by decide +kernel
theorem dX0_takeCommonOut_26 : decode cX0_takeCommonOut 26 = .ok (.aload_n 0, 1) := by decide +kernel
theorem dX0_takeCommonOut_27 : decode cX0_takeCommonOut 27 = .ok (.getfield 27, 3) := by decide +kernel
theorem dX0_takeCommonOut_30 : decode cX0_takeCommonOut 30 = .ok (.invokevirtual 34, 3) := by decide +kernel
theorem dX0_takeCommonOut_33 : decode cX0_takeCommonOut 33 = .ok (.aload_n 1, 1) := by decide +kernel
theorem dX0_takeCommonOut_34 : decode cX0_takeCommonOut 34 = .ok (.aload_n 0, 1) := by decide +kernel
theorem dX0_takeCommonOut_35 : decode cX0_takeCommonOut 35 = .ok (.getfield 12, 3) := by decide +kernel
theorem dX0_takeCommonOut_38 : decode cX0_takeCommonOut 38 = .ok (.invokevirtual 54, 3) := by decide +kernel
theorem dX0_takeCommonOut_41 : decode cX0_takeCommonOut 41 = .ok (.iload_n 2, 1) := by decide +kernel
theorem dX0_takeCommonOut_42 : decode cX0_takeCommonOut 42 = .ok (.ifCond .eq 7, 3) := by decide +kernel
theorem dX0_takeCommonOut_45 : decode cX0_takeCommonOut 45 = .ok (.aload_n 1, 1) := by decide +kernel
theorem dX0_takeCommonOut_46 : decode cX0_takeCommonOut 46 = .ok (.invokevirtual 87, 3) := by decide +kernel
theorem dX0_takeCommonOut_49 : decode cX0_takeCommonOut 49 = .ok (.return_, 1) := by decide +kernel
theorem dX1_init_0 : decode cX1_init 0 = .ok (.aload_n 0, 1) := by decide +kernel
theorem dX1_init_1 : decode cX1_init 1 = .ok (.invokespecial 1, 3) := by decide +kernel
theorem dX1_init_4 : decode cX1_init 4 = .ok (.aload_n 0, 1) := by decide +kernel
theorem dX1_init_5 : decode cX1_init 5 = .ok (.new 7, 3) := by decide +kernel
theorem dX1_init_8 : decode cX1_init 8 = .ok (.dup, 1) := by decide +kernel
theorem dX1_init_9 : decode cX1_init 9 = .ok (.invokespecial 9, 3) := by decide +kernel
theorem dX1_init_12 : decode cX1_init 12 = .ok (.putfield 10, 3) := by decide +kernel
theorem dX1_init_15 : decode cX1_init 15 = .ok (.aload_n 0, 1) := by decide +kernel
theorem dX1_init_16 : decode cX1_init 16 = .ok (.new 7, 3) := by decide +kernel
theorem dX1_init_19 : decode cX1_init 19 = .ok (.dup, 1) := by decide +kernel
theorem dX1_init_20 : decode cX1_init 20 = .ok (.invokespecial 9, 3) := by decide +kernel
theorem dX1_init_23 : decode cX1_init 23 = .ok (.putfield 16, 3) := by decide +kernel
theorem dX1_init_26 : decode cX1_init 26 = .ok (.return_, 1) := by decide +kernel
theorem dX1_putWhole_0 : decode cX1_putWhole 0 = .ok (.aload_n 0, 1) := by decide +kernel
theorem dX1_putWhole_1 : decode cX1_putWhole 1 = .ok (.getfield 10, 3) := by decide +kernel
theorem dX1_putWhole_4 : decode cX1_putWhole 4 = .ok (.lload_n 1, 1) := by decide +kernel
theorem dX1_putWhole_5 : decode cX1_putWhole 5 = .ok (.invokevirtual 19, 3) := by decide +kernel
theorem dX1_putWhole_8 : decode cX1_putWhole 8 = .ok (.aload_n 0, 1) := by decide +kernel
theorem dX1_putWhole_9 : decode cX1_putWhole 9 = .ok (.getfield 16, 3) := by decide +kernel
theorem dX1_putWhole_12 : decode cX1_putWhole 12 = .ok (.lconst 1, 1) := by decide +kernel
theorem dX1_putWhole_13 : decode cX1_putWhole 13 = .ok (.invokevirtual 19, 3) := by decide +kernel
theorem dX1_putWhole_16 : decode cX1_putWhole 16 = .ok (.return_, 1) := by decide +kernel
theorem dX1_putOnWay_0 : decode cX1_putOnWay 0 = .ok (.aload_n 0, 1) := by decide +kernel
theorem dX1_putOnWay_1 : decode cX1_putOnWay 1 = .ok (.getfield 10, 3) := by decide +kernel
theorem dX1_putOnWay_4 : decode cX1_putOnWay 4 = .ok (.lconst 0, 1) := by decide +kernel
theorem dX1_putOnWay_5 : decode cX1_putOnWay 5 = .ok (.invokevirtual 19, 3) := by decide +kernel
theorem dX1_putOnWay_8 : decode cX1_putOnWay 8 = .ok (.aload_n 0, 1) := by decide +kernel
theorem dX1_putOnWay_9 : decode cX1_putOnWay 9 = .ok (.getfield 10, 3) := by decide +kernel
theorem dX1_putOnWay_12 : decode cX1_putOnWay 12 = .ok (.aload 6, 2) := by decide +kernel
theorem dX1_putOnWay_14 : decode cX1_putOnWay 14 = .ok (.lload_n 1, 1) := by decide +kernel
theorem dX1_putOnWay_15 : decode cX1_putOnWay 15 = .ok (.invokevirtual 23, 3) := by decide +kernel
theorem dX1_putOnWay_18 : decode cX1_putOnWay 18 = .ok (.aload_n 0, 1) := by decide +kernel
theorem dX1_putOnWay_19 : decode cX1_putOnWay 19 = .ok (.getfield 10, 3) := by decide +kernel
theorem dX1_putOnWay_22 : decode cX1_putOnWay 22 = .ok (.aload 5, 2) := by decide +kernel
theorem dX1_putOnWay_24 : decode cX1_putOnWay 24 = .ok (.lload_n 3, 1) := by decide +kernel
theorem dX1_putOnWay_25 : decode cX1_putOnWay 25 = .ok (.invokevirtual 23, 3) := by decide +kernel
theorem dX1_putOnWay_28 : decode cX1_putOnWay 28 = .ok (.aload_n 0, 1) := by decide +kernel
theorem dX1_putOnWay_29 : decode cX1_putOnWay 29 = .ok (.getfield 16, 3) := by decide +kernel
theorem dX1_putOnWay_32 : decode cX1_putOnWay 32 = .ok (.aload 6, 2) := by decide +kernel
theorem dX1_putOnWay_34 : decode cX1_putOnWay 34 = .ok (.invokevirtual 27, 3) := by decide +kernel
theorem dX1_putOnWay_37 : decode cX1_putOnWay 37 = .ok (.return_, 1) := by decide +kernel
theorem dX1_reduce_0 : decode cX1_reduce 0 = .ok (.aload_n 1, 1) := by decide +kernel
theorem dX1_reduce_1 : decode cX1_reduce 1 = .ok (.aload_n 0, 1) := by decide +kernel
theorem dX1_reduce_2 : decode cX1_reduce 2 = .ok (.getfield 10, 3) := by decide +kernel
theorem dX1_reduce_5 : decode cX1_reduce 5 = .ok (.aload_n 0, 1) := by decide +kernel
theorem dX1_reduce_6 : decode cX1_reduce 6 = .ok (.getfield 16, 3) := by decide +kernel
theorem dX1_reduce_9 : decode cX1_reduce 9 = .ok (.invokevirtual 31, 3) := by decide +kernel
theorem dX1_reduce_12 : decode cX1_reduce 12 = .ok (.aload_n 1, 1) := by decide +kernel
theorem dX1_reduce_13 : decode cX1_reduce 13 = .ok (.aload_n 0, 1) := by decide +kernel
theorem dX1_reduce_14 : decode cX1_reduce 14 = .ok (.getfield 10, 3) := by decide +kernel
theorem dX1_reduce_17 : decode cX1_reduce 17 = .ok (.invokevirtual 37, 3) := by decide +kernel
theorem dX1_reduce_20 : decode cX1_reduce 20 = .ok (.aload_n 1, 1) := by decide +kernel
theorem dX1_reduce_21 : decode cX1_reduce 21 = .ok (.aload_n 0, 1) := by decide +kernel
theorem dX1_reduce_22 : decode cX1_reduce 22 = .ok (.getfield 16, 3) := by decide +kernel
theorem dX1_reduce_25 : decode cX1_reduce 25 = .ok (.invokevirtual 37, 3) := by decide +kernel
theorem dX1_reduce_28 : decode cX1_reduce 28 = .ok (.return_, 1) := by decide +kernel
theorem dJ9_floorDiv_f86c9_0 : decode cJ9_floorDiv_f86c9 0 = .ok (.lload_n 0, 1) := by decide +kernel
theorem dJ9_floorDiv_f86c9_1 : decode cJ9_floorDiv_f86c9 1 = .ok (.lload_n 2, 1) := by decide +kernel
theorem dJ9_floorDiv_f86c9_2 : decode cJ9_floorDiv_f86c9 2 = .ok (.ldiv, 1) := by decide +kernel
theorem dJ9_floorDiv_f86c9_3 : decode cJ9_floorDiv_f86c9 3 = .ok (.lstore 4, 2) := by decide +kernel
theorem dJ9_floorDiv_f86c9_5 : decode cJ9_floorDiv_f86c9 5 = .ok (.lload_n 0, 1) := by decide +kernel
theorem dJ9_floorDiv_f86c9_6 : decode cJ9_floorDiv_f86c9 6 = .ok (.lload_n 2, 1) := by decide +kernel
theorem dJ9_floorDiv_f86c9_7 : decode cJ9_floorDiv_f86c9 7 = .ok (.lxor, 1) := by decide +kernel
theorem dJ9_floorDiv_f86c9_8 : decode cJ9_floorDiv_f86c9 8 = .ok (.lconst 0, 1) := by decide +kernel
theorem dJ9_floorDiv_f86c9_9 : decode cJ9_floorDiv_f86c9 9 = .ok (.lcmp, 1) := by decide +kernel
theorem dJ9_floorDiv_f86c9_10 : decode cJ9_floorDiv_f86c9 10 = .ok (.ifCond .ge 17, 3) := by decide +kernel
theorem dJ9_floorDiv_f86c9_13 : decode cJ9_floorDiv_f86c9 13 = .ok (.lload 4, 2) := by decide +kernel
theorem dJ9_floorDiv_f86c9_15 : decode cJ9_floorDiv_f86c9 15 = .ok (.lload_n 2, 1) := by decide +kernel
theorem dJ9_floorDiv_f86c9_16 : decode cJ9_floorDiv_f86c9 16 = .ok (.lmul, 1) := by decide +kernel
theorem dJ9_floorDiv_f86c9_17 : decode cJ9_floorDiv_f86c9 17 = .ok (.lload_n 0, 1) := by decide +kernel
theorem dJ9_floorDiv_f86c9_18 : decode cJ9_floorDiv_f86c9 18 = .ok (.lcmp, 1) := by decide +kernel
theorem dJ9_floorDiv_f86c9_19 : decode cJ9_floorDiv_f86c9 19 = .ok (.ifCond .eq 8, 3) := by decide +kernel
theorem dJ9_floorDiv_f86c9_22 : decode cJ9_floorDiv_f86c9 22 = .ok (.lload 4, 2) := by decide +kernel
theorem dJ9_floorDiv_f86c9_24 : decode cJ9_floorDiv_f86c9 24 = .ok (.lconst 1, 1) := by decide +kernel
theorem dJ9_floorDiv_f86c9_25 : decode cJ9_floorDiv_f86c9 25 = .ok (.lsub, 1) := by decide +kernel
theorem dJ9_floorDiv_f86c9_26 : decode cJ9_floorDiv_f86c9 26 = .ok (.lreturn, 1) := by decide +kernel
theorem dJ9_floorDiv_f86c9_27 : decode cJ9_floorDiv_f86c9 27 = .ok (.lload 4, 2) := by decide +kernel
theorem dJ9_floorDiv_f86c9_29 : decode cJ9_floorDiv_f86c9 29 = .ok (.lreturn, 1) := by decide +kernel
theorem dJ9_floorMod_f86c9_0 : decode cJ9_floorMod_f86c9 0 = .ok (.lload_n 0, 1) := by decide +kernel
theorem dJ9_floorMod_f86c9_1 : decode cJ9_floorMod_f86c9 1 = .ok (.lload_n 2, 1) := by decide +kernel
theorem dJ9_floorMod_f86c9_2 : decode cJ9_floorMod_f86c9 2 = .ok (.lrem, 1) := by decide +kernel
theorem dJ9_floorMod_f86c9_3 : decode cJ9_floorMod_f86c9 3 = .ok (.lstore 4, 2) := by decide +kernel
theorem dJ9_floorMod_f86c9_5 : decode cJ9_floorMod_f86c9 5 = .ok (.lload_n 0, 1) := by decide +kernel
theorem dJ9_floorMod_f86c9_6 : decode cJ9_floorMod_f86c9 6 = .ok (.lload_n 2, 1) := by decide +kernel
theorem dJ9_floorMod_f86c9_7 : decode cJ9_floorMod_f86c9 7 = .ok (.lxor, 1) := by decide +kernel
theorem dJ9_floorMod_f86c9_8 : decode cJ9_floorMod_f86c9 8 = .ok (.lconst 0, 1) := by decide +kernel
theorem dJ9_floorMod_f86c9_9 : decode cJ9_floorMod_f86c9 9 = .ok (.lcmp, 1) := by decide +kernel
theorem dJ9_floorMod_f86c9_10 : decode cJ9_floorMod_f86c9 10 = .ok (.ifCond .ge 15, 3) := by decide +kernel
theorem dJ9_floorMod_f86c9_13 : decode cJ9_floorMod_f86c9 13 = .ok (.lload 4, 2) := by decide +kernel
theorem dJ9_floorMod_f86c9_15 : decode cJ9_floorMod_f86c9 15 = .ok (.lconst 0, 1) := by decide +kernel
theorem dJ9_floorMod_f86c9_16 : decode cJ9_floorMod_f86c9 16 = .ok (.lcmp, 1) := by decide +kernel
theorem dJ9_floorMod_f86c9_17 : decode cJ9_floorMod_f86c9 17 = .ok (.ifCond .eq 8, 3) := by decide +kernel
theorem dJ9_floorMod_f86c9_20 : decode cJ9_floorMod_f86c9 20 = .ok (.lload 4, 2) := by decide +kernel
theorem dJ9_floorMod_f86c9_22 : decode cJ9_floorMod_f86c9 22 = .ok (.lload_n 2, 1) := by decide +kernel
theorem dJ9_floorMod_f86c9_23 : decode cJ9_floorMod_f86c9 23 = .ok (.ladd, 1) := by decide +kernel
theorem dJ9_floorMod_f86c9_24 : decode cJ9_floorMod_f86c9 24 = .ok (.lreturn, 1) := by decide +kernel
theorem dJ9_floorMod_f86c9_25 : decode cJ9_floorMod_f86c9 25 = .ok (.lload 4, 2) := by decide +kernel
theorem dJ9_floorMod_f86c9_27 : decode cJ9_floorMod_f86c9 27 = .ok (.lreturn, 1) := by decide +kernel
theorem dJ9_max_f86c9_0 : decode cJ9_max_f86c9 0 = .ok (.lload_n 0, 1) := by decide +kernel
theorem dJ9_max_f86c9_1 : decode cJ9_max_f86c9 1 = .ok (.lload_n 2, 1) := by decide +kernel
theorem dJ9_max_f86c9_2 : decode cJ9_max_f86c9 2 = .ok (.lcmp, 1) := by decide +kernel
theorem dJ9_max_f86c9_3 : decode cJ9_max_f86c9 3 = .ok (.ifCond .lt 7, 3) := by decide +kernel
theorem dJ9_max_f86c9_6 : decode cJ9_max_f86c9 6 = .ok (.lload_n 0, 1) := by decide +kernel
theorem dJ9_max_f86c9_7 : decode cJ9_max_f86c9 7 = .ok (.goto 4, 3) := by decide +kernel
theorem dJ9_max_f86c9_10 : decode cJ9_max_f86c9 10 = .ok (.lload_n 2, 1) := by decide +kernel
theorem dJ9_max_f86c9_11 : decode cJ9_max_f86c9 11 = .ok (.lreturn, 1) := by decide +kernel
theorem dJ9_min_f86c9_0 : decode cJ9_min_f86c9 0 = .ok (.lload_n 0, 1) := by decide +kernel
theorem dJ9_min_f86c9_1 : decode cJ9_min_f86c9 1 = .ok (.lload_n 2, 1) := by decide +kernel
theorem dJ9_min_f86c9_2 : decode cJ9_min_f86c9 2 = .ok (.lcmp, 1) := by decide +kernel
theorem dJ9_min_f86c9_3 : decode cJ9_min_f86c9 3 = .ok (.ifCond .gt 7, 3) := by decide +kernel
theorem dJ9_min_f86c9_6 : decode cJ9_min_f86c9 6 = .ok (.lload_n 0, 1) := by decide +kernel
theorem dJ9_min_f86c9_7 : decode cJ9_min_f86c9 7 = .ok (.goto 4, 3) := by decide +kernel
theorem dJ9_min_f86c9_10 : decode cJ9_min_f86c9 10 = .ok (.lload_n 2, 1) := by decide +kernel
theorem dJ9_min_f86c9_11 : decode cJ9_min_f86c9 11 = .ok (.lreturn, 1) := by decide +kernel
