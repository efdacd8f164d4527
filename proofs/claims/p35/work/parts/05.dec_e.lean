theorem dX10_found_0 : decode cX10_found 0 = .ok (.iload_n 1, 1) := by decide +kernel
theorem dX10_found_1 : decode cX10_found 1 = .ok (.i2l, 1) := by decide +kernel
theorem dX10_found_2 : decode cX10_found 2 = .ok (.lconst 0, 1) := by decide +kernel
theorem dX10_found_3 : decode cX10_found 3 = .ok (.ldc2_w 122, 3) := by decide +kernel
theorem dX10_found_6 : decode cX10_found 6 = .ok (.invokestatic 114, 3) := by decide +kernel
theorem dX10_found_9 : decode cX10_found 9 = .ok (.ifCond .eq 12, 3) := by decide +kernel
theorem dX10_found_12 : decode cX10_found 12 = .ok (.aload_n 0, 1) := by decide +kernel
theorem dX10_found_13 : decode cX10_found 13 = .ok (.getfield 23, 3) := by decide +kernel
theorem dX10_found_16 : decode cX10_found 16 = .ok (.iload_n 1, 1) := by decide +kernel
theorem dX10_found_17 : decode cX10_found 17 = .ok (.iaload, 1) := by decide +kernel
theorem dX10_found_18 : decode cX10_found 18 = .ok (.goto 28, 3) := by decide +kernel
theorem dX10_found_21 : decode cX10_found 21 = .ok (.iload_n 1, 1) := by decide +kernel
theorem dX10_found_22 : decode cX10_found 22 = .ok (.iconst 3, 1) := by decide +kernel
theorem dX10_found_23 : decode cX10_found 23 = .ok (.if_icmp .ne 10, 3) := by decide +kernel
theorem dX10_found_26 : decode cX10_found 26 = .ok (.aload_n 0, 1) := by decide +kernel
theorem dX10_found_27 : decode cX10_found 27 = .ok (.getfield 153, 3) := by decide +kernel
theorem dX10_found_30 : decode cX10_found 30 = .ok (.goto 16, 3) := by decide +kernel
theorem dX10_found_33 : decode cX10_found 33 = .ok (.iload_n 1, 1) := by decide +kernel
theorem dX10_found_34 : decode cX10_found 34 = .ok (.iconst 4, 1) := by decide +kernel
theorem dX10_found_35 : decode cX10_found 35 = .ok (.if_icmp .ne 10, 3) := by decide +kernel
theorem dX10_found_38 : decode cX10_found 38 = .ok (.aload_n 0, 1) := by decide +kernel
theorem dX10_found_39 : decode cX10_found 39 = .ok (.getfield 164, 3) := by decide +kernel
theorem dX10_found_42 : decode cX10_found 42 = .ok (.goto 4, 3) := by decide +kernel
theorem dX10_found_45 : decode cX10_found 45 = .ok (.iconst 0, 1) := by decide +kernel
theorem dX10_found_46 : decode cX10_found 46 = .ok (.ireturn, 1) := by decide +kernel
theorem dX10_point_0 : decode cX10_point 0 = .ok (.iload_n 1, 1) := by decide +kernel
theorem dX10_point_1 : decode cX10_point 1 = .ok (.invokestatic 138, 3) := by decide +kernel
theorem dX10_point_4 : decode cX10_point 4 = .ok (.ifCond .eq 41, 3) := by decide +kernel
theorem dX10_point_7 : decode cX10_point 7 = .ok (.iload_n 2, 1) := by decide +kernel
theorem dX10_point_8 : decode cX10_point 8 = .ok (.invokestatic 138, 3) := by decide +kernel
theorem dX10_point_11 : decode cX10_point 11 = .ok (.ifCond .eq 34, 3) := by decide +kernel
theorem dX10_point_14 : decode cX10_point 14 = .ok (.iload_n 3, 1) := by decide +kernel
theorem dX10_point_15 : decode cX10_point 15 = .ok (.invokestatic 138, 3) := by decide +kernel
theorem dX10_point_18 : decode cX10_point 18 = .ok (.ifCond .eq 27, 3) := by decide +kernel
theorem dX10_point_21 : decode cX10_point 21 = .ok (.iload 4, 2) := by decide +kernel
theorem dX10_point_23 : decode cX10_point 23 = .ok (.invokestatic 150, 3) := by decide +kernel
theorem dX10_point_26 : decode cX10_point 26 = .ok (.ifCond .eq 19, 3) := by decide +kernel
theorem dX10_point_29 : decode cX10_point 29 = .ok (.iload 5, 2) := by decide +kernel
theorem dX10_point_31 : decode cX10_point 31 = .ok (.invokestatic 150, 3) := by decide +kernel
theorem dX10_point_34 : decode cX10_point 34 = .ok (.ifCond .eq 11, 3) := by decide +kernel
theorem dX10_point_37 : decode cX10_point 37 = .ok (.iload 6, 2) := by decide +kernel
theorem dX10_point_39 : decode cX10_point 39 = .ok (.invokestatic 150, 3) := by decide +kernel
theorem dX10_point_42 : decode cX10_point 42 = .ok (.ifCond .ne 5, 3) := by decide +kernel
theorem dX10_point_45 : decode cX10_point 45 = .ok (.iconst (-1), 1) := by decide +kernel
theorem dX10_point_46 : decode cX10_point 46 = .ok (.ireturn, 1) := by decide +kernel
theorem dX10_point_47 : decode cX10_point 47 = .ok (.aload_n 0, 1) := by decide +kernel
theorem dX10_point_48 : decode cX10_point 48 = .ok (.getfield 170, 3) := by decide +kernel
theorem dX10_point_51 : decode cX10_point 51 = .ok (.bipush 12, 2) := by decide +kernel
theorem dX10_point_53 : decode cX10_point 53 = .ok (.if_icmp .ne 6, 3) := by decide +kernel
theorem dX10_point_56 : decode cX10_point 56 = .ok (.bipush (-3), 2) := by decide +kernel
theorem dX10_point_58 : decode cX10_point 58 = .ok (.ireturn, 1) := by decide +kernel
theorem dX10_point_59 : decode cX10_point 59 = .ok (.iconst 3, 1) := by decide +kernel
theorem dX10_point_60 : decode cX10_point 60 = .ok (.aload_n 0, 1) := by decide +kernel
theorem dX10_point_61 : decode cX10_point 61 = .ok (.getfield 170, 3) := by decide +kernel
theorem dX10_point_64 : decode cX10_point 64 = .ok (.imul, 1) := by decide +kernel
theorem dX10_point_65 : decode cX10_point 65 = .ok (.istore 7, 2) := by decide +kernel
theorem dX10_point_67 : decode cX10_point 67 = .ok (.aload_n 0, 1) := by decide +kernel
theorem dX10_point_68 : decode cX10_point 68 = .ok (.getfield 26, 3) := by decide +kernel
theorem dX10_point_71 : decode cX10_point 71 = .ok (.iload 7, 2) := by decide +kernel
theorem dX10_point_73 : decode cX10_point 73 = .ok (.iload_n 1, 1) := by decide +kernel
theorem dX10_point_74 : decode cX10_point 74 = .ok (.iastore, 1) := by decide +kernel
theorem dX10_point_75 : decode cX10_point 75 = .ok (.aload_n 0, 1) := by decide +kernel
theorem dX10_point_76 : decode cX10_point 76 = .ok (.getfield 26, 3) := by decide +kernel
theorem dX10_point_79 : decode cX10_point 79 = .ok (.iload 7, 2) := by decide +kernel
theorem dX10_point_81 : decode cX10_point 81 = .ok (.iconst 1, 1) := by decide +kernel
theorem dX10_point_82 : decode cX10_point 82 = .ok (.iadd, 1) := by decide +kernel
theorem dX10_point_83 : decode cX10_point 83 = .ok (.iload_n 2, 1) := by decide +kernel
theorem dX10_point_84 : decode cX10_point 84 = .ok (.iastore, 1) := by decide +kernel
theorem dX10_point_85 : decode cX10_point 85 = .ok (.aload_n 0, 1) := by decide +kernel
theorem dX10_point_86 : decode cX10_point 86 = .ok (.getfield 26, 3) := by decide +kernel
theorem dX10_point_89 : decode cX10_point 89 = .ok (.iload 7, 2) := by decide +kernel
theorem dX10_point_91 : decode cX10_point 91 = .ok (.iconst 2, 1) := by decide +kernel
theorem dX10_point_92 : decode cX10_point 92 = .ok (.iadd, 1) := by decide +kernel
theorem dX10_point_93 : decode cX10_point 93 = .ok (.iload_n 3, 1) := by decide +kernel
theorem dX10_point_94 : decode cX10_point 94 = .ok (.iastore, 1) := by decide +kernel
theorem dX10_point_95 : decode cX10_point 95 = .ok (.aload_n 0, 1) := by decide +kernel
theorem dX10_point_96 : decode cX10_point 96 = .ok (.getfield 29, 3) := by decide +kernel
theorem dX10_point_99 : decode cX10_point 99 = .ok (.iload 7, 2) := by decide +kernel
theorem dX10_point_101 : decode cX10_point 101 = .ok (.iload 4, 2) := by decide +kernel
theorem dX10_point_103 : decode cX10_point 103 = .ok (.iastore, 1) := by decide +kernel
theorem dX10_point_104 : decode cX10_point 104 = .ok (.aload_n 0, 1) := by decide +kernel
theorem dX10_point_105 : decode cX10_point 105 = .ok (.getfield 29, 3) := by decide +kernel
theorem dX10_point_108 : decode cX10_point 108 = .ok (.iload 7, 2) := by decide +kernel
theorem dX10_point_110 : decode cX10_point 110 = .ok (.iconst 1, 1) := by decide +kernel
theorem dX10_point_111 : decode cX10_point 111 = .ok (.iadd, 1) := by decide +kernel
theorem dX10_point_112 : decode cX10_point 112 = .ok (.iload 5, 2) := by decide +kernel
theorem dX10_point_114 : decode cX10_point 114 = .ok (.iastore, 1) := by decide +kernel
theorem dX10_point_115 : decode cX10_point 115 = .ok (.aload_n 0, 1) := by decide +kernel
theorem dX10_point_116 : decode cX10_point 116 = .ok (.getfield 29, 3) := by decide +kernel
theorem dX10_point_119 : decode cX10_point 119 = .ok (.iload 7, 2) := by decide +kernel
theorem dX10_point_121 : decode cX10_point 121 = .ok (.iconst 2, 1) := by decide +kernel
theorem dX10_point_122 : decode cX10_point 122 = .ok (.iadd, 1) := by decide +kernel
theorem dX10_point_123 : decode cX10_point 123 = .ok (.iload 6, 2) := by decide +kernel
theorem dX10_point_125 : decode cX10_point 125 = .ok (.iastore, 1) := by decide +kernel
theorem dX10_point_126 : decode cX10_point 126 = .ok (.aload_n 0, 1) := by decide +kernel
theorem dX10_point_127 : decode cX10_point 127 = .ok (.dup, 1) := by decide +kernel
theorem dX10_point_128 : decode cX10_point 128 = .ok (.getfield 170, 3) := by decide +kernel
theorem dX10_point_131 : decode cX10_point 131 = .ok (.iconst 1, 1) := by decide +kernel
theorem dX10_point_132 : decode cX10_point 132 = .ok (.iadd, 1) := by decide +kernel
theorem dX10_point_133 : decode cX10_point 133 = .ok (.putfield 170, 3) := by decide +kernel
theorem dX10_point_136 : decode cX10_point 136 = .ok (.aload_n 0, 1) := by decide +kernel
theorem dX10_point_137 : decode cX10_point 137 = .ok (.getfield 170, 3) := by decide +kernel
theorem dX10_point_140 : decode cX10_point 140 = .ok (.ireturn, 1) := by decide +kernel
theorem dX10_divisor_0 : decode cX10_divisor 0 = .ok (.lload_n 0, 1) := by decide +kernel
theorem dX10_divisor_1 : decode cX10_divisor 1 = .ok (.lconst 0, 1) := by decide +kernel
theorem dX10_divisor_2 : decode cX10_divisor 2 = .ok (.lcmp, 1) := by decide +kernel
theorem dX10_divisor_3 : decode cX10_divisor 3 = .ok (.ifCond .ge 8, 3) := by decide +kernel
theorem dX10_divisor_6 : decode cX10_divisor 6 = .ok (.lload_n 0, 1) := by decide +kernel
theorem dX10_divisor_7 : decode cX10_divisor 7 = .ok (.lneg, 1) := by decide +kernel
theorem dX10_divisor_8 : decode cX10_divisor 8 = .ok (.goto 4, 3) := by decide +kernel
theorem dX10_divisor_11 : decode cX10_divisor 11 = .ok (.lload_n 0, 1) := by decide +kernel
theorem dX10_divisor_12 : decode cX10_divisor 12 = .ok (.lstore 4, 2) := by decide +kernel
theorem dX10_divisor_14 : decode cX10_divisor 14 = .ok (.lload_n 2, 1) := by decide +kernel
theorem dX10_divisor_15 : decode cX10_divisor 15 = .ok (.lconst 0, 1) := by decide +kernel
theorem dX10_divisor_16 : decode cX10_divisor 16 = .ok (.lcmp, 1) := by decide +kernel
theorem dX10_divisor_17 : decode cX10_divisor 17 = .ok (.ifCond .ge 8, 3) := by decide +kernel
theorem dX10_divisor_20 : decode cX10_divisor 20 = .ok (.lload_n 2, 1) := by decide +kernel
theorem dX10_divisor_21 : decode cX10_divisor 21 = .ok (.lneg, 1) := by decide +kernel
theorem dX10_divisor_22 : decode cX10_divisor 22 = .ok (.goto 4, 3) := by decide +kernel
theorem dX10_divisor_25 : decode cX10_divisor 25 = .ok (.lload_n 2, 1) := by decide +kernel
theorem dX10_divisor_26 : decode cX10_divisor 26 = .ok (.lstore 6, 2) := by decide +kernel
theorem dX10_divisor_28 : decode cX10_divisor 28 = .ok (.lload 6, 2) := by decide +kernel
theorem dX10_divisor_30 : decode cX10_divisor 30 = .ok (.lconst 0, 1) := by decide +kernel
theorem dX10_divisor_31 : decode cX10_divisor 31 = .ok (.lcmp, 1) := by decide +kernel
theorem dX10_divisor_32 : decode cX10_divisor 32 = .ok (.ifCond .eq 21, 3) := by decide +kernel
theorem dX10_divisor_35 : decode cX10_divisor 35 = .ok (.lload 4, 2) := by decide +kernel
theorem dX10_divisor_37 : decode cX10_divisor 37 = .ok (.lload 6, 2) := by decide +kernel
theorem dX10_divisor_39 : decode cX10_divisor 39 = .ok (.lrem, 1) := by decide +kernel
theorem dX10_divisor_40 : decode cX10_divisor 40 = .ok (.lstore 8, 2) := by decide +kernel
theorem dX10_divisor_42 : decode cX10_divisor 42 = .ok (.lload 6, 2) := by decide +kernel
theorem dX10_divisor_44 : decode cX10_divisor 44 = .ok (.lstore 4, 2) := by decide +kernel
theorem dX10_divisor_46 : decode cX10_divisor 46 = .ok (.lload 8, 2) := by decide +kernel
theorem dX10_divisor_48 : decode cX10_divisor 48 = .ok (.lstore 6, 2) := by decide +kernel
theorem dX10_divisor_50 : decode cX10_divisor 50 = .ok (.goto (-22), 3) := by decide +kernel
theorem dX10_divisor_53 : decode cX10_divisor 53 = .ok (.lload 4, 2) := by decide +kernel
theorem dX10_divisor_55 : decode cX10_divisor 55 = .ok (.lreturn, 1) := by decide +kernel
theorem dX10_fit_0 : decode cX10_fit 0 = .ok (.iload_n 1, 1) := by decide +kernel
theorem dX10_fit_1 : decode cX10_fit 1 = .ok (.i2l, 1) := by decide +kernel
theorem dX10_fit_2 : decode cX10_fit 2 = .ok (.lconst 0, 1) := by decide +kernel
theorem dX10_fit_3 : decode cX10_fit 3 = .ok (.ldc2_w 122, 3) := by decide +kernel
theorem dX10_fit_6 : decode cX10_fit 6 = .ok (.invokestatic 114, 3) := by decide +kernel
theorem dX10_fit_9 : decode cX10_fit 9 = .ok (.ifCond .eq 25, 3) := by decide +kernel
theorem dX10_fit_12 : decode cX10_fit 12 = .ok (.iload_n 2, 1) := by decide +kernel
theorem dX10_fit_13 : decode cX10_fit 13 = .ok (.i2l, 1) := by decide +kernel
theorem dX10_fit_14 : decode cX10_fit 14 = .ok (.lconst 0, 1) := by decide +kernel
theorem dX10_fit_15 : decode cX10_fit 15 = .ok (.ldc2_w 122, 3) := by decide +kernel
theorem dX10_fit_18 : decode cX10_fit 18 = .ok (.invokestatic 114, 3) := by decide +kernel
theorem dX10_fit_21 : decode cX10_fit 21 = .ok (.ifCond .eq 13, 3) := by decide +kernel
theorem dX10_fit_24 : decode cX10_fit 24 = .ok (.iload_n 3, 1) := by decide +kernel
theorem dX10_fit_25 : decode cX10_fit 25 = .ok (.i2l, 1) := by decide +kernel
theorem dX10_fit_26 : decode cX10_fit 26 = .ok (.lconst 0, 1) := by decide +kernel
theorem dX10_fit_27 : decode cX10_fit 27 = .ok (.lconst 1, 1) := by decide +kernel
theorem dX10_fit_28 : decode cX10_fit 28 = .ok (.invokestatic 114, 3) := by decide +kernel
theorem dX10_fit_31 : decode cX10_fit 31 = .ok (.ifCond .ne 7, 3) := by decide +kernel
theorem dX10_fit_34 : decode cX10_fit 34 = .ok (.ldc2_w 173, 3) := by decide +kernel
theorem dX10_fit_37 : decode cX10_fit 37 = .ok (.lreturn, 1) := by decide +kernel
theorem dX10_fit_38 : decode cX10_fit 38 = .ok (.iconst 0, 1) := by decide +kernel
theorem dX10_fit_39 : decode cX10_fit 39 = .ok (.istore 4, 2) := by decide +kernel
theorem dX10_fit_41 : decode cX10_fit 41 = .ok (.iload 4, 2) := by decide +kernel
theorem dX10_fit_43 : decode cX10_fit 43 = .ok (.iconst 3, 1) := by decide +kernel
theorem dX10_fit_44 : decode cX10_fit 44 = .ok (.if_icmp .ge 155, 3) := by decide +kernel
theorem dX10_fit_47 : decode cX10_fit 47 = .ok (.aload_n 0, 1) := by decide +kernel
theorem dX10_fit_48 : decode cX10_fit 48 = .ok (.getfield 20, 3) := by decide +kernel
theorem dX10_fit_51 : decode cX10_fit 51 = .ok (.iload 4, 2) := by decide +kernel
theorem dX10_fit_53 : decode cX10_fit 53 = .ok (.lconst 0, 1) := by decide +kernel
theorem dX10_fit_54 : decode cX10_fit 54 = .ok (.lastore, 1) := by decide +kernel
theorem dX10_fit_55 : decode cX10_fit 55 = .ok (.iconst 0, 1) := by decide +kernel
theorem dX10_fit_56 : decode cX10_fit 56 = .ok (.istore 5, 2) := by decide +kernel
theorem dX10_fit_58 : decode cX10_fit 58 = .ok (.iload 5, 2) := by decide +kernel
theorem dX10_fit_60 : decode cX10_fit 60 = .ok (.iconst 3, 1) := by decide +kernel
theorem dX10_fit_61 : decode cX10_fit 61 = .ok (.if_icmp .ge 22, 3) := by decide +kernel
theorem dX10_fit_64 : decode cX10_fit 64 = .ok (.aload_n 0, 1) := by decide +kernel
theorem dX10_fit_65 : decode cX10_fit 65 = .ok (.getfield 16, 3) := by decide +kernel
theorem dX10_fit_68 : decode cX10_fit 68 = .ok (.iconst 3, 1) := by decide +kernel
theorem dX10_fit_69 : decode cX10_fit 69 = .ok (.iload 4, 2) := by decide +kernel
theorem dX10_fit_71 : decode cX10_fit 71 = .ok (.imul, 1) := by decide +kernel
theorem dX10_fit_72 : decode cX10_fit 72 = .ok (.iload 5, 2) := by decide +kernel
theorem dX10_fit_74 : decode cX10_fit 74 = .ok (.iadd, 1) := by decide +kernel
theorem dX10_fit_75 : decode cX10_fit 75 = .ok (.lconst 0, 1) := by decide +kernel
theorem dX10_fit_76 : decode cX10_fit 76 = .ok (.lastore, 1) := by decide +kernel
theorem dX10_fit_77 : decode cX10_fit 77 = .ok (.iinc 5 1, 3) := by decide +kernel
theorem dX10_fit_80 : decode cX10_fit 80 = .ok (.goto (-22), 3) := by decide +kernel
theorem dX10_fit_83 : decode cX10_fit 83 = .ok (.iconst 0, 1) := by decide +kernel
theorem dX10_fit_84 : decode cX10_fit 84 = .ok (.istore 5, 2) := by decide +kernel
theorem dX10_fit_86 : decode cX10_fit 86 = .ok (.iload 5, 2) := by decide +kernel
theorem dX10_fit_88 : decode cX10_fit 88 = .ok (.aload_n 0, 1) := by decide +kernel
theorem dX10_fit_89 : decode cX10_fit 89 = .ok (.getfield 170, 3) := by decide +kernel
theorem dX10_fit_92 : decode cX10_fit 92 = .ok (.if_icmp .ge 101, 3) := by decide +kernel
theorem dX10_fit_95 : decode cX10_fit 95 = .ok (.aload_n 0, 1) := by decide +kernel
theorem dX10_fit_96 : decode cX10_fit 96 = .ok (.getfield 20, 3) := by decide +kernel
theorem dX10_fit_99 : decode cX10_fit 99 = .ok (.iload 4, 2) := by decide +kernel
theorem dX10_fit_101 : decode cX10_fit 101 = .ok (.dup2, 1) := by decide +kernel
theorem dX10_fit_102 : decode cX10_fit 102 = .ok (.laload, 1) := by decide +kernel
theorem dX10_fit_103 : decode cX10_fit 103 = .ok (.aload_n 0, 1) := by decide +kernel
theorem dX10_fit_104 : decode cX10_fit 104 = .ok (.getfield 26, 3) := by decide +kernel
theorem dX10_fit_107 : decode cX10_fit 107 = .ok (.iconst 3, 1) := by decide +kernel
theorem dX10_fit_108 : decode cX10_fit 108 = .ok (.iload 5, 2) := by decide +kernel
theorem dX10_fit_110 : decode cX10_fit 110 = .ok (.imul, 1) := by decide +kernel
theorem dX10_fit_111 : decode cX10_fit 111 = .ok (.iload 4, 2) := by decide +kernel
theorem dX10_fit_113 : decode cX10_fit 113 = .ok (.iadd, 1) := by decide +kernel
theorem dX10_fit_114 : decode cX10_fit 114 = .ok (.iaload, 1) := by decide +kernel
theorem dX10_fit_115 : decode cX10_fit 115 = .ok (.i2l, 1) := by decide +kernel
theorem dX10_fit_116 : decode cX10_fit 116 = .ok (.aload_n 0, 1) := by decide +kernel
theorem dX10_fit_117 : decode cX10_fit 117 = .ok (.getfield 29, 3) := by decide +kernel
theorem dX10_fit_120 : decode cX10_fit 120 = .ok (.iconst 3, 1) := by decide +kernel
theorem dX10_fit_121 : decode cX10_fit 121 = .ok (.iload 5, 2) := by decide +kernel
theorem dX10_fit_123 : decode cX10_fit 123 = .ok (.imul, 1) := by decide +kernel
theorem dX10_fit_124 : decode cX10_fit 124 = .ok (.iload_n 1, 1) := by decide +kernel
theorem dX10_fit_125 : decode cX10_fit 125 = .ok (.iadd, 1) := by decide +kernel
theorem dX10_fit_126 : decode cX10_fit 126 = .ok (.iaload, 1) := by decide +kernel
theorem dX10_fit_127 : decode cX10_fit 127 = .ok (.i2l, 1) := by decide +kernel
theorem dX10_fit_128 : decode cX10_fit 128 = .ok (.lmul, 1) := by decide +kernel
theorem dX10_fit_129 : decode cX10_fit 129 = .ok (.ladd, 1) := by decide +kernel
theorem dX10_fit_130 : decode cX10_fit 130 = .ok (.lastore, 1) := by decide +kernel
theorem dX10_fit_131 : decode cX10_fit 131 = .ok (.iconst 0, 1) := by decide +kernel
theorem dX10_fit_132 : decode cX10_fit 132 = .ok (.istore 6, 2) := by decide +kernel
theorem dX10_fit_134 : decode cX10_fit 134 = .ok (.iload 6, 2) := by decide +kernel
theorem dX10_fit_136 : decode cX10_fit 136 = .ok (.iconst 3, 1) := by decide +kernel
theorem dX10_fit_137 : decode cX10_fit 137 = .ok (.if_icmp .ge 50, 3) := by decide +kernel
theorem dX10_fit_140 : decode cX10_fit 140 = .ok (.aload_n 0, 1) := by decide +kernel
theorem dX10_fit_141 : decode cX10_fit 141 = .ok (.getfield 16, 3) := by decide +kernel
theorem dX10_fit_144 : decode cX10_fit 144 = .ok (.iconst 3, 1) := by decide +kernel
theorem dX10_fit_145 : decode cX10_fit 145 = .ok (.iload 4, 2) := by decide +kernel
theorem dX10_fit_147 : decode cX10_fit 147 = .ok (.imul, 1) := by decide +kernel
theorem dX10_fit_148 : decode cX10_fit 148 = .ok (.iload 6, 2) := by decide +kernel
theorem dX10_fit_150 : decode cX10_fit 150 = .ok (.iadd, 1) := by decide +kernel
theorem dX10_fit_151 : decode cX10_fit 151 = .ok (.dup2, 1) := by decide +kernel
theorem dX10_fit_152 : decode cX10_fit 152 = .ok (.laload, 1) := by decide +kernel
theorem dX10_fit_153 : decode cX10_fit 153 = .ok (.aload_n 0, 1) := by decide +kernel
theorem dX10_fit_154 : decode cX10_fit 154 = .ok (.getfield 26, 3) := by decide +kernel
theorem dX10_fit_157 : decode cX10_fit 157 = .ok (.iconst 3, 1) := by decide +kernel
theorem dX10_fit_158 : decode cX10_fit 158 = .ok (.iload 5, 2) := by decide +kernel
theorem dX10_fit_160 : decode cX10_fit 160 = .ok (.imul, 1) := by decide +kernel
theorem dX10_fit_161 : decode cX10_fit 161 = .ok (.iload 4, 2) := by decide +kernel
theorem dX10_fit_163 : decode cX10_fit 163 = .ok (.iadd, 1) := by decide +kernel
theorem dX10_fit_164 : decode cX10_fit 164 = .ok (.iaload, 1) := by decide +kernel
theorem dX10_fit_165 : decode cX10_fit 165 = .ok (.aload_n 0, 1) := by decide +kernel
theorem dX10_fit_166 : decode cX10_fit 166 = .ok (.getfield 26, 3) := by decide +kernel
theorem dX10_fit_169 : decode cX10_fit 169 = .ok (.iconst 3, 1) := by decide +kernel
theorem dX10_fit_170 : decode cX10_fit 170 = .ok (.iload 5, 2) := by decide +kernel
theorem dX10_fit_172 : decode cX10_fit 172 = .ok (.imul, 1) := by decide +kernel
theorem dX10_fit_173 : decode cX10_fit 173 = .ok (.iload 6, 2) := by decide +kernel
theorem dX10_fit_175 : decode cX10_fit 175 = .ok (.iadd, 1) := by decide +kernel
theorem dX10_fit_176 : decode cX10_fit 176 = .ok (.iaload, 1) := by decide +kernel
theorem dX10_fit_177 : decode cX10_fit 177 = .ok (.imul, 1) := by decide +kernel
theorem dX10_fit_178 : decode cX10_fit 178 = .ok (.i2l, 1) := by decide +kernel
theorem dX10_fit_179 : decode cX10_fit 179 = .ok (.ladd, 1) := by decide +kernel
theorem dX10_fit_180 : decode cX10_fit 180 = .ok (.lastore, 1) := by decide +kernel
theorem dX10_fit_181 : decode cX10_fit 181 = .ok (.iinc 6 1, 3) := by decide +kernel
theorem dX10_fit_184 : decode cX10_fit 184 = .ok (.goto (-50), 3) := by decide +kernel
theorem dX10_fit_187 : decode cX10_fit 187 = .ok (.iinc 5 1, 3) := by decide +kernel
theorem dX10_fit_190 : decode cX10_fit 190 = .ok (.goto (-104), 3) := by decide +kernel
theorem dX10_fit_193 : decode cX10_fit 193 = .ok (.iinc 4 1, 3) := by decide +kernel
theorem dX10_fit_196 : decode cX10_fit 196 = .ok (.goto (-155), 3) := by decide +kernel
theorem dX10_fit_199 : decode cX10_fit 199 = .ok (.ldc2_w 126, 3) := by decide +kernel
theorem dX10_fit_202 : decode cX10_fit 202 = .ok (.aload_n 0, 1) := by decide +kernel
theorem dX10_fit_203 : decode cX10_fit 203 = .ok (.invokevirtual 146, 3) := by decide +kernel
theorem dX10_fit_206 : decode cX10_fit 206 = .ok (.lmul, 1) := by decide +kernel
theorem dX10_fit_207 : decode cX10_fit 207 = .ok (.lstore 4, 2) := by decide +kernel
theorem dX10_fit_209 : decode cX10_fit 209 = .ok (.lload 4, 2) := by decide +kernel
theorem dX10_fit_211 : decode cX10_fit 211 = .ok (.lconst 0, 1) := by decide +kernel
theorem dX10_fit_212 : decode cX10_fit 212 = .ok (.lcmp, 1) := by decide +kernel
theorem dX10_fit_213 : decode cX10_fit 213 = .ok (.ifCond .ne 5, 3) := by decide +kernel
theorem dX10_fit_216 : decode cX10_fit 216 = .ok (.lconst 0, 1) := by decide +kernel
theorem dX10_fit_217 : decode cX10_fit 217 = .ok (.lreturn, 1) := by decide +kernel
theorem dX10_fit_218 : decode cX10_fit 218 = .ok (.aload_n 0, 1) := by decide +kernel
theorem dX10_fit_219 : decode cX10_fit 219 = .ok (.iload_n 2, 1) := by decide +kernel
theorem dX10_fit_220 : decode cX10_fit 220 = .ok (.invokevirtual 156, 3) := by decide +kernel
theorem dX10_fit_223 : decode cX10_fit 223 = .ok (.lstore 6, 2) := by decide +kernel
theorem dX10_fit_225 : decode cX10_fit 225 = .ok (.lload 6, 2) := by decide +kernel
theorem dX10_fit_227 : decode cX10_fit 227 = .ok (.lload 4, 2) := by decide +kernel
theorem dX10_fit_229 : decode cX10_fit 229 = .ok (.invokestatic 175, 3) := by decide +kernel
theorem dX10_fit_232 : decode cX10_fit 232 = .ok (.lstore 8, 2) := by decide +kernel
theorem dX10_fit_234 : decode cX10_fit 234 = .ok (.lload 4, 2) := by decide +kernel
theorem dX10_fit_236 : decode cX10_fit 236 = .ok (.lconst 0, 1) := by decide +kernel
theorem dX10_fit_237 : decode cX10_fit 237 = .ok (.lcmp, 1) := by decide +kernel
theorem dX10_fit_238 : decode cX10_fit 238 = .ok (.ifCond .ge 9, 3) := by decide +kernel
theorem dX10_fit_241 : decode cX10_fit 241 = .ok (.lload 8, 2) := by decide +kernel
theorem dX10_fit_243 : decode cX10_fit 243 = .ok (.lneg, 1) := by decide +kernel
theorem dX10_fit_244 : decode cX10_fit 244 = .ok (.goto 5, 3) := by decide +kernel
theorem dX10_fit_247 : decode cX10_fit 247 = .ok (.lload 8, 2) := by decide +kernel
theorem dX10_fit_249 : decode cX10_fit 249 = .ok (.lstore 8, 2) := by decide +kernel
theorem dX10_fit_251 : decode cX10_fit 251 = .ok (.iload_n 3, 1) := by decide +kernel
theorem dX10_fit_252 : decode cX10_fit 252 = .ok (.ifCond .ne 11, 3) := by decide +kernel
theorem dX10_fit_255 : decode cX10_fit 255 = .ok (.lload 6, 2) := by decide +kernel
theorem dX10_fit_257 : decode cX10_fit 257 = .ok (.lload 8, 2) := by decide +kernel
theorem dX10_fit_259 : decode cX10_fit 259 = .ok (.ldiv, 1) := by decide +kernel
theorem dX10_fit_260 : decode cX10_fit 260 = .ok (.goto 8, 3) := by decide +kernel
theorem dX10_fit_263 : decode cX10_fit 263 = .ok (.lload 4, 2) := by decide +kernel
theorem dX10_fit_265 : decode cX10_fit 265 = .ok (.lload 8, 2) := by decide +kernel
theorem dX10_fit_267 : decode cX10_fit 267 = .ok (.ldiv, 1) := by decide +kernel
theorem dX10_fit_268 : decode cX10_fit 268 = .ok (.lreturn, 1) := by decide +kernel
theorem dX10_miss_0 : decode cX10_miss 0 = .ok (.iload_n 1, 1) := by decide +kernel
theorem dX10_miss_1 : decode cX10_miss 1 = .ok (.i2l, 1) := by decide +kernel
theorem dX10_miss_2 : decode cX10_miss 2 = .ok (.lconst 0, 1) := by decide +kernel
theorem dX10_miss_3 : decode cX10_miss 3 = .ok (.ldc2_w 122, 3) := by decide +kernel
theorem dX10_miss_6 : decode cX10_miss 6 = .ok (.invokestatic 114, 3) := by decide +kernel
theorem dX10_miss_9 : decode cX10_miss 9 = .ok (.ifCond .ne 5, 3) := by decide +kernel
theorem dX10_miss_12 : decode cX10_miss 12 = .ok (.iconst (-1), 1) := by decide +kernel
theorem dX10_miss_13 : decode cX10_miss 13 = .ok (.ireturn, 1) := by decide +kernel
theorem dX10_miss_14 : decode cX10_miss 14 = .ok (.bipush (-4), 2) := by decide +kernel
theorem dX10_miss_16 : decode cX10_miss 16 = .ok (.istore_n 2, 1) := by decide +kernel
theorem dX10_miss_17 : decode cX10_miss 17 = .ok (.iconst 0, 1) := by decide +kernel
theorem dX10_miss_18 : decode cX10_miss 18 = .ok (.istore_n 3, 1) := by decide +kernel
theorem dX10_miss_19 : decode cX10_miss 19 = .ok (.iload_n 3, 1) := by decide +kernel
theorem dX10_miss_20 : decode cX10_miss 20 = .ok (.aload_n 0, 1) := by decide +kernel
theorem dX10_miss_21 : decode cX10_miss 21 = .ok (.getfield 170, 3) := by decide +kernel
theorem dX10_miss_24 : decode cX10_miss 24 = .ok (.if_icmp .ge 83, 3) := by decide +kernel
theorem dX10_miss_27 : decode cX10_miss 27 = .ok (.aload_n 0, 1) := by decide +kernel
theorem dX10_miss_28 : decode cX10_miss 28 = .ok (.getfield 29, 3) := by decide +kernel
theorem dX10_miss_31 : decode cX10_miss 31 = .ok (.iconst 3, 1) := by decide +kernel
theorem dX10_miss_32 : decode cX10_miss 32 = .ok (.iload_n 3, 1) := by decide +kernel
theorem dX10_miss_33 : decode cX10_miss 33 = .ok (.imul, 1) := by decide +kernel
theorem dX10_miss_34 : decode cX10_miss 34 = .ok (.iload_n 1, 1) := by decide +kernel
theorem dX10_miss_35 : decode cX10_miss 35 = .ok (.iadd, 1) := by decide +kernel
theorem dX10_miss_36 : decode cX10_miss 36 = .ok (.iaload, 1) := by decide +kernel
theorem dX10_miss_37 : decode cX10_miss 37 = .ok (.aload_n 0, 1) := by decide +kernel
theorem dX10_miss_38 : decode cX10_miss 38 = .ok (.iload_n 1, 1) := by decide +kernel
theorem dX10_miss_39 : decode cX10_miss 39 = .ok (.aload_n 0, 1) := by decide +kernel
theorem dX10_miss_40 : decode cX10_miss 40 = .ok (.getfield 26, 3) := by decide +kernel
theorem dX10_miss_43 : decode cX10_miss 43 = .ok (.iconst 3, 1) := by decide +kernel
theorem dX10_miss_44 : decode cX10_miss 44 = .ok (.iload_n 3, 1) := by decide +kernel
theorem dX10_miss_45 : decode cX10_miss 45 = .ok (.imul, 1) := by decide +kernel
theorem dX10_miss_46 : decode cX10_miss 46 = .ok (.iaload, 1) := by decide +kernel
theorem dX10_miss_47 : decode cX10_miss 47 = .ok (.aload_n 0, 1) := by decide +kernel
theorem dX10_miss_48 : decode cX10_miss 48 = .ok (.getfield 26, 3) := by decide +kernel
theorem dX10_miss_51 : decode cX10_miss 51 = .ok (.iconst 3, 1) := by decide +kernel
theorem dX10_miss_52 : decode cX10_miss 52 = .ok (.iload_n 3, 1) := by decide +kernel
theorem dX10_miss_53 : decode cX10_miss 53 = .ok (.imul, 1) := by decide +kernel
theorem dX10_miss_54 : decode cX10_miss 54 = .ok (.iconst 1, 1) := by decide +kernel
theorem dX10_miss_55 : decode cX10_miss 55 = .ok (.iadd, 1) := by decide +kernel
theorem dX10_miss_56 : decode cX10_miss 56 = .ok (.iaload, 1) := by decide +kernel
theorem dX10_miss_57 : decode cX10_miss 57 = .ok (.aload_n 0, 1) := by decide +kernel
theorem dX10_miss_58 : decode cX10_miss 58 = .ok (.getfield 26, 3) := by decide +kernel
theorem dX10_miss_61 : decode cX10_miss 61 = .ok (.iconst 3, 1) := by decide +kernel
theorem dX10_miss_62 : decode cX10_miss 62 = .ok (.iload_n 3, 1) := by decide +kernel
theorem dX10_miss_63 : decode cX10_miss 63 = .ok (.imul, 1) := by decide +kernel
theorem dX10_miss_64 : decode cX10_miss 64 = .ok (.iconst 2, 1) := by decide +kernel
theorem dX10_miss_65 : decode cX10_miss 65 = .ok (.iadd, 1) := by decide +kernel
theorem dX10_miss_66 : decode cX10_miss 66 = .ok (.iaload, 1) := by decide +kernel
theorem dX10_miss_67 : decode cX10_miss 67 = .ok (.invokevirtual 142, 3) := by decide +kernel
theorem dX10_miss_70 : decode cX10_miss 70 = .ok (.isub, 1) := by decide +kernel
theorem dX10_miss_71 : decode cX10_miss 71 = .ok (.istore 4, 2) := by decide +kernel
theorem dX10_miss_73 : decode cX10_miss 73 = .ok (.iload 4, 2) := by decide +kernel
theorem dX10_miss_75 : decode cX10_miss 75 = .ok (.ifCond .ge 9, 3) := by decide +kernel
theorem dX10_miss_78 : decode cX10_miss 78 = .ok (.iload 4, 2) := by decide +kernel
theorem dX10_miss_80 : decode cX10_miss 80 = .ok (.ineg, 1) := by decide +kernel
theorem dX10_miss_81 : decode cX10_miss 81 = .ok (.goto 5, 3) := by decide +kernel
theorem dX10_miss_84 : decode cX10_miss 84 = .ok (.iload 4, 2) := by decide +kernel
theorem dX10_miss_86 : decode cX10_miss 86 = .ok (.istore 4, 2) := by decide +kernel
theorem dX10_miss_88 : decode cX10_miss 88 = .ok (.iload 4, 2) := by decide +kernel
theorem dX10_miss_90 : decode cX10_miss 90 = .ok (.iload_n 2, 1) := by decide +kernel
theorem dX10_miss_91 : decode cX10_miss 91 = .ok (.if_icmp .le 8, 3) := by decide +kernel
theorem dX10_miss_94 : decode cX10_miss 94 = .ok (.iload 4, 2) := by decide +kernel
theorem dX10_miss_96 : decode cX10_miss 96 = .ok (.goto 4, 3) := by decide +kernel
theorem dX10_miss_99 : decode cX10_miss 99 = .ok (.iload_n 2, 1) := by decide +kernel
theorem dX10_miss_100 : decode cX10_miss 100 = .ok (.istore_n 2, 1) := by decide +kernel
theorem dX10_miss_101 : decode cX10_miss 101 = .ok (.iinc 3 1, 3) := by decide +kernel
theorem dX10_miss_104 : decode cX10_miss 104 = .ok (.goto (-85), 3) := by decide +kernel
theorem dX10_miss_107 : decode cX10_miss 107 = .ok (.iload_n 2, 1) := by decide +kernel
theorem dX10_miss_108 : decode cX10_miss 108 = .ok (.ireturn, 1) := by decide +kernel
theorem dX10_forget_0 : decode cX10_forget 0 = .ok (.aload_n 0, 1) := by decide +kernel
theorem dX10_forget_1 : decode cX10_forget 1 = .ok (.getfield 170, 3) := by decide +kernel
theorem dX10_forget_4 : decode cX10_forget 4 = .ok (.istore_n 1, 1) := by decide +kernel
theorem dX10_forget_5 : decode cX10_forget 5 = .ok (.aload_n 0, 1) := by decide +kernel
theorem dX10_forget_6 : decode cX10_forget 6 = .ok (.iconst 0, 1) := by decide +kernel
theorem dX10_forget_7 : decode cX10_forget 7 = .ok (.putfield 170, 3) := by decide +kernel
theorem dX10_forget_10 : decode cX10_forget 10 = .ok (.iload_n 1, 1) := by decide +kernel
theorem dX10_forget_11 : decode cX10_forget 11 = .ok (.ireturn, 1) := by decide +kernel
theorem dX10_isCorrection_0 : decode cX10_isCorrection 0 = .ok (.iload_n 1, 1) := by decide +kernel
theorem dX10_isCorrection_1 : decode cX10_isCorrection 1 = .ok (.i2l, 1) := by decide +kernel
theorem dX10_isCorrection_2 : decode cX10_isCorrection 2 = .ok (.lconst 0, 1) := by decide +kernel
theorem dX10_isCorrection_3 : decode cX10_isCorrection 3 = .ok (.aload_n 0, 1) := by decide +kernel
theorem dX10_isCorrection_4 : decode cX10_isCorrection 4 = .ok (.getfield 178, 3) := by decide +kernel
theorem dX10_isCorrection_7 : decode cX10_isCorrection 7 = .ok (.iconst 1, 1) := by decide +kernel
theorem dX10_isCorrection_8 : decode cX10_isCorrection 8 = .ok (.isub, 1) := by decide +kernel
theorem dX10_isCorrection_9 : decode cX10_isCorrection 9 = .ok (.i2l, 1) := by decide +kernel
theorem dX10_isCorrection_10 : decode cX10_isCorrection 10 = .ok (.invokestatic 114, 3) := by decide +kernel
theorem dX10_isCorrection_13 : decode cX10_isCorrection 13 = .ok (.ireturn, 1) := by decide +kernel
theorem dX10_correct_0 : decode cX10_correct 0 = .ok (.iload_n 1, 1) := by decide +kernel
theorem dX10_correct_1 : decode cX10_correct 1 = .ok (.i2l, 1) := by decide +kernel
theorem dX10_correct_2 : decode cX10_correct 2 = .ok (.lconst 0, 1) := by decide +kernel
theorem dX10_correct_3 : decode cX10_correct 3 = .ok (.ldc2_w 181, 3) := by decide +kernel
theorem dX10_correct_6 : decode cX10_correct 6 = .ok (.invokestatic 114, 3) := by decide +kernel
theorem dX10_correct_9 : decode cX10_correct 9 = .ok (.ifCond .eq 68, 3) := by decide +kernel
theorem dX10_correct_12 : decode cX10_correct 12 = .ok (.iload_n 2, 1) := by decide +kernel
theorem dX10_correct_13 : decode cX10_correct 13 = .ok (.i2l, 1) := by decide +kernel
theorem dX10_correct_14 : decode cX10_correct 14 = .ok (.iload_n 1, 1) := by decide +kernel
theorem dX10_correct_15 : decode cX10_correct 15 = .ok (.iconst 3, 1) := by decide +kernel
theorem dX10_correct_16 : decode cX10_correct 16 = .ok (.if_icmp .ne 9, 3) := by decide +kernel
theorem dX10_correct_19 : decode cX10_correct 19 = .ok (.ldc2_w 183, 3) := by decide +kernel
theorem dX10_correct_22 : decode cX10_correct 22 = .ok (.goto 6, 3) := by decide +kernel
theorem dX10_correct_25 : decode cX10_correct 25 = .ok (.ldc2_w 185, 3) := by decide +kernel
theorem dX10_correct_28 : decode cX10_correct 28 = .ok (.iload_n 1, 1) := by decide +kernel
theorem dX10_correct_29 : decode cX10_correct 29 = .ok (.iconst 3, 1) := by decide +kernel
theorem dX10_correct_30 : decode cX10_correct 30 = .ok (.if_icmp .ne 9, 3) := by decide +kernel
theorem dX10_correct_33 : decode cX10_correct 33 = .ok (.ldc2_w 187, 3) := by decide +kernel
theorem dX10_correct_36 : decode cX10_correct 36 = .ok (.goto 6, 3) := by decide +kernel
theorem dX10_correct_39 : decode cX10_correct 39 = .ok (.ldc2_w 189, 3) := by decide +kernel
theorem dX10_correct_42 : decode cX10_correct 42 = .ok (.invokestatic 114, 3) := by decide +kernel
theorem dX10_correct_45 : decode cX10_correct 45 = .ok (.ifCond .eq 32, 3) := by decide +kernel
theorem dX10_correct_48 : decode cX10_correct 48 = .ok (.iload_n 3, 1) := by decide +kernel
theorem dX10_correct_49 : decode cX10_correct 49 = .ok (.i2l, 1) := by decide +kernel
theorem dX10_correct_50 : decode cX10_correct 50 = .ok (.ldc2_w 185, 3) := by decide +kernel
theorem dX10_correct_53 : decode cX10_correct 53 = .ok (.ldc2_w 189, 3) := by decide +kernel
theorem dX10_correct_56 : decode cX10_correct 56 = .ok (.invokestatic 114, 3) := by decide +kernel
theorem dX10_correct_59 : decode cX10_correct 59 = .ok (.ifCond .eq 18, 3) := by decide +kernel
theorem dX10_correct_62 : decode cX10_correct 62 = .ok (.iload 4, 2) := by decide +kernel
theorem dX10_correct_64 : decode cX10_correct 64 = .ok (.i2l, 1) := by decide +kernel
theorem dX10_correct_65 : decode cX10_correct 65 = .ok (.ldc2_w 185, 3) := by decide +kernel
theorem dX10_correct_68 : decode cX10_correct 68 = .ok (.ldc2_w 189, 3) := by decide +kernel
theorem dX10_correct_71 : decode cX10_correct 71 = .ok (.invokestatic 114, 3) := by decide +kernel
theorem dX10_correct_74 : decode cX10_correct 74 = .ok (.ifCond .ne 5, 3) := by decide +kernel
theorem dX10_correct_77 : decode cX10_correct 77 = .ok (.iconst (-1), 1) := by decide +kernel
theorem dX10_correct_78 : decode cX10_correct 78 = .ok (.ireturn, 1) := by decide +kernel
theorem dX10_correct_79 : decode cX10_correct 79 = .ok (.aload_n 0, 1) := by decide +kernel
theorem dX10_correct_80 : decode cX10_correct 80 = .ok (.getfield 178, 3) := by decide +kernel
theorem dX10_correct_83 : decode cX10_correct 83 = .ok (.bipush 10, 2) := by decide +kernel
theorem dX10_correct_85 : decode cX10_correct 85 = .ok (.if_icmp .ne 6, 3) := by decide +kernel
theorem dX10_correct_88 : decode cX10_correct 88 = .ok (.bipush (-3), 2) := by decide +kernel
theorem dX10_correct_90 : decode cX10_correct 90 = .ok (.ireturn, 1) := by decide +kernel
theorem dX10_correct_91 : decode cX10_correct 91 = .ok (.aload_n 0, 1) := by decide +kernel
theorem dX10_correct_92 : decode cX10_correct 92 = .ok (.getfield 32, 3) := by decide +kernel
theorem dX10_correct_95 : decode cX10_correct 95 = .ok (.aload_n 0, 1) := by decide +kernel
theorem dX10_correct_96 : decode cX10_correct 96 = .ok (.getfield 178, 3) := by decide +kernel
theorem dX10_correct_99 : decode cX10_correct 99 = .ok (.iload_n 1, 1) := by decide +kernel
theorem dX10_correct_100 : decode cX10_correct 100 = .ok (.iastore, 1) := by decide +kernel
theorem dX10_correct_101 : decode cX10_correct 101 = .ok (.aload_n 0, 1) := by decide +kernel
theorem dX10_correct_102 : decode cX10_correct 102 = .ok (.getfield 35, 3) := by decide +kernel
theorem dX10_correct_105 : decode cX10_correct 105 = .ok (.aload_n 0, 1) := by decide +kernel
theorem dX10_correct_106 : decode cX10_correct 106 = .ok (.getfield 178, 3) := by decide +kernel
theorem dX10_correct_109 : decode cX10_correct 109 = .ok (.iload_n 2, 1) := by decide +kernel
theorem dX10_correct_110 : decode cX10_correct 110 = .ok (.iastore, 1) := by decide +kernel
theorem dX10_correct_111 : decode cX10_correct 111 = .ok (.aload_n 0, 1) := by decide +kernel
theorem dX10_correct_112 : decode cX10_correct 112 = .ok (.getfield 38, 3) := by decide +kernel
theorem dX10_correct_115 : decode cX10_correct 115 = .ok (.aload_n 0, 1) := by decide +kernel
theorem dX10_correct_116 : decode cX10_correct 116 = .ok (.getfield 178, 3) := by decide +kernel
theorem dX10_correct_119 : decode cX10_correct 119 = .ok (.iload_n 3, 1) := by decide +kernel
theorem dX10_correct_120 : decode cX10_correct 120 = .ok (.iastore, 1) := by decide +kernel
theorem dX10_correct_121 : decode cX10_correct 121 = .ok (.aload_n 0, 1) := by decide +kernel
theorem dX10_correct_122 : decode cX10_correct 122 = .ok (.getfield 41, 3) := by decide +kernel
theorem dX10_correct_125 : decode cX10_correct 125 = .ok (.aload_n 0, 1) := by decide +kernel
theorem dX10_correct_126 : decode cX10_correct 126 = .ok (.getfield 178, 3) := by decide +kernel
theorem dX10_correct_129 : decode cX10_correct 129 = .ok (.iload 4, 2) := by decide +kernel
theorem dX10_correct_131 : decode cX10_correct 131 = .ok (.iastore, 1) := by decide +kernel
theorem dX10_correct_132 : decode cX10_correct 132 = .ok (.aload_n 0, 1) := by decide +kernel
theorem dX10_correct_133 : decode cX10_correct 133 = .ok (.getfield 44, 3) := by decide +kernel
theorem dX10_correct_136 : decode cX10_correct 136 = .ok (.aload_n 0, 1) := by decide +kernel
theorem dX10_correct_137 : decode cX10_correct 137 = .ok (.getfield 178, 3) := by decide +kernel
theorem dX10_correct_140 : decode cX10_correct 140 = .ok (.iconst 1, 1) := by decide +kernel
theorem dX10_correct_141 : decode cX10_correct 141 = .ok (.bastore, 1) := by decide +kernel
theorem dX10_correct_142 : decode cX10_correct 142 = .ok (.aload_n 0, 1) := by decide +kernel
theorem dX10_correct_143 : decode cX10_correct 143 = .ok (.dup, 1) := by decide +kernel
theorem dX10_correct_144 : decode cX10_correct 144 = .ok (.getfield 178, 3) := by decide +kernel
theorem dX10_correct_147 : decode cX10_correct 147 = .ok (.iconst 1, 1) := by decide +kernel
theorem dX10_correct_148 : decode cX10_correct 148 = .ok (.iadd, 1) := by decide +kernel
theorem dX10_correct_149 : decode cX10_correct 149 = .ok (.putfield 178, 3) := by decide +kernel
theorem dX10_correct_152 : decode cX10_correct 152 = .ok (.aload_n 0, 1) := by decide +kernel
theorem dX10_correct_153 : decode cX10_correct 153 = .ok (.getfield 178, 3) := by decide +kernel
theorem dX10_correct_156 : decode cX10_correct 156 = .ok (.iconst 1, 1) := by decide +kernel
theorem dX10_correct_157 : decode cX10_correct 157 = .ok (.isub, 1) := by decide +kernel
theorem dX10_correct_158 : decode cX10_correct 158 = .ok (.ireturn, 1) := by decide +kernel
theorem dX10_turn_0 : decode cX10_turn 0 = .ok (.aload_n 0, 1) := by decide +kernel
theorem dX10_turn_1 : decode cX10_turn 1 = .ok (.iload_n 1, 1) := by decide +kernel
theorem dX10_turn_2 : decode cX10_turn 2 = .ok (.invokevirtual 191, 3) := by decide +kernel
theorem dX10_turn_5 : decode cX10_turn 5 = .ok (.ifCond .ne 5, 3) := by decide +kernel
theorem dX10_turn_8 : decode cX10_turn 8 = .ok (.iconst (-1), 1) := by decide +kernel
theorem dX10_turn_9 : decode cX10_turn 9 = .ok (.ireturn, 1) := by decide +kernel
theorem dX10_turn_10 : decode cX10_turn 10 = .ok (.aload_n 0, 1) := by decide +kernel
theorem dX10_turn_11 : decode cX10_turn 11 = .ok (.getfield 44, 3) := by decide +kernel
theorem dX10_turn_14 : decode cX10_turn 14 = .ok (.iload_n 1, 1) := by decide +kernel
theorem dX10_turn_15 : decode cX10_turn 15 = .ok (.baload, 1) := by decide +kernel
theorem dX10_turn_16 : decode cX10_turn 16 = .ok (.ifCond .eq 7, 3) := by decide +kernel
theorem dX10_turn_19 : decode cX10_turn 19 = .ok (.iconst 1, 1) := by decide +kernel
theorem dX10_turn_20 : decode cX10_turn 20 = .ok (.goto 4, 3) := by decide +kernel
theorem dX10_turn_23 : decode cX10_turn 23 = .ok (.iconst 0, 1) := by decide +kernel
theorem dX10_turn_24 : decode cX10_turn 24 = .ok (.istore_n 3, 1) := by decide +kernel
theorem dX10_turn_25 : decode cX10_turn 25 = .ok (.aload_n 0, 1) := by decide +kernel
theorem dX10_turn_26 : decode cX10_turn 26 = .ok (.getfield 44, 3) := by decide +kernel
theorem dX10_turn_29 : decode cX10_turn 29 = .ok (.iload_n 1, 1) := by decide +kernel
theorem dX10_turn_30 : decode cX10_turn 30 = .ok (.iload_n 2, 1) := by decide +kernel
theorem dX10_turn_31 : decode cX10_turn 31 = .ok (.bastore, 1) := by decide +kernel
theorem dX10_turn_32 : decode cX10_turn 32 = .ok (.iload_n 3, 1) := by decide +kernel
theorem dX10_turn_33 : decode cX10_turn 33 = .ok (.ireturn, 1) := by decide +kernel
theorem dX10_swap_0 : decode cX10_swap 0 = .ok (.aload_n 0, 1) := by decide +kernel
theorem dX10_swap_1 : decode cX10_swap 1 = .ok (.iload_n 1, 1) := by decide +kernel
theorem dX10_swap_2 : decode cX10_swap 2 = .ok (.invokevirtual 191, 3) := by decide +kernel
theorem dX10_swap_5 : decode cX10_swap 5 = .ok (.ifCond .eq 13, 3) := by decide +kernel
theorem dX10_swap_8 : decode cX10_swap 8 = .ok (.aload_n 0, 1) := by decide +kernel
theorem dX10_swap_9 : decode cX10_swap 9 = .ok (.iload_n 1, 1) := by decide +kernel
theorem dX10_swap_10 : decode cX10_swap 10 = .ok (.iconst 1, 1) := by decide +kernel
theorem dX10_swap_11 : decode cX10_swap 11 = .ok (.iadd, 1) := by decide +kernel
theorem dX10_swap_12 : decode cX10_swap 12 = .ok (.invokevirtual 191, 3) := by decide +kernel
theorem dX10_swap_15 : decode cX10_swap 15 = .ok (.ifCond .ne 5, 3) := by decide +kernel
theorem dX10_swap_18 : decode cX10_swap 18 = .ok (.iconst (-1), 1) := by decide +kernel
theorem dX10_swap_19 : decode cX10_swap 19 = .ok (.ireturn, 1) := by decide +kernel
theorem dX10_swap_20 : decode cX10_swap 20 = .ok (.aload_n 0, 1) := by decide +kernel
theorem dX10_swap_21 : decode cX10_swap 21 = .ok (.getfield 32, 3) := by decide +kernel
theorem dX10_swap_24 : decode cX10_swap 24 = .ok (.iload_n 1, 1) := by decide +kernel
theorem dX10_swap_25 : decode cX10_swap 25 = .ok (.iaload, 1) := by decide +kernel
theorem dX10_swap_26 : decode cX10_swap 26 = .ok (.istore_n 2, 1) := by decide +kernel
theorem dX10_swap_27 : decode cX10_swap 27 = .ok (.aload_n 0, 1) := by decide +kernel
theorem dX10_swap_28 : decode cX10_swap 28 = .ok (.getfield 35, 3) := by decide +kernel
theorem dX10_swap_31 : decode cX10_swap 31 = .ok (.iload_n 1, 1) := by decide +kernel
theorem dX10_swap_32 : decode cX10_swap 32 = .ok (.iaload, 1) := by decide +kernel
theorem dX10_swap_33 : decode cX10_swap 33 = .ok (.istore_n 3, 1) := by decide +kernel
theorem dX10_swap_34 : decode cX10_swap 34 = .ok (.aload_n 0, 1) := by decide +kernel
theorem dX10_swap_35 : decode cX10_swap 35 = .ok (.getfield 38, 3) := by decide +kernel
theorem dX10_swap_38 : decode cX10_swap 38 = .ok (.iload_n 1, 1) := by decide +kernel
theorem dX10_swap_39 : decode cX10_swap 39 = .ok (.iaload, 1) := by decide +kernel
theorem dX10_swap_40 : decode cX10_swap 40 = .ok (.istore 4, 2) := by decide +kernel
theorem dX10_swap_42 : decode cX10_swap 42 = .ok (.aload_n 0, 1) := by decide +kernel
theorem dX10_swap_43 : decode cX10_swap 43 = .ok (.getfield 41, 3) := by decide +kernel
theorem dX10_swap_46 : decode cX10_swap 46 = .ok (.iload_n 1, 1) := by decide +kernel
theorem dX10_swap_47 : decode cX10_swap 47 = .ok (.iaload, 1) := by decide +kernel
theorem dX10_swap_48 : decode cX10_swap 48 = .ok (.istore 5, 2) := by decide +kernel
theorem dX10_swap_50 : decode cX10_swap 50 = .ok (.aload_n 0, 1) := by decide +kernel
theorem dX10_swap_51 : decode cX10_swap 51 = .ok (.getfield 44, 3) := by decide +kernel
theorem dX10_swap_54 : decode cX10_swap 54 = .ok (.iload_n 1, 1) := by decide +kernel
theorem dX10_swap_55 : decode cX10_swap 55 = .ok (.baload, 1) := by decide +kernel
theorem dX10_swap_56 : decode cX10_swap 56 = .ok (.istore 6, 2) := by decide +kernel
theorem dX10_swap_58 : decode cX10_swap 58 = .ok (.aload_n 0, 1) := by decide +kernel
theorem dX10_swap_59 : decode cX10_swap 59 = .ok (.getfield 32, 3) := by decide +kernel
theorem dX10_swap_62 : decode cX10_swap 62 = .ok (.iload_n 1, 1) := by decide +kernel
theorem dX10_swap_63 : decode cX10_swap 63 = .ok (.aload_n 0, 1) := by decide +kernel
theorem dX10_swap_64 : decode cX10_swap 64 = .ok (.getfield 32, 3) := by decide +kernel
theorem dX10_swap_67 : decode cX10_swap 67 = .ok (.iload_n 1, 1) := by decide +kernel
theorem dX10_swap_68 : decode cX10_swap 68 = .ok (.iconst 1, 1) := by decide +kernel
theorem dX10_swap_69 : decode cX10_swap 69 = .ok (.iadd, 1) := by decide +kernel
theorem dX10_swap_70 : decode cX10_swap 70 = .ok (.iaload, 1) := by decide +kernel
theorem dX10_swap_71 : decode cX10_swap 71 = .ok (.iastore, 1) := by decide +kernel
theorem dX10_swap_72 : decode cX10_swap 72 = .ok (.aload_n 0, 1) := by decide +kernel
theorem dX10_swap_73 : decode cX10_swap 73 = .ok (.getfield 35, 3) := by decide +kernel
theorem dX10_swap_76 : decode cX10_swap 76 = .ok (.iload_n 1, 1) := by decide +kernel
theorem dX10_swap_77 : decode cX10_swap 77 = .ok (.aload_n 0, 1) := by decide +kernel
theorem dX10_swap_78 : decode cX10_swap 78 = .ok (.getfield 35, 3) := by decide +kernel
theorem dX10_swap_81 : decode cX10_swap 81 = .ok (.iload_n 1, 1) := by decide +kernel
theorem dX10_swap_82 : decode cX10_swap 82 = .ok (.iconst 1, 1) := by decide +kernel
theorem dX10_swap_83 : decode cX10_swap 83 = .ok (.iadd, 1) := by decide +kernel
theorem dX10_swap_84 : decode cX10_swap 84 = .ok (.iaload, 1) := by decide +kernel
theorem dX10_swap_85 : decode cX10_swap 85 = .ok (.iastore, 1) := by decide +kernel
theorem dX10_swap_86 : decode cX10_swap 86 = .ok (.aload_n 0, 1) := by decide +kernel
theorem dX10_swap_87 : decode cX10_swap 87 = .ok (.getfield 38, 3) := by decide +kernel
theorem dX10_swap_90 : decode cX10_swap 90 = .ok (.iload_n 1, 1) := by decide +kernel
theorem dX10_swap_91 : decode cX10_swap 91 = .ok (.aload_n 0, 1) := by decide +kernel
theorem dX10_swap_92 : decode cX10_swap 92 = .ok (.getfield 38, 3) := by decide +kernel
theorem dX10_swap_95 : decode cX10_swap 95 = .ok (.iload_n 1, 1) := by decide +kernel
theorem dX10_swap_96 : decode cX10_swap 96 = .ok (.iconst 1, 1) := by decide +kernel
theorem dX10_swap_97 : decode cX10_swap 97 = .ok (.iadd, 1) := by decide +kernel
theorem dX10_swap_98 : decode cX10_swap 98 = .ok (.iaload, 1) := by decide +kernel
theorem dX10_swap_99 : decode cX10_swap 99 = .ok (.iastore, 1) := by decide +kernel
theorem dX10_swap_100 : decode cX10_swap 100 = .ok (.aload_n 0, 1) := by decide +kernel
theorem dX10_swap_101 : decode cX10_swap 101 = .ok (.getfield 41, 3) := by decide +kernel
theorem dX10_swap_104 : decode cX10_swap 104 = .ok (.iload_n 1, 1) := by decide +kernel
theorem dX10_swap_105 : decode cX10_swap 105 = .ok (.aload_n 0, 1) := by decide +kernel
theorem dX10_swap_106 : decode cX10_swap 106 = .ok (.getfield 41, 3) := by decide +kernel
theorem dX10_swap_109 : decode cX10_swap 109 = .ok (.iload_n 1, 1) := by decide +kernel
theorem dX10_swap_110 : decode cX10_swap 110 = .ok (.iconst 1, 1) := by decide +kernel
theorem dX10_swap_111 : decode cX10_swap 111 = .ok (.iadd, 1) := by decide +kernel
theorem dX10_swap_112 : decode cX10_swap 112 = .ok (.iaload, 1) := by decide +kernel
theorem dX10_swap_113 : decode cX10_swap 113 = .ok (.iastore, 1) := by decide +kernel
theorem dX10_swap_114 : decode cX10_swap 114 = .ok (.aload_n 0, 1) := by decide +kernel
theorem dX10_swap_115 : decode cX10_swap 115 = .ok (.getfield 44, 3) := by decide +kernel
theorem dX10_swap_118 : decode cX10_swap 118 = .ok (.iload_n 1, 1) := by decide +kernel
theorem dX10_swap_119 : decode cX10_swap 119 = .ok (.aload_n 0, 1) := by decide +kernel
theorem dX10_swap_120 : decode cX10_swap 120 = .ok (.getfield 44, 3) := by decide +kernel
theorem dX10_swap_123 : decode cX10_swap 123 = .ok (.iload_n 1, 1) := by decide +kernel
theorem dX10_swap_124 : decode cX10_swap 124 = .ok (.iconst 1, 1) := by decide +kernel
theorem dX10_swap_125 : decode cX10_swap 125 = .ok (.iadd, 1) := by decide +kernel
theorem dX10_swap_126 : decode cX10_swap 126 = .ok (.baload, 1) := by decide +kernel
theorem dX10_swap_127 : decode cX10_swap 127 = .ok (.bastore, 1) := by decide +kernel
theorem dX10_swap_128 : decode cX10_swap 128 = .ok (.aload_n 0, 1) := by decide +kernel
theorem dX10_swap_129 : decode cX10_swap 129 = .ok (.getfield 32, 3) := by decide +kernel
theorem dX10_swap_132 : decode cX10_swap 132 = .ok (.iload_n 1, 1) := by decide +kernel
theorem dX10_swap_133 : decode cX10_swap 133 = .ok (.iconst 1, 1) := by decide +kernel
theorem dX10_swap_134 : decode cX10_swap 134 = .ok (.iadd, 1) := by decide +kernel
theorem dX10_swap_135 : decode cX10_swap 135 = .ok (.iload_n 2, 1) := by decide +kernel
theorem dX10_swap_136 : decode cX10_swap 136 = .ok (.iastore, 1) := by decide +kernel
theorem dX10_swap_137 : decode cX10_swap 137 = .ok (.aload_n 0, 1) := by decide +kernel
theorem dX10_swap_138 : decode cX10_swap 138 = .ok (.getfield 35, 3) := by decide +kernel
theorem dX10_swap_141 : decode cX10_swap 141 = .ok (.iload_n 1, 1) := by decide +kernel
theorem dX10_swap_142 : decode cX10_swap 142 = .ok (.iconst 1, 1) := by decide +kernel
theorem dX10_swap_143 : decode cX10_swap 143 = .ok (.iadd, 1) := by decide +kernel
theorem dX10_swap_144 : decode cX10_swap 144 = .ok (.iload_n 3, 1) := by decide +kernel
theorem dX10_swap_145 : decode cX10_swap 145 = .ok (.iastore, 1) := by decide +kernel
theorem dX10_swap_146 : decode cX10_swap 146 = .ok (.aload_n 0, 1) := by decide +kernel
theorem dX10_swap_147 : decode cX10_swap 147 = .ok (.getfield 38, 3) := by decide +kernel
theorem dX10_swap_150 : decode cX10_swap 150 = .ok (.iload_n 1, 1) := by decide +kernel
theorem dX10_swap_151 : decode cX10_swap 151 = .ok (.iconst 1, 1) := by decide +kernel
theorem dX10_swap_152 : decode cX10_swap 152 = .ok (.iadd, 1) := by decide +kernel
theorem dX10_swap_153 : decode cX10_swap 153 = .ok (.iload 4, 2) := by decide +kernel
theorem dX10_swap_155 : decode cX10_swap 155 = .ok (.iastore, 1) := by decide +kernel
theorem dX10_swap_156 : decode cX10_swap 156 = .ok (.aload_n 0, 1) := by decide +kernel
theorem dX10_swap_157 : decode cX10_swap 157 = .ok (.getfield 41, 3) := by decide +kernel
theorem dX10_swap_160 : decode cX10_swap 160 = .ok (.iload_n 1, 1) := by decide +kernel
theorem dX10_swap_161 : decode cX10_swap 161 = .ok (.iconst 1, 1) := by decide +kernel
theorem dX10_swap_162 : decode cX10_swap 162 = .ok (.iadd, 1) := by decide +kernel
theorem dX10_swap_163 : decode cX10_swap 163 = .ok (.iload 5, 2) := by decide +kernel
theorem dX10_swap_165 : decode cX10_swap 165 = .ok (.iastore, 1) := by decide +kernel
theorem dX10_swap_166 : decode cX10_swap 166 = .ok (.aload_n 0, 1) := by decide +kernel
theorem dX10_swap_167 : decode cX10_swap 167 = .ok (.getfield 44, 3) := by decide +kernel
theorem dX10_swap_170 : decode cX10_swap 170 = .ok (.iload_n 1, 1) := by decide +kernel
theorem dX10_swap_171 : decode cX10_swap 171 = .ok (.iconst 1, 1) := by decide +kernel
theorem dX10_swap_172 : decode cX10_swap 172 = .ok (.iadd, 1) := by decide +kernel
theorem dX10_swap_173 : decode cX10_swap 173 = .ok (.iload 6, 2) := by decide +kernel
theorem dX10_swap_175 : decode cX10_swap 175 = .ok (.bastore, 1) := by decide +kernel
theorem dX10_swap_176 : decode cX10_swap 176 = .ok (.iconst 1, 1) := by decide +kernel
theorem dX10_swap_177 : decode cX10_swap 177 = .ok (.ireturn, 1) := by decide +kernel
theorem dX10_drop_0 : decode cX10_drop 0 = .ok (.aload_n 0, 1) := by decide +kernel
theorem dX10_drop_1 : decode cX10_drop 1 = .ok (.getfield 178, 3) := by decide +kernel
theorem dX10_drop_4 : decode cX10_drop 4 = .ok (.ifCond .ne 6, 3) := by decide +kernel
theorem dX10_drop_7 : decode cX10_drop 7 = .ok (.bipush (-4), 2) := by decide +kernel
theorem dX10_drop_9 : decode cX10_drop 9 = .ok (.ireturn, 1) := by decide +kernel
theorem dX10_drop_10 : decode cX10_drop 10 = .ok (.aload_n 0, 1) := by decide +kernel
theorem dX10_drop_11 : decode cX10_drop 11 = .ok (.dup, 1) := by decide +kernel
theorem dX10_drop_12 : decode cX10_drop 12 = .ok (.getfield 178, 3) := by decide +kernel
theorem dX10_drop_15 : decode cX10_drop 15 = .ok (.iconst 1, 1) := by decide +kernel
theorem dX10_drop_16 : decode cX10_drop 16 = .ok (.isub, 1) := by decide +kernel
theorem dX10_drop_17 : decode cX10_drop 17 = .ok (.putfield 178, 3) := by decide +kernel
theorem dX10_drop_20 : decode cX10_drop 20 = .ok (.aload_n 0, 1) := by decide +kernel
theorem dX10_drop_21 : decode cX10_drop 21 = .ok (.getfield 178, 3) := by decide +kernel
theorem dX10_drop_24 : decode cX10_drop 24 = .ok (.ireturn, 1) := by decide +kernel
theorem dX10_raw_0 : decode cX10_raw 0 = .ok (.iload_n 1, 1) := by decide +kernel
theorem dX10_raw_1 : decode cX10_raw 1 = .ok (.invokestatic 150, 3) := by decide +kernel
theorem dX10_raw_4 : decode cX10_raw 4 = .ok (.ifCond .eq 43, 3) := by decide +kernel
theorem dX10_raw_7 : decode cX10_raw 7 = .ok (.iload_n 2, 1) := by decide +kernel
theorem dX10_raw_8 : decode cX10_raw 8 = .ok (.invokestatic 150, 3) := by decide +kernel
theorem dX10_raw_11 : decode cX10_raw 11 = .ok (.ifCond .eq 36, 3) := by decide +kernel
theorem dX10_raw_14 : decode cX10_raw 14 = .ok (.iload_n 3, 1) := by decide +kernel
theorem dX10_raw_15 : decode cX10_raw 15 = .ok (.invokestatic 150, 3) := by decide +kernel
theorem dX10_raw_18 : decode cX10_raw 18 = .ok (.ifCond .eq 29, 3) := by decide +kernel
theorem dX10_raw_21 : decode cX10_raw 21 = .ok (.iload 4, 2) := by decide +kernel
theorem dX10_raw_23 : decode cX10_raw 23 = .ok (.i2l, 1) := by decide +kernel
theorem dX10_raw_24 : decode cX10_raw 24 = .ok (.lconst 0, 1) := by decide +kernel
theorem dX10_raw_25 : decode cX10_raw 25 = .ok (.ldc2_w 194, 3) := by decide +kernel
theorem dX10_raw_28 : decode cX10_raw 28 = .ok (.invokestatic 114, 3) := by decide +kernel
theorem dX10_raw_31 : decode cX10_raw 31 = .ok (.ifCond .eq 16, 3) := by decide +kernel
theorem dX10_raw_34 : decode cX10_raw 34 = .ok (.iload 5, 2) := by decide +kernel
theorem dX10_raw_36 : decode cX10_raw 36 = .ok (.i2l, 1) := by decide +kernel
theorem dX10_raw_37 : decode cX10_raw 37 = .ok (.lconst 0, 1) := by decide +kernel
theorem dX10_raw_38 : decode cX10_raw 38 = .ok (.ldc2_w 196, 3) := by decide +kernel
theorem dX10_raw_41 : decode cX10_raw 41 = .ok (.invokestatic 114, 3) := by decide +kernel
theorem dX10_raw_44 : decode cX10_raw 44 = .ok (.ifCond .ne 5, 3) := by decide +kernel
theorem dX10_raw_47 : decode cX10_raw 47 = .ok (.iconst (-1), 1) := by decide +kernel
theorem dX10_raw_48 : decode cX10_raw 48 = .ok (.ireturn, 1) := by decide +kernel
theorem dX10_raw_49 : decode cX10_raw 49 = .ok (.aload_n 0, 1) := by decide +kernel
theorem dX10_raw_50 : decode cX10_raw 50 = .ok (.getfield 48, 3) := by decide +kernel
theorem dX10_raw_53 : decode cX10_raw 53 = .ok (.iconst 0, 1) := by decide +kernel
theorem dX10_raw_54 : decode cX10_raw 54 = .ok (.iload_n 1, 1) := by decide +kernel
theorem dX10_raw_55 : decode cX10_raw 55 = .ok (.iastore, 1) := by decide +kernel
theorem dX10_raw_56 : decode cX10_raw 56 = .ok (.aload_n 0, 1) := by decide +kernel
theorem dX10_raw_57 : decode cX10_raw 57 = .ok (.getfield 48, 3) := by decide +kernel
theorem dX10_raw_60 : decode cX10_raw 60 = .ok (.iconst 1, 1) := by decide +kernel
theorem dX10_raw_61 : decode cX10_raw 61 = .ok (.iload_n 2, 1) := by decide +kernel
theorem dX10_raw_62 : decode cX10_raw 62 = .ok (.iastore, 1) := by decide +kernel
theorem dX10_raw_63 : decode cX10_raw 63 = .ok (.aload_n 0, 1) := by decide +kernel
theorem dX10_raw_64 : decode cX10_raw 64 = .ok (.getfield 48, 3) := by decide +kernel
theorem dX10_raw_67 : decode cX10_raw 67 = .ok (.iconst 2, 1) := by decide +kernel
theorem dX10_raw_68 : decode cX10_raw 68 = .ok (.iload_n 3, 1) := by decide +kernel
theorem dX10_raw_69 : decode cX10_raw 69 = .ok (.iastore, 1) := by decide +kernel
theorem dX10_raw_70 : decode cX10_raw 70 = .ok (.aload_n 0, 1) := by decide +kernel
theorem dX10_raw_71 : decode cX10_raw 71 = .ok (.iload 4, 2) := by decide +kernel
theorem dX10_raw_73 : decode cX10_raw 73 = .ok (.putfield 198, 3) := by decide +kernel
theorem dX10_raw_76 : decode cX10_raw 76 = .ok (.aload_n 0, 1) := by decide +kernel
theorem dX10_raw_77 : decode cX10_raw 77 = .ok (.iload 5, 2) := by decide +kernel
theorem dX10_raw_79 : decode cX10_raw 79 = .ok (.putfield 201, 3) := by decide +kernel
theorem dX10_raw_82 : decode cX10_raw 82 = .ok (.iconst 1, 1) := by decide +kernel
theorem dX10_raw_83 : decode cX10_raw 83 = .ok (.ireturn, 1) := by decide +kernel
theorem dX10_cosine_0 : decode cX10_cosine 0 = .ok (.iload_n 1, 1) := by decide +kernel
theorem dX10_cosine_1 : decode cX10_cosine 1 = .ok (.bipush 24, 2) := by decide +kernel
theorem dX10_cosine_3 : decode cX10_cosine 3 = .ok (.irem, 1) := by decide +kernel
theorem dX10_cosine_4 : decode cX10_cosine 4 = .ok (.istore_n 2, 1) := by decide +kernel
theorem dX10_cosine_5 : decode cX10_cosine 5 = .ok (.iload_n 2, 1) := by decide +kernel
theorem dX10_cosine_6 : decode cX10_cosine 6 = .ok (.bipush 12, 2) := by decide +kernel
theorem dX10_cosine_8 : decode cX10_cosine 8 = .ok (.if_icmp .le 10, 3) := by decide +kernel
theorem dX10_cosine_11 : decode cX10_cosine 11 = .ok (.bipush 24, 2) := by decide +kernel
theorem dX10_cosine_13 : decode cX10_cosine 13 = .ok (.iload_n 2, 1) := by decide +kernel
theorem dX10_cosine_14 : decode cX10_cosine 14 = .ok (.isub, 1) := by decide +kernel
theorem dX10_cosine_15 : decode cX10_cosine 15 = .ok (.goto 4, 3) := by decide +kernel
theorem dX10_cosine_18 : decode cX10_cosine 18 = .ok (.iload_n 2, 1) := by decide +kernel
theorem dX10_cosine_19 : decode cX10_cosine 19 = .ok (.istore_n 2, 1) := by decide +kernel
theorem dX10_cosine_20 : decode cX10_cosine 20 = .ok (.iload_n 2, 1) := by decide +kernel
theorem dX10_cosine_21 : decode cX10_cosine 21 = .ok (.bipush 6, 2) := by decide +kernel
theorem dX10_cosine_23 : decode cX10_cosine 23 = .ok (.if_icmp .le 16, 3) := by decide +kernel
theorem dX10_cosine_26 : decode cX10_cosine 26 = .ok (.aload_n 0, 1) := by decide +kernel
theorem dX10_cosine_27 : decode cX10_cosine 27 = .ok (.getfield 51, 3) := by decide +kernel
theorem dX10_cosine_30 : decode cX10_cosine 30 = .ok (.bipush 12, 2) := by decide +kernel
theorem dX10_cosine_32 : decode cX10_cosine 32 = .ok (.iload_n 2, 1) := by decide +kernel
theorem dX10_cosine_33 : decode cX10_cosine 33 = .ok (.isub, 1) := by decide +kernel
theorem dX10_cosine_34 : decode cX10_cosine 34 = .ok (.iaload, 1) := by decide +kernel
theorem dX10_cosine_35 : decode cX10_cosine 35 = .ok (.ineg, 1) := by decide +kernel
theorem dX10_cosine_36 : decode cX10_cosine 36 = .ok (.goto 9, 3) := by decide +kernel
theorem dX10_cosine_39 : decode cX10_cosine 39 = .ok (.aload_n 0, 1) := by decide +kernel
theorem dX10_cosine_40 : decode cX10_cosine 40 = .ok (.getfield 51, 3) := by decide +kernel
theorem dX10_cosine_43 : decode cX10_cosine 43 = .ok (.iload_n 2, 1) := by decide +kernel
theorem dX10_cosine_44 : decode cX10_cosine 44 = .ok (.iaload, 1) := by decide +kernel
theorem dX10_cosine_45 : decode cX10_cosine 45 = .ok (.ireturn, 1) := by decide +kernel
theorem dX10_sine_0 : decode cX10_sine 0 = .ok (.aload_n 0, 1) := by decide +kernel
theorem dX10_sine_1 : decode cX10_sine 1 = .ok (.iload_n 1, 1) := by decide +kernel
theorem dX10_sine_2 : decode cX10_sine 2 = .ok (.bipush 18, 2) := by decide +kernel
theorem dX10_sine_4 : decode cX10_sine 4 = .ok (.iadd, 1) := by decide +kernel
theorem dX10_sine_5 : decode cX10_sine 5 = .ok (.invokevirtual 204, 3) := by decide +kernel
theorem dX10_sine_8 : decode cX10_sine 8 = .ok (.ireturn, 1) := by decide +kernel
theorem dX10_begins_0 : decode cX10_begins 0 = .ok (.iconst 0, 1) := by decide +kernel
theorem dX10_begins_1 : decode cX10_begins 1 = .ok (.istore_n 1, 1) := by decide +kernel
theorem dX10_begins_2 : decode cX10_begins 2 = .ok (.iload_n 1, 1) := by decide +kernel
theorem dX10_begins_3 : decode cX10_begins 3 = .ok (.iconst 3, 1) := by decide +kernel
theorem dX10_begins_4 : decode cX10_begins 4 = .ok (.if_icmp .ge 22, 3) := by decide +kernel
theorem dX10_begins_7 : decode cX10_begins 7 = .ok (.aload_n 0, 1) := by decide +kernel
theorem dX10_begins_8 : decode cX10_begins 8 = .ok (.getfield 54, 3) := by decide +kernel
theorem dX10_begins_11 : decode cX10_begins 11 = .ok (.iload_n 1, 1) := by decide +kernel
theorem dX10_begins_12 : decode cX10_begins 12 = .ok (.aload_n 0, 1) := by decide +kernel
theorem dX10_begins_13 : decode cX10_begins 13 = .ok (.getfield 48, 3) := by decide +kernel
theorem dX10_begins_16 : decode cX10_begins 16 = .ok (.iload_n 1, 1) := by decide +kernel
theorem dX10_begins_17 : decode cX10_begins 17 = .ok (.iaload, 1) := by decide +kernel
theorem dX10_begins_18 : decode cX10_begins 18 = .ok (.i2l, 1) := by decide +kernel
theorem dX10_begins_19 : decode cX10_begins 19 = .ok (.lastore, 1) := by decide +kernel
theorem dX10_begins_20 : decode cX10_begins 20 = .ok (.iinc 1 1, 3) := by decide +kernel
theorem dX10_begins_23 : decode cX10_begins 23 = .ok (.goto (-21), 3) := by decide +kernel
theorem dX10_begins_26 : decode cX10_begins 26 = .ok (.return_, 1) := by decide +kernel
theorem dX10_does_0 : decode cX10_does 0 = .ok (.aload_n 0, 1) := by decide +kernel
theorem dX10_does_1 : decode cX10_does 1 = .ok (.getfield 35, 3) := by decide +kernel
theorem dX10_does_4 : decode cX10_does 4 = .ok (.iload_n 1, 1) := by decide +kernel
theorem dX10_does_5 : decode cX10_does 5 = .ok (.iaload, 1) := by decide +kernel
theorem dX10_does_6 : decode cX10_does 6 = .ok (.i2l, 1) := by decide +kernel
theorem dX10_does_7 : decode cX10_does 7 = .ok (.lstore_n 2, 1) := by decide +kernel
theorem dX10_does_8 : decode cX10_does 8 = .ok (.aload_n 0, 1) := by decide +kernel
theorem dX10_does_9 : decode cX10_does 9 = .ok (.getfield 38, 3) := by decide +kernel
theorem dX10_does_12 : decode cX10_does 12 = .ok (.iload_n 1, 1) := by decide +kernel
theorem dX10_does_13 : decode cX10_does 13 = .ok (.iaload, 1) := by decide +kernel
theorem dX10_does_14 : decode cX10_does 14 = .ok (.i2l, 1) := by decide +kernel
theorem dX10_does_15 : decode cX10_does 15 = .ok (.lstore 4, 2) := by decide +kernel
theorem dX10_does_17 : decode cX10_does 17 = .ok (.aload_n 0, 1) := by decide +kernel
theorem dX10_does_18 : decode cX10_does 18 = .ok (.getfield 41, 3) := by decide +kernel
theorem dX10_does_21 : decode cX10_does 21 = .ok (.iload_n 1, 1) := by decide +kernel
theorem dX10_does_22 : decode cX10_does 22 = .ok (.iaload, 1) := by decide +kernel
theorem dX10_does_23 : decode cX10_does 23 = .ok (.i2l, 1) := by decide +kernel
theorem dX10_does_24 : decode cX10_does 24 = .ok (.lstore 6, 2) := by decide +kernel
theorem dX10_does_26 : decode cX10_does 26 = .ok (.aload_n 0, 1) := by decide +kernel
theorem dX10_does_27 : decode cX10_does 27 = .ok (.getfield 32, 3) := by decide +kernel
theorem dX10_does_30 : decode cX10_does 30 = .ok (.iload_n 1, 1) := by decide +kernel
theorem dX10_does_31 : decode cX10_does 31 = .ok (.iaload, 1) := by decide +kernel
theorem dX10_does_32 : decode cX10_does 32 = .ok (.iconst 3, 1) := by decide +kernel
theorem dX10_does_33 : decode cX10_does 33 = .ok (.if_icmp .ne 43, 3) := by decide +kernel
theorem dX10_does_36 : decode cX10_does 36 = .ok (.iconst 0, 1) := by decide +kernel
theorem dX10_does_37 : decode cX10_does 37 = .ok (.istore 8, 2) := by decide +kernel
theorem dX10_does_39 : decode cX10_does 39 = .ok (.iload 8, 2) := by decide +kernel
theorem dX10_does_41 : decode cX10_does 41 = .ok (.iconst 3, 1) := by decide +kernel
theorem dX10_does_42 : decode cX10_does 42 = .ok (.if_icmp .ge 31, 3) := by decide +kernel
theorem dX10_does_45 : decode cX10_does 45 = .ok (.aload_n 0, 1) := by decide +kernel
theorem dX10_does_46 : decode cX10_does 46 = .ok (.getfield 54, 3) := by decide +kernel
theorem dX10_does_49 : decode cX10_does 49 = .ok (.iload 8, 2) := by decide +kernel
theorem dX10_does_51 : decode cX10_does 51 = .ok (.aload_n 0, 1) := by decide +kernel
theorem dX10_does_52 : decode cX10_does 52 = .ok (.getfield 54, 3) := by decide +kernel
theorem dX10_does_55 : decode cX10_does 55 = .ok (.iload 8, 2) := by decide +kernel
theorem dX10_does_57 : decode cX10_does 57 = .ok (.laload, 1) := by decide +kernel
theorem dX10_does_58 : decode cX10_does 58 = .ok (.lload_n 2, 1) := by decide +kernel
theorem dX10_does_59 : decode cX10_does 59 = .ok (.lmul, 1) := by decide +kernel
theorem dX10_does_60 : decode cX10_does 60 = .ok (.ldc2_w 126, 3) := by decide +kernel
theorem dX10_does_63 : decode cX10_does 63 = .ok (.invokestatic 167, 3) := by decide +kernel
theorem dX10_does_66 : decode cX10_does 66 = .ok (.lastore, 1) := by decide +kernel
theorem dX10_does_67 : decode cX10_does 67 = .ok (.iinc 8 1, 3) := by decide +kernel
theorem dX10_does_70 : decode cX10_does 70 = .ok (.goto (-31), 3) := by decide +kernel
theorem dX10_does_73 : decode cX10_does 73 = .ok (.goto 179, 3) := by decide +kernel
theorem dX10_does_76 : decode cX10_does 76 = .ok (.aload_n 0, 1) := by decide +kernel
theorem dX10_does_77 : decode cX10_does 77 = .ok (.getfield 32, 3) := by decide +kernel
theorem dX10_does_80 : decode cX10_does 80 = .ok (.iload_n 1, 1) := by decide +kernel
theorem dX10_does_81 : decode cX10_does 81 = .ok (.iaload, 1) := by decide +kernel
theorem dX10_does_82 : decode cX10_does 82 = .ok (.iconst 4, 1) := by decide +kernel
theorem dX10_does_83 : decode cX10_does 83 = .ok (.if_icmp .ne 69, 3) := by decide +kernel
theorem dX10_does_86 : decode cX10_does 86 = .ok (.aload_n 0, 1) := by decide +kernel
theorem dX10_does_87 : decode cX10_does 87 = .ok (.getfield 54, 3) := by decide +kernel
theorem dX10_does_90 : decode cX10_does 90 = .ok (.iconst 0, 1) := by decide +kernel
theorem dX10_does_91 : decode cX10_does 91 = .ok (.dup2, 1) := by decide +kernel
theorem dX10_does_92 : decode cX10_does 92 = .ok (.laload, 1) := by decide +kernel
theorem dX10_does_93 : decode cX10_does 93 = .ok (.lload_n 2, 1) := by decide +kernel
theorem dX10_does_94 : decode cX10_does 94 = .ok (.aload_n 0, 1) := by decide +kernel
theorem dX10_does_95 : decode cX10_does 95 = .ok (.aload_n 0, 1) := by decide +kernel
theorem dX10_does_96 : decode cX10_does 96 = .ok (.getfield 201, 3) := by decide +kernel
theorem dX10_does_99 : decode cX10_does 99 = .ok (.invokevirtual 204, 3) := by decide +kernel
theorem dX10_does_102 : decode cX10_does 102 = .ok (.i2l, 1) := by decide +kernel
theorem dX10_does_103 : decode cX10_does 103 = .ok (.lmul, 1) := by decide +kernel
theorem dX10_does_104 : decode cX10_does 104 = .ok (.ldc2_w 194, 3) := by decide +kernel
theorem dX10_does_107 : decode cX10_does 107 = .ok (.invokestatic 167, 3) := by decide +kernel
theorem dX10_does_110 : decode cX10_does 110 = .ok (.lsub, 1) := by decide +kernel
theorem dX10_does_111 : decode cX10_does 111 = .ok (.lastore, 1) := by decide +kernel
theorem dX10_does_112 : decode cX10_does 112 = .ok (.aload_n 0, 1) := by decide +kernel
theorem dX10_does_113 : decode cX10_does 113 = .ok (.getfield 54, 3) := by decide +kernel
theorem dX10_does_116 : decode cX10_does 116 = .ok (.iconst 1, 1) := by decide +kernel
theorem dX10_does_117 : decode cX10_does 117 = .ok (.dup2, 1) := by decide +kernel
theorem dX10_does_118 : decode cX10_does 118 = .ok (.laload, 1) := by decide +kernel
theorem dX10_does_119 : decode cX10_does 119 = .ok (.lload_n 2, 1) := by decide +kernel
theorem dX10_does_120 : decode cX10_does 120 = .ok (.aload_n 0, 1) := by decide +kernel
theorem dX10_does_121 : decode cX10_does 121 = .ok (.aload_n 0, 1) := by decide +kernel
theorem dX10_does_122 : decode cX10_does 122 = .ok (.getfield 201, 3) := by decide +kernel
theorem dX10_does_125 : decode cX10_does 125 = .ok (.invokevirtual 208, 3) := by decide +kernel
theorem dX10_does_128 : decode cX10_does 128 = .ok (.i2l, 1) := by decide +kernel
theorem dX10_does_129 : decode cX10_does 129 = .ok (.lmul, 1) := by decide +kernel
theorem dX10_does_130 : decode cX10_does 130 = .ok (.ldc2_w 194, 3) := by decide +kernel
theorem dX10_does_133 : decode cX10_does 133 = .ok (.invokestatic 167, 3) := by decide +kernel
theorem dX10_does_136 : decode cX10_does 136 = .ok (.lsub, 1) := by decide +kernel
theorem dX10_does_137 : decode cX10_does 137 = .ok (.lastore, 1) := by decide +kernel
theorem dX10_does_138 : decode cX10_does 138 = .ok (.aload_n 0, 1) := by decide +kernel
theorem dX10_does_139 : decode cX10_does 139 = .ok (.getfield 54, 3) := by decide +kernel
theorem dX10_does_142 : decode cX10_does 142 = .ok (.iconst 2, 1) := by decide +kernel
theorem dX10_does_143 : decode cX10_does 143 = .ok (.dup2, 1) := by decide +kernel
theorem dX10_does_144 : decode cX10_does 144 = .ok (.laload, 1) := by decide +kernel
theorem dX10_does_145 : decode cX10_does 145 = .ok (.lload 4, 2) := by decide +kernel
theorem dX10_does_147 : decode cX10_does 147 = .ok (.lsub, 1) := by decide +kernel
theorem dX10_does_148 : decode cX10_does 148 = .ok (.lastore, 1) := by decide +kernel
theorem dX10_does_149 : decode cX10_does 149 = .ok (.goto 103, 3) := by decide +kernel
theorem dX10_does_152 : decode cX10_does 152 = .ok (.iconst 0, 1) := by decide +kernel
theorem dX10_does_153 : decode cX10_does 153 = .ok (.istore 8, 2) := by decide +kernel
theorem dX10_does_155 : decode cX10_does 155 = .ok (.iload 8, 2) := by decide +kernel
theorem dX10_does_157 : decode cX10_does 157 = .ok (.iconst 3, 1) := by decide +kernel
theorem dX10_does_158 : decode cX10_does 158 = .ok (.if_icmp .ge 94, 3) := by decide +kernel
theorem dX10_does_161 : decode cX10_does 161 = .ok (.iload 8, 2) := by decide +kernel
theorem dX10_does_163 : decode cX10_does 163 = .ok (.ifCond .ne 7, 3) := by decide +kernel
theorem dX10_does_166 : decode cX10_does 166 = .ok (.lload_n 2, 1) := by decide +kernel
theorem dX10_does_167 : decode cX10_does 167 = .ok (.goto 16, 3) := by decide +kernel
theorem dX10_does_170 : decode cX10_does 170 = .ok (.iload 8, 2) := by decide +kernel
theorem dX10_does_172 : decode cX10_does 172 = .ok (.iconst 1, 1) := by decide +kernel
theorem dX10_does_173 : decode cX10_does 173 = .ok (.if_icmp .ne 8, 3) := by decide +kernel
theorem dX10_does_176 : decode cX10_does 176 = .ok (.lload 4, 2) := by decide +kernel
theorem dX10_does_178 : decode cX10_does 178 = .ok (.goto 5, 3) := by decide +kernel
theorem dX10_does_181 : decode cX10_does 181 = .ok (.lload 6, 2) := by decide +kernel
theorem dX10_does_183 : decode cX10_does 183 = .ok (.lstore 9, 2) := by decide +kernel
theorem dX10_does_185 : decode cX10_does 185 = .ok (.aload_n 0, 1) := by decide +kernel
theorem dX10_does_186 : decode cX10_does 186 = .ok (.getfield 54, 3) := by decide +kernel
theorem dX10_does_189 : decode cX10_does 189 = .ok (.iload 8, 2) := by decide +kernel
theorem dX10_does_191 : decode cX10_does 191 = .ok (.dup2, 1) := by decide +kernel
theorem dX10_does_192 : decode cX10_does 192 = .ok (.laload, 1) := by decide +kernel
theorem dX10_does_193 : decode cX10_does 193 = .ok (.aload_n 0, 1) := by decide +kernel
theorem dX10_does_194 : decode cX10_does 194 = .ok (.getfield 32, 3) := by decide +kernel
theorem dX10_does_197 : decode cX10_does 197 = .ok (.iload_n 1, 1) := by decide +kernel
theorem dX10_does_198 : decode cX10_does 198 = .ok (.iaload, 1) := by decide +kernel
theorem dX10_does_199 : decode cX10_does 199 = .ok (.iconst 2, 1) := by decide +kernel
theorem dX10_does_200 : decode cX10_does 200 = .ok (.if_icmp .ne 12, 3) := by decide +kernel
theorem dX10_does_203 : decode cX10_does 203 = .ok (.ldc2_w 122, 3) := by decide +kernel
theorem dX10_does_206 : decode cX10_does 206 = .ok (.lload 9, 2) := by decide +kernel
theorem dX10_does_208 : decode cX10_does 208 = .ok (.lmul, 1) := by decide +kernel
theorem dX10_does_209 : decode cX10_does 209 = .ok (.goto 35, 3) := by decide +kernel
theorem dX10_does_212 : decode cX10_does 212 = .ok (.aload_n 0, 1) := by decide +kernel
theorem dX10_does_213 : decode cX10_does 213 = .ok (.getfield 32, 3) := by decide +kernel
theorem dX10_does_216 : decode cX10_does 216 = .ok (.iload_n 1, 1) := by decide +kernel
theorem dX10_does_217 : decode cX10_does 217 = .ok (.iaload, 1) := by decide +kernel
theorem dX10_does_218 : decode cX10_does 218 = .ok (.iconst 1, 1) := by decide +kernel
theorem dX10_does_219 : decode cX10_does 219 = .ok (.if_icmp .ne 23, 3) := by decide +kernel
theorem dX10_does_222 : decode cX10_does 222 = .ok (.lload 9, 2) := by decide +kernel
theorem dX10_does_224 : decode cX10_does 224 = .ok (.lload 9, 2) := by decide +kernel
theorem dX10_does_226 : decode cX10_does 226 = .ok (.aload_n 0, 1) := by decide +kernel
theorem dX10_does_227 : decode cX10_does 227 = .ok (.getfield 198, 3) := by decide +kernel
theorem dX10_does_230 : decode cX10_does 230 = .ok (.i2l, 1) := by decide +kernel
theorem dX10_does_231 : decode cX10_does 231 = .ok (.lmul, 1) := by decide +kernel
theorem dX10_does_232 : decode cX10_does 232 = .ok (.ldc2_w 194, 3) := by decide +kernel
theorem dX10_does_235 : decode cX10_does 235 = .ok (.invokestatic 167, 3) := by decide +kernel
theorem dX10_does_238 : decode cX10_does 238 = .ok (.ladd, 1) := by decide +kernel
theorem dX10_does_239 : decode cX10_does 239 = .ok (.goto 5, 3) := by decide +kernel
theorem dX10_does_242 : decode cX10_does 242 = .ok (.lload 9, 2) := by decide +kernel
theorem dX10_does_244 : decode cX10_does 244 = .ok (.lsub, 1) := by decide +kernel
theorem dX10_does_245 : decode cX10_does 245 = .ok (.lastore, 1) := by decide +kernel
theorem dX10_does_246 : decode cX10_does 246 = .ok (.iinc 8 1, 3) := by decide +kernel
theorem dX10_does_249 : decode cX10_does 249 = .ok (.goto (-94), 3) := by decide +kernel
theorem dX10_does_252 : decode cX10_does 252 = .ok (.return_, 1) := by decide +kernel
