theorem dX10_corrected_0 : decode cX10_corrected 0 = .ok (.iload_n 1, 1) := by decide +kernel
theorem dX10_corrected_1 : decode cX10_corrected 1 = .ok (.i2l, 1) := by decide +kernel
theorem dX10_corrected_2 : decode cX10_corrected 2 = .ok (.lconst 0, 1) := by decide +kernel
theorem dX10_corrected_3 : decode cX10_corrected 3 = .ok (.ldc2_w 122, 3) := by decide +kernel
theorem dX10_corrected_6 : decode cX10_corrected 6 = .ok (.invokestatic 114, 3) := by decide +kernel
theorem dX10_corrected_9 : decode cX10_corrected 9 = .ok (.ifCond .eq 17, 3) := by decide +kernel
theorem dX10_corrected_12 : decode cX10_corrected 12 = .ok (.iload_n 2, 1) := by decide +kernel
theorem dX10_corrected_13 : decode cX10_corrected 13 = .ok (.i2l, 1) := by decide +kernel
theorem dX10_corrected_14 : decode cX10_corrected 14 = .ok (.lconst 0, 1) := by decide +kernel
theorem dX10_corrected_15 : decode cX10_corrected 15 = .ok (.aload_n 0, 1) := by decide +kernel
theorem dX10_corrected_16 : decode cX10_corrected 16 = .ok (.getfield 178, 3) := by decide +kernel
theorem dX10_corrected_19 : decode cX10_corrected 19 = .ok (.i2l, 1) := by decide +kernel
theorem dX10_corrected_20 : decode cX10_corrected 20 = .ok (.invokestatic 114, 3) := by decide +kernel
theorem dX10_corrected_23 : decode cX10_corrected 23 = .ok (.ifCond .ne 5, 3) := by decide +kernel
theorem dX10_corrected_26 : decode cX10_corrected 26 = .ok (.lconst 0, 1) := by decide +kernel
theorem dX10_corrected_27 : decode cX10_corrected 27 = .ok (.lreturn, 1) := by decide +kernel
theorem dX10_corrected_28 : decode cX10_corrected 28 = .ok (.aload_n 0, 1) := by decide +kernel
theorem dX10_corrected_29 : decode cX10_corrected 29 = .ok (.invokevirtual 211, 3) := by decide +kernel
theorem dX10_corrected_32 : decode cX10_corrected 32 = .ok (.iconst 0, 1) := by decide +kernel
theorem dX10_corrected_33 : decode cX10_corrected 33 = .ok (.istore_n 3, 1) := by decide +kernel
theorem dX10_corrected_34 : decode cX10_corrected 34 = .ok (.iload_n 3, 1) := by decide +kernel
theorem dX10_corrected_35 : decode cX10_corrected 35 = .ok (.iload_n 2, 1) := by decide +kernel
theorem dX10_corrected_36 : decode cX10_corrected 36 = .ok (.if_icmp .ge 23, 3) := by decide +kernel
theorem dX10_corrected_39 : decode cX10_corrected 39 = .ok (.aload_n 0, 1) := by decide +kernel
theorem dX10_corrected_40 : decode cX10_corrected 40 = .ok (.getfield 44, 3) := by decide +kernel
theorem dX10_corrected_43 : decode cX10_corrected 43 = .ok (.iload_n 3, 1) := by decide +kernel
theorem dX10_corrected_44 : decode cX10_corrected 44 = .ok (.baload, 1) := by decide +kernel
theorem dX10_corrected_45 : decode cX10_corrected 45 = .ok (.ifCond .eq 8, 3) := by decide +kernel
theorem dX10_corrected_48 : decode cX10_corrected 48 = .ok (.aload_n 0, 1) := by decide +kernel
theorem dX10_corrected_49 : decode cX10_corrected 49 = .ok (.iload_n 3, 1) := by decide +kernel
theorem dX10_corrected_50 : decode cX10_corrected 50 = .ok (.invokevirtual 214, 3) := by decide +kernel
theorem dX10_corrected_53 : decode cX10_corrected 53 = .ok (.iinc 3 1, 3) := by decide +kernel
theorem dX10_corrected_56 : decode cX10_corrected 56 = .ok (.goto (-22), 3) := by decide +kernel
theorem dX10_corrected_59 : decode cX10_corrected 59 = .ok (.aload_n 0, 1) := by decide +kernel
theorem dX10_corrected_60 : decode cX10_corrected 60 = .ok (.getfield 54, 3) := by decide +kernel
theorem dX10_corrected_63 : decode cX10_corrected 63 = .ok (.iload_n 1, 1) := by decide +kernel
theorem dX10_corrected_64 : decode cX10_corrected 64 = .ok (.laload, 1) := by decide +kernel
theorem dX10_corrected_65 : decode cX10_corrected 65 = .ok (.lreturn, 1) := by decide +kernel
theorem dX10_tells_0 : decode cX10_tells 0 = .ok (.iconst 0, 1) := by decide +kernel
theorem dX10_tells_1 : decode cX10_tells 1 = .ok (.istore_n 1, 1) := by decide +kernel
theorem dX10_tells_2 : decode cX10_tells 2 = .ok (.iload_n 1, 1) := by decide +kernel
theorem dX10_tells_3 : decode cX10_tells 3 = .ok (.aload_n 0, 1) := by decide +kernel
theorem dX10_tells_4 : decode cX10_tells 4 = .ok (.getfield 178, 3) := by decide +kernel
theorem dX10_tells_7 : decode cX10_tells 7 = .ok (.if_icmp .gt 38, 3) := by decide +kernel
theorem dX10_tells_10 : decode cX10_tells 10 = .ok (.iconst 0, 1) := by decide +kernel
theorem dX10_tells_11 : decode cX10_tells 11 = .ok (.istore_n 2, 1) := by decide +kernel
theorem dX10_tells_12 : decode cX10_tells 12 = .ok (.iload_n 2, 1) := by decide +kernel
theorem dX10_tells_13 : decode cX10_tells 13 = .ok (.iconst 3, 1) := by decide +kernel
theorem dX10_tells_14 : decode cX10_tells 14 = .ok (.if_icmp .ge 25, 3) := by decide +kernel
theorem dX10_tells_17 : decode cX10_tells 17 = .ok (.aload_n 0, 1) := by decide +kernel
theorem dX10_tells_18 : decode cX10_tells 18 = .ok (.getfield 57, 3) := by decide +kernel
theorem dX10_tells_21 : decode cX10_tells 21 = .ok (.iconst 3, 1) := by decide +kernel
theorem dX10_tells_22 : decode cX10_tells 22 = .ok (.iload_n 1, 1) := by decide +kernel
theorem dX10_tells_23 : decode cX10_tells 23 = .ok (.imul, 1) := by decide +kernel
theorem dX10_tells_24 : decode cX10_tells 24 = .ok (.iload_n 2, 1) := by decide +kernel
theorem dX10_tells_25 : decode cX10_tells 25 = .ok (.iadd, 1) := by decide +kernel
theorem dX10_tells_26 : decode cX10_tells 26 = .ok (.aload_n 0, 1) := by decide +kernel
theorem dX10_tells_27 : decode cX10_tells 27 = .ok (.iload_n 2, 1) := by decide +kernel
theorem dX10_tells_28 : decode cX10_tells 28 = .ok (.iload_n 1, 1) := by decide +kernel
theorem dX10_tells_29 : decode cX10_tells 29 = .ok (.invokevirtual 218, 3) := by decide +kernel
theorem dX10_tells_32 : decode cX10_tells 32 = .ok (.lastore, 1) := by decide +kernel
theorem dX10_tells_33 : decode cX10_tells 33 = .ok (.iinc 2 1, 3) := by decide +kernel
theorem dX10_tells_36 : decode cX10_tells 36 = .ok (.goto (-24), 3) := by decide +kernel
theorem dX10_tells_39 : decode cX10_tells 39 = .ok (.iinc 1 1, 3) := by decide +kernel
theorem dX10_tells_42 : decode cX10_tells 42 = .ok (.goto (-40), 3) := by decide +kernel
theorem dX10_tells_45 : decode cX10_tells 45 = .ok (.return_, 1) := by decide +kernel
theorem dX10_touches_0 : decode cX10_touches 0 = .ok (.aload_n 0, 1) := by decide +kernel
theorem dX10_touches_1 : decode cX10_touches 1 = .ok (.iload_n 1, 1) := by decide +kernel
theorem dX10_touches_2 : decode cX10_touches 2 = .ok (.invokevirtual 191, 3) := by decide +kernel
theorem dX10_touches_5 : decode cX10_touches 5 = .ok (.ifCond .ne 5, 3) := by decide +kernel
theorem dX10_touches_8 : decode cX10_touches 8 = .ok (.iconst (-1), 1) := by decide +kernel
theorem dX10_touches_9 : decode cX10_touches 9 = .ok (.ireturn, 1) := by decide +kernel
theorem dX10_touches_10 : decode cX10_touches 10 = .ok (.aload_n 0, 1) := by decide +kernel
theorem dX10_touches_11 : decode cX10_touches 11 = .ok (.invokevirtual 222, 3) := by decide +kernel
theorem dX10_touches_14 : decode cX10_touches 14 = .ok (.aload_n 0, 1) := by decide +kernel
theorem dX10_touches_15 : decode cX10_touches 15 = .ok (.getfield 44, 3) := by decide +kernel
theorem dX10_touches_18 : decode cX10_touches 18 = .ok (.iload_n 1, 1) := by decide +kernel
theorem dX10_touches_19 : decode cX10_touches 19 = .ok (.aload_n 0, 1) := by decide +kernel
theorem dX10_touches_20 : decode cX10_touches 20 = .ok (.getfield 44, 3) := by decide +kernel
theorem dX10_touches_23 : decode cX10_touches 23 = .ok (.iload_n 1, 1) := by decide +kernel
theorem dX10_touches_24 : decode cX10_touches 24 = .ok (.baload, 1) := by decide +kernel
theorem dX10_touches_25 : decode cX10_touches 25 = .ok (.ifCond .ne 7, 3) := by decide +kernel
theorem dX10_touches_28 : decode cX10_touches 28 = .ok (.iconst 1, 1) := by decide +kernel
theorem dX10_touches_29 : decode cX10_touches 29 = .ok (.goto 4, 3) := by decide +kernel
theorem dX10_touches_32 : decode cX10_touches 32 = .ok (.iconst 0, 1) := by decide +kernel
theorem dX10_touches_33 : decode cX10_touches 33 = .ok (.bastore, 1) := by decide +kernel
theorem dX10_touches_34 : decode cX10_touches 34 = .ok (.bipush (-4), 2) := by decide +kernel
theorem dX10_touches_36 : decode cX10_touches 36 = .ok (.istore_n 2, 1) := by decide +kernel
theorem dX10_touches_37 : decode cX10_touches 37 = .ok (.aload_n 0, 1) := by decide +kernel
theorem dX10_touches_38 : decode cX10_touches 38 = .ok (.getfield 178, 3) := by decide +kernel
theorem dX10_touches_41 : decode cX10_touches 41 = .ok (.istore_n 3, 1) := by decide +kernel
theorem dX10_touches_42 : decode cX10_touches 42 = .ok (.iload_n 3, 1) := by decide +kernel
theorem dX10_touches_43 : decode cX10_touches 43 = .ok (.ifCond .le 52, 3) := by decide +kernel
theorem dX10_touches_46 : decode cX10_touches 46 = .ok (.iconst 0, 1) := by decide +kernel
theorem dX10_touches_47 : decode cX10_touches 47 = .ok (.istore 4, 2) := by decide +kernel
theorem dX10_touches_49 : decode cX10_touches 49 = .ok (.iload 4, 2) := by decide +kernel
theorem dX10_touches_51 : decode cX10_touches 51 = .ok (.iconst 3, 1) := by decide +kernel
theorem dX10_touches_52 : decode cX10_touches 52 = .ok (.if_icmp .ge 37, 3) := by decide +kernel
theorem dX10_touches_55 : decode cX10_touches 55 = .ok (.aload_n 0, 1) := by decide +kernel
theorem dX10_touches_56 : decode cX10_touches 56 = .ok (.iload 4, 2) := by decide +kernel
theorem dX10_touches_58 : decode cX10_touches 58 = .ok (.iload_n 3, 1) := by decide +kernel
theorem dX10_touches_59 : decode cX10_touches 59 = .ok (.invokevirtual 218, 3) := by decide +kernel
theorem dX10_touches_62 : decode cX10_touches 62 = .ok (.aload_n 0, 1) := by decide +kernel
theorem dX10_touches_63 : decode cX10_touches 63 = .ok (.getfield 57, 3) := by decide +kernel
theorem dX10_touches_66 : decode cX10_touches 66 = .ok (.iconst 3, 1) := by decide +kernel
theorem dX10_touches_67 : decode cX10_touches 67 = .ok (.iload_n 3, 1) := by decide +kernel
theorem dX10_touches_68 : decode cX10_touches 68 = .ok (.imul, 1) := by decide +kernel
theorem dX10_touches_69 : decode cX10_touches 69 = .ok (.iload 4, 2) := by decide +kernel
theorem dX10_touches_71 : decode cX10_touches 71 = .ok (.iadd, 1) := by decide +kernel
theorem dX10_touches_72 : decode cX10_touches 72 = .ok (.laload, 1) := by decide +kernel
theorem dX10_touches_73 : decode cX10_touches 73 = .ok (.lcmp, 1) := by decide +kernel
theorem dX10_touches_74 : decode cX10_touches 74 = .ok (.ifCond .eq 7, 3) := by decide +kernel
theorem dX10_touches_77 : decode cX10_touches 77 = .ok (.iload_n 3, 1) := by decide +kernel
theorem dX10_touches_78 : decode cX10_touches 78 = .ok (.goto 4, 3) := by decide +kernel
theorem dX10_touches_81 : decode cX10_touches 81 = .ok (.iload_n 2, 1) := by decide +kernel
theorem dX10_touches_82 : decode cX10_touches 82 = .ok (.istore_n 2, 1) := by decide +kernel
theorem dX10_touches_83 : decode cX10_touches 83 = .ok (.iinc 4 1, 3) := by decide +kernel
theorem dX10_touches_86 : decode cX10_touches 86 = .ok (.goto (-37), 3) := by decide +kernel
theorem dX10_touches_89 : decode cX10_touches 89 = .ok (.iinc 3 (-1), 3) := by decide +kernel
theorem dX10_touches_92 : decode cX10_touches 92 = .ok (.goto (-50), 3) := by decide +kernel
theorem dX10_touches_95 : decode cX10_touches 95 = .ok (.aload_n 0, 1) := by decide +kernel
theorem dX10_touches_96 : decode cX10_touches 96 = .ok (.getfield 44, 3) := by decide +kernel
theorem dX10_touches_99 : decode cX10_touches 99 = .ok (.iload_n 1, 1) := by decide +kernel
theorem dX10_touches_100 : decode cX10_touches 100 = .ok (.aload_n 0, 1) := by decide +kernel
theorem dX10_touches_101 : decode cX10_touches 101 = .ok (.getfield 44, 3) := by decide +kernel
theorem dX10_touches_104 : decode cX10_touches 104 = .ok (.iload_n 1, 1) := by decide +kernel
theorem dX10_touches_105 : decode cX10_touches 105 = .ok (.baload, 1) := by decide +kernel
theorem dX10_touches_106 : decode cX10_touches 106 = .ok (.ifCond .ne 7, 3) := by decide +kernel
theorem dX10_touches_109 : decode cX10_touches 109 = .ok (.iconst 1, 1) := by decide +kernel
theorem dX10_touches_110 : decode cX10_touches 110 = .ok (.goto 4, 3) := by decide +kernel
theorem dX10_touches_113 : decode cX10_touches 113 = .ok (.iconst 0, 1) := by decide +kernel
theorem dX10_touches_114 : decode cX10_touches 114 = .ok (.bastore, 1) := by decide +kernel
theorem dX10_touches_115 : decode cX10_touches 115 = .ok (.iload_n 2, 1) := by decide +kernel
theorem dX10_touches_116 : decode cX10_touches 116 = .ok (.ireturn, 1) := by decide +kernel
theorem dX10_minds_0 : decode cX10_minds 0 = .ok (.aload_n 0, 1) := by decide +kernel
theorem dX10_minds_1 : decode cX10_minds 1 = .ok (.iload_n 1, 1) := by decide +kernel
theorem dX10_minds_2 : decode cX10_minds 2 = .ok (.invokevirtual 191, 3) := by decide +kernel
theorem dX10_minds_5 : decode cX10_minds 5 = .ok (.ifCond .eq 13, 3) := by decide +kernel
theorem dX10_minds_8 : decode cX10_minds 8 = .ok (.aload_n 0, 1) := by decide +kernel
theorem dX10_minds_9 : decode cX10_minds 9 = .ok (.iload_n 1, 1) := by decide +kernel
theorem dX10_minds_10 : decode cX10_minds 10 = .ok (.iconst 1, 1) := by decide +kernel
theorem dX10_minds_11 : decode cX10_minds 11 = .ok (.iadd, 1) := by decide +kernel
theorem dX10_minds_12 : decode cX10_minds 12 = .ok (.invokevirtual 191, 3) := by decide +kernel
theorem dX10_minds_15 : decode cX10_minds 15 = .ok (.ifCond .ne 5, 3) := by decide +kernel
theorem dX10_minds_18 : decode cX10_minds 18 = .ok (.iconst (-1), 1) := by decide +kernel
theorem dX10_minds_19 : decode cX10_minds 19 = .ok (.ireturn, 1) := by decide +kernel
theorem dX10_minds_20 : decode cX10_minds 20 = .ok (.aload_n 0, 1) := by decide +kernel
theorem dX10_minds_21 : decode cX10_minds 21 = .ok (.invokevirtual 222, 3) := by decide +kernel
theorem dX10_minds_24 : decode cX10_minds 24 = .ok (.aload_n 0, 1) := by decide +kernel
theorem dX10_minds_25 : decode cX10_minds 25 = .ok (.iload_n 1, 1) := by decide +kernel
theorem dX10_minds_26 : decode cX10_minds 26 = .ok (.invokevirtual 225, 3) := by decide +kernel
theorem dX10_minds_29 : decode cX10_minds 29 = .ok (.pop, 1) := by decide +kernel
theorem dX10_minds_30 : decode cX10_minds 30 = .ok (.iconst 0, 1) := by decide +kernel
theorem dX10_minds_31 : decode cX10_minds 31 = .ok (.istore_n 2, 1) := by decide +kernel
theorem dX10_minds_32 : decode cX10_minds 32 = .ok (.iconst 0, 1) := by decide +kernel
theorem dX10_minds_33 : decode cX10_minds 33 = .ok (.istore_n 3, 1) := by decide +kernel
theorem dX10_minds_34 : decode cX10_minds 34 = .ok (.iload_n 3, 1) := by decide +kernel
theorem dX10_minds_35 : decode cX10_minds 35 = .ok (.iconst 3, 1) := by decide +kernel
theorem dX10_minds_36 : decode cX10_minds 36 = .ok (.if_icmp .ge 44, 3) := by decide +kernel
theorem dX10_minds_39 : decode cX10_minds 39 = .ok (.iload_n 2, 1) := by decide +kernel
theorem dX10_minds_40 : decode cX10_minds 40 = .ok (.ifCond .ne 28, 3) := by decide +kernel
theorem dX10_minds_43 : decode cX10_minds 43 = .ok (.aload_n 0, 1) := by decide +kernel
theorem dX10_minds_44 : decode cX10_minds 44 = .ok (.iload_n 3, 1) := by decide +kernel
theorem dX10_minds_45 : decode cX10_minds 45 = .ok (.iload_n 1, 1) := by decide +kernel
theorem dX10_minds_46 : decode cX10_minds 46 = .ok (.iconst 2, 1) := by decide +kernel
theorem dX10_minds_47 : decode cX10_minds 47 = .ok (.iadd, 1) := by decide +kernel
theorem dX10_minds_48 : decode cX10_minds 48 = .ok (.invokevirtual 218, 3) := by decide +kernel
theorem dX10_minds_51 : decode cX10_minds 51 = .ok (.aload_n 0, 1) := by decide +kernel
theorem dX10_minds_52 : decode cX10_minds 52 = .ok (.getfield 57, 3) := by decide +kernel
theorem dX10_minds_55 : decode cX10_minds 55 = .ok (.iconst 3, 1) := by decide +kernel
theorem dX10_minds_56 : decode cX10_minds 56 = .ok (.iload_n 1, 1) := by decide +kernel
theorem dX10_minds_57 : decode cX10_minds 57 = .ok (.imul, 1) := by decide +kernel
theorem dX10_minds_58 : decode cX10_minds 58 = .ok (.bipush 6, 2) := by decide +kernel
theorem dX10_minds_60 : decode cX10_minds 60 = .ok (.iadd, 1) := by decide +kernel
theorem dX10_minds_61 : decode cX10_minds 61 = .ok (.iload_n 3, 1) := by decide +kernel
theorem dX10_minds_62 : decode cX10_minds 62 = .ok (.iadd, 1) := by decide +kernel
theorem dX10_minds_63 : decode cX10_minds 63 = .ok (.laload, 1) := by decide +kernel
theorem dX10_minds_64 : decode cX10_minds 64 = .ok (.lcmp, 1) := by decide +kernel
theorem dX10_minds_65 : decode cX10_minds 65 = .ok (.ifCond .eq 7, 3) := by decide +kernel
theorem dX10_minds_68 : decode cX10_minds 68 = .ok (.iconst 1, 1) := by decide +kernel
theorem dX10_minds_69 : decode cX10_minds 69 = .ok (.goto 4, 3) := by decide +kernel
theorem dX10_minds_72 : decode cX10_minds 72 = .ok (.iconst 0, 1) := by decide +kernel
theorem dX10_minds_73 : decode cX10_minds 73 = .ok (.istore_n 2, 1) := by decide +kernel
theorem dX10_minds_74 : decode cX10_minds 74 = .ok (.iinc 3 1, 3) := by decide +kernel
theorem dX10_minds_77 : decode cX10_minds 77 = .ok (.goto (-43), 3) := by decide +kernel
theorem dX10_minds_80 : decode cX10_minds 80 = .ok (.aload_n 0, 1) := by decide +kernel
theorem dX10_minds_81 : decode cX10_minds 81 = .ok (.iload_n 1, 1) := by decide +kernel
theorem dX10_minds_82 : decode cX10_minds 82 = .ok (.invokevirtual 225, 3) := by decide +kernel
theorem dX10_minds_85 : decode cX10_minds 85 = .ok (.pop, 1) := by decide +kernel
theorem dX10_minds_86 : decode cX10_minds 86 = .ok (.iload_n 2, 1) := by decide +kernel
theorem dX10_minds_87 : decode cX10_minds 87 = .ok (.ifCond .eq 7, 3) := by decide +kernel
theorem dX10_minds_90 : decode cX10_minds 90 = .ok (.iconst 1, 1) := by decide +kernel
theorem dX10_minds_91 : decode cX10_minds 91 = .ok (.goto 4, 3) := by decide +kernel
theorem dX10_minds_94 : decode cX10_minds 94 = .ok (.iconst 0, 1) := by decide +kernel
theorem dX10_minds_95 : decode cX10_minds 95 = .ok (.ireturn, 1) := by decide +kernel
theorem dX10_isPlace_0 : decode cX10_isPlace 0 = .ok (.iload_n 1, 1) := by decide +kernel
theorem dX10_isPlace_1 : decode cX10_isPlace 1 = .ok (.i2l, 1) := by decide +kernel
theorem dX10_isPlace_2 : decode cX10_isPlace 2 = .ok (.lconst 0, 1) := by decide +kernel
theorem dX10_isPlace_3 : decode cX10_isPlace 3 = .ok (.aload_n 0, 1) := by decide +kernel
theorem dX10_isPlace_4 : decode cX10_isPlace 4 = .ok (.getfield 228, 3) := by decide +kernel
theorem dX10_isPlace_7 : decode cX10_isPlace 7 = .ok (.iconst 1, 1) := by decide +kernel
theorem dX10_isPlace_8 : decode cX10_isPlace 8 = .ok (.isub, 1) := by decide +kernel
theorem dX10_isPlace_9 : decode cX10_isPlace 9 = .ok (.i2l, 1) := by decide +kernel
theorem dX10_isPlace_10 : decode cX10_isPlace 10 = .ok (.invokestatic 114, 3) := by decide +kernel
theorem dX10_isPlace_13 : decode cX10_isPlace 13 = .ok (.ireturn, 1) := by decide +kernel
theorem dX10_place_0 : decode cX10_place 0 = .ok (.iload_n 1, 1) := by decide +kernel
theorem dX10_place_1 : decode cX10_place 1 = .ok (.i2l, 1) := by decide +kernel
theorem dX10_place_2 : decode cX10_place 2 = .ok (.lconst 0, 1) := by decide +kernel
theorem dX10_place_3 : decode cX10_place 3 = .ok (.ldc2_w 196, 3) := by decide +kernel
theorem dX10_place_6 : decode cX10_place 6 = .ok (.invokestatic 114, 3) := by decide +kernel
theorem dX10_place_9 : decode cX10_place 9 = .ok (.ifCond .eq 15, 3) := by decide +kernel
theorem dX10_place_12 : decode cX10_place 12 = .ok (.iload_n 2, 1) := by decide +kernel
theorem dX10_place_13 : decode cX10_place 13 = .ok (.i2l, 1) := by decide +kernel
theorem dX10_place_14 : decode cX10_place 14 = .ok (.lconst 0, 1) := by decide +kernel
theorem dX10_place_15 : decode cX10_place 15 = .ok (.ldc2_w 231, 3) := by decide +kernel
theorem dX10_place_18 : decode cX10_place 18 = .ok (.invokestatic 114, 3) := by decide +kernel
theorem dX10_place_21 : decode cX10_place 21 = .ok (.ifCond .ne 5, 3) := by decide +kernel
theorem dX10_place_24 : decode cX10_place 24 = .ok (.iconst (-1), 1) := by decide +kernel
theorem dX10_place_25 : decode cX10_place 25 = .ok (.ireturn, 1) := by decide +kernel
theorem dX10_place_26 : decode cX10_place 26 = .ok (.aload_n 0, 1) := by decide +kernel
theorem dX10_place_27 : decode cX10_place 27 = .ok (.getfield 228, 3) := by decide +kernel
theorem dX10_place_30 : decode cX10_place 30 = .ok (.bipush 9, 2) := by decide +kernel
theorem dX10_place_32 : decode cX10_place 32 = .ok (.if_icmp .ne 6, 3) := by decide +kernel
theorem dX10_place_35 : decode cX10_place 35 = .ok (.bipush (-3), 2) := by decide +kernel
theorem dX10_place_37 : decode cX10_place 37 = .ok (.ireturn, 1) := by decide +kernel
theorem dX10_place_38 : decode cX10_place 38 = .ok (.aload_n 0, 1) := by decide +kernel
theorem dX10_place_39 : decode cX10_place 39 = .ok (.getfield 60, 3) := by decide +kernel
theorem dX10_place_42 : decode cX10_place 42 = .ok (.aload_n 0, 1) := by decide +kernel
theorem dX10_place_43 : decode cX10_place 43 = .ok (.getfield 228, 3) := by decide +kernel
theorem dX10_place_46 : decode cX10_place 46 = .ok (.iload_n 1, 1) := by decide +kernel
theorem dX10_place_47 : decode cX10_place 47 = .ok (.iastore, 1) := by decide +kernel
theorem dX10_place_48 : decode cX10_place 48 = .ok (.aload_n 0, 1) := by decide +kernel
theorem dX10_place_49 : decode cX10_place 49 = .ok (.getfield 63, 3) := by decide +kernel
theorem dX10_place_52 : decode cX10_place 52 = .ok (.aload_n 0, 1) := by decide +kernel
theorem dX10_place_53 : decode cX10_place 53 = .ok (.getfield 228, 3) := by decide +kernel
theorem dX10_place_56 : decode cX10_place 56 = .ok (.iload_n 2, 1) := by decide +kernel
theorem dX10_place_57 : decode cX10_place 57 = .ok (.iastore, 1) := by decide +kernel
theorem dX10_place_58 : decode cX10_place 58 = .ok (.aload_n 0, 1) := by decide +kernel
theorem dX10_place_59 : decode cX10_place 59 = .ok (.getfield 66, 3) := by decide +kernel
theorem dX10_place_62 : decode cX10_place 62 = .ok (.aload_n 0, 1) := by decide +kernel
theorem dX10_place_63 : decode cX10_place 63 = .ok (.getfield 228, 3) := by decide +kernel
theorem dX10_place_66 : decode cX10_place 66 = .ok (.iconst 0, 1) := by decide +kernel
theorem dX10_place_67 : decode cX10_place 67 = .ok (.bastore, 1) := by decide +kernel
theorem dX10_place_68 : decode cX10_place 68 = .ok (.aload_n 0, 1) := by decide +kernel
theorem dX10_place_69 : decode cX10_place 69 = .ok (.dup, 1) := by decide +kernel
theorem dX10_place_70 : decode cX10_place 70 = .ok (.getfield 228, 3) := by decide +kernel
theorem dX10_place_73 : decode cX10_place 73 = .ok (.iconst 1, 1) := by decide +kernel
theorem dX10_place_74 : decode cX10_place 74 = .ok (.iadd, 1) := by decide +kernel
theorem dX10_place_75 : decode cX10_place 75 = .ok (.putfield 228, 3) := by decide +kernel
theorem dX10_place_78 : decode cX10_place 78 = .ok (.aload_n 0, 1) := by decide +kernel
theorem dX10_place_79 : decode cX10_place 79 = .ok (.getfield 228, 3) := by decide +kernel
theorem dX10_place_82 : decode cX10_place 82 = .ok (.iconst 1, 1) := by decide +kernel
theorem dX10_place_83 : decode cX10_place 83 = .ok (.isub, 1) := by decide +kernel
theorem dX10_place_84 : decode cX10_place 84 = .ok (.ireturn, 1) := by decide +kernel
theorem dX10_done_0 : decode cX10_done 0 = .ok (.aload_n 0, 1) := by decide +kernel
theorem dX10_done_1 : decode cX10_done 1 = .ok (.iload_n 1, 1) := by decide +kernel
theorem dX10_done_2 : decode cX10_done 2 = .ok (.invokevirtual 233, 3) := by decide +kernel
theorem dX10_done_5 : decode cX10_done 5 = .ok (.ifCond .ne 5, 3) := by decide +kernel
theorem dX10_done_8 : decode cX10_done 8 = .ok (.iconst (-1), 1) := by decide +kernel
theorem dX10_done_9 : decode cX10_done 9 = .ok (.ireturn, 1) := by decide +kernel
theorem dX10_done_10 : decode cX10_done 10 = .ok (.aload_n 0, 1) := by decide +kernel
theorem dX10_done_11 : decode cX10_done 11 = .ok (.getfield 66, 3) := by decide +kernel
theorem dX10_done_14 : decode cX10_done 14 = .ok (.iload_n 1, 1) := by decide +kernel
theorem dX10_done_15 : decode cX10_done 15 = .ok (.baload, 1) := by decide +kernel
theorem dX10_done_16 : decode cX10_done 16 = .ok (.ifCond .eq 7, 3) := by decide +kernel
theorem dX10_done_19 : decode cX10_done 19 = .ok (.iconst 1, 1) := by decide +kernel
theorem dX10_done_20 : decode cX10_done 20 = .ok (.goto 4, 3) := by decide +kernel
theorem dX10_done_23 : decode cX10_done 23 = .ok (.iconst 0, 1) := by decide +kernel
theorem dX10_done_24 : decode cX10_done 24 = .ok (.istore_n 3, 1) := by decide +kernel
theorem dX10_done_25 : decode cX10_done 25 = .ok (.aload_n 0, 1) := by decide +kernel
theorem dX10_done_26 : decode cX10_done 26 = .ok (.getfield 66, 3) := by decide +kernel
theorem dX10_done_29 : decode cX10_done 29 = .ok (.iload_n 1, 1) := by decide +kernel
theorem dX10_done_30 : decode cX10_done 30 = .ok (.iload_n 2, 1) := by decide +kernel
theorem dX10_done_31 : decode cX10_done 31 = .ok (.bastore, 1) := by decide +kernel
theorem dX10_done_32 : decode cX10_done 32 = .ok (.iload_n 3, 1) := by decide +kernel
theorem dX10_done_33 : decode cX10_done 33 = .ok (.ireturn, 1) := by decide +kernel
theorem dX10_move_0 : decode cX10_move 0 = .ok (.iload_n 1, 1) := by decide +kernel
theorem dX10_move_1 : decode cX10_move 1 = .ok (.aload_n 0, 1) := by decide +kernel
theorem dX10_move_2 : decode cX10_move 2 = .ok (.getfield 60, 3) := by decide +kernel
theorem dX10_move_5 : decode cX10_move 5 = .ok (.iload_n 3, 1) := by decide +kernel
theorem dX10_move_6 : decode cX10_move 6 = .ok (.iaload, 1) := by decide +kernel
theorem dX10_move_7 : decode cX10_move 7 = .ok (.isub, 1) := by decide +kernel
theorem dX10_move_8 : decode cX10_move 8 = .ok (.istore 4, 2) := by decide +kernel
theorem dX10_move_10 : decode cX10_move 10 = .ok (.iload 4, 2) := by decide +kernel
theorem dX10_move_12 : decode cX10_move 12 = .ok (.ifCond .ge 9, 3) := by decide +kernel
theorem dX10_move_15 : decode cX10_move 15 = .ok (.iload 4, 2) := by decide +kernel
theorem dX10_move_17 : decode cX10_move 17 = .ok (.ineg, 1) := by decide +kernel
theorem dX10_move_18 : decode cX10_move 18 = .ok (.goto 5, 3) := by decide +kernel
theorem dX10_move_21 : decode cX10_move 21 = .ok (.iload 4, 2) := by decide +kernel
theorem dX10_move_23 : decode cX10_move 23 = .ok (.istore 4, 2) := by decide +kernel
theorem dX10_move_25 : decode cX10_move 25 = .ok (.iload 4, 2) := by decide +kernel
theorem dX10_move_27 : decode cX10_move 27 = .ok (.bipush 12, 2) := by decide +kernel
theorem dX10_move_29 : decode cX10_move 29 = .ok (.if_icmp .le 11, 3) := by decide +kernel
theorem dX10_move_32 : decode cX10_move 32 = .ok (.bipush 24, 2) := by decide +kernel
theorem dX10_move_34 : decode cX10_move 34 = .ok (.iload 4, 2) := by decide +kernel
theorem dX10_move_36 : decode cX10_move 36 = .ok (.isub, 1) := by decide +kernel
theorem dX10_move_37 : decode cX10_move 37 = .ok (.goto 5, 3) := by decide +kernel
theorem dX10_move_40 : decode cX10_move 40 = .ok (.iload 4, 2) := by decide +kernel
theorem dX10_move_42 : decode cX10_move 42 = .ok (.istore 4, 2) := by decide +kernel
theorem dX10_move_44 : decode cX10_move 44 = .ok (.iload_n 2, 1) := by decide +kernel
theorem dX10_move_45 : decode cX10_move 45 = .ok (.aload_n 0, 1) := by decide +kernel
theorem dX10_move_46 : decode cX10_move 46 = .ok (.getfield 63, 3) := by decide +kernel
theorem dX10_move_49 : decode cX10_move 49 = .ok (.iload_n 3, 1) := by decide +kernel
theorem dX10_move_50 : decode cX10_move 50 = .ok (.iaload, 1) := by decide +kernel
theorem dX10_move_51 : decode cX10_move 51 = .ok (.isub, 1) := by decide +kernel
theorem dX10_move_52 : decode cX10_move 52 = .ok (.istore 5, 2) := by decide +kernel
theorem dX10_move_54 : decode cX10_move 54 = .ok (.iconst 3, 1) := by decide +kernel
theorem dX10_move_55 : decode cX10_move 55 = .ok (.iload 4, 2) := by decide +kernel
theorem dX10_move_57 : decode cX10_move 57 = .ok (.imul, 1) := by decide +kernel
theorem dX10_move_58 : decode cX10_move 58 = .ok (.bipush 7, 2) := by decide +kernel
theorem dX10_move_60 : decode cX10_move 60 = .ok (.iload 5, 2) := by decide +kernel
theorem dX10_move_62 : decode cX10_move 62 = .ok (.ifCond .ge 9, 3) := by decide +kernel
theorem dX10_move_65 : decode cX10_move 65 = .ok (.iload 5, 2) := by decide +kernel
theorem dX10_move_67 : decode cX10_move 67 = .ok (.ineg, 1) := by decide +kernel
theorem dX10_move_68 : decode cX10_move 68 = .ok (.goto 5, 3) := by decide +kernel
theorem dX10_move_71 : decode cX10_move 71 = .ok (.iload 5, 2) := by decide +kernel
theorem dX10_move_73 : decode cX10_move 73 = .ok (.imul, 1) := by decide +kernel
theorem dX10_move_74 : decode cX10_move 74 = .ok (.iadd, 1) := by decide +kernel
theorem dX10_move_75 : decode cX10_move 75 = .ok (.ireturn, 1) := by decide +kernel
theorem dX10_moves_0 : decode cX10_moves 0 = .ok (.aload_n 0, 1) := by decide +kernel
theorem dX10_moves_1 : decode cX10_moves 1 = .ok (.iload_n 1, 1) := by decide +kernel
theorem dX10_moves_2 : decode cX10_moves 2 = .ok (.invokevirtual 233, 3) := by decide +kernel
theorem dX10_moves_5 : decode cX10_moves 5 = .ok (.ifCond .eq 31, 3) := by decide +kernel
theorem dX10_moves_8 : decode cX10_moves 8 = .ok (.aload_n 0, 1) := by decide +kernel
theorem dX10_moves_9 : decode cX10_moves 9 = .ok (.iload_n 2, 1) := by decide +kernel
theorem dX10_moves_10 : decode cX10_moves 10 = .ok (.invokevirtual 233, 3) := by decide +kernel
theorem dX10_moves_13 : decode cX10_moves 13 = .ok (.ifCond .eq 23, 3) := by decide +kernel
theorem dX10_moves_16 : decode cX10_moves 16 = .ok (.aload_n 0, 1) := by decide +kernel
theorem dX10_moves_17 : decode cX10_moves 17 = .ok (.aload_n 0, 1) := by decide +kernel
theorem dX10_moves_18 : decode cX10_moves 18 = .ok (.getfield 60, 3) := by decide +kernel
theorem dX10_moves_21 : decode cX10_moves 21 = .ok (.iload_n 1, 1) := by decide +kernel
theorem dX10_moves_22 : decode cX10_moves 22 = .ok (.iaload, 1) := by decide +kernel
theorem dX10_moves_23 : decode cX10_moves 23 = .ok (.aload_n 0, 1) := by decide +kernel
theorem dX10_moves_24 : decode cX10_moves 24 = .ok (.getfield 63, 3) := by decide +kernel
theorem dX10_moves_27 : decode cX10_moves 27 = .ok (.iload_n 1, 1) := by decide +kernel
theorem dX10_moves_28 : decode cX10_moves 28 = .ok (.iaload, 1) := by decide +kernel
theorem dX10_moves_29 : decode cX10_moves 29 = .ok (.iload_n 2, 1) := by decide +kernel
theorem dX10_moves_30 : decode cX10_moves 30 = .ok (.invokevirtual 236, 3) := by decide +kernel
theorem dX10_moves_33 : decode cX10_moves 33 = .ok (.goto 4, 3) := by decide +kernel
theorem dX10_moves_36 : decode cX10_moves 36 = .ok (.iconst (-1), 1) := by decide +kernel
theorem dX10_moves_37 : decode cX10_moves 37 = .ok (.ireturn, 1) := by decide +kernel
theorem dX10_behind_0 : decode cX10_behind 0 = .ok (.iload_n 1, 1) := by decide +kernel
theorem dX10_behind_1 : decode cX10_behind 1 = .ok (.ifCond .ne 7, 3) := by decide +kernel
theorem dX10_behind_4 : decode cX10_behind 4 = .ok (.iconst 0, 1) := by decide +kernel
theorem dX10_behind_5 : decode cX10_behind 5 = .ok (.goto 14, 3) := by decide +kernel
theorem dX10_behind_8 : decode cX10_behind 8 = .ok (.aload_n 0, 1) := by decide +kernel
theorem dX10_behind_9 : decode cX10_behind 9 = .ok (.getfield 69, 3) := by decide +kernel
theorem dX10_behind_12 : decode cX10_behind 12 = .ok (.bipush 9, 2) := by decide +kernel
theorem dX10_behind_14 : decode cX10_behind 14 = .ok (.iload_n 1, 1) := by decide +kernel
theorem dX10_behind_15 : decode cX10_behind 15 = .ok (.imul, 1) := by decide +kernel
theorem dX10_behind_16 : decode cX10_behind 16 = .ok (.iload_n 2, 1) := by decide +kernel
theorem dX10_behind_17 : decode cX10_behind 17 = .ok (.iadd, 1) := by decide +kernel
theorem dX10_behind_18 : decode cX10_behind 18 = .ok (.iaload, 1) := by decide +kernel
theorem dX10_behind_19 : decode cX10_behind 19 = .ok (.ireturn, 1) := by decide +kernel
theorem dX10_cost_0 : decode cX10_cost 0 = .ok (.iload_n 1, 1) := by decide +kernel
theorem dX10_cost_1 : decode cX10_cost 1 = .ok (.bipush (-4), 2) := by decide +kernel
theorem dX10_cost_3 : decode cX10_cost 3 = .ok (.if_icmp .ne 13, 3) := by decide +kernel
theorem dX10_cost_6 : decode cX10_cost 6 = .ok (.aload_n 0, 1) := by decide +kernel
theorem dX10_cost_7 : decode cX10_cost 7 = .ok (.iconst 0, 1) := by decide +kernel
theorem dX10_cost_8 : decode cX10_cost 8 = .ok (.iconst 0, 1) := by decide +kernel
theorem dX10_cost_9 : decode cX10_cost 9 = .ok (.iload_n 2, 1) := by decide +kernel
theorem dX10_cost_10 : decode cX10_cost 10 = .ok (.invokevirtual 236, 3) := by decide +kernel
theorem dX10_cost_13 : decode cX10_cost 13 = .ok (.goto 20, 3) := by decide +kernel
theorem dX10_cost_16 : decode cX10_cost 16 = .ok (.aload_n 0, 1) := by decide +kernel
theorem dX10_cost_17 : decode cX10_cost 17 = .ok (.aload_n 0, 1) := by decide +kernel
theorem dX10_cost_18 : decode cX10_cost 18 = .ok (.getfield 60, 3) := by decide +kernel
theorem dX10_cost_21 : decode cX10_cost 21 = .ok (.iload_n 1, 1) := by decide +kernel
theorem dX10_cost_22 : decode cX10_cost 22 = .ok (.iaload, 1) := by decide +kernel
theorem dX10_cost_23 : decode cX10_cost 23 = .ok (.aload_n 0, 1) := by decide +kernel
theorem dX10_cost_24 : decode cX10_cost 24 = .ok (.getfield 63, 3) := by decide +kernel
theorem dX10_cost_27 : decode cX10_cost 27 = .ok (.iload_n 1, 1) := by decide +kernel
theorem dX10_cost_28 : decode cX10_cost 28 = .ok (.iaload, 1) := by decide +kernel
theorem dX10_cost_29 : decode cX10_cost 29 = .ok (.iload_n 2, 1) := by decide +kernel
theorem dX10_cost_30 : decode cX10_cost 30 = .ok (.invokevirtual 236, 3) := by decide +kernel
theorem dX10_cost_33 : decode cX10_cost 33 = .ok (.ireturn, 1) := by decide +kernel
theorem dX10_best_0 : decode cX10_best 0 = .ok (.bipush (-4), 2) := by decide +kernel
theorem dX10_best_2 : decode cX10_best 2 = .ok (.istore_n 3, 1) := by decide +kernel
theorem dX10_best_3 : decode cX10_best 3 = .ok (.iconst 0, 1) := by decide +kernel
theorem dX10_best_4 : decode cX10_best 4 = .ok (.istore 4, 2) := by decide +kernel
theorem dX10_best_6 : decode cX10_best 6 = .ok (.iload 4, 2) := by decide +kernel
theorem dX10_best_8 : decode cX10_best 8 = .ok (.aload_n 0, 1) := by decide +kernel
theorem dX10_best_9 : decode cX10_best 9 = .ok (.getfield 228, 3) := by decide +kernel
theorem dX10_best_12 : decode cX10_best 12 = .ok (.if_icmp .ge 60, 3) := by decide +kernel
theorem dX10_best_15 : decode cX10_best 15 = .ok (.iload_n 1, 1) := by decide +kernel
theorem dX10_best_16 : decode cX10_best 16 = .ok (.iload 4, 2) := by decide +kernel
theorem dX10_best_18 : decode cX10_best 18 = .ok (.ishr, 1) := by decide +kernel
theorem dX10_best_19 : decode cX10_best 19 = .ok (.iconst 1, 1) := by decide +kernel
theorem dX10_best_20 : decode cX10_best 20 = .ok (.iand, 1) := by decide +kernel
theorem dX10_best_21 : decode cX10_best 21 = .ok (.iconst 1, 1) := by decide +kernel
theorem dX10_best_22 : decode cX10_best 22 = .ok (.if_icmp .ne 44, 3) := by decide +kernel
theorem dX10_best_25 : decode cX10_best 25 = .ok (.aload_n 0, 1) := by decide +kernel
theorem dX10_best_26 : decode cX10_best 26 = .ok (.iload_n 2, 1) := by decide +kernel
theorem dX10_best_27 : decode cX10_best 27 = .ok (.iload 4, 2) := by decide +kernel
theorem dX10_best_29 : decode cX10_best 29 = .ok (.invokevirtual 240, 3) := by decide +kernel
theorem dX10_best_32 : decode cX10_best 32 = .ok (.aload_n 0, 1) := by decide +kernel
theorem dX10_best_33 : decode cX10_best 33 = .ok (.iload_n 1, 1) := by decide +kernel
theorem dX10_best_34 : decode cX10_best 34 = .ok (.iconst 1, 1) := by decide +kernel
theorem dX10_best_35 : decode cX10_best 35 = .ok (.iload 4, 2) := by decide +kernel
theorem dX10_best_37 : decode cX10_best 37 = .ok (.ishl, 1) := by decide +kernel
theorem dX10_best_38 : decode cX10_best 38 = .ok (.isub, 1) := by decide +kernel
theorem dX10_best_39 : decode cX10_best 39 = .ok (.iload 4, 2) := by decide +kernel
theorem dX10_best_41 : decode cX10_best 41 = .ok (.invokevirtual 244, 3) := by decide +kernel
theorem dX10_best_44 : decode cX10_best 44 = .ok (.iadd, 1) := by decide +kernel
theorem dX10_best_45 : decode cX10_best 45 = .ok (.istore 5, 2) := by decide +kernel
theorem dX10_best_47 : decode cX10_best 47 = .ok (.iload_n 3, 1) := by decide +kernel
theorem dX10_best_48 : decode cX10_best 48 = .ok (.bipush (-4), 2) := by decide +kernel
theorem dX10_best_50 : decode cX10_best 50 = .ok (.if_icmp .eq 9, 3) := by decide +kernel
theorem dX10_best_53 : decode cX10_best 53 = .ok (.iload 5, 2) := by decide +kernel
theorem dX10_best_55 : decode cX10_best 55 = .ok (.iload_n 3, 1) := by decide +kernel
theorem dX10_best_56 : decode cX10_best 56 = .ok (.if_icmp .ge 8, 3) := by decide +kernel
theorem dX10_best_59 : decode cX10_best 59 = .ok (.iload 5, 2) := by decide +kernel
theorem dX10_best_61 : decode cX10_best 61 = .ok (.goto 4, 3) := by decide +kernel
theorem dX10_best_64 : decode cX10_best 64 = .ok (.iload_n 3, 1) := by decide +kernel
theorem dX10_best_65 : decode cX10_best 65 = .ok (.istore_n 3, 1) := by decide +kernel
theorem dX10_best_66 : decode cX10_best 66 = .ok (.iinc 4 1, 3) := by decide +kernel
theorem dX10_best_69 : decode cX10_best 69 = .ok (.goto (-63), 3) := by decide +kernel
theorem dX10_best_72 : decode cX10_best 72 = .ok (.iload_n 3, 1) := by decide +kernel
theorem dX10_best_73 : decode cX10_best 73 = .ok (.bipush (-4), 2) := by decide +kernel
theorem dX10_best_75 : decode cX10_best 75 = .ok (.if_icmp .ne 7, 3) := by decide +kernel
theorem dX10_best_78 : decode cX10_best 78 = .ok (.iconst 0, 1) := by decide +kernel
theorem dX10_best_79 : decode cX10_best 79 = .ok (.goto 4, 3) := by decide +kernel
theorem dX10_best_82 : decode cX10_best 82 = .ok (.iload_n 3, 1) := by decide +kernel
theorem dX10_best_83 : decode cX10_best 83 = .ok (.ireturn, 1) := by decide +kernel
theorem dX10_findAll_0 : decode cX10_findAll 0 = .ok (.iconst 0, 1) := by decide +kernel
theorem dX10_findAll_1 : decode cX10_findAll 1 = .ok (.istore_n 1, 1) := by decide +kernel
theorem dX10_findAll_2 : decode cX10_findAll 2 = .ok (.iconst 0, 1) := by decide +kernel
theorem dX10_findAll_3 : decode cX10_findAll 3 = .ok (.istore_n 2, 1) := by decide +kernel
theorem dX10_findAll_4 : decode cX10_findAll 4 = .ok (.iload_n 2, 1) := by decide +kernel
theorem dX10_findAll_5 : decode cX10_findAll 5 = .ok (.aload_n 0, 1) := by decide +kernel
theorem dX10_findAll_6 : decode cX10_findAll 6 = .ok (.getfield 228, 3) := by decide +kernel
theorem dX10_findAll_9 : decode cX10_findAll 9 = .ok (.if_icmp .ge 28, 3) := by decide +kernel
theorem dX10_findAll_12 : decode cX10_findAll 12 = .ok (.iload_n 1, 1) := by decide +kernel
theorem dX10_findAll_13 : decode cX10_findAll 13 = .ok (.aload_n 0, 1) := by decide +kernel
theorem dX10_findAll_14 : decode cX10_findAll 14 = .ok (.getfield 66, 3) := by decide +kernel
theorem dX10_findAll_17 : decode cX10_findAll 17 = .ok (.iload_n 2, 1) := by decide +kernel
theorem dX10_findAll_18 : decode cX10_findAll 18 = .ok (.baload, 1) := by decide +kernel
theorem dX10_findAll_19 : decode cX10_findAll 19 = .ok (.ifCond .eq 7, 3) := by decide +kernel
theorem dX10_findAll_22 : decode cX10_findAll 22 = .ok (.iconst 0, 1) := by decide +kernel
theorem dX10_findAll_23 : decode cX10_findAll 23 = .ok (.goto 6, 3) := by decide +kernel
theorem dX10_findAll_26 : decode cX10_findAll 26 = .ok (.iconst 1, 1) := by decide +kernel
theorem dX10_findAll_27 : decode cX10_findAll 27 = .ok (.iload_n 2, 1) := by decide +kernel
theorem dX10_findAll_28 : decode cX10_findAll 28 = .ok (.ishl, 1) := by decide +kernel
theorem dX10_findAll_29 : decode cX10_findAll 29 = .ok (.iadd, 1) := by decide +kernel
theorem dX10_findAll_30 : decode cX10_findAll 30 = .ok (.istore_n 1, 1) := by decide +kernel
theorem dX10_findAll_31 : decode cX10_findAll 31 = .ok (.iinc 2 1, 3) := by decide +kernel
theorem dX10_findAll_34 : decode cX10_findAll 34 = .ok (.goto (-30), 3) := by decide +kernel
theorem dX10_findAll_37 : decode cX10_findAll 37 = .ok (.iconst 1, 1) := by decide +kernel
theorem dX10_findAll_38 : decode cX10_findAll 38 = .ok (.istore_n 2, 1) := by decide +kernel
theorem dX10_findAll_39 : decode cX10_findAll 39 = .ok (.iload_n 2, 1) := by decide +kernel
theorem dX10_findAll_40 : decode cX10_findAll 40 = .ok (.iconst 1, 1) := by decide +kernel
theorem dX10_findAll_41 : decode cX10_findAll 41 = .ok (.aload_n 0, 1) := by decide +kernel
theorem dX10_findAll_42 : decode cX10_findAll 42 = .ok (.getfield 228, 3) := by decide +kernel
theorem dX10_findAll_45 : decode cX10_findAll 45 = .ok (.ishl, 1) := by decide +kernel
theorem dX10_findAll_46 : decode cX10_findAll 46 = .ok (.if_icmp .ge 42, 3) := by decide +kernel
theorem dX10_findAll_49 : decode cX10_findAll 49 = .ok (.iconst 0, 1) := by decide +kernel
theorem dX10_findAll_50 : decode cX10_findAll 50 = .ok (.istore_n 3, 1) := by decide +kernel
theorem dX10_findAll_51 : decode cX10_findAll 51 = .ok (.iload_n 3, 1) := by decide +kernel
theorem dX10_findAll_52 : decode cX10_findAll 52 = .ok (.aload_n 0, 1) := by decide +kernel
theorem dX10_findAll_53 : decode cX10_findAll 53 = .ok (.getfield 228, 3) := by decide +kernel
theorem dX10_findAll_56 : decode cX10_findAll 56 = .ok (.if_icmp .ge 26, 3) := by decide +kernel
theorem dX10_findAll_59 : decode cX10_findAll 59 = .ok (.aload_n 0, 1) := by decide +kernel
theorem dX10_findAll_60 : decode cX10_findAll 60 = .ok (.getfield 69, 3) := by decide +kernel
theorem dX10_findAll_63 : decode cX10_findAll 63 = .ok (.bipush 9, 2) := by decide +kernel
theorem dX10_findAll_65 : decode cX10_findAll 65 = .ok (.iload_n 2, 1) := by decide +kernel
theorem dX10_findAll_66 : decode cX10_findAll 66 = .ok (.imul, 1) := by decide +kernel
theorem dX10_findAll_67 : decode cX10_findAll 67 = .ok (.iload_n 3, 1) := by decide +kernel
theorem dX10_findAll_68 : decode cX10_findAll 68 = .ok (.iadd, 1) := by decide +kernel
theorem dX10_findAll_69 : decode cX10_findAll 69 = .ok (.aload_n 0, 1) := by decide +kernel
theorem dX10_findAll_70 : decode cX10_findAll 70 = .ok (.iload_n 2, 1) := by decide +kernel
theorem dX10_findAll_71 : decode cX10_findAll 71 = .ok (.iload_n 3, 1) := by decide +kernel
theorem dX10_findAll_72 : decode cX10_findAll 72 = .ok (.invokevirtual 247, 3) := by decide +kernel
theorem dX10_findAll_75 : decode cX10_findAll 75 = .ok (.iastore, 1) := by decide +kernel
theorem dX10_findAll_76 : decode cX10_findAll 76 = .ok (.iinc 3 1, 3) := by decide +kernel
theorem dX10_findAll_79 : decode cX10_findAll 79 = .ok (.goto (-28), 3) := by decide +kernel
theorem dX10_findAll_82 : decode cX10_findAll 82 = .ok (.iinc 2 1, 3) := by decide +kernel
theorem dX10_findAll_85 : decode cX10_findAll 85 = .ok (.goto (-46), 3) := by decide +kernel
theorem dX10_findAll_88 : decode cX10_findAll 88 = .ok (.iload_n 1, 1) := by decide +kernel
theorem dX10_findAll_89 : decode cX10_findAll 89 = .ok (.ireturn, 1) := by decide +kernel
theorem dX10_least_0 : decode cX10_least 0 = .ok (.aload_n 0, 1) := by decide +kernel
theorem dX10_least_1 : decode cX10_least 1 = .ok (.invokevirtual 250, 3) := by decide +kernel
theorem dX10_least_4 : decode cX10_least 4 = .ok (.istore_n 1, 1) := by decide +kernel
theorem dX10_least_5 : decode cX10_least 5 = .ok (.aload_n 0, 1) := by decide +kernel
theorem dX10_least_6 : decode cX10_least 6 = .ok (.iload_n 1, 1) := by decide +kernel
theorem dX10_least_7 : decode cX10_least 7 = .ok (.bipush (-4), 2) := by decide +kernel
theorem dX10_least_9 : decode cX10_least 9 = .ok (.invokevirtual 247, 3) := by decide +kernel
theorem dX10_least_12 : decode cX10_least 12 = .ok (.ireturn, 1) := by decide +kernel
theorem dX10_order_0 : decode cX10_order 0 = .ok (.iload_n 1, 1) := by decide +kernel
theorem dX10_order_1 : decode cX10_order 1 = .ok (.ifCond .ge 5, 3) := by decide +kernel
theorem dX10_order_4 : decode cX10_order 4 = .ok (.iconst (-1), 1) := by decide +kernel
theorem dX10_order_5 : decode cX10_order 5 = .ok (.ireturn, 1) := by decide +kernel
theorem dX10_order_6 : decode cX10_order 6 = .ok (.aload_n 0, 1) := by decide +kernel
theorem dX10_order_7 : decode cX10_order 7 = .ok (.invokevirtual 250, 3) := by decide +kernel
theorem dX10_order_10 : decode cX10_order 10 = .ok (.istore_n 2, 1) := by decide +kernel
theorem dX10_order_11 : decode cX10_order 11 = .ok (.bipush (-4), 2) := by decide +kernel
theorem dX10_order_13 : decode cX10_order 13 = .ok (.istore_n 3, 1) := by decide +kernel
theorem dX10_order_14 : decode cX10_order 14 = .ok (.iconst 0, 1) := by decide +kernel
theorem dX10_order_15 : decode cX10_order 15 = .ok (.istore 4, 2) := by decide +kernel
theorem dX10_order_17 : decode cX10_order 17 = .ok (.iload_n 2, 1) := by decide +kernel
theorem dX10_order_18 : decode cX10_order 18 = .ok (.ifCond .eq 79, 3) := by decide +kernel
theorem dX10_order_21 : decode cX10_order 21 = .ok (.aload_n 0, 1) := by decide +kernel
theorem dX10_order_22 : decode cX10_order 22 = .ok (.iload_n 2, 1) := by decide +kernel
theorem dX10_order_23 : decode cX10_order 23 = .ok (.iload_n 3, 1) := by decide +kernel
theorem dX10_order_24 : decode cX10_order 24 = .ok (.invokevirtual 247, 3) := by decide +kernel
theorem dX10_order_27 : decode cX10_order 27 = .ok (.istore 5, 2) := by decide +kernel
theorem dX10_order_29 : decode cX10_order 29 = .ok (.iconst 0, 1) := by decide +kernel
theorem dX10_order_30 : decode cX10_order 30 = .ok (.istore 6, 2) := by decide +kernel
theorem dX10_order_32 : decode cX10_order 32 = .ok (.iload_n 2, 1) := by decide +kernel
theorem dX10_order_33 : decode cX10_order 33 = .ok (.iload 6, 2) := by decide +kernel
theorem dX10_order_35 : decode cX10_order 35 = .ok (.ishr, 1) := by decide +kernel
theorem dX10_order_36 : decode cX10_order 36 = .ok (.iconst 1, 1) := by decide +kernel
theorem dX10_order_37 : decode cX10_order 37 = .ok (.iand, 1) := by decide +kernel
theorem dX10_order_38 : decode cX10_order 38 = .ok (.ifCond .eq 28, 3) := by decide +kernel
theorem dX10_order_41 : decode cX10_order 41 = .ok (.aload_n 0, 1) := by decide +kernel
theorem dX10_order_42 : decode cX10_order 42 = .ok (.iload_n 3, 1) := by decide +kernel
theorem dX10_order_43 : decode cX10_order 43 = .ok (.iload 6, 2) := by decide +kernel
theorem dX10_order_45 : decode cX10_order 45 = .ok (.invokevirtual 240, 3) := by decide +kernel
theorem dX10_order_48 : decode cX10_order 48 = .ok (.aload_n 0, 1) := by decide +kernel
theorem dX10_order_49 : decode cX10_order 49 = .ok (.iload_n 2, 1) := by decide +kernel
theorem dX10_order_50 : decode cX10_order 50 = .ok (.iconst 1, 1) := by decide +kernel
theorem dX10_order_51 : decode cX10_order 51 = .ok (.iload 6, 2) := by decide +kernel
theorem dX10_order_53 : decode cX10_order 53 = .ok (.ishl, 1) := by decide +kernel
theorem dX10_order_54 : decode cX10_order 54 = .ok (.isub, 1) := by decide +kernel
theorem dX10_order_55 : decode cX10_order 55 = .ok (.iload 6, 2) := by decide +kernel
theorem dX10_order_57 : decode cX10_order 57 = .ok (.invokevirtual 244, 3) := by decide +kernel
theorem dX10_order_60 : decode cX10_order 60 = .ok (.iadd, 1) := by decide +kernel
theorem dX10_order_61 : decode cX10_order 61 = .ok (.iload 5, 2) := by decide +kernel
theorem dX10_order_63 : decode cX10_order 63 = .ok (.if_icmp .eq 9, 3) := by decide +kernel
theorem dX10_order_66 : decode cX10_order 66 = .ok (.iinc 6 1, 3) := by decide +kernel
theorem dX10_order_69 : decode cX10_order 69 = .ok (.goto (-37), 3) := by decide +kernel
theorem dX10_order_72 : decode cX10_order 72 = .ok (.iload 4, 2) := by decide +kernel
theorem dX10_order_74 : decode cX10_order 74 = .ok (.iload_n 1, 1) := by decide +kernel
theorem dX10_order_75 : decode cX10_order 75 = .ok (.if_icmp .ne 6, 3) := by decide +kernel
theorem dX10_order_78 : decode cX10_order 78 = .ok (.iload 6, 2) := by decide +kernel
theorem dX10_order_80 : decode cX10_order 80 = .ok (.ireturn, 1) := by decide +kernel
theorem dX10_order_81 : decode cX10_order 81 = .ok (.iload_n 2, 1) := by decide +kernel
theorem dX10_order_82 : decode cX10_order 82 = .ok (.iconst 1, 1) := by decide +kernel
theorem dX10_order_83 : decode cX10_order 83 = .ok (.iload 6, 2) := by decide +kernel
theorem dX10_order_85 : decode cX10_order 85 = .ok (.ishl, 1) := by decide +kernel
theorem dX10_order_86 : decode cX10_order 86 = .ok (.isub, 1) := by decide +kernel
theorem dX10_order_87 : decode cX10_order 87 = .ok (.istore_n 2, 1) := by decide +kernel
theorem dX10_order_88 : decode cX10_order 88 = .ok (.iload 6, 2) := by decide +kernel
theorem dX10_order_90 : decode cX10_order 90 = .ok (.istore_n 3, 1) := by decide +kernel
theorem dX10_order_91 : decode cX10_order 91 = .ok (.iinc 4 1, 3) := by decide +kernel
theorem dX10_order_94 : decode cX10_order 94 = .ok (.goto (-77), 3) := by decide +kernel
theorem dX10_order_97 : decode cX10_order 97 = .ok (.bipush (-4), 2) := by decide +kernel
theorem dX10_order_99 : decode cX10_order 99 = .ok (.ireturn, 1) := by decide +kernel
theorem dX10_waits_0 : decode cX10_waits 0 = .ok (.aload_n 0, 1) := by decide +kernel
theorem dX10_waits_1 : decode cX10_waits 1 = .ok (.iconst 0, 1) := by decide +kernel
theorem dX10_waits_2 : decode cX10_waits 2 = .ok (.putfield 254, 3) := by decide +kernel
theorem dX10_waits_5 : decode cX10_waits 5 = .ok (.aload_n 0, 1) := by decide +kernel
theorem dX10_waits_6 : decode cX10_waits 6 = .ok (.iconst 0, 1) := by decide +kernel
theorem dX10_waits_7 : decode cX10_waits 7 = .ok (.putfield 257, 3) := by decide +kernel
theorem dX10_waits_10 : decode cX10_waits 10 = .ok (.aload_n 0, 1) := by decide +kernel
theorem dX10_waits_11 : decode cX10_waits 11 = .ok (.bipush (-4), 2) := by decide +kernel
theorem dX10_waits_13 : decode cX10_waits 13 = .ok (.putfield 86, 3) := by decide +kernel
theorem dX10_waits_16 : decode cX10_waits 16 = .ok (.return_, 1) := by decide +kernel
theorem dX10_rule_0 : decode cX10_rule 0 = .ok (.iload_n 1, 1) := by decide +kernel
theorem dX10_rule_1 : decode cX10_rule 1 = .ok (.i2l, 1) := by decide +kernel
theorem dX10_rule_2 : decode cX10_rule 2 = .ok (.lconst 1, 1) := by decide +kernel
theorem dX10_rule_3 : decode cX10_rule 3 = .ok (.ldc2_w 260, 3) := by decide +kernel
theorem dX10_rule_6 : decode cX10_rule 6 = .ok (.invokestatic 114, 3) := by decide +kernel
theorem dX10_rule_9 : decode cX10_rule 9 = .ok (.ifCond .eq 40, 3) := by decide +kernel
theorem dX10_rule_12 : decode cX10_rule 12 = .ok (.iload_n 2, 1) := by decide +kernel
theorem dX10_rule_13 : decode cX10_rule 13 = .ok (.i2l, 1) := by decide +kernel
theorem dX10_rule_14 : decode cX10_rule 14 = .ok (.lconst 0, 1) := by decide +kernel
theorem dX10_rule_15 : decode cX10_rule 15 = .ok (.ldc2_w 262, 3) := by decide +kernel
theorem dX10_rule_18 : decode cX10_rule 18 = .ok (.invokestatic 114, 3) := by decide +kernel
theorem dX10_rule_21 : decode cX10_rule 21 = .ok (.ifCond .eq 28, 3) := by decide +kernel
theorem dX10_rule_24 : decode cX10_rule 24 = .ok (.iload_n 3, 1) := by decide +kernel
theorem dX10_rule_25 : decode cX10_rule 25 = .ok (.i2l, 1) := by decide +kernel
theorem dX10_rule_26 : decode cX10_rule 26 = .ok (.lconst 1, 1) := by decide +kernel
theorem dX10_rule_27 : decode cX10_rule 27 = .ok (.ldc2_w 126, 3) := by decide +kernel
theorem dX10_rule_30 : decode cX10_rule 30 = .ok (.invokestatic 114, 3) := by decide +kernel
theorem dX10_rule_33 : decode cX10_rule 33 = .ok (.ifCond .eq 16, 3) := by decide +kernel
theorem dX10_rule_36 : decode cX10_rule 36 = .ok (.iload 4, 2) := by decide +kernel
theorem dX10_rule_38 : decode cX10_rule 38 = .ok (.i2l, 1) := by decide +kernel
theorem dX10_rule_39 : decode cX10_rule 39 = .ok (.lconst 1, 1) := by decide +kernel
theorem dX10_rule_40 : decode cX10_rule 40 = .ok (.ldc2_w 112, 3) := by decide +kernel
theorem dX10_rule_43 : decode cX10_rule 43 = .ok (.invokestatic 114, 3) := by decide +kernel
theorem dX10_rule_46 : decode cX10_rule 46 = .ok (.ifCond .ne 5, 3) := by decide +kernel
theorem dX10_rule_49 : decode cX10_rule 49 = .ok (.iconst (-1), 1) := by decide +kernel
theorem dX10_rule_50 : decode cX10_rule 50 = .ok (.ireturn, 1) := by decide +kernel
theorem dX10_rule_51 : decode cX10_rule 51 = .ok (.aload_n 0, 1) := by decide +kernel
theorem dX10_rule_52 : decode cX10_rule 52 = .ok (.iload_n 1, 1) := by decide +kernel
theorem dX10_rule_53 : decode cX10_rule 53 = .ok (.putfield 72, 3) := by decide +kernel
theorem dX10_rule_56 : decode cX10_rule 56 = .ok (.aload_n 0, 1) := by decide +kernel
theorem dX10_rule_57 : decode cX10_rule 57 = .ok (.iload_n 2, 1) := by decide +kernel
theorem dX10_rule_58 : decode cX10_rule 58 = .ok (.putfield 76, 3) := by decide +kernel
theorem dX10_rule_61 : decode cX10_rule 61 = .ok (.aload_n 0, 1) := by decide +kernel
theorem dX10_rule_62 : decode cX10_rule 62 = .ok (.iload_n 3, 1) := by decide +kernel
theorem dX10_rule_63 : decode cX10_rule 63 = .ok (.putfield 79, 3) := by decide +kernel
theorem dX10_rule_66 : decode cX10_rule 66 = .ok (.aload_n 0, 1) := by decide +kernel
theorem dX10_rule_67 : decode cX10_rule 67 = .ok (.iload 4, 2) := by decide +kernel
theorem dX10_rule_69 : decode cX10_rule 69 = .ok (.putfield 83, 3) := by decide +kernel
theorem dX10_rule_72 : decode cX10_rule 72 = .ok (.aload_n 0, 1) := by decide +kernel
theorem dX10_rule_73 : decode cX10_rule 73 = .ok (.invokevirtual 264, 3) := by decide +kernel
theorem dX10_rule_76 : decode cX10_rule 76 = .ok (.iconst 1, 1) := by decide +kernel
theorem dX10_rule_77 : decode cX10_rule 77 = .ok (.ireturn, 1) := by decide +kernel
theorem dX10_isSettled_0 : decode cX10_isSettled 0 = .ok (.aload_n 0, 1) := by decide +kernel
theorem dX10_isSettled_1 : decode cX10_isSettled 1 = .ok (.getfield 257, 3) := by decide +kernel
theorem dX10_isSettled_4 : decode cX10_isSettled 4 = .ok (.aload_n 0, 1) := by decide +kernel
theorem dX10_isSettled_5 : decode cX10_isSettled 5 = .ok (.getfield 72, 3) := by decide +kernel
theorem dX10_isSettled_8 : decode cX10_isSettled 8 = .ok (.if_icmp .ge 5, 3) := by decide +kernel
theorem dX10_isSettled_11 : decode cX10_isSettled 11 = .ok (.iconst 0, 1) := by decide +kernel
theorem dX10_isSettled_12 : decode cX10_isSettled 12 = .ok (.ireturn, 1) := by decide +kernel
theorem dX10_isSettled_13 : decode cX10_isSettled 13 = .ok (.iconst 1, 1) := by decide +kernel
theorem dX10_isSettled_14 : decode cX10_isSettled 14 = .ok (.istore_n 1, 1) := by decide +kernel
theorem dX10_isSettled_15 : decode cX10_isSettled 15 = .ok (.iconst 0, 1) := by decide +kernel
theorem dX10_isSettled_16 : decode cX10_isSettled 16 = .ok (.istore_n 2, 1) := by decide +kernel
theorem dX10_isSettled_17 : decode cX10_isSettled 17 = .ok (.iload_n 2, 1) := by decide +kernel
theorem dX10_isSettled_18 : decode cX10_isSettled 18 = .ok (.iconst 3, 1) := by decide +kernel
theorem dX10_isSettled_19 : decode cX10_isSettled 19 = .ok (.if_icmp .ge 117, 3) := by decide +kernel
theorem dX10_isSettled_22 : decode cX10_isSettled 22 = .ok (.aload_n 0, 1) := by decide +kernel
theorem dX10_isSettled_23 : decode cX10_isSettled 23 = .ok (.getfield 89, 3) := by decide +kernel
theorem dX10_isSettled_26 : decode cX10_isSettled 26 = .ok (.iconst 3, 1) := by decide +kernel
theorem dX10_isSettled_27 : decode cX10_isSettled 27 = .ok (.aload_n 0, 1) := by decide +kernel
theorem dX10_isSettled_28 : decode cX10_isSettled 28 = .ok (.getfield 257, 3) := by decide +kernel
theorem dX10_isSettled_31 : decode cX10_isSettled 31 = .ok (.iconst 1, 1) := by decide +kernel
theorem dX10_isSettled_32 : decode cX10_isSettled 32 = .ok (.isub, 1) := by decide +kernel
theorem dX10_isSettled_33 : decode cX10_isSettled 33 = .ok (.imul, 1) := by decide +kernel
theorem dX10_isSettled_34 : decode cX10_isSettled 34 = .ok (.iload_n 2, 1) := by decide +kernel
theorem dX10_isSettled_35 : decode cX10_isSettled 35 = .ok (.iadd, 1) := by decide +kernel
theorem dX10_isSettled_36 : decode cX10_isSettled 36 = .ok (.iaload, 1) := by decide +kernel
theorem dX10_isSettled_37 : decode cX10_isSettled 37 = .ok (.istore_n 3, 1) := by decide +kernel
theorem dX10_isSettled_38 : decode cX10_isSettled 38 = .ok (.iload_n 3, 1) := by decide +kernel
theorem dX10_isSettled_39 : decode cX10_isSettled 39 = .ok (.istore 4, 2) := by decide +kernel
theorem dX10_isSettled_41 : decode cX10_isSettled 41 = .ok (.aload_n 0, 1) := by decide +kernel
theorem dX10_isSettled_42 : decode cX10_isSettled 42 = .ok (.getfield 257, 3) := by decide +kernel
theorem dX10_isSettled_45 : decode cX10_isSettled 45 = .ok (.aload_n 0, 1) := by decide +kernel
theorem dX10_isSettled_46 : decode cX10_isSettled 46 = .ok (.getfield 72, 3) := by decide +kernel
theorem dX10_isSettled_49 : decode cX10_isSettled 49 = .ok (.isub, 1) := by decide +kernel
theorem dX10_isSettled_50 : decode cX10_isSettled 50 = .ok (.istore 5, 2) := by decide +kernel
theorem dX10_isSettled_52 : decode cX10_isSettled 52 = .ok (.iload 5, 2) := by decide +kernel
theorem dX10_isSettled_54 : decode cX10_isSettled 54 = .ok (.aload_n 0, 1) := by decide +kernel
theorem dX10_isSettled_55 : decode cX10_isSettled 55 = .ok (.getfield 257, 3) := by decide +kernel
theorem dX10_isSettled_58 : decode cX10_isSettled 58 = .ok (.if_icmp .ge 51, 3) := by decide +kernel
theorem dX10_isSettled_61 : decode cX10_isSettled 61 = .ok (.aload_n 0, 1) := by decide +kernel
theorem dX10_isSettled_62 : decode cX10_isSettled 62 = .ok (.getfield 89, 3) := by decide +kernel
theorem dX10_isSettled_65 : decode cX10_isSettled 65 = .ok (.iconst 3, 1) := by decide +kernel
theorem dX10_isSettled_66 : decode cX10_isSettled 66 = .ok (.iload 5, 2) := by decide +kernel
theorem dX10_isSettled_68 : decode cX10_isSettled 68 = .ok (.imul, 1) := by decide +kernel
theorem dX10_isSettled_69 : decode cX10_isSettled 69 = .ok (.iload_n 2, 1) := by decide +kernel
theorem dX10_isSettled_70 : decode cX10_isSettled 70 = .ok (.iadd, 1) := by decide +kernel
theorem dX10_isSettled_71 : decode cX10_isSettled 71 = .ok (.iaload, 1) := by decide +kernel
theorem dX10_isSettled_72 : decode cX10_isSettled 72 = .ok (.istore 6, 2) := by decide +kernel
theorem dX10_isSettled_74 : decode cX10_isSettled 74 = .ok (.iload 6, 2) := by decide +kernel
theorem dX10_isSettled_76 : decode cX10_isSettled 76 = .ok (.iload_n 3, 1) := by decide +kernel
theorem dX10_isSettled_77 : decode cX10_isSettled 77 = .ok (.if_icmp .ge 8, 3) := by decide +kernel
theorem dX10_isSettled_80 : decode cX10_isSettled 80 = .ok (.iload 6, 2) := by decide +kernel
theorem dX10_isSettled_82 : decode cX10_isSettled 82 = .ok (.goto 4, 3) := by decide +kernel
theorem dX10_isSettled_85 : decode cX10_isSettled 85 = .ok (.iload_n 3, 1) := by decide +kernel
theorem dX10_isSettled_86 : decode cX10_isSettled 86 = .ok (.istore_n 3, 1) := by decide +kernel
theorem dX10_isSettled_87 : decode cX10_isSettled 87 = .ok (.iload 6, 2) := by decide +kernel
theorem dX10_isSettled_89 : decode cX10_isSettled 89 = .ok (.iload 4, 2) := by decide +kernel
theorem dX10_isSettled_91 : decode cX10_isSettled 91 = .ok (.if_icmp .le 8, 3) := by decide +kernel
theorem dX10_isSettled_94 : decode cX10_isSettled 94 = .ok (.iload 6, 2) := by decide +kernel
theorem dX10_isSettled_96 : decode cX10_isSettled 96 = .ok (.goto 5, 3) := by decide +kernel
theorem dX10_isSettled_99 : decode cX10_isSettled 99 = .ok (.iload 4, 2) := by decide +kernel
theorem dX10_isSettled_101 : decode cX10_isSettled 101 = .ok (.istore 4, 2) := by decide +kernel
theorem dX10_isSettled_103 : decode cX10_isSettled 103 = .ok (.iinc 5 1, 3) := by decide +kernel
theorem dX10_isSettled_106 : decode cX10_isSettled 106 = .ok (.goto (-54), 3) := by decide +kernel
theorem dX10_isSettled_109 : decode cX10_isSettled 109 = .ok (.iload_n 1, 1) := by decide +kernel
theorem dX10_isSettled_110 : decode cX10_isSettled 110 = .ok (.ifCond .eq 18, 3) := by decide +kernel
theorem dX10_isSettled_113 : decode cX10_isSettled 113 = .ok (.iload 4, 2) := by decide +kernel
theorem dX10_isSettled_115 : decode cX10_isSettled 115 = .ok (.iload_n 3, 1) := by decide +kernel
theorem dX10_isSettled_116 : decode cX10_isSettled 116 = .ok (.isub, 1) := by decide +kernel
theorem dX10_isSettled_117 : decode cX10_isSettled 117 = .ok (.aload_n 0, 1) := by decide +kernel
theorem dX10_isSettled_118 : decode cX10_isSettled 118 = .ok (.getfield 76, 3) := by decide +kernel
theorem dX10_isSettled_121 : decode cX10_isSettled 121 = .ok (.if_icmp .gt 7, 3) := by decide +kernel
theorem dX10_isSettled_124 : decode cX10_isSettled 124 = .ok (.iconst 1, 1) := by decide +kernel
theorem dX10_isSettled_125 : decode cX10_isSettled 125 = .ok (.goto 4, 3) := by decide +kernel
theorem dX10_isSettled_128 : decode cX10_isSettled 128 = .ok (.iconst 0, 1) := by decide +kernel
theorem dX10_isSettled_129 : decode cX10_isSettled 129 = .ok (.istore_n 1, 1) := by decide +kernel
theorem dX10_isSettled_130 : decode cX10_isSettled 130 = .ok (.iinc 2 1, 3) := by decide +kernel
theorem dX10_isSettled_133 : decode cX10_isSettled 133 = .ok (.goto (-116), 3) := by decide +kernel
theorem dX10_isSettled_136 : decode cX10_isSettled 136 = .ok (.iload_n 1, 1) := by decide +kernel
theorem dX10_isSettled_137 : decode cX10_isSettled 137 = .ok (.ireturn, 1) := by decide +kernel
theorem dX10_come_0 : decode cX10_come 0 = .ok (.iload_n 1, 1) := by decide +kernel
theorem dX10_come_1 : decode cX10_come 1 = .ok (.invokestatic 150, 3) := by decide +kernel
theorem dX10_come_4 : decode cX10_come 4 = .ok (.ifCond .eq 17, 3) := by decide +kernel
theorem dX10_come_7 : decode cX10_come 7 = .ok (.iload_n 2, 1) := by decide +kernel
theorem dX10_come_8 : decode cX10_come 8 = .ok (.invokestatic 150, 3) := by decide +kernel
theorem dX10_come_11 : decode cX10_come 11 = .ok (.ifCond .eq 10, 3) := by decide +kernel
theorem dX10_come_14 : decode cX10_come 14 = .ok (.iload_n 3, 1) := by decide +kernel
theorem dX10_come_15 : decode cX10_come 15 = .ok (.invokestatic 150, 3) := by decide +kernel
theorem dX10_come_18 : decode cX10_come 18 = .ok (.ifCond .ne 5, 3) := by decide +kernel
theorem dX10_come_21 : decode cX10_come 21 = .ok (.iconst (-1), 1) := by decide +kernel
theorem dX10_come_22 : decode cX10_come 22 = .ok (.ireturn, 1) := by decide +kernel
theorem dX10_come_23 : decode cX10_come 23 = .ok (.aload_n 0, 1) := by decide +kernel
theorem dX10_come_24 : decode cX10_come 24 = .ok (.getfield 254, 3) := by decide +kernel
theorem dX10_come_27 : decode cX10_come 27 = .ok (.ifCond .eq 6, 3) := by decide +kernel
theorem dX10_come_30 : decode cX10_come 30 = .ok (.bipush (-2), 2) := by decide +kernel
theorem dX10_come_32 : decode cX10_come 32 = .ok (.ireturn, 1) := by decide +kernel
theorem dX10_come_33 : decode cX10_come 33 = .ok (.aload_n 0, 1) := by decide +kernel
theorem dX10_come_34 : decode cX10_come 34 = .ok (.getfield 89, 3) := by decide +kernel
theorem dX10_come_37 : decode cX10_come 37 = .ok (.iconst 3, 1) := by decide +kernel
theorem dX10_come_38 : decode cX10_come 38 = .ok (.aload_n 0, 1) := by decide +kernel
theorem dX10_come_39 : decode cX10_come 39 = .ok (.getfield 257, 3) := by decide +kernel
theorem dX10_come_42 : decode cX10_come 42 = .ok (.imul, 1) := by decide +kernel
theorem dX10_come_43 : decode cX10_come 43 = .ok (.iload_n 1, 1) := by decide +kernel
theorem dX10_come_44 : decode cX10_come 44 = .ok (.iastore, 1) := by decide +kernel
theorem dX10_come_45 : decode cX10_come 45 = .ok (.aload_n 0, 1) := by decide +kernel
theorem dX10_come_46 : decode cX10_come 46 = .ok (.getfield 89, 3) := by decide +kernel
theorem dX10_come_49 : decode cX10_come 49 = .ok (.iconst 3, 1) := by decide +kernel
theorem dX10_come_50 : decode cX10_come 50 = .ok (.aload_n 0, 1) := by decide +kernel
theorem dX10_come_51 : decode cX10_come 51 = .ok (.getfield 257, 3) := by decide +kernel
theorem dX10_come_54 : decode cX10_come 54 = .ok (.imul, 1) := by decide +kernel
theorem dX10_come_55 : decode cX10_come 55 = .ok (.iconst 1, 1) := by decide +kernel
theorem dX10_come_56 : decode cX10_come 56 = .ok (.iadd, 1) := by decide +kernel
theorem dX10_come_57 : decode cX10_come 57 = .ok (.iload_n 2, 1) := by decide +kernel
theorem dX10_come_58 : decode cX10_come 58 = .ok (.iastore, 1) := by decide +kernel
theorem dX10_come_59 : decode cX10_come 59 = .ok (.aload_n 0, 1) := by decide +kernel
theorem dX10_come_60 : decode cX10_come 60 = .ok (.getfield 89, 3) := by decide +kernel
theorem dX10_come_63 : decode cX10_come 63 = .ok (.iconst 3, 1) := by decide +kernel
theorem dX10_come_64 : decode cX10_come 64 = .ok (.aload_n 0, 1) := by decide +kernel
theorem dX10_come_65 : decode cX10_come 65 = .ok (.getfield 257, 3) := by decide +kernel
theorem dX10_come_68 : decode cX10_come 68 = .ok (.imul, 1) := by decide +kernel
theorem dX10_come_69 : decode cX10_come 69 = .ok (.iconst 2, 1) := by decide +kernel
theorem dX10_come_70 : decode cX10_come 70 = .ok (.iadd, 1) := by decide +kernel
theorem dX10_come_71 : decode cX10_come 71 = .ok (.iload_n 3, 1) := by decide +kernel
theorem dX10_come_72 : decode cX10_come 72 = .ok (.iastore, 1) := by decide +kernel
theorem dX10_come_73 : decode cX10_come 73 = .ok (.aload_n 0, 1) := by decide +kernel
theorem dX10_come_74 : decode cX10_come 74 = .ok (.dup, 1) := by decide +kernel
theorem dX10_come_75 : decode cX10_come 75 = .ok (.getfield 257, 3) := by decide +kernel
theorem dX10_come_78 : decode cX10_come 78 = .ok (.iconst 1, 1) := by decide +kernel
theorem dX10_come_79 : decode cX10_come 79 = .ok (.iadd, 1) := by decide +kernel
theorem dX10_come_80 : decode cX10_come 80 = .ok (.putfield 257, 3) := by decide +kernel
theorem dX10_come_83 : decode cX10_come 83 = .ok (.iconst 2, 1) := by decide +kernel
theorem dX10_come_84 : decode cX10_come 84 = .ok (.istore 4, 2) := by decide +kernel
theorem dX10_come_86 : decode cX10_come 86 = .ok (.iload 4, 2) := by decide +kernel
theorem dX10_come_88 : decode cX10_come 88 = .ok (.ifCond .lt 59, 3) := by decide +kernel
theorem dX10_come_91 : decode cX10_come 91 = .ok (.aload_n 0, 1) := by decide +kernel
theorem dX10_come_92 : decode cX10_come 92 = .ok (.getfield 89, 3) := by decide +kernel
theorem dX10_come_95 : decode cX10_come 95 = .ok (.iconst 3, 1) := by decide +kernel
theorem dX10_come_96 : decode cX10_come 96 = .ok (.aload_n 0, 1) := by decide +kernel
theorem dX10_come_97 : decode cX10_come 97 = .ok (.getfield 257, 3) := by decide +kernel
theorem dX10_come_100 : decode cX10_come 100 = .ok (.imul, 1) := by decide +kernel
theorem dX10_come_101 : decode cX10_come 101 = .ok (.iconst 3, 1) := by decide +kernel
theorem dX10_come_102 : decode cX10_come 102 = .ok (.isub, 1) := by decide +kernel
theorem dX10_come_103 : decode cX10_come 103 = .ok (.iload 4, 2) := by decide +kernel
theorem dX10_come_105 : decode cX10_come 105 = .ok (.iadd, 1) := by decide +kernel
theorem dX10_come_106 : decode cX10_come 106 = .ok (.iaload, 1) := by decide +kernel
theorem dX10_come_107 : decode cX10_come 107 = .ok (.istore 5, 2) := by decide +kernel
theorem dX10_come_109 : decode cX10_come 109 = .ok (.aload_n 0, 1) := by decide +kernel
theorem dX10_come_110 : decode cX10_come 110 = .ok (.iload 5, 2) := by decide +kernel
theorem dX10_come_112 : decode cX10_come 112 = .ok (.aload_n 0, 1) := by decide +kernel
theorem dX10_come_113 : decode cX10_come 113 = .ok (.getfield 83, 3) := by decide +kernel
theorem dX10_come_116 : decode cX10_come 116 = .ok (.if_icmp .gt 13, 3) := by decide +kernel
theorem dX10_come_119 : decode cX10_come 119 = .ok (.iload 5, 2) := by decide +kernel
theorem dX10_come_121 : decode cX10_come 121 = .ok (.ineg, 1) := by decide +kernel
theorem dX10_come_122 : decode cX10_come 122 = .ok (.aload_n 0, 1) := by decide +kernel
theorem dX10_come_123 : decode cX10_come 123 = .ok (.getfield 83, 3) := by decide +kernel
theorem dX10_come_126 : decode cX10_come 126 = .ok (.if_icmp .le 8, 3) := by decide +kernel
theorem dX10_come_129 : decode cX10_come 129 = .ok (.iload 4, 2) := by decide +kernel
theorem dX10_come_131 : decode cX10_come 131 = .ok (.goto 7, 3) := by decide +kernel
theorem dX10_come_134 : decode cX10_come 134 = .ok (.aload_n 0, 1) := by decide +kernel
theorem dX10_come_135 : decode cX10_come 135 = .ok (.getfield 86, 3) := by decide +kernel
theorem dX10_come_138 : decode cX10_come 138 = .ok (.putfield 86, 3) := by decide +kernel
theorem dX10_come_141 : decode cX10_come 141 = .ok (.iinc 4 (-1), 3) := by decide +kernel
theorem dX10_come_144 : decode cX10_come 144 = .ok (.goto (-58), 3) := by decide +kernel
theorem dX10_come_147 : decode cX10_come 147 = .ok (.aload_n 0, 1) := by decide +kernel
theorem dX10_come_148 : decode cX10_come 148 = .ok (.aload_n 0, 1) := by decide +kernel
theorem dX10_come_149 : decode cX10_come 149 = .ok (.getfield 86, 3) := by decide +kernel
theorem dX10_come_152 : decode cX10_come 152 = .ok (.bipush (-4), 2) := by decide +kernel
theorem dX10_come_154 : decode cX10_come 154 = .ok (.if_icmp .eq 7, 3) := by decide +kernel
theorem dX10_come_157 : decode cX10_come 157 = .ok (.iconst 2, 1) := by decide +kernel
theorem dX10_come_158 : decode cX10_come 158 = .ok (.goto 30, 3) := by decide +kernel
theorem dX10_come_161 : decode cX10_come 161 = .ok (.aload_n 0, 1) := by decide +kernel
theorem dX10_come_162 : decode cX10_come 162 = .ok (.invokevirtual 267, 3) := by decide +kernel
theorem dX10_come_165 : decode cX10_come 165 = .ok (.ifCond .eq 7, 3) := by decide +kernel
theorem dX10_come_168 : decode cX10_come 168 = .ok (.iconst 1, 1) := by decide +kernel
theorem dX10_come_169 : decode cX10_come 169 = .ok (.goto 19, 3) := by decide +kernel
theorem dX10_come_172 : decode cX10_come 172 = .ok (.aload_n 0, 1) := by decide +kernel
theorem dX10_come_173 : decode cX10_come 173 = .ok (.getfield 257, 3) := by decide +kernel
theorem dX10_come_176 : decode cX10_come 176 = .ok (.aload_n 0, 1) := by decide +kernel
theorem dX10_come_177 : decode cX10_come 177 = .ok (.getfield 79, 3) := by decide +kernel
theorem dX10_come_180 : decode cX10_come 180 = .ok (.if_icmp .ne 7, 3) := by decide +kernel
theorem dX10_come_183 : decode cX10_come 183 = .ok (.iconst 3, 1) := by decide +kernel
theorem dX10_come_184 : decode cX10_come 184 = .ok (.goto 4, 3) := by decide +kernel
theorem dX10_come_187 : decode cX10_come 187 = .ok (.iconst 0, 1) := by decide +kernel
theorem dX10_come_188 : decode cX10_come 188 = .ok (.putfield 254, 3) := by decide +kernel
theorem dX10_come_191 : decode cX10_come 191 = .ok (.aload_n 0, 1) := by decide +kernel
theorem dX10_come_192 : decode cX10_come 192 = .ok (.getfield 254, 3) := by decide +kernel
theorem dX10_come_195 : decode cX10_come 195 = .ok (.ireturn, 1) := by decide +kernel
theorem dX10_settled_0 : decode cX10_settled 0 = .ok (.iload_n 1, 1) := by decide +kernel
theorem dX10_settled_1 : decode cX10_settled 1 = .ok (.i2l, 1) := by decide +kernel
theorem dX10_settled_2 : decode cX10_settled 2 = .ok (.ldc2_w 271, 3) := by decide +kernel
theorem dX10_settled_5 : decode cX10_settled 5 = .ok (.ldc2_w 128, 3) := by decide +kernel
theorem dX10_settled_8 : decode cX10_settled 8 = .ok (.invokestatic 114, 3) := by decide +kernel
theorem dX10_settled_11 : decode cX10_settled 11 = .ok (.ifCond .eq 54, 3) := by decide +kernel
theorem dX10_settled_14 : decode cX10_settled 14 = .ok (.iconst 0, 1) := by decide +kernel
theorem dX10_settled_15 : decode cX10_settled 15 = .ok (.istore_n 2, 1) := by decide +kernel
theorem dX10_settled_16 : decode cX10_settled 16 = .ok (.aload_n 0, 1) := by decide +kernel
theorem dX10_settled_17 : decode cX10_settled 17 = .ok (.getfield 257, 3) := by decide +kernel
theorem dX10_settled_20 : decode cX10_settled 20 = .ok (.aload_n 0, 1) := by decide +kernel
theorem dX10_settled_21 : decode cX10_settled 21 = .ok (.getfield 72, 3) := by decide +kernel
theorem dX10_settled_24 : decode cX10_settled 24 = .ok (.isub, 1) := by decide +kernel
theorem dX10_settled_25 : decode cX10_settled 25 = .ok (.istore_n 3, 1) := by decide +kernel
theorem dX10_settled_26 : decode cX10_settled 26 = .ok (.iload_n 3, 1) := by decide +kernel
theorem dX10_settled_27 : decode cX10_settled 27 = .ok (.aload_n 0, 1) := by decide +kernel
theorem dX10_settled_28 : decode cX10_settled 28 = .ok (.getfield 257, 3) := by decide +kernel
theorem dX10_settled_31 : decode cX10_settled 31 = .ok (.if_icmp .ge 32, 3) := by decide +kernel
theorem dX10_settled_34 : decode cX10_settled 34 = .ok (.aload_n 0, 1) := by decide +kernel
theorem dX10_settled_35 : decode cX10_settled 35 = .ok (.getfield 254, 3) := by decide +kernel
theorem dX10_settled_38 : decode cX10_settled 38 = .ok (.iconst 1, 1) := by decide +kernel
theorem dX10_settled_39 : decode cX10_settled 39 = .ok (.if_icmp .ne 24, 3) := by decide +kernel
theorem dX10_settled_42 : decode cX10_settled 42 = .ok (.iload_n 2, 1) := by decide +kernel
theorem dX10_settled_43 : decode cX10_settled 43 = .ok (.aload_n 0, 1) := by decide +kernel
theorem dX10_settled_44 : decode cX10_settled 44 = .ok (.getfield 89, 3) := by decide +kernel
theorem dX10_settled_47 : decode cX10_settled 47 = .ok (.iconst 3, 1) := by decide +kernel
theorem dX10_settled_48 : decode cX10_settled 48 = .ok (.iload_n 3, 1) := by decide +kernel
theorem dX10_settled_49 : decode cX10_settled 49 = .ok (.imul, 1) := by decide +kernel
theorem dX10_settled_50 : decode cX10_settled 50 = .ok (.iload_n 1, 1) := by decide +kernel
theorem dX10_settled_51 : decode cX10_settled 51 = .ok (.iadd, 1) := by decide +kernel
theorem dX10_settled_52 : decode cX10_settled 52 = .ok (.iconst 3, 1) := by decide +kernel
theorem dX10_settled_53 : decode cX10_settled 53 = .ok (.isub, 1) := by decide +kernel
theorem dX10_settled_54 : decode cX10_settled 54 = .ok (.iaload, 1) := by decide +kernel
theorem dX10_settled_55 : decode cX10_settled 55 = .ok (.iadd, 1) := by decide +kernel
theorem dX10_settled_56 : decode cX10_settled 56 = .ok (.istore_n 2, 1) := by decide +kernel
theorem dX10_settled_57 : decode cX10_settled 57 = .ok (.iinc 3 1, 3) := by decide +kernel
theorem dX10_settled_60 : decode cX10_settled 60 = .ok (.goto (-34), 3) := by decide +kernel
theorem dX10_settled_63 : decode cX10_settled 63 = .ok (.iload_n 2, 1) := by decide +kernel
theorem dX10_settled_64 : decode cX10_settled 64 = .ok (.ireturn, 1) := by decide +kernel
theorem dX10_settled_65 : decode cX10_settled 65 = .ok (.iload_n 1, 1) := by decide +kernel
theorem dX10_settled_66 : decode cX10_settled 66 = .ok (.ifCond .ne 10, 3) := by decide +kernel
theorem dX10_settled_69 : decode cX10_settled 69 = .ok (.aload_n 0, 1) := by decide +kernel
theorem dX10_settled_70 : decode cX10_settled 70 = .ok (.getfield 254, 3) := by decide +kernel
theorem dX10_settled_73 : decode cX10_settled 73 = .ok (.goto 28, 3) := by decide +kernel
theorem dX10_settled_76 : decode cX10_settled 76 = .ok (.iload_n 1, 1) := by decide +kernel
theorem dX10_settled_77 : decode cX10_settled 77 = .ok (.iconst 1, 1) := by decide +kernel
theorem dX10_settled_78 : decode cX10_settled 78 = .ok (.if_icmp .ne 10, 3) := by decide +kernel
theorem dX10_settled_81 : decode cX10_settled 81 = .ok (.aload_n 0, 1) := by decide +kernel
theorem dX10_settled_82 : decode cX10_settled 82 = .ok (.getfield 257, 3) := by decide +kernel
theorem dX10_settled_85 : decode cX10_settled 85 = .ok (.goto 16, 3) := by decide +kernel
theorem dX10_settled_88 : decode cX10_settled 88 = .ok (.iload_n 1, 1) := by decide +kernel
theorem dX10_settled_89 : decode cX10_settled 89 = .ok (.iconst 2, 1) := by decide +kernel
theorem dX10_settled_90 : decode cX10_settled 90 = .ok (.if_icmp .ne 10, 3) := by decide +kernel
theorem dX10_settled_93 : decode cX10_settled 93 = .ok (.aload_n 0, 1) := by decide +kernel
theorem dX10_settled_94 : decode cX10_settled 94 = .ok (.getfield 86, 3) := by decide +kernel
theorem dX10_settled_97 : decode cX10_settled 97 = .ok (.goto 4, 3) := by decide +kernel
theorem dX10_settled_100 : decode cX10_settled 100 = .ok (.iconst (-1), 1) := by decide +kernel
theorem dX10_settled_101 : decode cX10_settled 101 = .ok (.ireturn, 1) := by decide +kernel
