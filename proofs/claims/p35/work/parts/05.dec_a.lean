theorem dX0_init_0 : decode cX0_init 0 = .ok (.aload_n 0, 1) := by decide +kernel
theorem dX0_init_1 : decode cX0_init 1 = .ok (.invokespecial 3, 3) := by decide +kernel
theorem dX0_init_4 : decode cX0_init 4 = .ok (.aload_n 0, 1) := by decide +kernel
theorem dX0_init_5 : decode cX0_init 5 = .ok (.iconst 3, 1) := by decide +kernel
theorem dX0_init_6 : decode cX0_init 6 = .ok (.anewarray 9, 3) := by decide +kernel
theorem dX0_init_9 : decode cX0_init 9 = .ok (.dup, 1) := by decide +kernel
theorem dX0_init_10 : decode cX0_init 10 = .ok (.iconst 0, 1) := by decide +kernel
theorem dX0_init_11 : decode cX0_init 11 = .ok (.iconst 3, 1) := by decide +kernel
theorem dX0_init_12 : decode cX0_init 12 = .ok (.newarray .int, 2) := by decide +kernel
theorem dX0_init_14 : decode cX0_init 14 = .ok (.dup, 1) := by decide +kernel
theorem dX0_init_15 : decode cX0_init 15 = .ok (.iconst 0, 1) := by decide +kernel
theorem dX0_init_16 : decode cX0_init 16 = .ok (.bipush 10, 2) := by decide +kernel
theorem dX0_init_18 : decode cX0_init 18 = .ok (.iastore, 1) := by decide +kernel
theorem dX0_init_19 : decode cX0_init 19 = .ok (.dup, 1) := by decide +kernel
theorem dX0_init_20 : decode cX0_init 20 = .ok (.iconst 1, 1) := by decide +kernel
theorem dX0_init_21 : decode cX0_init 21 = .ok (.iconst 0, 1) := by decide +kernel
theorem dX0_init_22 : decode cX0_init 22 = .ok (.iastore, 1) := by decide +kernel
theorem dX0_init_23 : decode cX0_init 23 = .ok (.dup, 1) := by decide +kernel
theorem dX0_init_24 : decode cX0_init 24 = .ok (.iconst 2, 1) := by decide +kernel
theorem dX0_init_25 : decode cX0_init 25 = .ok (.iconst 0, 1) := by decide +kernel
theorem dX0_init_26 : decode cX0_init 26 = .ok (.iastore, 1) := by decide +kernel
theorem dX0_init_27 : decode cX0_init 27 = .ok (.aastore, 1) := by decide +kernel
theorem dX0_init_28 : decode cX0_init 28 = .ok (.dup, 1) := by decide +kernel
theorem dX0_init_29 : decode cX0_init 29 = .ok (.iconst 1, 1) := by decide +kernel
theorem dX0_init_30 : decode cX0_init 30 = .ok (.iconst 3, 1) := by decide +kernel
theorem dX0_init_31 : decode cX0_init 31 = .ok (.newarray .int, 2) := by decide +kernel
theorem dX0_init_33 : decode cX0_init 33 = .ok (.dup, 1) := by decide +kernel
theorem dX0_init_34 : decode cX0_init 34 = .ok (.iconst 0, 1) := by decide +kernel
theorem dX0_init_35 : decode cX0_init 35 = .ok (.iconst 0, 1) := by decide +kernel
theorem dX0_init_36 : decode cX0_init 36 = .ok (.iastore, 1) := by decide +kernel
theorem dX0_init_37 : decode cX0_init 37 = .ok (.dup, 1) := by decide +kernel
theorem dX0_init_38 : decode cX0_init 38 = .ok (.iconst 1, 1) := by decide +kernel
theorem dX0_init_39 : decode cX0_init 39 = .ok (.bipush 10, 2) := by decide +kernel
theorem dX0_init_41 : decode cX0_init 41 = .ok (.iastore, 1) := by decide +kernel
theorem dX0_init_42 : decode cX0_init 42 = .ok (.dup, 1) := by decide +kernel
theorem dX0_init_43 : decode cX0_init 43 = .ok (.iconst 2, 1) := by decide +kernel
theorem dX0_init_44 : decode cX0_init 44 = .ok (.iconst 0, 1) := by decide +kernel
theorem dX0_init_45 : decode cX0_init 45 = .ok (.iastore, 1) := by decide +kernel
theorem dX0_init_46 : decode cX0_init 46 = .ok (.aastore, 1) := by decide +kernel
theorem dX0_init_47 : decode cX0_init 47 = .ok (.dup, 1) := by decide +kernel
theorem dX0_init_48 : decode cX0_init 48 = .ok (.iconst 2, 1) := by decide +kernel
theorem dX0_init_49 : decode cX0_init 49 = .ok (.iconst 3, 1) := by decide +kernel
theorem dX0_init_50 : decode cX0_init 50 = .ok (.newarray .int, 2) := by decide +kernel
theorem dX0_init_52 : decode cX0_init 52 = .ok (.dup, 1) := by decide +kernel
theorem dX0_init_53 : decode cX0_init 53 = .ok (.iconst 0, 1) := by decide +kernel
theorem dX0_init_54 : decode cX0_init 54 = .ok (.iconst 0, 1) := by decide +kernel
theorem dX0_init_55 : decode cX0_init 55 = .ok (.iastore, 1) := by decide +kernel
theorem dX0_init_56 : decode cX0_init 56 = .ok (.dup, 1) := by decide +kernel
theorem dX0_init_57 : decode cX0_init 57 = .ok (.iconst 1, 1) := by decide +kernel
theorem dX0_init_58 : decode cX0_init 58 = .ok (.iconst 0, 1) := by decide +kernel
theorem dX0_init_59 : decode cX0_init 59 = .ok (.iastore, 1) := by decide +kernel
theorem dX0_init_60 : decode cX0_init 60 = .ok (.dup, 1) := by decide +kernel
theorem dX0_init_61 : decode cX0_init 61 = .ok (.iconst 2, 1) := by decide +kernel
theorem dX0_init_62 : decode cX0_init 62 = .ok (.bipush 10, 2) := by decide +kernel
theorem dX0_init_64 : decode cX0_init 64 = .ok (.iastore, 1) := by decide +kernel
theorem dX0_init_65 : decode cX0_init 65 = .ok (.aastore, 1) := by decide +kernel
theorem dX0_init_66 : decode cX0_init 66 = .ok (.putfield 11, 3) := by decide +kernel
theorem dX0_init_69 : decode cX0_init 69 = .ok (.aload_n 0, 1) := by decide +kernel
theorem dX0_init_70 : decode cX0_init 70 = .ok (.iconst 3, 1) := by decide +kernel
theorem dX0_init_71 : decode cX0_init 71 = .ok (.bipush 6, 2) := by decide +kernel
theorem dX0_init_73 : decode cX0_init 73 = .ok (.multianewarray 17 2, 4) := by decide +kernel
theorem dX0_init_77 : decode cX0_init 77 = .ok (.putfield 18, 3) := by decide +kernel
theorem dX0_init_80 : decode cX0_init 80 = .ok (.aload_n 0, 1) := by decide +kernel
theorem dX0_init_81 : decode cX0_init 81 = .ok (.iconst 3, 1) := by decide +kernel
theorem dX0_init_82 : decode cX0_init 82 = .ok (.newarray .int, 2) := by decide +kernel
theorem dX0_init_84 : decode cX0_init 84 = .ok (.putfield 21, 3) := by decide +kernel
theorem dX0_init_87 : decode cX0_init 87 = .ok (.aload_n 0, 1) := by decide +kernel
theorem dX0_init_88 : decode cX0_init 88 = .ok (.iconst 0, 1) := by decide +kernel
theorem dX0_init_89 : decode cX0_init 89 = .ok (.putfield 24, 3) := by decide +kernel
theorem dX0_init_92 : decode cX0_init 92 = .ok (.aload_n 0, 1) := by decide +kernel
theorem dX0_init_93 : decode cX0_init 93 = .ok (.iconst 0, 1) := by decide +kernel
theorem dX0_init_94 : decode cX0_init 94 = .ok (.putfield 28, 3) := by decide +kernel
theorem dX0_init_97 : decode cX0_init 97 = .ok (.aload_n 0, 1) := by decide +kernel
theorem dX0_init_98 : decode cX0_init 98 = .ok (.iconst 3, 1) := by decide +kernel
theorem dX0_init_99 : decode cX0_init 99 = .ok (.newarray .int, 2) := by decide +kernel
theorem dX0_init_101 : decode cX0_init 101 = .ok (.putfield 32, 3) := by decide +kernel
theorem dX0_init_104 : decode cX0_init 104 = .ok (.aload_n 0, 1) := by decide +kernel
theorem dX0_init_105 : decode cX0_init 105 = .ok (.new 35, 3) := by decide +kernel
theorem dX0_init_108 : decode cX0_init 108 = .ok (.dup, 1) := by decide +kernel
theorem dX0_init_109 : decode cX0_init 109 = .ok (.invokespecial 37, 3) := by decide +kernel
theorem dX0_init_112 : decode cX0_init 112 = .ok (.putfield 38, 3) := by decide +kernel
theorem dX0_init_115 : decode cX0_init 115 = .ok (.return_, 1) := by decide +kernel
theorem dX0_readingOf_0 : decode cX0_readingOf 0 = .ok (.aload_n 0, 1) := by decide +kernel
theorem dX0_readingOf_1 : decode cX0_readingOf 1 = .ok (.getfield 11, 3) := by decide +kernel
theorem dX0_readingOf_4 : decode cX0_readingOf 4 = .ok (.iload_n 1, 1) := by decide +kernel
theorem dX0_readingOf_5 : decode cX0_readingOf 5 = .ok (.aaload, 1) := by decide +kernel
theorem dX0_readingOf_6 : decode cX0_readingOf 6 = .ok (.astore 5, 2) := by decide +kernel
theorem dX0_readingOf_8 : decode cX0_readingOf 8 = .ok (.bipush 100, 2) := by decide +kernel
theorem dX0_readingOf_10 : decode cX0_readingOf 10 = .ok (.aload 5, 2) := by decide +kernel
theorem dX0_readingOf_12 : decode cX0_readingOf 12 = .ok (.iconst 0, 1) := by decide +kernel
theorem dX0_readingOf_13 : decode cX0_readingOf 13 = .ok (.iaload, 1) := by decide +kernel
theorem dX0_readingOf_14 : decode cX0_readingOf 14 = .ok (.iload_n 2, 1) := by decide +kernel
theorem dX0_readingOf_15 : decode cX0_readingOf 15 = .ok (.imul, 1) := by decide +kernel
theorem dX0_readingOf_16 : decode cX0_readingOf 16 = .ok (.aload 5, 2) := by decide +kernel
theorem dX0_readingOf_18 : decode cX0_readingOf 18 = .ok (.iconst 1, 1) := by decide +kernel
theorem dX0_readingOf_19 : decode cX0_readingOf 19 = .ok (.iaload, 1) := by decide +kernel
theorem dX0_readingOf_20 : decode cX0_readingOf 20 = .ok (.iload_n 3, 1) := by decide +kernel
theorem dX0_readingOf_21 : decode cX0_readingOf 21 = .ok (.imul, 1) := by decide +kernel
theorem dX0_readingOf_22 : decode cX0_readingOf 22 = .ok (.iadd, 1) := by decide +kernel
theorem dX0_readingOf_23 : decode cX0_readingOf 23 = .ok (.aload 5, 2) := by decide +kernel
theorem dX0_readingOf_25 : decode cX0_readingOf 25 = .ok (.iconst 2, 1) := by decide +kernel
theorem dX0_readingOf_26 : decode cX0_readingOf 26 = .ok (.iaload, 1) := by decide +kernel
theorem dX0_readingOf_27 : decode cX0_readingOf 27 = .ok (.iload 4, 2) := by decide +kernel
theorem dX0_readingOf_29 : decode cX0_readingOf 29 = .ok (.imul, 1) := by decide +kernel
theorem dX0_readingOf_30 : decode cX0_readingOf 30 = .ok (.iadd, 1) := by decide +kernel
theorem dX0_readingOf_31 : decode cX0_readingOf 31 = .ok (.imul, 1) := by decide +kernel
theorem dX0_readingOf_32 : decode cX0_readingOf 32 = .ok (.aload_n 0, 1) := by decide +kernel
theorem dX0_readingOf_33 : decode cX0_readingOf 33 = .ok (.iload_n 1, 1) := by decide +kernel
theorem dX0_readingOf_34 : decode cX0_readingOf 34 = .ok (.iload_n 2, 1) := by decide +kernel
theorem dX0_readingOf_35 : decode cX0_readingOf 35 = .ok (.iload_n 3, 1) := by decide +kernel
theorem dX0_readingOf_36 : decode cX0_readingOf 36 = .ok (.iload 4, 2) := by decide +kernel
theorem dX0_readingOf_38 : decode cX0_readingOf 38 = .ok (.invokevirtual 42, 3) := by decide +kernel
theorem dX0_readingOf_41 : decode cX0_readingOf 41 = .ok (.iadd, 1) := by decide +kernel
theorem dX0_readingOf_42 : decode cX0_readingOf 42 = .ok (.ireturn, 1) := by decide +kernel
theorem dX0_productsOf_0 : decode cX0_productsOf 0 = .ok (.aload_n 0, 1) := by decide +kernel
theorem dX0_productsOf_1 : decode cX0_productsOf 1 = .ok (.getfield 18, 3) := by decide +kernel
theorem dX0_productsOf_4 : decode cX0_productsOf 4 = .ok (.iload_n 1, 1) := by decide +kernel
theorem dX0_productsOf_5 : decode cX0_productsOf 5 = .ok (.aaload, 1) := by decide +kernel
theorem dX0_productsOf_6 : decode cX0_productsOf 6 = .ok (.astore 5, 2) := by decide +kernel
theorem dX0_productsOf_8 : decode cX0_productsOf 8 = .ok (.aload 5, 2) := by decide +kernel
theorem dX0_productsOf_10 : decode cX0_productsOf 10 = .ok (.iconst 0, 1) := by decide +kernel
theorem dX0_productsOf_11 : decode cX0_productsOf 11 = .ok (.iaload, 1) := by decide +kernel
theorem dX0_productsOf_12 : decode cX0_productsOf 12 = .ok (.iload_n 2, 1) := by decide +kernel
theorem dX0_productsOf_13 : decode cX0_productsOf 13 = .ok (.imul, 1) := by decide +kernel
theorem dX0_productsOf_14 : decode cX0_productsOf 14 = .ok (.iload_n 2, 1) := by decide +kernel
theorem dX0_productsOf_15 : decode cX0_productsOf 15 = .ok (.imul, 1) := by decide +kernel
theorem dX0_productsOf_16 : decode cX0_productsOf 16 = .ok (.aload 5, 2) := by decide +kernel
theorem dX0_productsOf_18 : decode cX0_productsOf 18 = .ok (.iconst 1, 1) := by decide +kernel
theorem dX0_productsOf_19 : decode cX0_productsOf 19 = .ok (.iaload, 1) := by decide +kernel
theorem dX0_productsOf_20 : decode cX0_productsOf 20 = .ok (.iload_n 2, 1) := by decide +kernel
theorem dX0_productsOf_21 : decode cX0_productsOf 21 = .ok (.imul, 1) := by decide +kernel
theorem dX0_productsOf_22 : decode cX0_productsOf 22 = .ok (.iload_n 3, 1) := by decide +kernel
theorem dX0_productsOf_23 : decode cX0_productsOf 23 = .ok (.imul, 1) := by decide +kernel
theorem dX0_productsOf_24 : decode cX0_productsOf 24 = .ok (.iadd, 1) := by decide +kernel
theorem dX0_productsOf_25 : decode cX0_productsOf 25 = .ok (.aload 5, 2) := by decide +kernel
theorem dX0_productsOf_27 : decode cX0_productsOf 27 = .ok (.iconst 2, 1) := by decide +kernel
theorem dX0_productsOf_28 : decode cX0_productsOf 28 = .ok (.iaload, 1) := by decide +kernel
theorem dX0_productsOf_29 : decode cX0_productsOf 29 = .ok (.iload_n 2, 1) := by decide +kernel
theorem dX0_productsOf_30 : decode cX0_productsOf 30 = .ok (.imul, 1) := by decide +kernel
theorem dX0_productsOf_31 : decode cX0_productsOf 31 = .ok (.iload 4, 2) := by decide +kernel
theorem dX0_productsOf_33 : decode cX0_productsOf 33 = .ok (.imul, 1) := by decide +kernel
theorem dX0_productsOf_34 : decode cX0_productsOf 34 = .ok (.iadd, 1) := by decide +kernel
theorem dX0_productsOf_35 : decode cX0_productsOf 35 = .ok (.aload 5, 2) := by decide +kernel
theorem dX0_productsOf_37 : decode cX0_productsOf 37 = .ok (.iconst 3, 1) := by decide +kernel
theorem dX0_productsOf_38 : decode cX0_productsOf 38 = .ok (.iaload, 1) := by decide +kernel
theorem dX0_productsOf_39 : decode cX0_productsOf 39 = .ok (.iload_n 3, 1) := by decide +kernel
theorem dX0_productsOf_40 : decode cX0_productsOf 40 = .ok (.imul, 1) := by decide +kernel
theorem dX0_productsOf_41 : decode cX0_productsOf 41 = .ok (.iload_n 3, 1) := by decide +kernel
theorem dX0_productsOf_42 : decode cX0_productsOf 42 = .ok (.imul, 1) := by decide +kernel
theorem dX0_productsOf_43 : decode cX0_productsOf 43 = .ok (.iadd, 1) := by decide +kernel
theorem dX0_productsOf_44 : decode cX0_productsOf 44 = .ok (.aload 5, 2) := by decide +kernel
theorem dX0_productsOf_46 : decode cX0_productsOf 46 = .ok (.iconst 4, 1) := by decide +kernel
theorem dX0_productsOf_47 : decode cX0_productsOf 47 = .ok (.iaload, 1) := by decide +kernel
theorem dX0_productsOf_48 : decode cX0_productsOf 48 = .ok (.iload_n 3, 1) := by decide +kernel
theorem dX0_productsOf_49 : decode cX0_productsOf 49 = .ok (.imul, 1) := by decide +kernel
theorem dX0_productsOf_50 : decode cX0_productsOf 50 = .ok (.iload 4, 2) := by decide +kernel
theorem dX0_productsOf_52 : decode cX0_productsOf 52 = .ok (.imul, 1) := by decide +kernel
theorem dX0_productsOf_53 : decode cX0_productsOf 53 = .ok (.iadd, 1) := by decide +kernel
theorem dX0_productsOf_54 : decode cX0_productsOf 54 = .ok (.aload 5, 2) := by decide +kernel
theorem dX0_productsOf_56 : decode cX0_productsOf 56 = .ok (.iconst 5, 1) := by decide +kernel
theorem dX0_productsOf_57 : decode cX0_productsOf 57 = .ok (.iaload, 1) := by decide +kernel
theorem dX0_productsOf_58 : decode cX0_productsOf 58 = .ok (.iload 4, 2) := by decide +kernel
theorem dX0_productsOf_60 : decode cX0_productsOf 60 = .ok (.imul, 1) := by decide +kernel
theorem dX0_productsOf_61 : decode cX0_productsOf 61 = .ok (.iload 4, 2) := by decide +kernel
theorem dX0_productsOf_63 : decode cX0_productsOf 63 = .ok (.imul, 1) := by decide +kernel
theorem dX0_productsOf_64 : decode cX0_productsOf 64 = .ok (.iadd, 1) := by decide +kernel
theorem dX0_productsOf_65 : decode cX0_productsOf 65 = .ok (.ireturn, 1) := by decide +kernel
theorem dX0_goBack_0 : decode cX0_goBack 0 = .ok (.aload_n 0, 1) := by decide +kernel
theorem dX0_goBack_1 : decode cX0_goBack 1 = .ok (.invokevirtual 46, 3) := by decide +kernel
theorem dX0_goBack_4 : decode cX0_goBack 4 = .ok (.aload_n 0, 1) := by decide +kernel
theorem dX0_goBack_5 : decode cX0_goBack 5 = .ok (.getfield 38, 3) := by decide +kernel
theorem dX0_goBack_8 : decode cX0_goBack 8 = .ok (.iconst (-1), 1) := by decide +kernel
theorem dX0_goBack_9 : decode cX0_goBack 9 = .ok (.invokevirtual 49, 3) := by decide +kernel
theorem dX0_goBack_12 : decode cX0_goBack 12 = .ok (.lstore 5, 2) := by decide +kernel
theorem dX0_goBack_14 : decode cX0_goBack 14 = .ok (.lload 5, 2) := by decide +kernel
theorem dX0_goBack_16 : decode cX0_goBack 16 = .ok (.lconst 0, 1) := by decide +kernel
theorem dX0_goBack_17 : decode cX0_goBack 17 = .ok (.lcmp, 1) := by decide +kernel
theorem dX0_goBack_18 : decode cX0_goBack 18 = .ok (.ifCond .ne 6, 3) := by decide +kernel
theorem dX0_goBack_21 : decode cX0_goBack 21 = .ok (.bipush (-2), 2) := by decide +kernel
theorem dX0_goBack_23 : decode cX0_goBack 23 = .ok (.ireturn, 1) := by decide +kernel
theorem dX0_goBack_24 : decode cX0_goBack 24 = .ok (.aload_n 0, 1) := by decide +kernel
theorem dX0_goBack_25 : decode cX0_goBack 25 = .ok (.getfield 32, 3) := by decide +kernel
theorem dX0_goBack_28 : decode cX0_goBack 28 = .ok (.iload_n 1, 1) := by decide +kernel
theorem dX0_goBack_29 : decode cX0_goBack 29 = .ok (.iload_n 2, 1) := by decide +kernel
theorem dX0_goBack_30 : decode cX0_goBack 30 = .ok (.iload_n 3, 1) := by decide +kernel
theorem dX0_goBack_31 : decode cX0_goBack 31 = .ok (.invokestatic 53, 3) := by decide +kernel
theorem dX0_goBack_34 : decode cX0_goBack 34 = .ok (.aload_n 0, 1) := by decide +kernel
theorem dX0_goBack_35 : decode cX0_goBack 35 = .ok (.getfield 21, 3) := by decide +kernel
theorem dX0_goBack_38 : decode cX0_goBack 38 = .ok (.iconst 0, 1) := by decide +kernel
theorem dX0_goBack_39 : decode cX0_goBack 39 = .ok (.iconst 0, 1) := by decide +kernel
theorem dX0_goBack_40 : decode cX0_goBack 40 = .ok (.iconst 0, 1) := by decide +kernel
theorem dX0_goBack_41 : decode cX0_goBack 41 = .ok (.invokestatic 53, 3) := by decide +kernel
theorem dX0_goBack_44 : decode cX0_goBack 44 = .ok (.aload_n 0, 1) := by decide +kernel
theorem dX0_goBack_45 : decode cX0_goBack 45 = .ok (.iconst 0, 1) := by decide +kernel
theorem dX0_goBack_46 : decode cX0_goBack 46 = .ok (.putfield 24, 3) := by decide +kernel
theorem dX0_goBack_49 : decode cX0_goBack 49 = .ok (.iconst 0, 1) := by decide +kernel
theorem dX0_goBack_50 : decode cX0_goBack 50 = .ok (.istore 7, 2) := by decide +kernel
theorem dX0_goBack_52 : decode cX0_goBack 52 = .ok (.iload 7, 2) := by decide +kernel
theorem dX0_goBack_54 : decode cX0_goBack 54 = .ok (.iload 4, 2) := by decide +kernel
theorem dX0_goBack_56 : decode cX0_goBack 56 = .ok (.if_icmp .ge 38, 3) := by decide +kernel
theorem dX0_goBack_59 : decode cX0_goBack 59 = .ok (.aload_n 0, 1) := by decide +kernel
theorem dX0_goBack_60 : decode cX0_goBack 60 = .ok (.getfield 24, 3) := by decide +kernel
theorem dX0_goBack_63 : decode cX0_goBack 63 = .ok (.ifCond .ne 31, 3) := by decide +kernel
theorem dX0_goBack_66 : decode cX0_goBack 66 = .ok (.aload_n 0, 1) := by decide +kernel
theorem dX0_goBack_67 : decode cX0_goBack 67 = .ok (.aload_n 0, 1) := by decide +kernel
theorem dX0_goBack_68 : decode cX0_goBack 68 = .ok (.ldc2_w 57, 3) := by decide +kernel
theorem dX0_goBack_71 : decode cX0_goBack 71 = .ok (.lload 5, 2) := by decide +kernel
theorem dX0_goBack_73 : decode cX0_goBack 73 = .ok (.lmul, 1) := by decide +kernel
theorem dX0_goBack_74 : decode cX0_goBack 74 = .ok (.invokevirtual 59, 3) := by decide +kernel
theorem dX0_goBack_77 : decode cX0_goBack 77 = .ok (.ifCond .ne 7, 3) := by decide +kernel
theorem dX0_goBack_80 : decode cX0_goBack 80 = .ok (.iconst 1, 1) := by decide +kernel
theorem dX0_goBack_81 : decode cX0_goBack 81 = .ok (.goto 4, 3) := by decide +kernel
theorem dX0_goBack_84 : decode cX0_goBack 84 = .ok (.iconst 0, 1) := by decide +kernel
theorem dX0_goBack_85 : decode cX0_goBack 85 = .ok (.putfield 24, 3) := by decide +kernel
theorem dX0_goBack_88 : decode cX0_goBack 88 = .ok (.iinc 7 1, 3) := by decide +kernel
theorem dX0_goBack_91 : decode cX0_goBack 91 = .ok (.goto (-39), 3) := by decide +kernel
theorem dX0_goBack_94 : decode cX0_goBack 94 = .ok (.aload_n 0, 1) := by decide +kernel
theorem dX0_goBack_95 : decode cX0_goBack 95 = .ok (.aload_n 0, 1) := by decide +kernel
theorem dX0_goBack_96 : decode cX0_goBack 96 = .ok (.invokevirtual 63, 3) := by decide +kernel
theorem dX0_goBack_99 : decode cX0_goBack 99 = .ok (.putfield 28, 3) := by decide +kernel
theorem dX0_goBack_102 : decode cX0_goBack 102 = .ok (.iload 7, 2) := by decide +kernel
theorem dX0_goBack_104 : decode cX0_goBack 104 = .ok (.ireturn, 1) := by decide +kernel
theorem dX0_setLeft_0 : decode cX0_setLeft 0 = .ok (.iconst 0, 1) := by decide +kernel
theorem dX0_setLeft_1 : decode cX0_setLeft 1 = .ok (.istore_n 1, 1) := by decide +kernel
theorem dX0_setLeft_2 : decode cX0_setLeft 2 = .ok (.iload_n 1, 1) := by decide +kernel
theorem dX0_setLeft_3 : decode cX0_setLeft 3 = .ok (.iconst 3, 1) := by decide +kernel
theorem dX0_setLeft_4 : decode cX0_setLeft 4 = .ok (.if_icmp .ge 42, 3) := by decide +kernel
theorem dX0_setLeft_7 : decode cX0_setLeft 7 = .ok (.iconst 0, 1) := by decide +kernel
theorem dX0_setLeft_8 : decode cX0_setLeft 8 = .ok (.istore_n 2, 1) := by decide +kernel
theorem dX0_setLeft_9 : decode cX0_setLeft 9 = .ok (.iload_n 2, 1) := by decide +kernel
theorem dX0_setLeft_10 : decode cX0_setLeft 10 = .ok (.iconst 3, 1) := by decide +kernel
theorem dX0_setLeft_11 : decode cX0_setLeft 11 = .ok (.if_icmp .ge 29, 3) := by decide +kernel
theorem dX0_setLeft_14 : decode cX0_setLeft 14 = .ok (.aload_n 0, 1) := by decide +kernel
theorem dX0_setLeft_15 : decode cX0_setLeft 15 = .ok (.getfield 38, 3) := by decide +kernel
theorem dX0_setLeft_18 : decode cX0_setLeft 18 = .ok (.getfield 67, 3) := by decide +kernel
theorem dX0_setLeft_21 : decode cX0_setLeft 21 = .ok (.iload_n 1, 1) := by decide +kernel
theorem dX0_setLeft_22 : decode cX0_setLeft 22 = .ok (.aaload, 1) := by decide +kernel
theorem dX0_setLeft_23 : decode cX0_setLeft 23 = .ok (.iload_n 2, 1) := by decide +kernel
theorem dX0_setLeft_24 : decode cX0_setLeft 24 = .ok (.aload_n 0, 1) := by decide +kernel
theorem dX0_setLeft_25 : decode cX0_setLeft 25 = .ok (.getfield 11, 3) := by decide +kernel
theorem dX0_setLeft_28 : decode cX0_setLeft 28 = .ok (.iload_n 1, 1) := by decide +kernel
theorem dX0_setLeft_29 : decode cX0_setLeft 29 = .ok (.aaload, 1) := by decide +kernel
theorem dX0_setLeft_30 : decode cX0_setLeft 30 = .ok (.iload_n 2, 1) := by decide +kernel
theorem dX0_setLeft_31 : decode cX0_setLeft 31 = .ok (.iaload, 1) := by decide +kernel
theorem dX0_setLeft_32 : decode cX0_setLeft 32 = .ok (.i2l, 1) := by decide +kernel
theorem dX0_setLeft_33 : decode cX0_setLeft 33 = .ok (.lastore, 1) := by decide +kernel
theorem dX0_setLeft_34 : decode cX0_setLeft 34 = .ok (.iinc 2 1, 3) := by decide +kernel
theorem dX0_setLeft_37 : decode cX0_setLeft 37 = .ok (.goto (-28), 3) := by decide +kernel
theorem dX0_setLeft_40 : decode cX0_setLeft 40 = .ok (.iinc 1 1, 3) := by decide +kernel
theorem dX0_setLeft_43 : decode cX0_setLeft 43 = .ok (.goto (-41), 3) := by decide +kernel
theorem dX0_setLeft_46 : decode cX0_setLeft 46 = .ok (.return_, 1) := by decide +kernel
theorem dX0_goRound_0 : decode cX0_goRound 0 = .ok (.iconst 0, 1) := by decide +kernel
theorem dX0_goRound_1 : decode cX0_goRound 1 = .ok (.istore_n 3, 1) := by decide +kernel
theorem dX0_goRound_2 : decode cX0_goRound 2 = .ok (.iload_n 3, 1) := by decide +kernel
theorem dX0_goRound_3 : decode cX0_goRound 3 = .ok (.iconst 3, 1) := by decide +kernel
theorem dX0_goRound_4 : decode cX0_goRound 4 = .ok (.if_icmp .ge 49, 3) := by decide +kernel
theorem dX0_goRound_7 : decode cX0_goRound 7 = .ok (.aload_n 0, 1) := by decide +kernel
theorem dX0_goRound_8 : decode cX0_goRound 8 = .ok (.getfield 38, 3) := by decide +kernel
theorem dX0_goRound_11 : decode cX0_goRound 11 = .ok (.getfield 71, 3) := by decide +kernel
theorem dX0_goRound_14 : decode cX0_goRound 14 = .ok (.iload_n 3, 1) := by decide +kernel
theorem dX0_goRound_15 : decode cX0_goRound 15 = .ok (.aload_n 0, 1) := by decide +kernel
theorem dX0_goRound_16 : decode cX0_goRound 16 = .ok (.getfield 32, 3) := by decide +kernel
theorem dX0_goRound_19 : decode cX0_goRound 19 = .ok (.iload_n 3, 1) := by decide +kernel
theorem dX0_goRound_20 : decode cX0_goRound 20 = .ok (.iaload, 1) := by decide +kernel
theorem dX0_goRound_21 : decode cX0_goRound 21 = .ok (.aload_n 0, 1) := by decide +kernel
theorem dX0_goRound_22 : decode cX0_goRound 22 = .ok (.iload_n 3, 1) := by decide +kernel
theorem dX0_goRound_23 : decode cX0_goRound 23 = .ok (.aload_n 0, 1) := by decide +kernel
theorem dX0_goRound_24 : decode cX0_goRound 24 = .ok (.getfield 21, 3) := by decide +kernel
theorem dX0_goRound_27 : decode cX0_goRound 27 = .ok (.iconst 0, 1) := by decide +kernel
theorem dX0_goRound_28 : decode cX0_goRound 28 = .ok (.iaload, 1) := by decide +kernel
theorem dX0_goRound_29 : decode cX0_goRound 29 = .ok (.aload_n 0, 1) := by decide +kernel
theorem dX0_goRound_30 : decode cX0_goRound 30 = .ok (.getfield 21, 3) := by decide +kernel
theorem dX0_goRound_33 : decode cX0_goRound 33 = .ok (.iconst 1, 1) := by decide +kernel
theorem dX0_goRound_34 : decode cX0_goRound 34 = .ok (.iaload, 1) := by decide +kernel
theorem dX0_goRound_35 : decode cX0_goRound 35 = .ok (.aload_n 0, 1) := by decide +kernel
theorem dX0_goRound_36 : decode cX0_goRound 36 = .ok (.getfield 21, 3) := by decide +kernel
theorem dX0_goRound_39 : decode cX0_goRound 39 = .ok (.iconst 2, 1) := by decide +kernel
theorem dX0_goRound_40 : decode cX0_goRound 40 = .ok (.iaload, 1) := by decide +kernel
theorem dX0_goRound_41 : decode cX0_goRound 41 = .ok (.invokevirtual 42, 3) := by decide +kernel
theorem dX0_goRound_44 : decode cX0_goRound 44 = .ok (.isub, 1) := by decide +kernel
theorem dX0_goRound_45 : decode cX0_goRound 45 = .ok (.i2l, 1) := by decide +kernel
theorem dX0_goRound_46 : decode cX0_goRound 46 = .ok (.lastore, 1) := by decide +kernel
theorem dX0_goRound_47 : decode cX0_goRound 47 = .ok (.iinc 3 1, 3) := by decide +kernel
theorem dX0_goRound_50 : decode cX0_goRound 50 = .ok (.goto (-48), 3) := by decide +kernel
theorem dX0_goRound_53 : decode cX0_goRound 53 = .ok (.iconst 0, 1) := by decide +kernel
theorem dX0_goRound_54 : decode cX0_goRound 54 = .ok (.istore_n 3, 1) := by decide +kernel
theorem dX0_goRound_55 : decode cX0_goRound 55 = .ok (.iconst 0, 1) := by decide +kernel
theorem dX0_goRound_56 : decode cX0_goRound 56 = .ok (.istore 4, 2) := by decide +kernel
theorem dX0_goRound_58 : decode cX0_goRound 58 = .ok (.iload 4, 2) := by decide +kernel
theorem dX0_goRound_60 : decode cX0_goRound 60 = .ok (.iconst 3, 1) := by decide +kernel
theorem dX0_goRound_61 : decode cX0_goRound 61 = .ok (.if_icmp .ge 55, 3) := by decide +kernel
theorem dX0_goRound_64 : decode cX0_goRound 64 = .ok (.aload_n 0, 1) := by decide +kernel
theorem dX0_goRound_65 : decode cX0_goRound 65 = .ok (.getfield 38, 3) := by decide +kernel
theorem dX0_goRound_68 : decode cX0_goRound 68 = .ok (.iload 4, 2) := by decide +kernel
theorem dX0_goRound_70 : decode cX0_goRound 70 = .ok (.invokevirtual 49, 3) := by decide +kernel
theorem dX0_goRound_73 : decode cX0_goRound 73 = .ok (.lload_n 1, 1) := by decide +kernel
theorem dX0_goRound_74 : decode cX0_goRound 74 = .ok (.invokestatic 75, 3) := by decide +kernel
theorem dX0_goRound_77 : decode cX0_goRound 77 = .ok (.istore 5, 2) := by decide +kernel
theorem dX0_goRound_79 : decode cX0_goRound 79 = .ok (.iload_n 3, 1) := by decide +kernel
theorem dX0_goRound_80 : decode cX0_goRound 80 = .ok (.ifCond .ne 15, 3) := by decide +kernel
theorem dX0_goRound_83 : decode cX0_goRound 83 = .ok (.iload 5, 2) := by decide +kernel
theorem dX0_goRound_85 : decode cX0_goRound 85 = .ok (.aload_n 0, 1) := by decide +kernel
theorem dX0_goRound_86 : decode cX0_goRound 86 = .ok (.getfield 21, 3) := by decide +kernel
theorem dX0_goRound_89 : decode cX0_goRound 89 = .ok (.iload 4, 2) := by decide +kernel
theorem dX0_goRound_91 : decode cX0_goRound 91 = .ok (.iaload, 1) := by decide +kernel
theorem dX0_goRound_92 : decode cX0_goRound 92 = .ok (.if_icmp .eq 7, 3) := by decide +kernel
theorem dX0_goRound_95 : decode cX0_goRound 95 = .ok (.iconst 1, 1) := by decide +kernel
theorem dX0_goRound_96 : decode cX0_goRound 96 = .ok (.goto 4, 3) := by decide +kernel
theorem dX0_goRound_99 : decode cX0_goRound 99 = .ok (.iconst 0, 1) := by decide +kernel
theorem dX0_goRound_100 : decode cX0_goRound 100 = .ok (.istore_n 3, 1) := by decide +kernel
theorem dX0_goRound_101 : decode cX0_goRound 101 = .ok (.aload_n 0, 1) := by decide +kernel
theorem dX0_goRound_102 : decode cX0_goRound 102 = .ok (.getfield 21, 3) := by decide +kernel
theorem dX0_goRound_105 : decode cX0_goRound 105 = .ok (.iload 4, 2) := by decide +kernel
theorem dX0_goRound_107 : decode cX0_goRound 107 = .ok (.iload 5, 2) := by decide +kernel
theorem dX0_goRound_109 : decode cX0_goRound 109 = .ok (.iastore, 1) := by decide +kernel
theorem dX0_goRound_110 : decode cX0_goRound 110 = .ok (.iinc 4 1, 3) := by decide +kernel
theorem dX0_goRound_113 : decode cX0_goRound 113 = .ok (.goto (-55), 3) := by decide +kernel
theorem dX0_goRound_116 : decode cX0_goRound 116 = .ok (.iload_n 3, 1) := by decide +kernel
theorem dX0_goRound_117 : decode cX0_goRound 117 = .ok (.ireturn, 1) := by decide +kernel
theorem dX0_nearestLoad_0 : decode cX0_nearestLoad 0 = .ok (.lload_n 2, 1) := by decide +kernel
theorem dX0_nearestLoad_1 : decode cX0_nearestLoad 1 = .ok (.lconst 0, 1) := by decide +kernel
theorem dX0_nearestLoad_2 : decode cX0_nearestLoad 2 = .ok (.lcmp, 1) := by decide +kernel
theorem dX0_nearestLoad_3 : decode cX0_nearestLoad 3 = .ok (.ifCond .ne 5, 3) := by decide +kernel
theorem dX0_nearestLoad_6 : decode cX0_nearestLoad 6 = .ok (.iconst 0, 1) := by decide +kernel
theorem dX0_nearestLoad_7 : decode cX0_nearestLoad 7 = .ok (.ireturn, 1) := by decide +kernel
theorem dX0_nearestLoad_8 : decode cX0_nearestLoad 8 = .ok (.ldc2_w 79, 3) := by decide +kernel
theorem dX0_nearestLoad_11 : decode cX0_nearestLoad 11 = .ok (.lload_n 0, 1) := by decide +kernel
theorem dX0_nearestLoad_12 : decode cX0_nearestLoad 12 = .ok (.lmul, 1) := by decide +kernel
theorem dX0_nearestLoad_13 : decode cX0_nearestLoad 13 = .ok (.lload_n 2, 1) := by decide +kernel
theorem dX0_nearestLoad_14 : decode cX0_nearestLoad 14 = .ok (.ladd, 1) := by decide +kernel
theorem dX0_nearestLoad_15 : decode cX0_nearestLoad 15 = .ok (.ldc2_w 79, 3) := by decide +kernel
theorem dX0_nearestLoad_18 : decode cX0_nearestLoad 18 = .ok (.lload_n 2, 1) := by decide +kernel
theorem dX0_nearestLoad_19 : decode cX0_nearestLoad 19 = .ok (.lmul, 1) := by decide +kernel
theorem dX0_nearestLoad_20 : decode cX0_nearestLoad 20 = .ok (.invokestatic 81, 3) := by decide +kernel
theorem dX0_nearestLoad_23 : decode cX0_nearestLoad 23 = .ok (.lstore 4, 2) := by decide +kernel
theorem dX0_nearestLoad_25 : decode cX0_nearestLoad 25 = .ok (.ldc2_w 87, 3) := by decide +kernel
theorem dX0_nearestLoad_28 : decode cX0_nearestLoad 28 = .ok (.ldc2_w 89, 3) := by decide +kernel
theorem dX0_nearestLoad_31 : decode cX0_nearestLoad 31 = .ok (.lload 4, 2) := by decide +kernel
theorem dX0_nearestLoad_33 : decode cX0_nearestLoad 33 = .ok (.invokestatic 91, 3) := by decide +kernel
theorem dX0_nearestLoad_36 : decode cX0_nearestLoad 36 = .ok (.invokestatic 94, 3) := by decide +kernel
theorem dX0_nearestLoad_39 : decode cX0_nearestLoad 39 = .ok (.l2i, 1) := by decide +kernel
theorem dX0_nearestLoad_40 : decode cX0_nearestLoad 40 = .ok (.ireturn, 1) := by decide +kernel
theorem dX0_greatestDistance_0 : decode cX0_greatestDistance 0 = .ok (.iconst 0, 1) := by decide +kernel
theorem dX0_greatestDistance_1 : decode cX0_greatestDistance 1 = .ok (.istore_n 1, 1) := by decide +kernel
theorem dX0_greatestDistance_2 : decode cX0_greatestDistance 2 = .ok (.iconst 0, 1) := by decide +kernel
theorem dX0_greatestDistance_3 : decode cX0_greatestDistance 3 = .ok (.istore_n 2, 1) := by decide +kernel
theorem dX0_greatestDistance_4 : decode cX0_greatestDistance 4 = .ok (.iload_n 2, 1) := by decide +kernel
theorem dX0_greatestDistance_5 : decode cX0_greatestDistance 5 = .ok (.iconst 3, 1) := by decide +kernel
theorem dX0_greatestDistance_6 : decode cX0_greatestDistance 6 = .ok (.if_icmp .ge 49, 3) := by decide +kernel
theorem dX0_greatestDistance_9 : decode cX0_greatestDistance 9 = .ok (.aload_n 0, 1) := by decide +kernel
theorem dX0_greatestDistance_10 : decode cX0_greatestDistance 10 = .ok (.getfield 32, 3) := by decide +kernel
theorem dX0_greatestDistance_13 : decode cX0_greatestDistance 13 = .ok (.iload_n 2, 1) := by decide +kernel
theorem dX0_greatestDistance_14 : decode cX0_greatestDistance 14 = .ok (.iaload, 1) := by decide +kernel
theorem dX0_greatestDistance_15 : decode cX0_greatestDistance 15 = .ok (.aload_n 0, 1) := by decide +kernel
theorem dX0_greatestDistance_16 : decode cX0_greatestDistance 16 = .ok (.iload_n 2, 1) := by decide +kernel
theorem dX0_greatestDistance_17 : decode cX0_greatestDistance 17 = .ok (.aload_n 0, 1) := by decide +kernel
theorem dX0_greatestDistance_18 : decode cX0_greatestDistance 18 = .ok (.getfield 21, 3) := by decide +kernel
theorem dX0_greatestDistance_21 : decode cX0_greatestDistance 21 = .ok (.iconst 0, 1) := by decide +kernel
theorem dX0_greatestDistance_22 : decode cX0_greatestDistance 22 = .ok (.iaload, 1) := by decide +kernel
theorem dX0_greatestDistance_23 : decode cX0_greatestDistance 23 = .ok (.aload_n 0, 1) := by decide +kernel
theorem dX0_greatestDistance_24 : decode cX0_greatestDistance 24 = .ok (.getfield 21, 3) := by decide +kernel
theorem dX0_greatestDistance_27 : decode cX0_greatestDistance 27 = .ok (.iconst 1, 1) := by decide +kernel
theorem dX0_greatestDistance_28 : decode cX0_greatestDistance 28 = .ok (.iaload, 1) := by decide +kernel
theorem dX0_greatestDistance_29 : decode cX0_greatestDistance 29 = .ok (.aload_n 0, 1) := by decide +kernel
theorem dX0_greatestDistance_30 : decode cX0_greatestDistance 30 = .ok (.getfield 21, 3) := by decide +kernel
theorem dX0_greatestDistance_33 : decode cX0_greatestDistance 33 = .ok (.iconst 2, 1) := by decide +kernel
theorem dX0_greatestDistance_34 : decode cX0_greatestDistance 34 = .ok (.iaload, 1) := by decide +kernel
theorem dX0_greatestDistance_35 : decode cX0_greatestDistance 35 = .ok (.invokevirtual 97, 3) := by decide +kernel
theorem dX0_greatestDistance_38 : decode cX0_greatestDistance 38 = .ok (.isub, 1) := by decide +kernel
theorem dX0_greatestDistance_39 : decode cX0_greatestDistance 39 = .ok (.invokestatic 100, 3) := by decide +kernel
theorem dX0_greatestDistance_42 : decode cX0_greatestDistance 42 = .ok (.istore_n 3, 1) := by decide +kernel
theorem dX0_greatestDistance_43 : decode cX0_greatestDistance 43 = .ok (.iload_n 1, 1) := by decide +kernel
theorem dX0_greatestDistance_44 : decode cX0_greatestDistance 44 = .ok (.iload_n 3, 1) := by decide +kernel
theorem dX0_greatestDistance_45 : decode cX0_greatestDistance 45 = .ok (.invokestatic 104, 3) := by decide +kernel
theorem dX0_greatestDistance_48 : decode cX0_greatestDistance 48 = .ok (.istore_n 1, 1) := by decide +kernel
theorem dX0_greatestDistance_49 : decode cX0_greatestDistance 49 = .ok (.iinc 2 1, 3) := by decide +kernel
theorem dX0_greatestDistance_52 : decode cX0_greatestDistance 52 = .ok (.goto (-48), 3) := by decide +kernel
theorem dX0_greatestDistance_55 : decode cX0_greatestDistance 55 = .ok (.iload_n 1, 1) := by decide +kernel
theorem dX0_greatestDistance_56 : decode cX0_greatestDistance 56 = .ok (.ireturn, 1) := by decide +kernel
theorem dX1_init_0 : decode cX1_init 0 = .ok (.aload_n 0, 1) := by decide +kernel
theorem dX1_init_1 : decode cX1_init 1 = .ok (.invokespecial 3, 3) := by decide +kernel
theorem dX1_init_4 : decode cX1_init 4 = .ok (.aload_n 0, 1) := by decide +kernel
theorem dX1_init_5 : decode cX1_init 5 = .ok (.bipush 12, 2) := by decide +kernel
theorem dX1_init_7 : decode cX1_init 7 = .ok (.iconst 3, 1) := by decide +kernel
theorem dX1_init_8 : decode cX1_init 8 = .ok (.multianewarray 11 2, 4) := by decide +kernel
theorem dX1_init_12 : decode cX1_init 12 = .ok (.putfield 13, 3) := by decide +kernel
theorem dX1_init_15 : decode cX1_init 15 = .ok (.aload_n 0, 1) := by decide +kernel
theorem dX1_init_16 : decode cX1_init 16 = .ok (.bipush 12, 2) := by decide +kernel
theorem dX1_init_18 : decode cX1_init 18 = .ok (.iconst 3, 1) := by decide +kernel
theorem dX1_init_19 : decode cX1_init 19 = .ok (.multianewarray 11 2, 4) := by decide +kernel
theorem dX1_init_23 : decode cX1_init 23 = .ok (.putfield 16, 3) := by decide +kernel
theorem dX1_init_26 : decode cX1_init 26 = .ok (.aload_n 0, 1) := by decide +kernel
theorem dX1_init_27 : decode cX1_init 27 = .ok (.iconst 0, 1) := by decide +kernel
theorem dX1_init_28 : decode cX1_init 28 = .ok (.putfield 19, 3) := by decide +kernel
theorem dX1_init_31 : decode cX1_init 31 = .ok (.aload_n 0, 1) := by decide +kernel
theorem dX1_init_32 : decode cX1_init 32 = .ok (.new 23, 3) := by decide +kernel
theorem dX1_init_35 : decode cX1_init 35 = .ok (.dup, 1) := by decide +kernel
theorem dX1_init_36 : decode cX1_init 36 = .ok (.invokespecial 25, 3) := by decide +kernel
theorem dX1_init_39 : decode cX1_init 39 = .ok (.putfield 26, 3) := by decide +kernel
theorem dX1_init_42 : decode cX1_init 42 = .ok (.return_, 1) := by decide +kernel
theorem dX1_partOfFit_0 : decode cX1_partOfFit 0 = .ok (.aload_n 0, 1) := by decide +kernel
theorem dX1_partOfFit_1 : decode cX1_partOfFit 1 = .ok (.iload_n 1, 1) := by decide +kernel
theorem dX1_partOfFit_2 : decode cX1_partOfFit 2 = .ok (.invokevirtual 30, 3) := by decide +kernel
theorem dX1_partOfFit_5 : decode cX1_partOfFit 5 = .ok (.aload_n 0, 1) := by decide +kernel
theorem dX1_partOfFit_6 : decode cX1_partOfFit 6 = .ok (.getfield 26, 3) := by decide +kernel
theorem dX1_partOfFit_9 : decode cX1_partOfFit 9 = .ok (.iconst (-1), 1) := by decide +kernel
theorem dX1_partOfFit_10 : decode cX1_partOfFit 10 = .ok (.invokevirtual 34, 3) := by decide +kernel
theorem dX1_partOfFit_13 : decode cX1_partOfFit 13 = .ok (.lstore 4, 2) := by decide +kernel
theorem dX1_partOfFit_15 : decode cX1_partOfFit 15 = .ok (.lload 4, 2) := by decide +kernel
theorem dX1_partOfFit_17 : decode cX1_partOfFit 17 = .ok (.lconst 0, 1) := by decide +kernel
theorem dX1_partOfFit_18 : decode cX1_partOfFit 18 = .ok (.lcmp, 1) := by decide +kernel
theorem dX1_partOfFit_19 : decode cX1_partOfFit 19 = .ok (.ifCond .gt 5, 3) := by decide +kernel
theorem dX1_partOfFit_22 : decode cX1_partOfFit 22 = .ok (.lconst 0, 1) := by decide +kernel
theorem dX1_partOfFit_23 : decode cX1_partOfFit 23 = .ok (.lreturn, 1) := by decide +kernel
theorem dX1_partOfFit_24 : decode cX1_partOfFit 24 = .ok (.aload_n 0, 1) := by decide +kernel
theorem dX1_partOfFit_25 : decode cX1_partOfFit 25 = .ok (.getfield 26, 3) := by decide +kernel
theorem dX1_partOfFit_28 : decode cX1_partOfFit 28 = .ok (.iload_n 2, 1) := by decide +kernel
theorem dX1_partOfFit_29 : decode cX1_partOfFit 29 = .ok (.invokevirtual 34, 3) := by decide +kernel
theorem dX1_partOfFit_32 : decode cX1_partOfFit 32 = .ok (.lstore 6, 2) := by decide +kernel
theorem dX1_partOfFit_34 : decode cX1_partOfFit 34 = .ok (.ldc2_w 38, 3) := by decide +kernel
theorem dX1_partOfFit_37 : decode cX1_partOfFit 37 = .ok (.lload 4, 2) := by decide +kernel
theorem dX1_partOfFit_39 : decode cX1_partOfFit 39 = .ok (.lmul, 1) := by decide +kernel
theorem dX1_partOfFit_40 : decode cX1_partOfFit 40 = .ok (.lstore 8, 2) := by decide +kernel
theorem dX1_partOfFit_42 : decode cX1_partOfFit 42 = .ok (.lload 8, 2) := by decide +kernel
theorem dX1_partOfFit_44 : decode cX1_partOfFit 44 = .ok (.lload 6, 2) := by decide +kernel
theorem dX1_partOfFit_46 : decode cX1_partOfFit 46 = .ok (.invokestatic 40, 3) := by decide +kernel
theorem dX1_partOfFit_49 : decode cX1_partOfFit 49 = .ok (.invokestatic 46, 3) := by decide +kernel
theorem dX1_partOfFit_52 : decode cX1_partOfFit 52 = .ok (.lstore 10, 2) := by decide +kernel
theorem dX1_partOfFit_54 : decode cX1_partOfFit 54 = .ok (.lload 10, 2) := by decide +kernel
theorem dX1_partOfFit_56 : decode cX1_partOfFit 56 = .ok (.lconst 0, 1) := by decide +kernel
theorem dX1_partOfFit_57 : decode cX1_partOfFit 57 = .ok (.lcmp, 1) := by decide +kernel
theorem dX1_partOfFit_58 : decode cX1_partOfFit 58 = .ok (.ifCond .gt 5, 3) := by decide +kernel
theorem dX1_partOfFit_61 : decode cX1_partOfFit 61 = .ok (.lconst 0, 1) := by decide +kernel
theorem dX1_partOfFit_62 : decode cX1_partOfFit 62 = .ok (.lreturn, 1) := by decide +kernel
theorem dX1_partOfFit_63 : decode cX1_partOfFit 63 = .ok (.iload_n 3, 1) := by decide +kernel
theorem dX1_partOfFit_64 : decode cX1_partOfFit 64 = .ok (.ifCond .eq 11, 3) := by decide +kernel
theorem dX1_partOfFit_67 : decode cX1_partOfFit 67 = .ok (.lload 6, 2) := by decide +kernel
theorem dX1_partOfFit_69 : decode cX1_partOfFit 69 = .ok (.lload 10, 2) := by decide +kernel
theorem dX1_partOfFit_71 : decode cX1_partOfFit 71 = .ok (.ldiv, 1) := by decide +kernel
theorem dX1_partOfFit_72 : decode cX1_partOfFit 72 = .ok (.goto 8, 3) := by decide +kernel
theorem dX1_partOfFit_75 : decode cX1_partOfFit 75 = .ok (.lload 8, 2) := by decide +kernel
theorem dX1_partOfFit_77 : decode cX1_partOfFit 77 = .ok (.lload 10, 2) := by decide +kernel
theorem dX1_partOfFit_79 : decode cX1_partOfFit 79 = .ok (.ldiv, 1) := by decide +kernel
theorem dX1_partOfFit_80 : decode cX1_partOfFit 80 = .ok (.lreturn, 1) := by decide +kernel
theorem dX1_setEquations_0 : decode cX1_setEquations 0 = .ok (.iconst 0, 1) := by decide +kernel
theorem dX1_setEquations_1 : decode cX1_setEquations 1 = .ok (.istore_n 2, 1) := by decide +kernel
theorem dX1_setEquations_2 : decode cX1_setEquations 2 = .ok (.iload_n 2, 1) := by decide +kernel
theorem dX1_setEquations_3 : decode cX1_setEquations 3 = .ok (.iconst 3, 1) := by decide +kernel
theorem dX1_setEquations_4 : decode cX1_setEquations 4 = .ok (.if_icmp .ge 97, 3) := by decide +kernel
theorem dX1_setEquations_7 : decode cX1_setEquations 7 = .ok (.lconst 0, 1) := by decide +kernel
theorem dX1_setEquations_8 : decode cX1_setEquations 8 = .ok (.lstore_n 3, 1) := by decide +kernel
theorem dX1_setEquations_9 : decode cX1_setEquations 9 = .ok (.iconst 0, 1) := by decide +kernel
theorem dX1_setEquations_10 : decode cX1_setEquations 10 = .ok (.istore 5, 2) := by decide +kernel
theorem dX1_setEquations_12 : decode cX1_setEquations 12 = .ok (.iload 5, 2) := by decide +kernel
theorem dX1_setEquations_14 : decode cX1_setEquations 14 = .ok (.aload_n 0, 1) := by decide +kernel
theorem dX1_setEquations_15 : decode cX1_setEquations 15 = .ok (.getfield 19, 3) := by decide +kernel
theorem dX1_setEquations_18 : decode cX1_setEquations 18 = .ok (.if_icmp .ge 33, 3) := by decide +kernel
theorem dX1_setEquations_21 : decode cX1_setEquations 21 = .ok (.lload_n 3, 1) := by decide +kernel
theorem dX1_setEquations_22 : decode cX1_setEquations 22 = .ok (.aload_n 0, 1) := by decide +kernel
theorem dX1_setEquations_23 : decode cX1_setEquations 23 = .ok (.getfield 13, 3) := by decide +kernel
theorem dX1_setEquations_26 : decode cX1_setEquations 26 = .ok (.iload 5, 2) := by decide +kernel
theorem dX1_setEquations_28 : decode cX1_setEquations 28 = .ok (.aaload, 1) := by decide +kernel
theorem dX1_setEquations_29 : decode cX1_setEquations 29 = .ok (.iload_n 2, 1) := by decide +kernel
theorem dX1_setEquations_30 : decode cX1_setEquations 30 = .ok (.iaload, 1) := by decide +kernel
theorem dX1_setEquations_31 : decode cX1_setEquations 31 = .ok (.i2l, 1) := by decide +kernel
theorem dX1_setEquations_32 : decode cX1_setEquations 32 = .ok (.aload_n 0, 1) := by decide +kernel
theorem dX1_setEquations_33 : decode cX1_setEquations 33 = .ok (.getfield 16, 3) := by decide +kernel
theorem dX1_setEquations_36 : decode cX1_setEquations 36 = .ok (.iload 5, 2) := by decide +kernel
theorem dX1_setEquations_38 : decode cX1_setEquations 38 = .ok (.aaload, 1) := by decide +kernel
theorem dX1_setEquations_39 : decode cX1_setEquations 39 = .ok (.iload_n 1, 1) := by decide +kernel
theorem dX1_setEquations_40 : decode cX1_setEquations 40 = .ok (.iaload, 1) := by decide +kernel
theorem dX1_setEquations_41 : decode cX1_setEquations 41 = .ok (.i2l, 1) := by decide +kernel
theorem dX1_setEquations_42 : decode cX1_setEquations 42 = .ok (.lmul, 1) := by decide +kernel
theorem dX1_setEquations_43 : decode cX1_setEquations 43 = .ok (.ladd, 1) := by decide +kernel
theorem dX1_setEquations_44 : decode cX1_setEquations 44 = .ok (.lstore_n 3, 1) := by decide +kernel
theorem dX1_setEquations_45 : decode cX1_setEquations 45 = .ok (.iinc 5 1, 3) := by decide +kernel
theorem dX1_setEquations_48 : decode cX1_setEquations 48 = .ok (.goto (-36), 3) := by decide +kernel
theorem dX1_setEquations_51 : decode cX1_setEquations 51 = .ok (.aload_n 0, 1) := by decide +kernel
theorem dX1_setEquations_52 : decode cX1_setEquations 52 = .ok (.getfield 26, 3) := by decide +kernel
theorem dX1_setEquations_55 : decode cX1_setEquations 55 = .ok (.getfield 50, 3) := by decide +kernel
theorem dX1_setEquations_58 : decode cX1_setEquations 58 = .ok (.iload_n 2, 1) := by decide +kernel
theorem dX1_setEquations_59 : decode cX1_setEquations 59 = .ok (.lload_n 3, 1) := by decide +kernel
theorem dX1_setEquations_60 : decode cX1_setEquations 60 = .ok (.lastore, 1) := by decide +kernel
theorem dX1_setEquations_61 : decode cX1_setEquations 61 = .ok (.iconst 0, 1) := by decide +kernel
theorem dX1_setEquations_62 : decode cX1_setEquations 62 = .ok (.istore 5, 2) := by decide +kernel
theorem dX1_setEquations_64 : decode cX1_setEquations 64 = .ok (.iload 5, 2) := by decide +kernel
theorem dX1_setEquations_66 : decode cX1_setEquations 66 = .ok (.iconst 3, 1) := by decide +kernel
theorem dX1_setEquations_67 : decode cX1_setEquations 67 = .ok (.if_icmp .ge 28, 3) := by decide +kernel
theorem dX1_setEquations_70 : decode cX1_setEquations 70 = .ok (.aload_n 0, 1) := by decide +kernel
theorem dX1_setEquations_71 : decode cX1_setEquations 71 = .ok (.getfield 26, 3) := by decide +kernel
theorem dX1_setEquations_74 : decode cX1_setEquations 74 = .ok (.getfield 54, 3) := by decide +kernel
theorem dX1_setEquations_77 : decode cX1_setEquations 77 = .ok (.iload_n 2, 1) := by decide +kernel
theorem dX1_setEquations_78 : decode cX1_setEquations 78 = .ok (.aaload, 1) := by decide +kernel
theorem dX1_setEquations_79 : decode cX1_setEquations 79 = .ok (.iload 5, 2) := by decide +kernel
theorem dX1_setEquations_81 : decode cX1_setEquations 81 = .ok (.aload_n 0, 1) := by decide +kernel
theorem dX1_setEquations_82 : decode cX1_setEquations 82 = .ok (.iload_n 2, 1) := by decide +kernel
theorem dX1_setEquations_83 : decode cX1_setEquations 83 = .ok (.iload 5, 2) := by decide +kernel
theorem dX1_setEquations_85 : decode cX1_setEquations 85 = .ok (.invokevirtual 58, 3) := by decide +kernel
theorem dX1_setEquations_88 : decode cX1_setEquations 88 = .ok (.lastore, 1) := by decide +kernel
theorem dX1_setEquations_89 : decode cX1_setEquations 89 = .ok (.iinc 5 1, 3) := by decide +kernel
theorem dX1_setEquations_92 : decode cX1_setEquations 92 = .ok (.goto (-28), 3) := by decide +kernel
theorem dX1_setEquations_95 : decode cX1_setEquations 95 = .ok (.iinc 2 1, 3) := by decide +kernel
theorem dX1_setEquations_98 : decode cX1_setEquations 98 = .ok (.goto (-96), 3) := by decide +kernel
theorem dX1_setEquations_101 : decode cX1_setEquations 101 = .ok (.return_, 1) := by decide +kernel
theorem dX1_sumOfProducts_0 : decode cX1_sumOfProducts 0 = .ok (.lconst 0, 1) := by decide +kernel
theorem dX1_sumOfProducts_1 : decode cX1_sumOfProducts 1 = .ok (.lstore_n 3, 1) := by decide +kernel
theorem dX1_sumOfProducts_2 : decode cX1_sumOfProducts 2 = .ok (.iconst 0, 1) := by decide +kernel
theorem dX1_sumOfProducts_3 : decode cX1_sumOfProducts 3 = .ok (.istore 5, 2) := by decide +kernel
theorem dX1_sumOfProducts_5 : decode cX1_sumOfProducts 5 = .ok (.iload 5, 2) := by decide +kernel
theorem dX1_sumOfProducts_7 : decode cX1_sumOfProducts 7 = .ok (.aload_n 0, 1) := by decide +kernel
theorem dX1_sumOfProducts_8 : decode cX1_sumOfProducts 8 = .ok (.getfield 19, 3) := by decide +kernel
theorem dX1_sumOfProducts_11 : decode cX1_sumOfProducts 11 = .ok (.if_icmp .ge 32, 3) := by decide +kernel
theorem dX1_sumOfProducts_14 : decode cX1_sumOfProducts 14 = .ok (.lload_n 3, 1) := by decide +kernel
theorem dX1_sumOfProducts_15 : decode cX1_sumOfProducts 15 = .ok (.aload_n 0, 1) := by decide +kernel
theorem dX1_sumOfProducts_16 : decode cX1_sumOfProducts 16 = .ok (.getfield 13, 3) := by decide +kernel
theorem dX1_sumOfProducts_19 : decode cX1_sumOfProducts 19 = .ok (.iload 5, 2) := by decide +kernel
theorem dX1_sumOfProducts_21 : decode cX1_sumOfProducts 21 = .ok (.aaload, 1) := by decide +kernel
theorem dX1_sumOfProducts_22 : decode cX1_sumOfProducts 22 = .ok (.iload_n 1, 1) := by decide +kernel
theorem dX1_sumOfProducts_23 : decode cX1_sumOfProducts 23 = .ok (.iaload, 1) := by decide +kernel
theorem dX1_sumOfProducts_24 : decode cX1_sumOfProducts 24 = .ok (.aload_n 0, 1) := by decide +kernel
theorem dX1_sumOfProducts_25 : decode cX1_sumOfProducts 25 = .ok (.getfield 13, 3) := by decide +kernel
theorem dX1_sumOfProducts_28 : decode cX1_sumOfProducts 28 = .ok (.iload 5, 2) := by decide +kernel
theorem dX1_sumOfProducts_30 : decode cX1_sumOfProducts 30 = .ok (.aaload, 1) := by decide +kernel
theorem dX1_sumOfProducts_31 : decode cX1_sumOfProducts 31 = .ok (.iload_n 2, 1) := by decide +kernel
theorem dX1_sumOfProducts_32 : decode cX1_sumOfProducts 32 = .ok (.iaload, 1) := by decide +kernel
theorem dX1_sumOfProducts_33 : decode cX1_sumOfProducts 33 = .ok (.imul, 1) := by decide +kernel
theorem dX1_sumOfProducts_34 : decode cX1_sumOfProducts 34 = .ok (.i2l, 1) := by decide +kernel
theorem dX1_sumOfProducts_35 : decode cX1_sumOfProducts 35 = .ok (.ladd, 1) := by decide +kernel
theorem dX1_sumOfProducts_36 : decode cX1_sumOfProducts 36 = .ok (.lstore_n 3, 1) := by decide +kernel
theorem dX1_sumOfProducts_37 : decode cX1_sumOfProducts 37 = .ok (.iinc 5 1, 3) := by decide +kernel
theorem dX1_sumOfProducts_40 : decode cX1_sumOfProducts 40 = .ok (.goto (-35), 3) := by decide +kernel
theorem dX1_sumOfProducts_43 : decode cX1_sumOfProducts 43 = .ok (.lload_n 3, 1) := by decide +kernel
theorem dX1_sumOfProducts_44 : decode cX1_sumOfProducts 44 = .ok (.lreturn, 1) := by decide +kernel
theorem dX1_commonDivisor_0 : decode cX1_commonDivisor 0 = .ok (.iconst 0, 1) := by decide +kernel
theorem dX1_commonDivisor_1 : decode cX1_commonDivisor 1 = .ok (.istore 4, 2) := by decide +kernel
theorem dX1_commonDivisor_3 : decode cX1_commonDivisor 3 = .ok (.iload 4, 2) := by decide +kernel
theorem dX1_commonDivisor_5 : decode cX1_commonDivisor 5 = .ok (.sipush 200, 3) := by decide +kernel
theorem dX1_commonDivisor_8 : decode cX1_commonDivisor 8 = .ok (.if_icmp .ge 25, 3) := by decide +kernel
theorem dX1_commonDivisor_11 : decode cX1_commonDivisor 11 = .ok (.lload_n 2, 1) := by decide +kernel
theorem dX1_commonDivisor_12 : decode cX1_commonDivisor 12 = .ok (.lconst 0, 1) := by decide +kernel
theorem dX1_commonDivisor_13 : decode cX1_commonDivisor 13 = .ok (.lcmp, 1) := by decide +kernel
theorem dX1_commonDivisor_14 : decode cX1_commonDivisor 14 = .ok (.ifCond .eq 19, 3) := by decide +kernel
theorem dX1_commonDivisor_17 : decode cX1_commonDivisor 17 = .ok (.lload_n 0, 1) := by decide +kernel
theorem dX1_commonDivisor_18 : decode cX1_commonDivisor 18 = .ok (.lload_n 2, 1) := by decide +kernel
theorem dX1_commonDivisor_19 : decode cX1_commonDivisor 19 = .ok (.lrem, 1) := by decide +kernel
theorem dX1_commonDivisor_20 : decode cX1_commonDivisor 20 = .ok (.lstore 5, 2) := by decide +kernel
theorem dX1_commonDivisor_22 : decode cX1_commonDivisor 22 = .ok (.lload_n 2, 1) := by decide +kernel
theorem dX1_commonDivisor_23 : decode cX1_commonDivisor 23 = .ok (.lstore_n 0, 1) := by decide +kernel
theorem dX1_commonDivisor_24 : decode cX1_commonDivisor 24 = .ok (.lload 5, 2) := by decide +kernel
theorem dX1_commonDivisor_26 : decode cX1_commonDivisor 26 = .ok (.lstore_n 2, 1) := by decide +kernel
theorem dX1_commonDivisor_27 : decode cX1_commonDivisor 27 = .ok (.iinc 4 1, 3) := by decide +kernel
theorem dX1_commonDivisor_30 : decode cX1_commonDivisor 30 = .ok (.goto (-27), 3) := by decide +kernel
theorem dX1_commonDivisor_33 : decode cX1_commonDivisor 33 = .ok (.lload_n 0, 1) := by decide +kernel
theorem dX1_commonDivisor_34 : decode cX1_commonDivisor 34 = .ok (.lreturn, 1) := by decide +kernel
theorem dX1_greatestMiss_0 : decode cX1_greatestMiss 0 = .ok (.iconst 0, 1) := by decide +kernel
theorem dX1_greatestMiss_1 : decode cX1_greatestMiss 1 = .ok (.istore_n 3, 1) := by decide +kernel
theorem dX1_greatestMiss_2 : decode cX1_greatestMiss 2 = .ok (.iconst 0, 1) := by decide +kernel
theorem dX1_greatestMiss_3 : decode cX1_greatestMiss 3 = .ok (.istore 4, 2) := by decide +kernel
theorem dX1_greatestMiss_5 : decode cX1_greatestMiss 5 = .ok (.iload 4, 2) := by decide +kernel
theorem dX1_greatestMiss_7 : decode cX1_greatestMiss 7 = .ok (.aload_n 0, 1) := by decide +kernel
theorem dX1_greatestMiss_8 : decode cX1_greatestMiss 8 = .ok (.getfield 19, 3) := by decide +kernel
theorem dX1_greatestMiss_11 : decode cX1_greatestMiss 11 = .ok (.if_icmp .ge 57, 3) := by decide +kernel
theorem dX1_greatestMiss_14 : decode cX1_greatestMiss 14 = .ok (.aload_n 0, 1) := by decide +kernel
theorem dX1_greatestMiss_15 : decode cX1_greatestMiss 15 = .ok (.getfield 13, 3) := by decide +kernel
theorem dX1_greatestMiss_18 : decode cX1_greatestMiss 18 = .ok (.iload 4, 2) := by decide +kernel
theorem dX1_greatestMiss_20 : decode cX1_greatestMiss 20 = .ok (.aaload, 1) := by decide +kernel
theorem dX1_greatestMiss_21 : decode cX1_greatestMiss 21 = .ok (.astore 5, 2) := by decide +kernel
theorem dX1_greatestMiss_23 : decode cX1_greatestMiss 23 = .ok (.aload_n 0, 1) := by decide +kernel
theorem dX1_greatestMiss_24 : decode cX1_greatestMiss 24 = .ok (.getfield 16, 3) := by decide +kernel
theorem dX1_greatestMiss_27 : decode cX1_greatestMiss 27 = .ok (.iload 4, 2) := by decide +kernel
theorem dX1_greatestMiss_29 : decode cX1_greatestMiss 29 = .ok (.aaload, 1) := by decide +kernel
theorem dX1_greatestMiss_30 : decode cX1_greatestMiss 30 = .ok (.iload_n 1, 1) := by decide +kernel
theorem dX1_greatestMiss_31 : decode cX1_greatestMiss 31 = .ok (.iaload, 1) := by decide +kernel
theorem dX1_greatestMiss_32 : decode cX1_greatestMiss 32 = .ok (.aload_n 2, 1) := by decide +kernel
theorem dX1_greatestMiss_33 : decode cX1_greatestMiss 33 = .ok (.iload_n 1, 1) := by decide +kernel
theorem dX1_greatestMiss_34 : decode cX1_greatestMiss 34 = .ok (.aload 5, 2) := by decide +kernel
theorem dX1_greatestMiss_36 : decode cX1_greatestMiss 36 = .ok (.iconst 0, 1) := by decide +kernel
theorem dX1_greatestMiss_37 : decode cX1_greatestMiss 37 = .ok (.iaload, 1) := by decide +kernel
theorem dX1_greatestMiss_38 : decode cX1_greatestMiss 38 = .ok (.aload 5, 2) := by decide +kernel
theorem dX1_greatestMiss_40 : decode cX1_greatestMiss 40 = .ok (.iconst 1, 1) := by decide +kernel
theorem dX1_greatestMiss_41 : decode cX1_greatestMiss 41 = .ok (.iaload, 1) := by decide +kernel
theorem dX1_greatestMiss_42 : decode cX1_greatestMiss 42 = .ok (.aload 5, 2) := by decide +kernel
theorem dX1_greatestMiss_44 : decode cX1_greatestMiss 44 = .ok (.iconst 2, 1) := by decide +kernel
theorem dX1_greatestMiss_45 : decode cX1_greatestMiss 45 = .ok (.iaload, 1) := by decide +kernel
theorem dX1_greatestMiss_46 : decode cX1_greatestMiss 46 = .ok (.invokevirtual 62, 3) := by decide +kernel
theorem dX1_greatestMiss_49 : decode cX1_greatestMiss 49 = .ok (.isub, 1) := by decide +kernel
theorem dX1_greatestMiss_50 : decode cX1_greatestMiss 50 = .ok (.invokestatic 68, 3) := by decide +kernel
theorem dX1_greatestMiss_53 : decode cX1_greatestMiss 53 = .ok (.istore 6, 2) := by decide +kernel
theorem dX1_greatestMiss_55 : decode cX1_greatestMiss 55 = .ok (.iload_n 3, 1) := by decide +kernel
theorem dX1_greatestMiss_56 : decode cX1_greatestMiss 56 = .ok (.iload 6, 2) := by decide +kernel
theorem dX1_greatestMiss_58 : decode cX1_greatestMiss 58 = .ok (.invokestatic 71, 3) := by decide +kernel
theorem dX1_greatestMiss_61 : decode cX1_greatestMiss 61 = .ok (.istore_n 3, 1) := by decide +kernel
theorem dX1_greatestMiss_62 : decode cX1_greatestMiss 62 = .ok (.iinc 4 1, 3) := by decide +kernel
theorem dX1_greatestMiss_65 : decode cX1_greatestMiss 65 = .ok (.goto (-60), 3) := by decide +kernel
theorem dX1_greatestMiss_68 : decode cX1_greatestMiss 68 = .ok (.iload_n 3, 1) := by decide +kernel
theorem dX1_greatestMiss_69 : decode cX1_greatestMiss 69 = .ok (.ireturn, 1) := by decide +kernel
theorem dX2_init_0 : decode cX2_init 0 = .ok (.aload_n 0, 1) := by decide +kernel
theorem dX2_init_1 : decode cX2_init 1 = .ok (.invokespecial 3, 3) := by decide +kernel
theorem dX2_init_4 : decode cX2_init 4 = .ok (.aload_n 0, 1) := by decide +kernel
theorem dX2_init_5 : decode cX2_init 5 = .ok (.iconst 0, 1) := by decide +kernel
theorem dX2_init_6 : decode cX2_init 6 = .ok (.putfield 9, 3) := by decide +kernel
theorem dX2_init_9 : decode cX2_init 9 = .ok (.aload_n 0, 1) := by decide +kernel
theorem dX2_init_10 : decode cX2_init 10 = .ok (.iconst 0, 1) := by decide +kernel
theorem dX2_init_11 : decode cX2_init 11 = .ok (.putfield 15, 3) := by decide +kernel
theorem dX2_init_14 : decode cX2_init 14 = .ok (.aload_n 0, 1) := by decide +kernel
theorem dX2_init_15 : decode cX2_init 15 = .ok (.iconst 0, 1) := by decide +kernel
theorem dX2_init_16 : decode cX2_init 16 = .ok (.putfield 19, 3) := by decide +kernel
theorem dX2_init_19 : decode cX2_init 19 = .ok (.aload_n 0, 1) := by decide +kernel
theorem dX2_init_20 : decode cX2_init 20 = .ok (.iconst 0, 1) := by decide +kernel
theorem dX2_init_21 : decode cX2_init 21 = .ok (.putfield 22, 3) := by decide +kernel
theorem dX2_init_24 : decode cX2_init 24 = .ok (.aload_n 0, 1) := by decide +kernel
theorem dX2_init_25 : decode cX2_init 25 = .ok (.iconst 0, 1) := by decide +kernel
theorem dX2_init_26 : decode cX2_init 26 = .ok (.putfield 25, 3) := by decide +kernel
theorem dX2_init_29 : decode cX2_init 29 = .ok (.return_, 1) := by decide +kernel
theorem dX2_isAsTold_0 : decode cX2_isAsTold 0 = .ok (.iload_n 0, 1) := by decide +kernel
theorem dX2_isAsTold_1 : decode cX2_isAsTold 1 = .ok (.iconst 3, 1) := by decide +kernel
theorem dX2_isAsTold_2 : decode cX2_isAsTold 2 = .ok (.if_icmp .ne 11, 3) := by decide +kernel
theorem dX2_isAsTold_5 : decode cX2_isAsTold 5 = .ok (.iload_n 1, 1) := by decide +kernel
theorem dX2_isAsTold_6 : decode cX2_isAsTold 6 = .ok (.sipush 300, 3) := by decide +kernel
theorem dX2_isAsTold_9 : decode cX2_isAsTold 9 = .ok (.invokestatic 28, 3) := by decide +kernel
theorem dX2_isAsTold_12 : decode cX2_isAsTold 12 = .ok (.ireturn, 1) := by decide +kernel
theorem dX2_isAsTold_13 : decode cX2_isAsTold 13 = .ok (.iload_n 0, 1) := by decide +kernel
theorem dX2_isAsTold_14 : decode cX2_isAsTold 14 = .ok (.ifCond .lt 42, 3) := by decide +kernel
theorem dX2_isAsTold_17 : decode cX2_isAsTold 17 = .ok (.iload_n 0, 1) := by decide +kernel
theorem dX2_isAsTold_18 : decode cX2_isAsTold 18 = .ok (.iconst 4, 1) := by decide +kernel
theorem dX2_isAsTold_19 : decode cX2_isAsTold 19 = .ok (.if_icmp .gt 37, 3) := by decide +kernel
theorem dX2_isAsTold_22 : decode cX2_isAsTold 22 = .ok (.iload_n 1, 1) := by decide +kernel
theorem dX2_isAsTold_23 : decode cX2_isAsTold 23 = .ok (.sipush 10000, 3) := by decide +kernel
theorem dX2_isAsTold_26 : decode cX2_isAsTold 26 = .ok (.invokestatic 28, 3) := by decide +kernel
theorem dX2_isAsTold_29 : decode cX2_isAsTold 29 = .ok (.ifCond .eq 27, 3) := by decide +kernel
theorem dX2_isAsTold_32 : decode cX2_isAsTold 32 = .ok (.iload_n 2, 1) := by decide +kernel
theorem dX2_isAsTold_33 : decode cX2_isAsTold 33 = .ok (.sipush 10000, 3) := by decide +kernel
theorem dX2_isAsTold_36 : decode cX2_isAsTold 36 = .ok (.invokestatic 28, 3) := by decide +kernel
theorem dX2_isAsTold_39 : decode cX2_isAsTold 39 = .ok (.ifCond .eq 17, 3) := by decide +kernel
theorem dX2_isAsTold_42 : decode cX2_isAsTold 42 = .ok (.iload_n 3, 1) := by decide +kernel
theorem dX2_isAsTold_43 : decode cX2_isAsTold 43 = .ok (.sipush 10000, 3) := by decide +kernel
theorem dX2_isAsTold_46 : decode cX2_isAsTold 46 = .ok (.invokestatic 28, 3) := by decide +kernel
theorem dX2_isAsTold_49 : decode cX2_isAsTold 49 = .ok (.ifCond .eq 7, 3) := by decide +kernel
theorem dX2_isAsTold_52 : decode cX2_isAsTold 52 = .ok (.iconst 1, 1) := by decide +kernel
theorem dX2_isAsTold_53 : decode cX2_isAsTold 53 = .ok (.goto 4, 3) := by decide +kernel
theorem dX2_isAsTold_56 : decode cX2_isAsTold 56 = .ok (.iconst 0, 1) := by decide +kernel
theorem dX2_isAsTold_57 : decode cX2_isAsTold 57 = .ok (.ireturn, 1) := by decide +kernel
theorem dX2_become_0 : decode cX2_become 0 = .ok (.aload_n 0, 1) := by decide +kernel
theorem dX2_become_1 : decode cX2_become 1 = .ok (.iconst 1, 1) := by decide +kernel
theorem dX2_become_2 : decode cX2_become 2 = .ok (.putfield 9, 3) := by decide +kernel
theorem dX2_become_5 : decode cX2_become 5 = .ok (.aload_n 0, 1) := by decide +kernel
theorem dX2_become_6 : decode cX2_become 6 = .ok (.iload_n 1, 1) := by decide +kernel
theorem dX2_become_7 : decode cX2_become 7 = .ok (.putfield 15, 3) := by decide +kernel
theorem dX2_become_10 : decode cX2_become 10 = .ok (.aload_n 0, 1) := by decide +kernel
theorem dX2_become_11 : decode cX2_become 11 = .ok (.iload_n 2, 1) := by decide +kernel
theorem dX2_become_12 : decode cX2_become 12 = .ok (.putfield 19, 3) := by decide +kernel
theorem dX2_become_15 : decode cX2_become 15 = .ok (.aload_n 0, 1) := by decide +kernel
theorem dX2_become_16 : decode cX2_become 16 = .ok (.iload_n 3, 1) := by decide +kernel
theorem dX2_become_17 : decode cX2_become 17 = .ok (.putfield 22, 3) := by decide +kernel
theorem dX2_become_20 : decode cX2_become 20 = .ok (.aload_n 0, 1) := by decide +kernel
theorem dX2_become_21 : decode cX2_become 21 = .ok (.iload 4, 2) := by decide +kernel
theorem dX2_become_23 : decode cX2_become 23 = .ok (.putfield 25, 3) := by decide +kernel
theorem dX2_become_26 : decode cX2_become 26 = .ok (.return_, 1) := by decide +kernel
theorem dX2_change_0 : decode cX2_change 0 = .ok (.aload_n 0, 1) := by decide +kernel
theorem dX2_change_1 : decode cX2_change 1 = .ok (.getfield 15, 3) := by decide +kernel
theorem dX2_change_4 : decode cX2_change 4 = .ok (.tableswitch 145 0 3 #[32, 51, 82, 107], 32) := by decide +kernel
theorem dX2_change_36 : decode cX2_change 36 = .ok (.aload_n 1, 1) := by decide +kernel
theorem dX2_change_37 : decode cX2_change 37 = .ok (.aload_n 0, 1) := by decide +kernel
theorem dX2_change_38 : decode cX2_change 38 = .ok (.getfield 19, 3) := by decide +kernel
theorem dX2_change_41 : decode cX2_change 41 = .ok (.aload_n 0, 1) := by decide +kernel
theorem dX2_change_42 : decode cX2_change 42 = .ok (.getfield 22, 3) := by decide +kernel
theorem dX2_change_45 : decode cX2_change 45 = .ok (.aload_n 0, 1) := by decide +kernel
theorem dX2_change_46 : decode cX2_change 46 = .ok (.getfield 25, 3) := by decide +kernel
theorem dX2_change_49 : decode cX2_change 49 = .ok (.invokestatic 32, 3) := by decide +kernel
theorem dX2_change_52 : decode cX2_change 52 = .ok (.goto 124, 3) := by decide +kernel
theorem dX2_change_55 : decode cX2_change 55 = .ok (.aload_n 1, 1) := by decide +kernel
theorem dX2_change_56 : decode cX2_change 56 = .ok (.aload_n 0, 1) := by decide +kernel
theorem dX2_change_57 : decode cX2_change 57 = .ok (.getfield 19, 3) := by decide +kernel
theorem dX2_change_60 : decode cX2_change 60 = .ok (.iload_n 2, 1) := by decide +kernel
theorem dX2_change_61 : decode cX2_change 61 = .ok (.invokestatic 36, 3) := by decide +kernel
theorem dX2_change_64 : decode cX2_change 64 = .ok (.aload_n 0, 1) := by decide +kernel
theorem dX2_change_65 : decode cX2_change 65 = .ok (.getfield 22, 3) := by decide +kernel
theorem dX2_change_68 : decode cX2_change 68 = .ok (.iload_n 2, 1) := by decide +kernel
theorem dX2_change_69 : decode cX2_change 69 = .ok (.invokestatic 36, 3) := by decide +kernel
theorem dX2_change_72 : decode cX2_change 72 = .ok (.aload_n 0, 1) := by decide +kernel
theorem dX2_change_73 : decode cX2_change 73 = .ok (.getfield 25, 3) := by decide +kernel
theorem dX2_change_76 : decode cX2_change 76 = .ok (.iload_n 2, 1) := by decide +kernel
theorem dX2_change_77 : decode cX2_change 77 = .ok (.invokestatic 36, 3) := by decide +kernel
theorem dX2_change_80 : decode cX2_change 80 = .ok (.invokestatic 32, 3) := by decide +kernel
theorem dX2_change_83 : decode cX2_change 83 = .ok (.goto 93, 3) := by decide +kernel
theorem dX2_change_86 : decode cX2_change 86 = .ok (.aload_n 1, 1) := by decide +kernel
theorem dX2_change_87 : decode cX2_change 87 = .ok (.iconst 2, 1) := by decide +kernel
theorem dX2_change_88 : decode cX2_change 88 = .ok (.aload_n 0, 1) := by decide +kernel
theorem dX2_change_89 : decode cX2_change 89 = .ok (.getfield 19, 3) := by decide +kernel
theorem dX2_change_92 : decode cX2_change 92 = .ok (.imul, 1) := by decide +kernel
theorem dX2_change_93 : decode cX2_change 93 = .ok (.iconst 2, 1) := by decide +kernel
theorem dX2_change_94 : decode cX2_change 94 = .ok (.aload_n 0, 1) := by decide +kernel
theorem dX2_change_95 : decode cX2_change 95 = .ok (.getfield 22, 3) := by decide +kernel
theorem dX2_change_98 : decode cX2_change 98 = .ok (.imul, 1) := by decide +kernel
theorem dX2_change_99 : decode cX2_change 99 = .ok (.iconst 2, 1) := by decide +kernel
theorem dX2_change_100 : decode cX2_change 100 = .ok (.aload_n 0, 1) := by decide +kernel
theorem dX2_change_101 : decode cX2_change 101 = .ok (.getfield 25, 3) := by decide +kernel
theorem dX2_change_104 : decode cX2_change 104 = .ok (.imul, 1) := by decide +kernel
theorem dX2_change_105 : decode cX2_change 105 = .ok (.invokestatic 32, 3) := by decide +kernel
theorem dX2_change_108 : decode cX2_change 108 = .ok (.goto 68, 3) := by decide +kernel
theorem dX2_change_111 : decode cX2_change 111 = .ok (.iconst 0, 1) := by decide +kernel
theorem dX2_change_112 : decode cX2_change 112 = .ok (.istore 4, 2) := by decide +kernel
theorem dX2_change_114 : decode cX2_change 114 = .ok (.iload 4, 2) := by decide +kernel
theorem dX2_change_116 : decode cX2_change 116 = .ok (.iconst 3, 1) := by decide +kernel
theorem dX2_change_117 : decode cX2_change 117 = .ok (.if_icmp .ge 29, 3) := by decide +kernel
theorem dX2_change_120 : decode cX2_change 120 = .ok (.aload_n 1, 1) := by decide +kernel
theorem dX2_change_121 : decode cX2_change 121 = .ok (.iload 4, 2) := by decide +kernel
theorem dX2_change_123 : decode cX2_change 123 = .ok (.aload_n 1, 1) := by decide +kernel
theorem dX2_change_124 : decode cX2_change 124 = .ok (.iload 4, 2) := by decide +kernel
theorem dX2_change_126 : decode cX2_change 126 = .ok (.laload, 1) := by decide +kernel
theorem dX2_change_127 : decode cX2_change 127 = .ok (.aload_n 0, 1) := by decide +kernel
theorem dX2_change_128 : decode cX2_change 128 = .ok (.getfield 19, 3) := by decide +kernel
theorem dX2_change_131 : decode cX2_change 131 = .ok (.i2l, 1) := by decide +kernel
theorem dX2_change_132 : decode cX2_change 132 = .ok (.lmul, 1) := by decide +kernel
theorem dX2_change_133 : decode cX2_change 133 = .ok (.ldc2_w 40, 3) := by decide +kernel
theorem dX2_change_136 : decode cX2_change 136 = .ok (.invokestatic 42, 3) := by decide +kernel
theorem dX2_change_139 : decode cX2_change 139 = .ok (.lastore, 1) := by decide +kernel
theorem dX2_change_140 : decode cX2_change 140 = .ok (.iinc 4 1, 3) := by decide +kernel
theorem dX2_change_143 : decode cX2_change 143 = .ok (.goto (-29), 3) := by decide +kernel
theorem dX2_change_146 : decode cX2_change 146 = .ok (.goto 30, 3) := by decide +kernel
theorem dX2_change_149 : decode cX2_change 149 = .ok (.aload_n 1, 1) := by decide +kernel
theorem dX2_change_150 : decode cX2_change 150 = .ok (.aload_n 0, 1) := by decide +kernel
theorem dX2_change_151 : decode cX2_change 151 = .ok (.iload_n 3, 1) := by decide +kernel
theorem dX2_change_152 : decode cX2_change 152 = .ok (.invokestatic 48, 3) := by decide +kernel
theorem dX2_change_155 : decode cX2_change 155 = .ok (.invokevirtual 52, 3) := by decide +kernel
theorem dX2_change_158 : decode cX2_change 158 = .ok (.aload_n 0, 1) := by decide +kernel
theorem dX2_change_159 : decode cX2_change 159 = .ok (.iload_n 3, 1) := by decide +kernel
theorem dX2_change_160 : decode cX2_change 160 = .ok (.bipush 6, 2) := by decide +kernel
theorem dX2_change_162 : decode cX2_change 162 = .ok (.isub, 1) := by decide +kernel
theorem dX2_change_163 : decode cX2_change 163 = .ok (.invokestatic 48, 3) := by decide +kernel
theorem dX2_change_166 : decode cX2_change 166 = .ok (.invokevirtual 52, 3) := by decide +kernel
theorem dX2_change_169 : decode cX2_change 169 = .ok (.aload_n 0, 1) := by decide +kernel
theorem dX2_change_170 : decode cX2_change 170 = .ok (.getfield 22, 3) := by decide +kernel
theorem dX2_change_173 : decode cX2_change 173 = .ok (.invokestatic 32, 3) := by decide +kernel
theorem dX2_change_176 : decode cX2_change 176 = .ok (.return_, 1) := by decide +kernel
theorem dX2_lessen_0 : decode cX2_lessen 0 = .ok (.aload_n 0, 1) := by decide +kernel
theorem dX2_lessen_1 : decode cX2_lessen 1 = .ok (.iconst 0, 1) := by decide +kernel
theorem dX2_lessen_2 : decode cX2_lessen 2 = .ok (.dup2, 1) := by decide +kernel
theorem dX2_lessen_3 : decode cX2_lessen 3 = .ok (.laload, 1) := by decide +kernel
theorem dX2_lessen_4 : decode cX2_lessen 4 = .ok (.iload_n 1, 1) := by decide +kernel
theorem dX2_lessen_5 : decode cX2_lessen 5 = .ok (.i2l, 1) := by decide +kernel
theorem dX2_lessen_6 : decode cX2_lessen 6 = .ok (.lsub, 1) := by decide +kernel
theorem dX2_lessen_7 : decode cX2_lessen 7 = .ok (.lastore, 1) := by decide +kernel
theorem dX2_lessen_8 : decode cX2_lessen 8 = .ok (.aload_n 0, 1) := by decide +kernel
theorem dX2_lessen_9 : decode cX2_lessen 9 = .ok (.iconst 1, 1) := by decide +kernel
theorem dX2_lessen_10 : decode cX2_lessen 10 = .ok (.dup2, 1) := by decide +kernel
theorem dX2_lessen_11 : decode cX2_lessen 11 = .ok (.laload, 1) := by decide +kernel
theorem dX2_lessen_12 : decode cX2_lessen 12 = .ok (.iload_n 2, 1) := by decide +kernel
theorem dX2_lessen_13 : decode cX2_lessen 13 = .ok (.i2l, 1) := by decide +kernel
theorem dX2_lessen_14 : decode cX2_lessen 14 = .ok (.lsub, 1) := by decide +kernel
theorem dX2_lessen_15 : decode cX2_lessen 15 = .ok (.lastore, 1) := by decide +kernel
theorem dX2_lessen_16 : decode cX2_lessen 16 = .ok (.aload_n 0, 1) := by decide +kernel
theorem dX2_lessen_17 : decode cX2_lessen 17 = .ok (.iconst 2, 1) := by decide +kernel
theorem dX2_lessen_18 : decode cX2_lessen 18 = .ok (.dup2, 1) := by decide +kernel
theorem dX2_lessen_19 : decode cX2_lessen 19 = .ok (.laload, 1) := by decide +kernel
theorem dX2_lessen_20 : decode cX2_lessen 20 = .ok (.iload_n 3, 1) := by decide +kernel
theorem dX2_lessen_21 : decode cX2_lessen 21 = .ok (.i2l, 1) := by decide +kernel
theorem dX2_lessen_22 : decode cX2_lessen 22 = .ok (.lsub, 1) := by decide +kernel
theorem dX2_lessen_23 : decode cX2_lessen 23 = .ok (.lastore, 1) := by decide +kernel
theorem dX2_lessen_24 : decode cX2_lessen 24 = .ok (.return_, 1) := by decide +kernel
theorem dX2_drifted_0 : decode cX2_drifted 0 = .ok (.iload_n 0, 1) := by decide +kernel
theorem dX2_drifted_1 : decode cX2_drifted 1 = .ok (.iload_n 0, 1) := by decide +kernel
theorem dX2_drifted_2 : decode cX2_drifted 2 = .ok (.iload_n 1, 1) := by decide +kernel
theorem dX2_drifted_3 : decode cX2_drifted 3 = .ok (.imul, 1) := by decide +kernel
theorem dX2_drifted_4 : decode cX2_drifted 4 = .ok (.sipush 1000, 3) := by decide +kernel
theorem dX2_drifted_7 : decode cX2_drifted 7 = .ok (.invokestatic 55, 3) := by decide +kernel
theorem dX2_drifted_10 : decode cX2_drifted 10 = .ok (.iadd, 1) := by decide +kernel
theorem dX2_drifted_11 : decode cX2_drifted 11 = .ok (.ireturn, 1) := by decide +kernel
theorem dX2_cos_0 : decode cX2_cos 0 = .ok (.getstatic 57, 3) := by decide +kernel
theorem dX2_cos_3 : decode cX2_cos 3 = .ok (.iload_n 0, 1) := by decide +kernel
theorem dX2_cos_4 : decode cX2_cos 4 = .ok (.bipush 24, 2) := by decide +kernel
theorem dX2_cos_6 : decode cX2_cos 6 = .ok (.invokestatic 61, 3) := by decide +kernel
theorem dX2_cos_9 : decode cX2_cos 9 = .ok (.iaload, 1) := by decide +kernel
theorem dX2_cos_10 : decode cX2_cos 10 = .ok (.ireturn, 1) := by decide +kernel
theorem dX2_share_0 : decode cX2_share 0 = .ok (.aload_n 0, 1) := by decide +kernel
theorem dX2_share_1 : decode cX2_share 1 = .ok (.getfield 19, 3) := by decide +kernel
theorem dX2_share_4 : decode cX2_share 4 = .ok (.iload_n 1, 1) := by decide +kernel
theorem dX2_share_5 : decode cX2_share 5 = .ok (.imul, 1) := by decide +kernel
theorem dX2_share_6 : decode cX2_share 6 = .ok (.sipush 1000, 3) := by decide +kernel
theorem dX2_share_9 : decode cX2_share 9 = .ok (.invokestatic 55, 3) := by decide +kernel
theorem dX2_share_12 : decode cX2_share 12 = .ok (.ireturn, 1) := by decide +kernel
theorem dX3_init_0 : decode cX3_init 0 = .ok (.aload_n 0, 1) := by decide +kernel
theorem dX3_init_1 : decode cX3_init 1 = .ok (.invokespecial 3, 3) := by decide +kernel
theorem dX3_init_4 : decode cX3_init 4 = .ok (.aload_n 0, 1) := by decide +kernel
theorem dX3_init_5 : decode cX3_init 5 = .ok (.bipush 10, 2) := by decide +kernel
theorem dX3_init_7 : decode cX3_init 7 = .ok (.anewarray 11, 3) := by decide +kernel
theorem dX3_init_10 : decode cX3_init 10 = .ok (.putfield 13, 3) := by decide +kernel
theorem dX3_init_13 : decode cX3_init 13 = .ok (.aload_n 0, 1) := by decide +kernel
theorem dX3_init_14 : decode cX3_init 14 = .ok (.iconst 0, 1) := by decide +kernel
theorem dX3_init_15 : decode cX3_init 15 = .ok (.putfield 17, 3) := by decide +kernel
theorem dX3_init_18 : decode cX3_init 18 = .ok (.aload_n 0, 1) := by decide +kernel
theorem dX3_init_19 : decode cX3_init 19 = .ok (.iconst 3, 1) := by decide +kernel
theorem dX3_init_20 : decode cX3_init 20 = .ok (.newarray .int, 2) := by decide +kernel
theorem dX3_init_22 : decode cX3_init 22 = .ok (.putfield 21, 3) := by decide +kernel
theorem dX3_init_25 : decode cX3_init 25 = .ok (.aload_n 0, 1) := by decide +kernel
theorem dX3_init_26 : decode cX3_init 26 = .ok (.iconst 0, 1) := by decide +kernel
theorem dX3_init_27 : decode cX3_init 27 = .ok (.putfield 25, 3) := by decide +kernel
theorem dX3_init_30 : decode cX3_init 30 = .ok (.aload_n 0, 1) := by decide +kernel
theorem dX3_init_31 : decode cX3_init 31 = .ok (.iconst 0, 1) := by decide +kernel
theorem dX3_init_32 : decode cX3_init 32 = .ok (.putfield 28, 3) := by decide +kernel
theorem dX3_init_35 : decode cX3_init 35 = .ok (.aload_n 0, 1) := by decide +kernel
theorem dX3_init_36 : decode cX3_init 36 = .ok (.iconst 3, 1) := by decide +kernel
theorem dX3_init_37 : decode cX3_init 37 = .ok (.newarray .long, 2) := by decide +kernel
theorem dX3_init_39 : decode cX3_init 39 = .ok (.putfield 31, 3) := by decide +kernel
theorem dX3_init_42 : decode cX3_init 42 = .ok (.aload_n 0, 1) := by decide +kernel
theorem dX3_init_43 : decode cX3_init 43 = .ok (.iconst 3, 1) := by decide +kernel
theorem dX3_init_44 : decode cX3_init 44 = .ok (.newarray .long, 2) := by decide +kernel
theorem dX3_init_46 : decode cX3_init 46 = .ok (.putfield 35, 3) := by decide +kernel
theorem dX3_init_49 : decode cX3_init 49 = .ok (.iconst 0, 1) := by decide +kernel
theorem dX3_init_50 : decode cX3_init 50 = .ok (.istore_n 1, 1) := by decide +kernel
theorem dX3_init_51 : decode cX3_init 51 = .ok (.iload_n 1, 1) := by decide +kernel
theorem dX3_init_52 : decode cX3_init 52 = .ok (.bipush 10, 2) := by decide +kernel
theorem dX3_init_54 : decode cX3_init 54 = .ok (.if_icmp .ge 22, 3) := by decide +kernel
theorem dX3_init_57 : decode cX3_init 57 = .ok (.aload_n 0, 1) := by decide +kernel
theorem dX3_init_58 : decode cX3_init 58 = .ok (.getfield 13, 3) := by decide +kernel
theorem dX3_init_61 : decode cX3_init 61 = .ok (.iload_n 1, 1) := by decide +kernel
theorem dX3_init_62 : decode cX3_init 62 = .ok (.new 11, 3) := by decide +kernel
theorem dX3_init_65 : decode cX3_init 65 = .ok (.dup, 1) := by decide +kernel
theorem dX3_init_66 : decode cX3_init 66 = .ok (.invokespecial 38, 3) := by decide +kernel
theorem dX3_init_69 : decode cX3_init 69 = .ok (.aastore, 1) := by decide +kernel
theorem dX3_init_70 : decode cX3_init 70 = .ok (.iinc 1 1, 3) := by decide +kernel
theorem dX3_init_73 : decode cX3_init 73 = .ok (.goto (-22), 3) := by decide +kernel
theorem dX3_init_76 : decode cX3_init 76 = .ok (.return_, 1) := by decide +kernel
theorem dX3_append_0 : decode cX3_append 0 = .ok (.aload_n 0, 1) := by decide +kernel
theorem dX3_append_1 : decode cX3_append 1 = .ok (.getfield 13, 3) := by decide +kernel
theorem dX3_append_4 : decode cX3_append 4 = .ok (.aload_n 0, 1) := by decide +kernel
theorem dX3_append_5 : decode cX3_append 5 = .ok (.getfield 17, 3) := by decide +kernel
theorem dX3_append_8 : decode cX3_append 8 = .ok (.aaload, 1) := by decide +kernel
theorem dX3_append_9 : decode cX3_append 9 = .ok (.iload_n 1, 1) := by decide +kernel
theorem dX3_append_10 : decode cX3_append 10 = .ok (.iload_n 2, 1) := by decide +kernel
theorem dX3_append_11 : decode cX3_append 11 = .ok (.iload_n 3, 1) := by decide +kernel
theorem dX3_append_12 : decode cX3_append 12 = .ok (.iload 4, 2) := by decide +kernel
theorem dX3_append_14 : decode cX3_append 14 = .ok (.invokevirtual 39, 3) := by decide +kernel
theorem dX3_append_17 : decode cX3_append 17 = .ok (.aload_n 0, 1) := by decide +kernel
theorem dX3_append_18 : decode cX3_append 18 = .ok (.dup, 1) := by decide +kernel
theorem dX3_append_19 : decode cX3_append 19 = .ok (.getfield 17, 3) := by decide +kernel
theorem dX3_append_22 : decode cX3_append 22 = .ok (.iconst 1, 1) := by decide +kernel
theorem dX3_append_23 : decode cX3_append 23 = .ok (.iadd, 1) := by decide +kernel
theorem dX3_append_24 : decode cX3_append 24 = .ok (.putfield 17, 3) := by decide +kernel
theorem dX3_append_27 : decode cX3_append 27 = .ok (.aload_n 0, 1) := by decide +kernel
theorem dX3_append_28 : decode cX3_append 28 = .ok (.getfield 17, 3) := by decide +kernel
theorem dX3_append_31 : decode cX3_append 31 = .ok (.iconst 1, 1) := by decide +kernel
theorem dX3_append_32 : decode cX3_append 32 = .ok (.isub, 1) := by decide +kernel
theorem dX3_append_33 : decode cX3_append 33 = .ok (.ireturn, 1) := by decide +kernel
theorem dX3_goThrough_0 : decode cX3_goThrough 0 = .ok (.iconst 0, 1) := by decide +kernel
theorem dX3_goThrough_1 : decode cX3_goThrough 1 = .ok (.istore_n 3, 1) := by decide +kernel
theorem dX3_goThrough_2 : decode cX3_goThrough 2 = .ok (.iload_n 3, 1) := by decide +kernel
theorem dX3_goThrough_3 : decode cX3_goThrough 3 = .ok (.iconst 3, 1) := by decide +kernel
theorem dX3_goThrough_4 : decode cX3_goThrough 4 = .ok (.if_icmp .ge 19, 3) := by decide +kernel
theorem dX3_goThrough_7 : decode cX3_goThrough 7 = .ok (.aload_n 2, 1) := by decide +kernel
theorem dX3_goThrough_8 : decode cX3_goThrough 8 = .ok (.iload_n 3, 1) := by decide +kernel
theorem dX3_goThrough_9 : decode cX3_goThrough 9 = .ok (.aload_n 0, 1) := by decide +kernel
theorem dX3_goThrough_10 : decode cX3_goThrough 10 = .ok (.getfield 21, 3) := by decide +kernel
theorem dX3_goThrough_13 : decode cX3_goThrough 13 = .ok (.iload_n 3, 1) := by decide +kernel
theorem dX3_goThrough_14 : decode cX3_goThrough 14 = .ok (.iaload, 1) := by decide +kernel
theorem dX3_goThrough_15 : decode cX3_goThrough 15 = .ok (.i2l, 1) := by decide +kernel
theorem dX3_goThrough_16 : decode cX3_goThrough 16 = .ok (.lastore, 1) := by decide +kernel
theorem dX3_goThrough_17 : decode cX3_goThrough 17 = .ok (.iinc 3 1, 3) := by decide +kernel
theorem dX3_goThrough_20 : decode cX3_goThrough 20 = .ok (.goto (-18), 3) := by decide +kernel
theorem dX3_goThrough_23 : decode cX3_goThrough 23 = .ok (.iconst 0, 1) := by decide +kernel
theorem dX3_goThrough_24 : decode cX3_goThrough 24 = .ok (.istore_n 3, 1) := by decide +kernel
theorem dX3_goThrough_25 : decode cX3_goThrough 25 = .ok (.iload_n 3, 1) := by decide +kernel
theorem dX3_goThrough_26 : decode cX3_goThrough 26 = .ok (.iload_n 1, 1) := by decide +kernel
theorem dX3_goThrough_27 : decode cX3_goThrough 27 = .ok (.if_icmp .ge 15, 3) := by decide +kernel
theorem dX3_goThrough_30 : decode cX3_goThrough 30 = .ok (.aload_n 0, 1) := by decide +kernel
theorem dX3_goThrough_31 : decode cX3_goThrough 31 = .ok (.iload_n 3, 1) := by decide +kernel
theorem dX3_goThrough_32 : decode cX3_goThrough 32 = .ok (.aload_n 2, 1) := by decide +kernel
theorem dX3_goThrough_33 : decode cX3_goThrough 33 = .ok (.invokevirtual 43, 3) := by decide +kernel
theorem dX3_goThrough_36 : decode cX3_goThrough 36 = .ok (.iinc 3 1, 3) := by decide +kernel
theorem dX3_goThrough_39 : decode cX3_goThrough 39 = .ok (.goto (-14), 3) := by decide +kernel
theorem dX3_goThrough_42 : decode cX3_goThrough 42 = .ok (.return_, 1) := by decide +kernel
theorem dX3_changeIfOn_0 : decode cX3_changeIfOn 0 = .ok (.aload_n 0, 1) := by decide +kernel
theorem dX3_changeIfOn_1 : decode cX3_changeIfOn 1 = .ok (.getfield 13, 3) := by decide +kernel
theorem dX3_changeIfOn_4 : decode cX3_changeIfOn 4 = .ok (.iload_n 1, 1) := by decide +kernel
theorem dX3_changeIfOn_5 : decode cX3_changeIfOn 5 = .ok (.aaload, 1) := by decide +kernel
theorem dX3_changeIfOn_6 : decode cX3_changeIfOn 6 = .ok (.getfield 47, 3) := by decide +kernel
theorem dX3_changeIfOn_9 : decode cX3_changeIfOn 9 = .ok (.ifCond .eq 21, 3) := by decide +kernel
theorem dX3_changeIfOn_12 : decode cX3_changeIfOn 12 = .ok (.aload_n 0, 1) := by decide +kernel
theorem dX3_changeIfOn_13 : decode cX3_changeIfOn 13 = .ok (.getfield 13, 3) := by decide +kernel
theorem dX3_changeIfOn_16 : decode cX3_changeIfOn 16 = .ok (.iload_n 1, 1) := by decide +kernel
theorem dX3_changeIfOn_17 : decode cX3_changeIfOn 17 = .ok (.aaload, 1) := by decide +kernel
theorem dX3_changeIfOn_18 : decode cX3_changeIfOn 18 = .ok (.aload_n 2, 1) := by decide +kernel
theorem dX3_changeIfOn_19 : decode cX3_changeIfOn 19 = .ok (.aload_n 0, 1) := by decide +kernel
theorem dX3_changeIfOn_20 : decode cX3_changeIfOn 20 = .ok (.getfield 25, 3) := by decide +kernel
theorem dX3_changeIfOn_23 : decode cX3_changeIfOn 23 = .ok (.aload_n 0, 1) := by decide +kernel
theorem dX3_changeIfOn_24 : decode cX3_changeIfOn 24 = .ok (.getfield 28, 3) := by decide +kernel
theorem dX3_changeIfOn_27 : decode cX3_changeIfOn 27 = .ok (.invokevirtual 51, 3) := by decide +kernel
theorem dX3_changeIfOn_30 : decode cX3_changeIfOn 30 = .ok (.return_, 1) := by decide +kernel
theorem dX3_isFelt_0 : decode cX3_isFelt 0 = .ok (.aload_n 0, 1) := by decide +kernel
theorem dX3_isFelt_1 : decode cX3_isFelt 1 = .ok (.iload_n 1, 1) := by decide +kernel
theorem dX3_isFelt_2 : decode cX3_isFelt 2 = .ok (.aload_n 0, 1) := by decide +kernel
theorem dX3_isFelt_3 : decode cX3_isFelt 3 = .ok (.getfield 31, 3) := by decide +kernel
theorem dX3_isFelt_6 : decode cX3_isFelt 6 = .ok (.invokevirtual 55, 3) := by decide +kernel
theorem dX3_isFelt_9 : decode cX3_isFelt 9 = .ok (.aload_n 0, 1) := by decide +kernel
theorem dX3_isFelt_10 : decode cX3_isFelt 10 = .ok (.iload_n 1, 1) := by decide +kernel
theorem dX3_isFelt_11 : decode cX3_isFelt 11 = .ok (.aload_n 0, 1) := by decide +kernel
theorem dX3_isFelt_12 : decode cX3_isFelt 12 = .ok (.getfield 35, 3) := by decide +kernel
theorem dX3_isFelt_15 : decode cX3_isFelt 15 = .ok (.invokevirtual 55, 3) := by decide +kernel
theorem dX3_isFelt_18 : decode cX3_isFelt 18 = .ok (.aload_n 0, 1) := by decide +kernel
theorem dX3_isFelt_19 : decode cX3_isFelt 19 = .ok (.getfield 13, 3) := by decide +kernel
theorem dX3_isFelt_22 : decode cX3_isFelt 22 = .ok (.iload_n 1, 1) := by decide +kernel
theorem dX3_isFelt_23 : decode cX3_isFelt 23 = .ok (.aaload, 1) := by decide +kernel
theorem dX3_isFelt_24 : decode cX3_isFelt 24 = .ok (.aload_n 0, 1) := by decide +kernel
theorem dX3_isFelt_25 : decode cX3_isFelt 25 = .ok (.getfield 35, 3) := by decide +kernel
theorem dX3_isFelt_28 : decode cX3_isFelt 28 = .ok (.aload_n 0, 1) := by decide +kernel
theorem dX3_isFelt_29 : decode cX3_isFelt 29 = .ok (.getfield 25, 3) := by decide +kernel
theorem dX3_isFelt_32 : decode cX3_isFelt 32 = .ok (.aload_n 0, 1) := by decide +kernel
theorem dX3_isFelt_33 : decode cX3_isFelt 33 = .ok (.getfield 28, 3) := by decide +kernel
theorem dX3_isFelt_36 : decode cX3_isFelt 36 = .ok (.invokevirtual 51, 3) := by decide +kernel
theorem dX3_isFelt_39 : decode cX3_isFelt 39 = .ok (.aload_n 0, 1) := by decide +kernel
theorem dX3_isFelt_40 : decode cX3_isFelt 40 = .ok (.invokevirtual 58, 3) := by decide +kernel
theorem dX3_isFelt_43 : decode cX3_isFelt 43 = .ok (.ireturn, 1) := by decide +kernel
theorem dX3_isOrderFelt_0 : decode cX3_isOrderFelt 0 = .ok (.aload_n 0, 1) := by decide +kernel
theorem dX3_isOrderFelt_1 : decode cX3_isOrderFelt 1 = .ok (.iload_n 1, 1) := by decide +kernel
theorem dX3_isOrderFelt_2 : decode cX3_isOrderFelt 2 = .ok (.iconst 2, 1) := by decide +kernel
theorem dX3_isOrderFelt_3 : decode cX3_isOrderFelt 3 = .ok (.iadd, 1) := by decide +kernel
theorem dX3_isOrderFelt_4 : decode cX3_isOrderFelt 4 = .ok (.aload_n 0, 1) := by decide +kernel
theorem dX3_isOrderFelt_5 : decode cX3_isOrderFelt 5 = .ok (.getfield 31, 3) := by decide +kernel
theorem dX3_isOrderFelt_8 : decode cX3_isOrderFelt 8 = .ok (.invokevirtual 55, 3) := by decide +kernel
theorem dX3_isOrderFelt_11 : decode cX3_isOrderFelt 11 = .ok (.aload_n 0, 1) := by decide +kernel
theorem dX3_isOrderFelt_12 : decode cX3_isOrderFelt 12 = .ok (.iload_n 1, 1) := by decide +kernel
theorem dX3_isOrderFelt_13 : decode cX3_isOrderFelt 13 = .ok (.aload_n 0, 1) := by decide +kernel
theorem dX3_isOrderFelt_14 : decode cX3_isOrderFelt 14 = .ok (.getfield 35, 3) := by decide +kernel
theorem dX3_isOrderFelt_17 : decode cX3_isOrderFelt 17 = .ok (.invokevirtual 55, 3) := by decide +kernel
theorem dX3_isOrderFelt_20 : decode cX3_isOrderFelt 20 = .ok (.aload_n 0, 1) := by decide +kernel
theorem dX3_isOrderFelt_21 : decode cX3_isOrderFelt 21 = .ok (.iload_n 1, 1) := by decide +kernel
theorem dX3_isOrderFelt_22 : decode cX3_isOrderFelt 22 = .ok (.iconst 1, 1) := by decide +kernel
theorem dX3_isOrderFelt_23 : decode cX3_isOrderFelt 23 = .ok (.iadd, 1) := by decide +kernel
theorem dX3_isOrderFelt_24 : decode cX3_isOrderFelt 24 = .ok (.aload_n 0, 1) := by decide +kernel
theorem dX3_isOrderFelt_25 : decode cX3_isOrderFelt 25 = .ok (.getfield 35, 3) := by decide +kernel
theorem dX3_isOrderFelt_28 : decode cX3_isOrderFelt 28 = .ok (.invokevirtual 43, 3) := by decide +kernel
theorem dX3_isOrderFelt_31 : decode cX3_isOrderFelt 31 = .ok (.aload_n 0, 1) := by decide +kernel
theorem dX3_isOrderFelt_32 : decode cX3_isOrderFelt 32 = .ok (.iload_n 1, 1) := by decide +kernel
theorem dX3_isOrderFelt_33 : decode cX3_isOrderFelt 33 = .ok (.aload_n 0, 1) := by decide +kernel
theorem dX3_isOrderFelt_34 : decode cX3_isOrderFelt 34 = .ok (.getfield 35, 3) := by decide +kernel
theorem dX3_isOrderFelt_37 : decode cX3_isOrderFelt 37 = .ok (.invokevirtual 43, 3) := by decide +kernel
theorem dX3_isOrderFelt_40 : decode cX3_isOrderFelt 40 = .ok (.aload_n 0, 1) := by decide +kernel
theorem dX3_isOrderFelt_41 : decode cX3_isOrderFelt 41 = .ok (.invokevirtual 58, 3) := by decide +kernel
theorem dX3_isOrderFelt_44 : decode cX3_isOrderFelt 44 = .ok (.ireturn, 1) := by decide +kernel
theorem dX3_differ_0 : decode cX3_differ 0 = .ok (.aload_n 0, 1) := by decide +kernel
theorem dX3_differ_1 : decode cX3_differ 1 = .ok (.getfield 31, 3) := by decide +kernel
theorem dX3_differ_4 : decode cX3_differ 4 = .ok (.iconst 0, 1) := by decide +kernel
theorem dX3_differ_5 : decode cX3_differ 5 = .ok (.laload, 1) := by decide +kernel
theorem dX3_differ_6 : decode cX3_differ 6 = .ok (.aload_n 0, 1) := by decide +kernel
theorem dX3_differ_7 : decode cX3_differ 7 = .ok (.getfield 35, 3) := by decide +kernel
theorem dX3_differ_10 : decode cX3_differ 10 = .ok (.iconst 0, 1) := by decide +kernel
theorem dX3_differ_11 : decode cX3_differ 11 = .ok (.laload, 1) := by decide +kernel
theorem dX3_differ_12 : decode cX3_differ 12 = .ok (.lcmp, 1) := by decide +kernel
theorem dX3_differ_13 : decode cX3_differ 13 = .ok (.ifCond .ne 35, 3) := by decide +kernel
theorem dX3_differ_16 : decode cX3_differ 16 = .ok (.aload_n 0, 1) := by decide +kernel
theorem dX3_differ_17 : decode cX3_differ 17 = .ok (.getfield 31, 3) := by decide +kernel
theorem dX3_differ_20 : decode cX3_differ 20 = .ok (.iconst 1, 1) := by decide +kernel
theorem dX3_differ_21 : decode cX3_differ 21 = .ok (.laload, 1) := by decide +kernel
theorem dX3_differ_22 : decode cX3_differ 22 = .ok (.aload_n 0, 1) := by decide +kernel
theorem dX3_differ_23 : decode cX3_differ 23 = .ok (.getfield 35, 3) := by decide +kernel
theorem dX3_differ_26 : decode cX3_differ 26 = .ok (.iconst 1, 1) := by decide +kernel
theorem dX3_differ_27 : decode cX3_differ 27 = .ok (.laload, 1) := by decide +kernel
theorem dX3_differ_28 : decode cX3_differ 28 = .ok (.lcmp, 1) := by decide +kernel
theorem dX3_differ_29 : decode cX3_differ 29 = .ok (.ifCond .ne 19, 3) := by decide +kernel
theorem dX3_differ_32 : decode cX3_differ 32 = .ok (.aload_n 0, 1) := by decide +kernel
theorem dX3_differ_33 : decode cX3_differ 33 = .ok (.getfield 31, 3) := by decide +kernel
theorem dX3_differ_36 : decode cX3_differ 36 = .ok (.iconst 2, 1) := by decide +kernel
theorem dX3_differ_37 : decode cX3_differ 37 = .ok (.laload, 1) := by decide +kernel
theorem dX3_differ_38 : decode cX3_differ 38 = .ok (.aload_n 0, 1) := by decide +kernel
theorem dX3_differ_39 : decode cX3_differ 39 = .ok (.getfield 35, 3) := by decide +kernel
theorem dX3_differ_42 : decode cX3_differ 42 = .ok (.iconst 2, 1) := by decide +kernel
theorem dX3_differ_43 : decode cX3_differ 43 = .ok (.laload, 1) := by decide +kernel
theorem dX3_differ_44 : decode cX3_differ 44 = .ok (.lcmp, 1) := by decide +kernel
theorem dX3_differ_45 : decode cX3_differ 45 = .ok (.ifCond .eq 7, 3) := by decide +kernel
theorem dX3_differ_48 : decode cX3_differ 48 = .ok (.iconst 1, 1) := by decide +kernel
theorem dX3_differ_49 : decode cX3_differ 49 = .ok (.goto 4, 3) := by decide +kernel
theorem dX3_differ_52 : decode cX3_differ 52 = .ok (.iconst 0, 1) := by decide +kernel
theorem dX3_differ_53 : decode cX3_differ 53 = .ok (.ireturn, 1) := by decide +kernel
theorem dX4_init_0 : decode cX4_init 0 = .ok (.aload_n 0, 1) := by decide +kernel
theorem dX4_init_1 : decode cX4_init 1 = .ok (.invokespecial 3, 3) := by decide +kernel
theorem dX4_init_4 : decode cX4_init 4 = .ok (.aload_n 0, 1) := by decide +kernel
theorem dX4_init_5 : decode cX4_init 5 = .ok (.iconst 3, 1) := by decide +kernel
theorem dX4_init_6 : decode cX4_init 6 = .ok (.iconst 3, 1) := by decide +kernel
theorem dX4_init_7 : decode cX4_init 7 = .ok (.multianewarray 9 2, 4) := by decide +kernel
theorem dX4_init_11 : decode cX4_init 11 = .ok (.putfield 11, 3) := by decide +kernel
theorem dX4_init_14 : decode cX4_init 14 = .ok (.aload_n 0, 1) := by decide +kernel
theorem dX4_init_15 : decode cX4_init 15 = .ok (.iconst 3, 1) := by decide +kernel
theorem dX4_init_16 : decode cX4_init 16 = .ok (.newarray .long, 2) := by decide +kernel
theorem dX4_init_18 : decode cX4_init 18 = .ok (.putfield 16, 3) := by decide +kernel
theorem dX4_init_21 : decode cX4_init 21 = .ok (.return_, 1) := by decide +kernel
theorem dX4_determinant_0 : decode cX4_determinant 0 = .ok (.lconst 0, 1) := by decide +kernel
theorem dX4_determinant_1 : decode cX4_determinant 1 = .ok (.lstore_n 2, 1) := by decide +kernel
theorem dX4_determinant_2 : decode cX4_determinant 2 = .ok (.iconst 0, 1) := by decide +kernel
theorem dX4_determinant_3 : decode cX4_determinant 3 = .ok (.istore 4, 2) := by decide +kernel
theorem dX4_determinant_5 : decode cX4_determinant 5 = .ok (.iload 4, 2) := by decide +kernel
theorem dX4_determinant_7 : decode cX4_determinant 7 = .ok (.iconst 3, 1) := by decide +kernel
theorem dX4_determinant_8 : decode cX4_determinant 8 = .ok (.if_icmp .ge 76, 3) := by decide +kernel
theorem dX4_determinant_11 : decode cX4_determinant 11 = .ok (.iload 4, 2) := by decide +kernel
theorem dX4_determinant_13 : decode cX4_determinant 13 = .ok (.iconst 1, 1) := by decide +kernel
theorem dX4_determinant_14 : decode cX4_determinant 14 = .ok (.iadd, 1) := by decide +kernel
theorem dX4_determinant_15 : decode cX4_determinant 15 = .ok (.iconst 3, 1) := by decide +kernel
theorem dX4_determinant_16 : decode cX4_determinant 16 = .ok (.irem, 1) := by decide +kernel
theorem dX4_determinant_17 : decode cX4_determinant 17 = .ok (.istore 5, 2) := by decide +kernel
theorem dX4_determinant_19 : decode cX4_determinant 19 = .ok (.iload 4, 2) := by decide +kernel
theorem dX4_determinant_21 : decode cX4_determinant 21 = .ok (.iconst 2, 1) := by decide +kernel
theorem dX4_determinant_22 : decode cX4_determinant 22 = .ok (.iadd, 1) := by decide +kernel
theorem dX4_determinant_23 : decode cX4_determinant 23 = .ok (.iconst 3, 1) := by decide +kernel
theorem dX4_determinant_24 : decode cX4_determinant 24 = .ok (.irem, 1) := by decide +kernel
theorem dX4_determinant_25 : decode cX4_determinant 25 = .ok (.istore 6, 2) := by decide +kernel
theorem dX4_determinant_27 : decode cX4_determinant 27 = .ok (.aload_n 0, 1) := by decide +kernel
theorem dX4_determinant_28 : decode cX4_determinant 28 = .ok (.iconst 1, 1) := by decide +kernel
theorem dX4_determinant_29 : decode cX4_determinant 29 = .ok (.iload 5, 2) := by decide +kernel
theorem dX4_determinant_31 : decode cX4_determinant 31 = .ok (.iload_n 1, 1) := by decide +kernel
theorem dX4_determinant_32 : decode cX4_determinant 32 = .ok (.invokevirtual 20, 3) := by decide +kernel
theorem dX4_determinant_35 : decode cX4_determinant 35 = .ok (.aload_n 0, 1) := by decide +kernel
theorem dX4_determinant_36 : decode cX4_determinant 36 = .ok (.iconst 2, 1) := by decide +kernel
theorem dX4_determinant_37 : decode cX4_determinant 37 = .ok (.iload 6, 2) := by decide +kernel
theorem dX4_determinant_39 : decode cX4_determinant 39 = .ok (.iload_n 1, 1) := by decide +kernel
theorem dX4_determinant_40 : decode cX4_determinant 40 = .ok (.invokevirtual 20, 3) := by decide +kernel
theorem dX4_determinant_43 : decode cX4_determinant 43 = .ok (.lmul, 1) := by decide +kernel
theorem dX4_determinant_44 : decode cX4_determinant 44 = .ok (.aload_n 0, 1) := by decide +kernel
theorem dX4_determinant_45 : decode cX4_determinant 45 = .ok (.iconst 1, 1) := by decide +kernel
theorem dX4_determinant_46 : decode cX4_determinant 46 = .ok (.iload 6, 2) := by decide +kernel
theorem dX4_determinant_48 : decode cX4_determinant 48 = .ok (.iload_n 1, 1) := by decide +kernel
theorem dX4_determinant_49 : decode cX4_determinant 49 = .ok (.invokevirtual 20, 3) := by decide +kernel
theorem dX4_determinant_52 : decode cX4_determinant 52 = .ok (.aload_n 0, 1) := by decide +kernel
theorem dX4_determinant_53 : decode cX4_determinant 53 = .ok (.iconst 2, 1) := by decide +kernel
theorem dX4_determinant_54 : decode cX4_determinant 54 = .ok (.iload 5, 2) := by decide +kernel
theorem dX4_determinant_56 : decode cX4_determinant 56 = .ok (.iload_n 1, 1) := by decide +kernel
theorem dX4_determinant_57 : decode cX4_determinant 57 = .ok (.invokevirtual 20, 3) := by decide +kernel
theorem dX4_determinant_60 : decode cX4_determinant 60 = .ok (.lmul, 1) := by decide +kernel
theorem dX4_determinant_61 : decode cX4_determinant 61 = .ok (.lsub, 1) := by decide +kernel
theorem dX4_determinant_62 : decode cX4_determinant 62 = .ok (.lstore 7, 2) := by decide +kernel
theorem dX4_determinant_64 : decode cX4_determinant 64 = .ok (.lload_n 2, 1) := by decide +kernel
theorem dX4_determinant_65 : decode cX4_determinant 65 = .ok (.aload_n 0, 1) := by decide +kernel
theorem dX4_determinant_66 : decode cX4_determinant 66 = .ok (.iconst 0, 1) := by decide +kernel
theorem dX4_determinant_67 : decode cX4_determinant 67 = .ok (.iload 4, 2) := by decide +kernel
theorem dX4_determinant_69 : decode cX4_determinant 69 = .ok (.iload_n 1, 1) := by decide +kernel
theorem dX4_determinant_70 : decode cX4_determinant 70 = .ok (.invokevirtual 20, 3) := by decide +kernel
theorem dX4_determinant_73 : decode cX4_determinant 73 = .ok (.lload 7, 2) := by decide +kernel
theorem dX4_determinant_75 : decode cX4_determinant 75 = .ok (.lmul, 1) := by decide +kernel
theorem dX4_determinant_76 : decode cX4_determinant 76 = .ok (.ladd, 1) := by decide +kernel
theorem dX4_determinant_77 : decode cX4_determinant 77 = .ok (.lstore_n 2, 1) := by decide +kernel
theorem dX4_determinant_78 : decode cX4_determinant 78 = .ok (.iinc 4 1, 3) := by decide +kernel
theorem dX4_determinant_81 : decode cX4_determinant 81 = .ok (.goto (-76), 3) := by decide +kernel
theorem dX4_determinant_84 : decode cX4_determinant 84 = .ok (.lload_n 2, 1) := by decide +kernel
theorem dX4_determinant_85 : decode cX4_determinant 85 = .ok (.lreturn, 1) := by decide +kernel
theorem dX4_term_0 : decode cX4_term 0 = .ok (.iload_n 2, 1) := by decide +kernel
theorem dX4_term_1 : decode cX4_term 1 = .ok (.iload_n 3, 1) := by decide +kernel
theorem dX4_term_2 : decode cX4_term 2 = .ok (.if_icmp .ne 12, 3) := by decide +kernel
theorem dX4_term_5 : decode cX4_term 5 = .ok (.aload_n 0, 1) := by decide +kernel
theorem dX4_term_6 : decode cX4_term 6 = .ok (.getfield 16, 3) := by decide +kernel
theorem dX4_term_9 : decode cX4_term 9 = .ok (.iload_n 1, 1) := by decide +kernel
theorem dX4_term_10 : decode cX4_term 10 = .ok (.laload, 1) := by decide +kernel
theorem dX4_term_11 : decode cX4_term 11 = .ok (.goto 11, 3) := by decide +kernel
theorem dX4_term_14 : decode cX4_term 14 = .ok (.aload_n 0, 1) := by decide +kernel
theorem dX4_term_15 : decode cX4_term 15 = .ok (.getfield 11, 3) := by decide +kernel
theorem dX4_term_18 : decode cX4_term 18 = .ok (.iload_n 1, 1) := by decide +kernel
theorem dX4_term_19 : decode cX4_term 19 = .ok (.aaload, 1) := by decide +kernel
theorem dX4_term_20 : decode cX4_term 20 = .ok (.iload_n 2, 1) := by decide +kernel
theorem dX4_term_21 : decode cX4_term 21 = .ok (.laload, 1) := by decide +kernel
theorem dX4_term_22 : decode cX4_term 22 = .ok (.lreturn, 1) := by decide +kernel
theorem dJ6_bitCount_0f7a4_0 : decode cJ6_bitCount_0f7a4 0 = .ok (.iload_n 0, 1) := by decide +kernel
theorem dJ6_bitCount_0f7a4_1 : decode cJ6_bitCount_0f7a4 1 = .ok (.iload_n 0, 1) := by decide +kernel
theorem dJ6_bitCount_0f7a4_2 : decode cJ6_bitCount_0f7a4 2 = .ok (.iconst 1, 1) := by decide +kernel
theorem dJ6_bitCount_0f7a4_3 : decode cJ6_bitCount_0f7a4 3 = .ok (.iushr, 1) := by decide +kernel
theorem dJ6_bitCount_0f7a4_4 : decode cJ6_bitCount_0f7a4 4 = .ok (.ldc_w 265, 3) := by decide +kernel
theorem dJ6_bitCount_0f7a4_7 : decode cJ6_bitCount_0f7a4 7 = .ok (.iand, 1) := by decide +kernel
theorem dJ6_bitCount_0f7a4_8 : decode cJ6_bitCount_0f7a4 8 = .ok (.isub, 1) := by decide +kernel
theorem dJ6_bitCount_0f7a4_9 : decode cJ6_bitCount_0f7a4 9 = .ok (.istore_n 0, 1) := by decide +kernel
theorem dJ6_bitCount_0f7a4_10 : decode cJ6_bitCount_0f7a4 10 = .ok (.iload_n 0, 1) := by decide +kernel
theorem dJ6_bitCount_0f7a4_11 : decode cJ6_bitCount_0f7a4 11 = .ok (.ldc_w 266, 3) := by decide +kernel
theorem dJ6_bitCount_0f7a4_14 : decode cJ6_bitCount_0f7a4 14 = .ok (.iand, 1) := by decide +kernel
theorem dJ6_bitCount_0f7a4_15 : decode cJ6_bitCount_0f7a4 15 = .ok (.iload_n 0, 1) := by decide +kernel
theorem dJ6_bitCount_0f7a4_16 : decode cJ6_bitCount_0f7a4 16 = .ok (.iconst 2, 1) := by decide +kernel
theorem dJ6_bitCount_0f7a4_17 : decode cJ6_bitCount_0f7a4 17 = .ok (.iushr, 1) := by decide +kernel
theorem dJ6_bitCount_0f7a4_18 : decode cJ6_bitCount_0f7a4 18 = .ok (.ldc_w 266, 3) := by decide +kernel
theorem dJ6_bitCount_0f7a4_21 : decode cJ6_bitCount_0f7a4 21 = .ok (.iand, 1) := by decide +kernel
theorem dJ6_bitCount_0f7a4_22 : decode cJ6_bitCount_0f7a4 22 = .ok (.iadd, 1) := by decide +kernel
theorem dJ6_bitCount_0f7a4_23 : decode cJ6_bitCount_0f7a4 23 = .ok (.istore_n 0, 1) := by decide +kernel
theorem dJ6_bitCount_0f7a4_24 : decode cJ6_bitCount_0f7a4 24 = .ok (.iload_n 0, 1) := by decide +kernel
theorem dJ6_bitCount_0f7a4_25 : decode cJ6_bitCount_0f7a4 25 = .ok (.iload_n 0, 1) := by decide +kernel
theorem dJ6_bitCount_0f7a4_26 : decode cJ6_bitCount_0f7a4 26 = .ok (.iconst 4, 1) := by decide +kernel
theorem dJ6_bitCount_0f7a4_27 : decode cJ6_bitCount_0f7a4 27 = .ok (.iushr, 1) := by decide +kernel
theorem dJ6_bitCount_0f7a4_28 : decode cJ6_bitCount_0f7a4 28 = .ok (.iadd, 1) := by decide +kernel
theorem dJ6_bitCount_0f7a4_29 : decode cJ6_bitCount_0f7a4 29 = .ok (.ldc_w 267, 3) := by decide +kernel
theorem dJ6_bitCount_0f7a4_32 : decode cJ6_bitCount_0f7a4 32 = .ok (.iand, 1) := by decide +kernel
theorem dJ6_bitCount_0f7a4_33 : decode cJ6_bitCount_0f7a4 33 = .ok (.istore_n 0, 1) := by decide +kernel
theorem dJ6_bitCount_0f7a4_34 : decode cJ6_bitCount_0f7a4 34 = .ok (.iload_n 0, 1) := by decide +kernel
theorem dJ6_bitCount_0f7a4_35 : decode cJ6_bitCount_0f7a4 35 = .ok (.iload_n 0, 1) := by decide +kernel
theorem dJ6_bitCount_0f7a4_36 : decode cJ6_bitCount_0f7a4 36 = .ok (.bipush 8, 2) := by decide +kernel
theorem dJ6_bitCount_0f7a4_38 : decode cJ6_bitCount_0f7a4 38 = .ok (.iushr, 1) := by decide +kernel
theorem dJ6_bitCount_0f7a4_39 : decode cJ6_bitCount_0f7a4 39 = .ok (.iadd, 1) := by decide +kernel
theorem dJ6_bitCount_0f7a4_40 : decode cJ6_bitCount_0f7a4 40 = .ok (.istore_n 0, 1) := by decide +kernel
theorem dJ6_bitCount_0f7a4_41 : decode cJ6_bitCount_0f7a4 41 = .ok (.iload_n 0, 1) := by decide +kernel
theorem dJ6_bitCount_0f7a4_42 : decode cJ6_bitCount_0f7a4 42 = .ok (.iload_n 0, 1) := by decide +kernel
theorem dJ6_bitCount_0f7a4_43 : decode cJ6_bitCount_0f7a4 43 = .ok (.bipush 16, 2) := by decide +kernel
theorem dJ6_bitCount_0f7a4_45 : decode cJ6_bitCount_0f7a4 45 = .ok (.iushr, 1) := by decide +kernel
theorem dJ6_bitCount_0f7a4_46 : decode cJ6_bitCount_0f7a4 46 = .ok (.iadd, 1) := by decide +kernel
theorem dJ6_bitCount_0f7a4_47 : decode cJ6_bitCount_0f7a4 47 = .ok (.istore_n 0, 1) := by decide +kernel
theorem dJ6_bitCount_0f7a4_48 : decode cJ6_bitCount_0f7a4 48 = .ok (.iload_n 0, 1) := by decide +kernel
theorem dJ6_bitCount_0f7a4_49 : decode cJ6_bitCount_0f7a4 49 = .ok (.bipush 63, 2) := by decide +kernel
theorem dJ6_bitCount_0f7a4_51 : decode cJ6_bitCount_0f7a4 51 = .ok (.iand, 1) := by decide +kernel
theorem dJ6_bitCount_0f7a4_52 : decode cJ6_bitCount_0f7a4 52 = .ok (.ireturn, 1) := by decide +kernel
theorem dJ9_floorDiv_7cf53_0 : decode cJ9_floorDiv_7cf53 0 = .ok (.iload_n 0, 1) := by decide +kernel
theorem dJ9_floorDiv_7cf53_1 : decode cJ9_floorDiv_7cf53 1 = .ok (.iload_n 1, 1) := by decide +kernel
theorem dJ9_floorDiv_7cf53_2 : decode cJ9_floorDiv_7cf53 2 = .ok (.idiv, 1) := by decide +kernel
theorem dJ9_floorDiv_7cf53_3 : decode cJ9_floorDiv_7cf53 3 = .ok (.istore_n 2, 1) := by decide +kernel
theorem dJ9_floorDiv_7cf53_4 : decode cJ9_floorDiv_7cf53 4 = .ok (.iload_n 0, 1) := by decide +kernel
theorem dJ9_floorDiv_7cf53_5 : decode cJ9_floorDiv_7cf53 5 = .ok (.iload_n 1, 1) := by decide +kernel
theorem dJ9_floorDiv_7cf53_6 : decode cJ9_floorDiv_7cf53 6 = .ok (.ixor, 1) := by decide +kernel
theorem dJ9_floorDiv_7cf53_7 : decode cJ9_floorDiv_7cf53 7 = .ok (.ifCond .ge 14, 3) := by decide +kernel
theorem dJ9_floorDiv_7cf53_10 : decode cJ9_floorDiv_7cf53 10 = .ok (.iload_n 2, 1) := by decide +kernel
theorem dJ9_floorDiv_7cf53_11 : decode cJ9_floorDiv_7cf53 11 = .ok (.iload_n 1, 1) := by decide +kernel
theorem dJ9_floorDiv_7cf53_12 : decode cJ9_floorDiv_7cf53 12 = .ok (.imul, 1) := by decide +kernel
theorem dJ9_floorDiv_7cf53_13 : decode cJ9_floorDiv_7cf53 13 = .ok (.iload_n 0, 1) := by decide +kernel
theorem dJ9_floorDiv_7cf53_14 : decode cJ9_floorDiv_7cf53 14 = .ok (.if_icmp .eq 7, 3) := by decide +kernel
theorem dJ9_floorDiv_7cf53_17 : decode cJ9_floorDiv_7cf53 17 = .ok (.iload_n 2, 1) := by decide +kernel
theorem dJ9_floorDiv_7cf53_18 : decode cJ9_floorDiv_7cf53 18 = .ok (.iconst 1, 1) := by decide +kernel
theorem dJ9_floorDiv_7cf53_19 : decode cJ9_floorDiv_7cf53 19 = .ok (.isub, 1) := by decide +kernel
theorem dJ9_floorDiv_7cf53_20 : decode cJ9_floorDiv_7cf53 20 = .ok (.ireturn, 1) := by decide +kernel
theorem dJ9_floorDiv_7cf53_21 : decode cJ9_floorDiv_7cf53 21 = .ok (.iload_n 2, 1) := by decide +kernel
theorem dJ9_floorDiv_7cf53_22 : decode cJ9_floorDiv_7cf53 22 = .ok (.ireturn, 1) := by decide +kernel
theorem dJ9_floorDiv_f86c9_0 : decode cJ9_floorDiv_f86c9 0 = .ok (.lload_n 0, 1) := by decide +kernel
theorem dJ9_floorDiv_f86c9_1 : decode cJ9_floorDiv_f86c9 1 = .ok (.lload_n 2, 1) := by decide +kernel
theorem dJ9_floorDiv_f86c9_2 : decode cJ9_floorDiv_f86c9 2 = .ok (.ldiv, 1) := by decide +kernel
theorem dJ9_floorDiv_f86c9_3 : decode cJ9_floorDiv_f86c9 3 = .ok (.lstore 4, 2) := by decide +kernel
theorem dJ9_floorDiv_f86c9_5 : decode cJ9_floorDiv_f86c9 5 = .ok (.lload_n 0, 1) := by decide +kernel
theorem dJ9_floorDiv_f86c9_6 : decode cJ9_floorDiv_f86c9 6 = .ok (.lload_n 2, 1) := by decide +kernel
theorem dJ9_floorDiv_f86c9_7 : decode cJ9_floorDiv_f86c9 7 = .ok (.lxor, 1) := by decide +kernel
theorem dJ9_floorDiv_f86c9_8 : decode cJ9_floorDiv_f86c9 8 = .ok (.lconst 0, 1) := by decide +kernel
theorem dJ9_floorDiv_f86c9_9 : decode cJ9_floorDiv_f86c9 9 = .ok (.lcmp, 1) := by decide +kernel
theorem dJ9_floorDiv_f86c9_10 : decode cJ9_floorDiv_f86c9 10 = .ok (.ifCond .ge 17, 3) := by decide +kernel
theorem dJ9_floorDiv_f86c9_13 : decode cJ9_floorDiv_f86c9 13 = .ok (.lload 4, 2) := by decide +kernel
theorem dJ9_floorDiv_f86c9_15 : decode cJ9_floorDiv_f86c9 15 = .ok (.lload_n 2, 1) := by decide +kernel
theorem dJ9_floorDiv_f86c9_16 : decode cJ9_floorDiv_f86c9 16 = .ok (.lmul, 1) := by decide +kernel
theorem dJ9_floorDiv_f86c9_17 : decode cJ9_floorDiv_f86c9 17 = .ok (.lload_n 0, 1) := by decide +kernel
theorem dJ9_floorDiv_f86c9_18 : decode cJ9_floorDiv_f86c9 18 = .ok (.lcmp, 1) := by decide +kernel
theorem dJ9_floorDiv_f86c9_19 : decode cJ9_floorDiv_f86c9 19 = .ok (.ifCond .eq 8, 3) := by decide +kernel
theorem dJ9_floorDiv_f86c9_22 : decode cJ9_floorDiv_f86c9 22 = .ok (.lload 4, 2) := by decide +kernel
theorem dJ9_floorDiv_f86c9_24 : decode cJ9_floorDiv_f86c9 24 = .ok (.lconst 1, 1) := by decide +kernel
theorem dJ9_floorDiv_f86c9_25 : decode cJ9_floorDiv_f86c9 25 = .ok (.lsub, 1) := by decide +kernel
theorem dJ9_floorDiv_f86c9_26 : decode cJ9_floorDiv_f86c9 26 = .ok (.lreturn, 1) := by decide +kernel
theorem dJ9_floorDiv_f86c9_27 : decode cJ9_floorDiv_f86c9 27 = .ok (.lload 4, 2) := by decide +kernel
theorem dJ9_floorDiv_f86c9_29 : decode cJ9_floorDiv_f86c9 29 = .ok (.lreturn, 1) := by decide +kernel
theorem dJ9_floorMod_7cf53_0 : decode cJ9_floorMod_7cf53 0 = .ok (.iload_n 0, 1) := by decide +kernel
theorem dJ9_floorMod_7cf53_1 : decode cJ9_floorMod_7cf53 1 = .ok (.iload_n 1, 1) := by decide +kernel
theorem dJ9_floorMod_7cf53_2 : decode cJ9_floorMod_7cf53 2 = .ok (.irem, 1) := by decide +kernel
theorem dJ9_floorMod_7cf53_3 : decode cJ9_floorMod_7cf53 3 = .ok (.istore_n 2, 1) := by decide +kernel
theorem dJ9_floorMod_7cf53_4 : decode cJ9_floorMod_7cf53 4 = .ok (.iload_n 0, 1) := by decide +kernel
theorem dJ9_floorMod_7cf53_5 : decode cJ9_floorMod_7cf53 5 = .ok (.iload_n 1, 1) := by decide +kernel
theorem dJ9_floorMod_7cf53_6 : decode cJ9_floorMod_7cf53 6 = .ok (.ixor, 1) := by decide +kernel
theorem dJ9_floorMod_7cf53_7 : decode cJ9_floorMod_7cf53 7 = .ok (.ifCond .ge 11, 3) := by decide +kernel
theorem dJ9_floorMod_7cf53_10 : decode cJ9_floorMod_7cf53 10 = .ok (.iload_n 2, 1) := by decide +kernel
theorem dJ9_floorMod_7cf53_11 : decode cJ9_floorMod_7cf53 11 = .ok (.ifCond .eq 7, 3) := by decide +kernel
theorem dJ9_floorMod_7cf53_14 : decode cJ9_floorMod_7cf53 14 = .ok (.iload_n 2, 1) := by decide +kernel
theorem dJ9_floorMod_7cf53_15 : decode cJ9_floorMod_7cf53 15 = .ok (.iload_n 1, 1) := by decide +kernel
theorem dJ9_floorMod_7cf53_16 : decode cJ9_floorMod_7cf53 16 = .ok (.iadd, 1) := by decide +kernel
theorem dJ9_floorMod_7cf53_17 : decode cJ9_floorMod_7cf53 17 = .ok (.ireturn, 1) := by decide +kernel
theorem dJ9_floorMod_7cf53_18 : decode cJ9_floorMod_7cf53 18 = .ok (.iload_n 2, 1) := by decide +kernel
theorem dJ9_floorMod_7cf53_19 : decode cJ9_floorMod_7cf53 19 = .ok (.ireturn, 1) := by decide +kernel
theorem dJ9_abs_0f7a4_0 : decode cJ9_abs_0f7a4 0 = .ok (.iload_n 0, 1) := by decide +kernel
theorem dJ9_abs_0f7a4_1 : decode cJ9_abs_0f7a4 1 = .ok (.ifCond .ge 8, 3) := by decide +kernel
theorem dJ9_abs_0f7a4_4 : decode cJ9_abs_0f7a4 4 = .ok (.iload_n 0, 1) := by decide +kernel
theorem dJ9_abs_0f7a4_5 : decode cJ9_abs_0f7a4 5 = .ok (.ineg, 1) := by decide +kernel
theorem dJ9_abs_0f7a4_6 : decode cJ9_abs_0f7a4 6 = .ok (.goto 4, 3) := by decide +kernel
theorem dJ9_abs_0f7a4_9 : decode cJ9_abs_0f7a4 9 = .ok (.iload_n 0, 1) := by decide +kernel
theorem dJ9_abs_0f7a4_10 : decode cJ9_abs_0f7a4 10 = .ok (.ireturn, 1) := by decide +kernel
theorem dJ9_abs_067f4_0 : decode cJ9_abs_067f4 0 = .ok (.lload_n 0, 1) := by decide +kernel
theorem dJ9_abs_067f4_1 : decode cJ9_abs_067f4 1 = .ok (.lconst 0, 1) := by decide +kernel
theorem dJ9_abs_067f4_2 : decode cJ9_abs_067f4 2 = .ok (.lcmp, 1) := by decide +kernel
theorem dJ9_abs_067f4_3 : decode cJ9_abs_067f4 3 = .ok (.ifCond .ge 8, 3) := by decide +kernel
theorem dJ9_abs_067f4_6 : decode cJ9_abs_067f4 6 = .ok (.lload_n 0, 1) := by decide +kernel
theorem dJ9_abs_067f4_7 : decode cJ9_abs_067f4 7 = .ok (.lneg, 1) := by decide +kernel
theorem dJ9_abs_067f4_8 : decode cJ9_abs_067f4 8 = .ok (.goto 4, 3) := by decide +kernel
theorem dJ9_abs_067f4_11 : decode cJ9_abs_067f4 11 = .ok (.lload_n 0, 1) := by decide +kernel
theorem dJ9_abs_067f4_12 : decode cJ9_abs_067f4 12 = .ok (.lreturn, 1) := by decide +kernel
theorem dJ9_max_7cf53_0 : decode cJ9_max_7cf53 0 = .ok (.iload_n 0, 1) := by decide +kernel
theorem dJ9_max_7cf53_1 : decode cJ9_max_7cf53 1 = .ok (.iload_n 1, 1) := by decide +kernel
theorem dJ9_max_7cf53_2 : decode cJ9_max_7cf53 2 = .ok (.if_icmp .lt 7, 3) := by decide +kernel
theorem dJ9_max_7cf53_5 : decode cJ9_max_7cf53 5 = .ok (.iload_n 0, 1) := by decide +kernel
theorem dJ9_max_7cf53_6 : decode cJ9_max_7cf53 6 = .ok (.goto 4, 3) := by decide +kernel
theorem dJ9_max_7cf53_9 : decode cJ9_max_7cf53 9 = .ok (.iload_n 1, 1) := by decide +kernel
theorem dJ9_max_7cf53_10 : decode cJ9_max_7cf53 10 = .ok (.ireturn, 1) := by decide +kernel
theorem dJ9_max_f86c9_0 : decode cJ9_max_f86c9 0 = .ok (.lload_n 0, 1) := by decide +kernel
theorem dJ9_max_f86c9_1 : decode cJ9_max_f86c9 1 = .ok (.lload_n 2, 1) := by decide +kernel
theorem dJ9_max_f86c9_2 : decode cJ9_max_f86c9 2 = .ok (.lcmp, 1) := by decide +kernel
theorem dJ9_max_f86c9_3 : decode cJ9_max_f86c9 3 = .ok (.ifCond .lt 7, 3) := by decide +kernel
theorem dJ9_max_f86c9_6 : decode cJ9_max_f86c9 6 = .ok (.lload_n 0, 1) := by decide +kernel
theorem dJ9_max_f86c9_7 : decode cJ9_max_f86c9 7 = .ok (.goto 4, 3) := by decide +kernel
theorem dJ9_max_f86c9_10 : decode cJ9_max_f86c9 10 = .ok (.lload_n 2, 1) := by decide +kernel
theorem dJ9_max_f86c9_11 : decode cJ9_max_f86c9 11 = .ok (.lreturn, 1) := by decide +kernel
theorem dJ9_min_7cf53_0 : decode cJ9_min_7cf53 0 = .ok (.iload_n 0, 1) := by decide +kernel
theorem dJ9_min_7cf53_1 : decode cJ9_min_7cf53 1 = .ok (.iload_n 1, 1) := by decide +kernel
theorem dJ9_min_7cf53_2 : decode cJ9_min_7cf53 2 = .ok (.if_icmp .gt 7, 3) := by decide +kernel
theorem dJ9_min_7cf53_5 : decode cJ9_min_7cf53 5 = .ok (.iload_n 0, 1) := by decide +kernel
theorem dJ9_min_7cf53_6 : decode cJ9_min_7cf53 6 = .ok (.goto 4, 3) := by decide +kernel
theorem dJ9_min_7cf53_9 : decode cJ9_min_7cf53 9 = .ok (.iload_n 1, 1) := by decide +kernel
theorem dJ9_min_7cf53_10 : decode cJ9_min_7cf53 10 = .ok (.ireturn, 1) := by decide +kernel
theorem dJ9_min_f86c9_0 : decode cJ9_min_f86c9 0 = .ok (.lload_n 0, 1) := by decide +kernel
theorem dJ9_min_f86c9_1 : decode cJ9_min_f86c9 1 = .ok (.lload_n 2, 1) := by decide +kernel
theorem dJ9_min_f86c9_2 : decode cJ9_min_f86c9 2 = .ok (.lcmp, 1) := by decide +kernel
theorem dJ9_min_f86c9_3 : decode cJ9_min_f86c9 3 = .ok (.ifCond .gt 7, 3) := by decide +kernel
theorem dJ9_min_f86c9_6 : decode cJ9_min_f86c9 6 = .ok (.lload_n 0, 1) := by decide +kernel
theorem dJ9_min_f86c9_7 : decode cJ9_min_f86c9 7 = .ok (.goto 4, 3) := by decide +kernel
theorem dJ9_min_f86c9_10 : decode cJ9_min_f86c9 10 = .ok (.lload_n 2, 1) := by decide +kernel
theorem dJ9_min_f86c9_11 : decode cJ9_min_f86c9 11 = .ok (.lreturn, 1) := by decide +kernel
