theorem dX5_init_0 : decode cX5_init 0 = .ok (.aload_n 0, 1) := by decide +kernel
theorem dX5_init_1 : decode cX5_init 1 = .ok (.invokespecial 5, 3) := by decide +kernel
theorem dX5_init_4 : decode cX5_init 4 = .ok (.aload_n 0, 1) := by decide +kernel
theorem dX5_init_5 : decode cX5_init 5 = .ok (.iconst 0, 1) := by decide +kernel
theorem dX5_init_6 : decode cX5_init 6 = .ok (.putfield 11, 3) := by decide +kernel
theorem dX5_init_9 : decode cX5_init 9 = .ok (.aload_n 0, 1) := by decide +kernel
theorem dX5_init_10 : decode cX5_init 10 = .ok (.bipush 9, 2) := by decide +kernel
theorem dX5_init_12 : decode cX5_init 12 = .ok (.newarray .boolean, 2) := by decide +kernel
theorem dX5_init_14 : decode cX5_init 14 = .ok (.putfield 15, 3) := by decide +kernel
theorem dX5_init_17 : decode cX5_init 17 = .ok (.aload_n 0, 1) := by decide +kernel
theorem dX5_init_18 : decode cX5_init 18 = .ok (.bipush 10, 2) := by decide +kernel
theorem dX5_init_20 : decode cX5_init 20 = .ok (.bipush 10, 2) := by decide +kernel
theorem dX5_init_22 : decode cX5_init 22 = .ok (.multianewarray 19 2, 4) := by decide +kernel
theorem dX5_init_26 : decode cX5_init 26 = .ok (.putfield 21, 3) := by decide +kernel
theorem dX5_init_29 : decode cX5_init 29 = .ok (.aload_n 0, 1) := by decide +kernel
theorem dX5_init_30 : decode cX5_init 30 = .ok (.iconst 0, 1) := by decide +kernel
theorem dX5_init_31 : decode cX5_init 31 = .ok (.putfield 24, 3) := by decide +kernel
theorem dX5_init_34 : decode cX5_init 34 = .ok (.aload_n 0, 1) := by decide +kernel
theorem dX5_init_35 : decode cX5_init 35 = .ok (.iconst 0, 1) := by decide +kernel
theorem dX5_init_36 : decode cX5_init 36 = .ok (.putfield 28, 3) := by decide +kernel
theorem dX5_init_39 : decode cX5_init 39 = .ok (.aload_n 0, 1) := by decide +kernel
theorem dX5_init_40 : decode cX5_init 40 = .ok (.iconst 0, 1) := by decide +kernel
theorem dX5_init_41 : decode cX5_init 41 = .ok (.putfield 31, 3) := by decide +kernel
theorem dX5_init_44 : decode cX5_init 44 = .ok (.aload_n 0, 1) := by decide +kernel
theorem dX5_init_45 : decode cX5_init 45 = .ok (.bipush 9, 2) := by decide +kernel
theorem dX5_init_47 : decode cX5_init 47 = .ok (.newarray .int, 2) := by decide +kernel
theorem dX5_init_49 : decode cX5_init 49 = .ok (.putfield 34, 3) := by decide +kernel
theorem dX5_init_52 : decode cX5_init 52 = .ok (.aload_n 0, 1) := by decide +kernel
theorem dX5_init_53 : decode cX5_init 53 = .ok (.bipush 10, 2) := by decide +kernel
theorem dX5_init_55 : decode cX5_init 55 = .ok (.newarray .int, 2) := by decide +kernel
theorem dX5_init_57 : decode cX5_init 57 = .ok (.putfield 38, 3) := by decide +kernel
theorem dX5_init_60 : decode cX5_init 60 = .ok (.aload_n 0, 1) := by decide +kernel
theorem dX5_init_61 : decode cX5_init 61 = .ok (.bipush 10, 2) := by decide +kernel
theorem dX5_init_63 : decode cX5_init 63 = .ok (.newarray .int, 2) := by decide +kernel
theorem dX5_init_65 : decode cX5_init 65 = .ok (.putfield 41, 3) := by decide +kernel
theorem dX5_init_68 : decode cX5_init 68 = .ok (.aload_n 0, 1) := by decide +kernel
theorem dX5_init_69 : decode cX5_init 69 = .ok (.sipush 5120, 3) := by decide +kernel
theorem dX5_init_72 : decode cX5_init 72 = .ok (.newarray .int, 2) := by decide +kernel
theorem dX5_init_74 : decode cX5_init 74 = .ok (.putfield 44, 3) := by decide +kernel
theorem dX5_init_77 : decode cX5_init 77 = .ok (.return_, 1) := by decide +kernel
theorem dX5_append_0 : decode cX5_append 0 = .ok (.aload_n 0, 1) := by decide +kernel
theorem dX5_append_1 : decode cX5_append 1 = .ok (.getfield 11, 3) := by decide +kernel
theorem dX5_append_4 : decode cX5_append 4 = .ok (.istore_n 3, 1) := by decide +kernel
theorem dX5_append_5 : decode cX5_append 5 = .ok (.aload_n 0, 1) := by decide +kernel
theorem dX5_append_6 : decode cX5_append 6 = .ok (.getfield 38, 3) := by decide +kernel
theorem dX5_append_9 : decode cX5_append 9 = .ok (.iload_n 3, 1) := by decide +kernel
theorem dX5_append_10 : decode cX5_append 10 = .ok (.iload_n 1, 1) := by decide +kernel
theorem dX5_append_11 : decode cX5_append 11 = .ok (.iastore, 1) := by decide +kernel
theorem dX5_append_12 : decode cX5_append 12 = .ok (.aload_n 0, 1) := by decide +kernel
theorem dX5_append_13 : decode cX5_append 13 = .ok (.getfield 41, 3) := by decide +kernel
theorem dX5_append_16 : decode cX5_append 16 = .ok (.iload_n 3, 1) := by decide +kernel
theorem dX5_append_17 : decode cX5_append 17 = .ok (.iload_n 2, 1) := by decide +kernel
theorem dX5_append_18 : decode cX5_append 18 = .ok (.iastore, 1) := by decide +kernel
theorem dX5_append_19 : decode cX5_append 19 = .ok (.aload_n 0, 1) := by decide +kernel
theorem dX5_append_20 : decode cX5_append 20 = .ok (.getfield 15, 3) := by decide +kernel
theorem dX5_append_23 : decode cX5_append 23 = .ok (.iload_n 3, 1) := by decide +kernel
theorem dX5_append_24 : decode cX5_append 24 = .ok (.iconst 0, 1) := by decide +kernel
theorem dX5_append_25 : decode cX5_append 25 = .ok (.bastore, 1) := by decide +kernel
theorem dX5_append_26 : decode cX5_append 26 = .ok (.aload_n 0, 1) := by decide +kernel
theorem dX5_append_27 : decode cX5_append 27 = .ok (.dup, 1) := by decide +kernel
theorem dX5_append_28 : decode cX5_append 28 = .ok (.getfield 11, 3) := by decide +kernel
theorem dX5_append_31 : decode cX5_append 31 = .ok (.iconst 1, 1) := by decide +kernel
theorem dX5_append_32 : decode cX5_append 32 = .ok (.iadd, 1) := by decide +kernel
theorem dX5_append_33 : decode cX5_append 33 = .ok (.putfield 11, 3) := by decide +kernel
theorem dX5_append_36 : decode cX5_append 36 = .ok (.iconst 0, 1) := by decide +kernel
theorem dX5_append_37 : decode cX5_append 37 = .ok (.istore 4, 2) := by decide +kernel
theorem dX5_append_39 : decode cX5_append 39 = .ok (.iload 4, 2) := by decide +kernel
theorem dX5_append_41 : decode cX5_append 41 = .ok (.iload_n 3, 1) := by decide +kernel
theorem dX5_append_42 : decode cX5_append 42 = .ok (.if_icmp .ge 16, 3) := by decide +kernel
theorem dX5_append_45 : decode cX5_append 45 = .ok (.aload_n 0, 1) := by decide +kernel
theorem dX5_append_46 : decode cX5_append 46 = .ok (.iload_n 3, 1) := by decide +kernel
theorem dX5_append_47 : decode cX5_append 47 = .ok (.iload 4, 2) := by decide +kernel
theorem dX5_append_49 : decode cX5_append 49 = .ok (.invokevirtual 47, 3) := by decide +kernel
theorem dX5_append_52 : decode cX5_append 52 = .ok (.iinc 4 1, 3) := by decide +kernel
theorem dX5_append_55 : decode cX5_append 55 = .ok (.goto (-16), 3) := by decide +kernel
theorem dX5_append_58 : decode cX5_append 58 = .ok (.aload_n 0, 1) := by decide +kernel
theorem dX5_append_59 : decode cX5_append 59 = .ok (.iload_n 3, 1) := by decide +kernel
theorem dX5_append_60 : decode cX5_append 60 = .ok (.bipush 9, 2) := by decide +kernel
theorem dX5_append_62 : decode cX5_append 62 = .ok (.invokevirtual 47, 3) := by decide +kernel
theorem dX5_append_65 : decode cX5_append 65 = .ok (.aload_n 0, 1) := by decide +kernel
theorem dX5_append_66 : decode cX5_append 66 = .ok (.iconst 0, 1) := by decide +kernel
theorem dX5_append_67 : decode cX5_append 67 = .ok (.putfield 24, 3) := by decide +kernel
theorem dX5_append_70 : decode cX5_append 70 = .ok (.iload_n 3, 1) := by decide +kernel
theorem dX5_append_71 : decode cX5_append 71 = .ok (.ireturn, 1) := by decide +kernel
theorem dX5_setMove_0 : decode cX5_setMove 0 = .ok (.aload_n 0, 1) := by decide +kernel
theorem dX5_setMove_1 : decode cX5_setMove 1 = .ok (.getfield 38, 3) := by decide +kernel
theorem dX5_setMove_4 : decode cX5_setMove 4 = .ok (.iload_n 1, 1) := by decide +kernel
theorem dX5_setMove_5 : decode cX5_setMove 5 = .ok (.iaload, 1) := by decide +kernel
theorem dX5_setMove_6 : decode cX5_setMove 6 = .ok (.aload_n 0, 1) := by decide +kernel
theorem dX5_setMove_7 : decode cX5_setMove 7 = .ok (.getfield 38, 3) := by decide +kernel
theorem dX5_setMove_10 : decode cX5_setMove 10 = .ok (.iload_n 2, 1) := by decide +kernel
theorem dX5_setMove_11 : decode cX5_setMove 11 = .ok (.iaload, 1) := by decide +kernel
theorem dX5_setMove_12 : decode cX5_setMove 12 = .ok (.isub, 1) := by decide +kernel
theorem dX5_setMove_13 : decode cX5_setMove 13 = .ok (.invokestatic 51, 3) := by decide +kernel
theorem dX5_setMove_16 : decode cX5_setMove 16 = .ok (.istore_n 3, 1) := by decide +kernel
theorem dX5_setMove_17 : decode cX5_setMove 17 = .ok (.iconst 3, 1) := by decide +kernel
theorem dX5_setMove_18 : decode cX5_setMove 18 = .ok (.iload_n 3, 1) := by decide +kernel
theorem dX5_setMove_19 : decode cX5_setMove 19 = .ok (.bipush 24, 2) := by decide +kernel
theorem dX5_setMove_21 : decode cX5_setMove 21 = .ok (.iload_n 3, 1) := by decide +kernel
theorem dX5_setMove_22 : decode cX5_setMove 22 = .ok (.isub, 1) := by decide +kernel
theorem dX5_setMove_23 : decode cX5_setMove 23 = .ok (.invokestatic 57, 3) := by decide +kernel
theorem dX5_setMove_26 : decode cX5_setMove 26 = .ok (.imul, 1) := by decide +kernel
theorem dX5_setMove_27 : decode cX5_setMove 27 = .ok (.bipush 7, 2) := by decide +kernel
theorem dX5_setMove_29 : decode cX5_setMove 29 = .ok (.aload_n 0, 1) := by decide +kernel
theorem dX5_setMove_30 : decode cX5_setMove 30 = .ok (.getfield 41, 3) := by decide +kernel
theorem dX5_setMove_33 : decode cX5_setMove 33 = .ok (.iload_n 1, 1) := by decide +kernel
theorem dX5_setMove_34 : decode cX5_setMove 34 = .ok (.iaload, 1) := by decide +kernel
theorem dX5_setMove_35 : decode cX5_setMove 35 = .ok (.aload_n 0, 1) := by decide +kernel
theorem dX5_setMove_36 : decode cX5_setMove 36 = .ok (.getfield 41, 3) := by decide +kernel
theorem dX5_setMove_39 : decode cX5_setMove 39 = .ok (.iload_n 2, 1) := by decide +kernel
theorem dX5_setMove_40 : decode cX5_setMove 40 = .ok (.iaload, 1) := by decide +kernel
theorem dX5_setMove_41 : decode cX5_setMove 41 = .ok (.isub, 1) := by decide +kernel
theorem dX5_setMove_42 : decode cX5_setMove 42 = .ok (.invokestatic 51, 3) := by decide +kernel
theorem dX5_setMove_45 : decode cX5_setMove 45 = .ok (.imul, 1) := by decide +kernel
theorem dX5_setMove_46 : decode cX5_setMove 46 = .ok (.iadd, 1) := by decide +kernel
theorem dX5_setMove_47 : decode cX5_setMove 47 = .ok (.istore 4, 2) := by decide +kernel
theorem dX5_setMove_49 : decode cX5_setMove 49 = .ok (.aload_n 0, 1) := by decide +kernel
theorem dX5_setMove_50 : decode cX5_setMove 50 = .ok (.getfield 21, 3) := by decide +kernel
theorem dX5_setMove_53 : decode cX5_setMove 53 = .ok (.iload_n 1, 1) := by decide +kernel
theorem dX5_setMove_54 : decode cX5_setMove 54 = .ok (.aaload, 1) := by decide +kernel
theorem dX5_setMove_55 : decode cX5_setMove 55 = .ok (.iload_n 2, 1) := by decide +kernel
theorem dX5_setMove_56 : decode cX5_setMove 56 = .ok (.iload 4, 2) := by decide +kernel
theorem dX5_setMove_58 : decode cX5_setMove 58 = .ok (.iastore, 1) := by decide +kernel
theorem dX5_setMove_59 : decode cX5_setMove 59 = .ok (.aload_n 0, 1) := by decide +kernel
theorem dX5_setMove_60 : decode cX5_setMove 60 = .ok (.getfield 21, 3) := by decide +kernel
theorem dX5_setMove_63 : decode cX5_setMove 63 = .ok (.iload_n 2, 1) := by decide +kernel
theorem dX5_setMove_64 : decode cX5_setMove 64 = .ok (.aaload, 1) := by decide +kernel
theorem dX5_setMove_65 : decode cX5_setMove 65 = .ok (.iload_n 1, 1) := by decide +kernel
theorem dX5_setMove_66 : decode cX5_setMove 66 = .ok (.iload 4, 2) := by decide +kernel
theorem dX5_setMove_68 : decode cX5_setMove 68 = .ok (.iastore, 1) := by decide +kernel
theorem dX5_setMove_69 : decode cX5_setMove 69 = .ok (.return_, 1) := by decide +kernel
theorem dX5_howManyDone_0 : decode cX5_howManyDone 0 = .ok (.iconst 0, 1) := by decide +kernel
theorem dX5_howManyDone_1 : decode cX5_howManyDone 1 = .ok (.istore_n 1, 1) := by decide +kernel
theorem dX5_howManyDone_2 : decode cX5_howManyDone 2 = .ok (.iconst 0, 1) := by decide +kernel
theorem dX5_howManyDone_3 : decode cX5_howManyDone 3 = .ok (.istore_n 2, 1) := by decide +kernel
theorem dX5_howManyDone_4 : decode cX5_howManyDone 4 = .ok (.iload_n 2, 1) := by decide +kernel
theorem dX5_howManyDone_5 : decode cX5_howManyDone 5 = .ok (.aload_n 0, 1) := by decide +kernel
theorem dX5_howManyDone_6 : decode cX5_howManyDone 6 = .ok (.getfield 11, 3) := by decide +kernel
theorem dX5_howManyDone_9 : decode cX5_howManyDone 9 = .ok (.if_icmp .ge 26, 3) := by decide +kernel
theorem dX5_howManyDone_12 : decode cX5_howManyDone 12 = .ok (.iload_n 1, 1) := by decide +kernel
theorem dX5_howManyDone_13 : decode cX5_howManyDone 13 = .ok (.aload_n 0, 1) := by decide +kernel
theorem dX5_howManyDone_14 : decode cX5_howManyDone 14 = .ok (.getfield 15, 3) := by decide +kernel
theorem dX5_howManyDone_17 : decode cX5_howManyDone 17 = .ok (.iload_n 2, 1) := by decide +kernel
theorem dX5_howManyDone_18 : decode cX5_howManyDone 18 = .ok (.baload, 1) := by decide +kernel
theorem dX5_howManyDone_19 : decode cX5_howManyDone 19 = .ok (.ifCond .eq 7, 3) := by decide +kernel
theorem dX5_howManyDone_22 : decode cX5_howManyDone 22 = .ok (.iconst 1, 1) := by decide +kernel
theorem dX5_howManyDone_23 : decode cX5_howManyDone 23 = .ok (.goto 4, 3) := by decide +kernel
theorem dX5_howManyDone_26 : decode cX5_howManyDone 26 = .ok (.iconst 0, 1) := by decide +kernel
theorem dX5_howManyDone_27 : decode cX5_howManyDone 27 = .ok (.iadd, 1) := by decide +kernel
theorem dX5_howManyDone_28 : decode cX5_howManyDone 28 = .ok (.istore_n 1, 1) := by decide +kernel
theorem dX5_howManyDone_29 : decode cX5_howManyDone 29 = .ok (.iinc 2 1, 3) := by decide +kernel
theorem dX5_howManyDone_32 : decode cX5_howManyDone 32 = .ok (.goto (-28), 3) := by decide +kernel
theorem dX5_howManyDone_35 : decode cX5_howManyDone 35 = .ok (.iload_n 1, 1) := by decide +kernel
theorem dX5_howManyDone_36 : decode cX5_howManyDone 36 = .ok (.ireturn, 1) := by decide +kernel
theorem dX5_plan_0 : decode cX5_plan 0 = .ok (.aload_n 0, 1) := by decide +kernel
theorem dX5_plan_1 : decode cX5_plan 1 = .ok (.getfield 24, 3) := by decide +kernel
theorem dX5_plan_4 : decode cX5_plan 4 = .ok (.ifCond .eq 4, 3) := by decide +kernel
theorem dX5_plan_7 : decode cX5_plan 7 = .ok (.return_, 1) := by decide +kernel
theorem dX5_plan_8 : decode cX5_plan 8 = .ok (.aload_n 0, 1) := by decide +kernel
theorem dX5_plan_9 : decode cX5_plan 9 = .ok (.invokevirtual 61, 3) := by decide +kernel
theorem dX5_plan_12 : decode cX5_plan 12 = .ok (.istore_n 1, 1) := by decide +kernel
theorem dX5_plan_13 : decode cX5_plan 13 = .ok (.iconst 1, 1) := by decide +kernel
theorem dX5_plan_14 : decode cX5_plan 14 = .ok (.istore_n 2, 1) := by decide +kernel
theorem dX5_plan_15 : decode cX5_plan 15 = .ok (.iload_n 2, 1) := by decide +kernel
theorem dX5_plan_16 : decode cX5_plan 16 = .ok (.iload_n 1, 1) := by decide +kernel
theorem dX5_plan_17 : decode cX5_plan 17 = .ok (.if_icmp .gt 22, 3) := by decide +kernel
theorem dX5_plan_20 : decode cX5_plan 20 = .ok (.iload_n 2, 1) := by decide +kernel
theorem dX5_plan_21 : decode cX5_plan 21 = .ok (.iload_n 1, 1) := by decide +kernel
theorem dX5_plan_22 : decode cX5_plan 22 = .ok (.iand, 1) := by decide +kernel
theorem dX5_plan_23 : decode cX5_plan 23 = .ok (.iload_n 2, 1) := by decide +kernel
theorem dX5_plan_24 : decode cX5_plan 24 = .ok (.if_icmp .ne 9, 3) := by decide +kernel
theorem dX5_plan_27 : decode cX5_plan 27 = .ok (.aload_n 0, 1) := by decide +kernel
theorem dX5_plan_28 : decode cX5_plan 28 = .ok (.iload_n 2, 1) := by decide +kernel
theorem dX5_plan_29 : decode cX5_plan 29 = .ok (.iload_n 1, 1) := by decide +kernel
theorem dX5_plan_30 : decode cX5_plan 30 = .ok (.invokevirtual 65, 3) := by decide +kernel
theorem dX5_plan_33 : decode cX5_plan 33 = .ok (.iinc 2 1, 3) := by decide +kernel
theorem dX5_plan_36 : decode cX5_plan 36 = .ok (.goto (-21), 3) := by decide +kernel
theorem dX5_plan_39 : decode cX5_plan 39 = .ok (.aload_n 0, 1) := by decide +kernel
theorem dX5_plan_40 : decode cX5_plan 40 = .ok (.aload_n 0, 1) := by decide +kernel
theorem dX5_plan_41 : decode cX5_plan 41 = .ok (.getfield 44, 3) := by decide +kernel
theorem dX5_plan_44 : decode cX5_plan 44 = .ok (.iload_n 1, 1) := by decide +kernel
theorem dX5_plan_45 : decode cX5_plan 45 = .ok (.bipush 9, 2) := by decide +kernel
theorem dX5_plan_47 : decode cX5_plan 47 = .ok (.invokestatic 68, 3) := by decide +kernel
theorem dX5_plan_50 : decode cX5_plan 50 = .ok (.iaload, 1) := by decide +kernel
theorem dX5_plan_51 : decode cX5_plan 51 = .ok (.putfield 31, 3) := by decide +kernel
theorem dX5_plan_54 : decode cX5_plan 54 = .ok (.aload_n 0, 1) := by decide +kernel
theorem dX5_plan_55 : decode cX5_plan 55 = .ok (.iload_n 1, 1) := by decide +kernel
theorem dX5_plan_56 : decode cX5_plan 56 = .ok (.invokevirtual 71, 3) := by decide +kernel
theorem dX5_plan_59 : decode cX5_plan 59 = .ok (.aload_n 0, 1) := by decide +kernel
theorem dX5_plan_60 : decode cX5_plan 60 = .ok (.iconst 1, 1) := by decide +kernel
theorem dX5_plan_61 : decode cX5_plan 61 = .ok (.putfield 24, 3) := by decide +kernel
theorem dX5_plan_64 : decode cX5_plan 64 = .ok (.return_, 1) := by decide +kernel
theorem dX5_setOfOpen_0 : decode cX5_setOfOpen 0 = .ok (.iconst 0, 1) := by decide +kernel
theorem dX5_setOfOpen_1 : decode cX5_setOfOpen 1 = .ok (.istore_n 1, 1) := by decide +kernel
theorem dX5_setOfOpen_2 : decode cX5_setOfOpen 2 = .ok (.iconst 0, 1) := by decide +kernel
theorem dX5_setOfOpen_3 : decode cX5_setOfOpen 3 = .ok (.istore_n 2, 1) := by decide +kernel
theorem dX5_setOfOpen_4 : decode cX5_setOfOpen 4 = .ok (.iload_n 2, 1) := by decide +kernel
theorem dX5_setOfOpen_5 : decode cX5_setOfOpen 5 = .ok (.aload_n 0, 1) := by decide +kernel
theorem dX5_setOfOpen_6 : decode cX5_setOfOpen 6 = .ok (.getfield 11, 3) := by decide +kernel
theorem dX5_setOfOpen_9 : decode cX5_setOfOpen 9 = .ok (.if_icmp .ge 28, 3) := by decide +kernel
theorem dX5_setOfOpen_12 : decode cX5_setOfOpen 12 = .ok (.iload_n 1, 1) := by decide +kernel
theorem dX5_setOfOpen_13 : decode cX5_setOfOpen 13 = .ok (.aload_n 0, 1) := by decide +kernel
theorem dX5_setOfOpen_14 : decode cX5_setOfOpen 14 = .ok (.getfield 15, 3) := by decide +kernel
theorem dX5_setOfOpen_17 : decode cX5_setOfOpen 17 = .ok (.iload_n 2, 1) := by decide +kernel
theorem dX5_setOfOpen_18 : decode cX5_setOfOpen 18 = .ok (.baload, 1) := by decide +kernel
theorem dX5_setOfOpen_19 : decode cX5_setOfOpen 19 = .ok (.ifCond .eq 7, 3) := by decide +kernel
theorem dX5_setOfOpen_22 : decode cX5_setOfOpen 22 = .ok (.iconst 0, 1) := by decide +kernel
theorem dX5_setOfOpen_23 : decode cX5_setOfOpen 23 = .ok (.goto 6, 3) := by decide +kernel
theorem dX5_setOfOpen_26 : decode cX5_setOfOpen 26 = .ok (.iconst 1, 1) := by decide +kernel
theorem dX5_setOfOpen_27 : decode cX5_setOfOpen 27 = .ok (.iload_n 2, 1) := by decide +kernel
theorem dX5_setOfOpen_28 : decode cX5_setOfOpen 28 = .ok (.ishl, 1) := by decide +kernel
theorem dX5_setOfOpen_29 : decode cX5_setOfOpen 29 = .ok (.ior, 1) := by decide +kernel
theorem dX5_setOfOpen_30 : decode cX5_setOfOpen 30 = .ok (.istore_n 1, 1) := by decide +kernel
theorem dX5_setOfOpen_31 : decode cX5_setOfOpen 31 = .ok (.iinc 2 1, 3) := by decide +kernel
theorem dX5_setOfOpen_34 : decode cX5_setOfOpen 34 = .ok (.goto (-30), 3) := by decide +kernel
theorem dX5_setOfOpen_37 : decode cX5_setOfOpen 37 = .ok (.iload_n 1, 1) := by decide +kernel
theorem dX5_setOfOpen_38 : decode cX5_setOfOpen 38 = .ok (.ireturn, 1) := by decide +kernel
theorem dX5_setRest_0 : decode cX5_setRest 0 = .ok (.iconst 0, 1) := by decide +kernel
theorem dX5_setRest_1 : decode cX5_setRest 1 = .ok (.istore_n 3, 1) := by decide +kernel
theorem dX5_setRest_2 : decode cX5_setRest 2 = .ok (.iload_n 3, 1) := by decide +kernel
theorem dX5_setRest_3 : decode cX5_setRest 3 = .ok (.aload_n 0, 1) := by decide +kernel
theorem dX5_setRest_4 : decode cX5_setRest 4 = .ok (.getfield 11, 3) := by decide +kernel
theorem dX5_setRest_7 : decode cX5_setRest 7 = .ok (.if_icmp .ge 43, 3) := by decide +kernel
theorem dX5_setRest_10 : decode cX5_setRest 10 = .ok (.iload_n 2, 1) := by decide +kernel
theorem dX5_setRest_11 : decode cX5_setRest 11 = .ok (.iload_n 1, 1) := by decide +kernel
theorem dX5_setRest_12 : decode cX5_setRest 12 = .ok (.iconst (-1), 1) := by decide +kernel
theorem dX5_setRest_13 : decode cX5_setRest 13 = .ok (.ixor, 1) := by decide +kernel
theorem dX5_setRest_14 : decode cX5_setRest 14 = .ok (.iand, 1) := by decide +kernel
theorem dX5_setRest_15 : decode cX5_setRest 15 = .ok (.iload_n 3, 1) := by decide +kernel
theorem dX5_setRest_16 : decode cX5_setRest 16 = .ok (.invokestatic 75, 3) := by decide +kernel
theorem dX5_setRest_19 : decode cX5_setRest 19 = .ok (.ifCond .eq 25, 3) := by decide +kernel
theorem dX5_setRest_22 : decode cX5_setRest 22 = .ok (.aload_n 0, 1) := by decide +kernel
theorem dX5_setRest_23 : decode cX5_setRest 23 = .ok (.getfield 44, 3) := by decide +kernel
theorem dX5_setRest_26 : decode cX5_setRest 26 = .ok (.iload_n 1, 1) := by decide +kernel
theorem dX5_setRest_27 : decode cX5_setRest 27 = .ok (.iload_n 3, 1) := by decide +kernel
theorem dX5_setRest_28 : decode cX5_setRest 28 = .ok (.invokestatic 68, 3) := by decide +kernel
theorem dX5_setRest_31 : decode cX5_setRest 31 = .ok (.aload_n 0, 1) := by decide +kernel
theorem dX5_setRest_32 : decode cX5_setRest 32 = .ok (.iload_n 3, 1) := by decide +kernel
theorem dX5_setRest_33 : decode cX5_setRest 33 = .ok (.aload_n 0, 1) := by decide +kernel
theorem dX5_setRest_34 : decode cX5_setRest 34 = .ok (.iload_n 3, 1) := by decide +kernel
theorem dX5_setRest_35 : decode cX5_setRest 35 = .ok (.iload_n 1, 1) := by decide +kernel
theorem dX5_setRest_36 : decode cX5_setRest 36 = .ok (.invokevirtual 79, 3) := by decide +kernel
theorem dX5_setRest_39 : decode cX5_setRest 39 = .ok (.iload_n 1, 1) := by decide +kernel
theorem dX5_setRest_40 : decode cX5_setRest 40 = .ok (.invokevirtual 82, 3) := by decide +kernel
theorem dX5_setRest_43 : decode cX5_setRest 43 = .ok (.iastore, 1) := by decide +kernel
theorem dX5_setRest_44 : decode cX5_setRest 44 = .ok (.iinc 3 1, 3) := by decide +kernel
theorem dX5_setRest_47 : decode cX5_setRest 47 = .ok (.goto (-45), 3) := by decide +kernel
theorem dX5_setRest_50 : decode cX5_setRest 50 = .ok (.iload_n 1, 1) := by decide +kernel
theorem dX5_setRest_51 : decode cX5_setRest 51 = .ok (.iload_n 2, 1) := by decide +kernel
theorem dX5_setRest_52 : decode cX5_setRest 52 = .ok (.if_icmp .ne 28, 3) := by decide +kernel
theorem dX5_setRest_55 : decode cX5_setRest 55 = .ok (.aload_n 0, 1) := by decide +kernel
theorem dX5_setRest_56 : decode cX5_setRest 56 = .ok (.getfield 44, 3) := by decide +kernel
theorem dX5_setRest_59 : decode cX5_setRest 59 = .ok (.iload_n 1, 1) := by decide +kernel
theorem dX5_setRest_60 : decode cX5_setRest 60 = .ok (.bipush 9, 2) := by decide +kernel
theorem dX5_setRest_62 : decode cX5_setRest 62 = .ok (.invokestatic 68, 3) := by decide +kernel
theorem dX5_setRest_65 : decode cX5_setRest 65 = .ok (.aload_n 0, 1) := by decide +kernel
theorem dX5_setRest_66 : decode cX5_setRest 66 = .ok (.bipush 9, 2) := by decide +kernel
theorem dX5_setRest_68 : decode cX5_setRest 68 = .ok (.aload_n 0, 1) := by decide +kernel
theorem dX5_setRest_69 : decode cX5_setRest 69 = .ok (.bipush 9, 2) := by decide +kernel
theorem dX5_setRest_71 : decode cX5_setRest 71 = .ok (.iload_n 1, 1) := by decide +kernel
theorem dX5_setRest_72 : decode cX5_setRest 72 = .ok (.invokevirtual 79, 3) := by decide +kernel
theorem dX5_setRest_75 : decode cX5_setRest 75 = .ok (.iload_n 1, 1) := by decide +kernel
theorem dX5_setRest_76 : decode cX5_setRest 76 = .ok (.invokevirtual 82, 3) := by decide +kernel
theorem dX5_setRest_79 : decode cX5_setRest 79 = .ok (.iastore, 1) := by decide +kernel
theorem dX5_setRest_80 : decode cX5_setRest 80 = .ok (.return_, 1) := by decide +kernel
theorem dX5_cell_0 : decode cX5_cell 0 = .ok (.iload_n 0, 1) := by decide +kernel
theorem dX5_cell_1 : decode cX5_cell 1 = .ok (.bipush 10, 2) := by decide +kernel
theorem dX5_cell_3 : decode cX5_cell 3 = .ok (.imul, 1) := by decide +kernel
theorem dX5_cell_4 : decode cX5_cell 4 = .ok (.iload_n 1, 1) := by decide +kernel
theorem dX5_cell_5 : decode cX5_cell 5 = .ok (.iadd, 1) := by decide +kernel
theorem dX5_cell_6 : decode cX5_cell 6 = .ok (.ireturn, 1) := by decide +kernel
theorem dX5_isIn_0 : decode cX5_isIn 0 = .ok (.iload_n 0, 1) := by decide +kernel
theorem dX5_isIn_1 : decode cX5_isIn 1 = .ok (.iconst 1, 1) := by decide +kernel
theorem dX5_isIn_2 : decode cX5_isIn 2 = .ok (.iload_n 1, 1) := by decide +kernel
theorem dX5_isIn_3 : decode cX5_isIn 3 = .ok (.ishl, 1) := by decide +kernel
theorem dX5_isIn_4 : decode cX5_isIn 4 = .ok (.iand, 1) := by decide +kernel
theorem dX5_isIn_5 : decode cX5_isIn 5 = .ok (.ifCond .eq 7, 3) := by decide +kernel
theorem dX5_isIn_8 : decode cX5_isIn 8 = .ok (.iconst 1, 1) := by decide +kernel
theorem dX5_isIn_9 : decode cX5_isIn 9 = .ok (.goto 4, 3) := by decide +kernel
theorem dX5_isIn_12 : decode cX5_isIn 12 = .ok (.iconst 0, 1) := by decide +kernel
theorem dX5_isIn_13 : decode cX5_isIn 13 = .ok (.ireturn, 1) := by decide +kernel
theorem dX5_sumBy_0 : decode cX5_sumBy 0 = .ok (.aload_n 0, 1) := by decide +kernel
theorem dX5_sumBy_1 : decode cX5_sumBy 1 = .ok (.getfield 21, 3) := by decide +kernel
theorem dX5_sumBy_4 : decode cX5_sumBy 4 = .ok (.iload_n 1, 1) := by decide +kernel
theorem dX5_sumBy_5 : decode cX5_sumBy 5 = .ok (.aaload, 1) := by decide +kernel
theorem dX5_sumBy_6 : decode cX5_sumBy 6 = .ok (.iload_n 2, 1) := by decide +kernel
theorem dX5_sumBy_7 : decode cX5_sumBy 7 = .ok (.iaload, 1) := by decide +kernel
theorem dX5_sumBy_8 : decode cX5_sumBy 8 = .ok (.aload_n 0, 1) := by decide +kernel
theorem dX5_sumBy_9 : decode cX5_sumBy 9 = .ok (.getfield 44, 3) := by decide +kernel
theorem dX5_sumBy_12 : decode cX5_sumBy 12 = .ok (.iload_n 3, 1) := by decide +kernel
theorem dX5_sumBy_13 : decode cX5_sumBy 13 = .ok (.iconst 1, 1) := by decide +kernel
theorem dX5_sumBy_14 : decode cX5_sumBy 14 = .ok (.iload_n 2, 1) := by decide +kernel
theorem dX5_sumBy_15 : decode cX5_sumBy 15 = .ok (.ishl, 1) := by decide +kernel
theorem dX5_sumBy_16 : decode cX5_sumBy 16 = .ok (.iconst (-1), 1) := by decide +kernel
theorem dX5_sumBy_17 : decode cX5_sumBy 17 = .ok (.ixor, 1) := by decide +kernel
theorem dX5_sumBy_18 : decode cX5_sumBy 18 = .ok (.iand, 1) := by decide +kernel
theorem dX5_sumBy_19 : decode cX5_sumBy 19 = .ok (.iload_n 2, 1) := by decide +kernel
theorem dX5_sumBy_20 : decode cX5_sumBy 20 = .ok (.invokestatic 68, 3) := by decide +kernel
theorem dX5_sumBy_23 : decode cX5_sumBy 23 = .ok (.iaload, 1) := by decide +kernel
theorem dX5_sumBy_24 : decode cX5_sumBy 24 = .ok (.iadd, 1) := by decide +kernel
theorem dX5_sumBy_25 : decode cX5_sumBy 25 = .ok (.ireturn, 1) := by decide +kernel
theorem dX5_setOrder_0 : decode cX5_setOrder 0 = .ok (.aload_n 0, 1) := by decide +kernel
theorem dX5_setOrder_1 : decode cX5_setOrder 1 = .ok (.iload_n 1, 1) := by decide +kernel
theorem dX5_setOrder_2 : decode cX5_setOrder 2 = .ok (.invokestatic 86, 3) := by decide +kernel
theorem dX5_setOrder_5 : decode cX5_setOrder 5 = .ok (.putfield 28, 3) := by decide +kernel
theorem dX5_setOrder_8 : decode cX5_setOrder 8 = .ok (.iload_n 1, 1) := by decide +kernel
theorem dX5_setOrder_9 : decode cX5_setOrder 9 = .ok (.istore_n 2, 1) := by decide +kernel
theorem dX5_setOrder_10 : decode cX5_setOrder 10 = .ok (.bipush 9, 2) := by decide +kernel
theorem dX5_setOrder_12 : decode cX5_setOrder 12 = .ok (.istore_n 3, 1) := by decide +kernel
theorem dX5_setOrder_13 : decode cX5_setOrder 13 = .ok (.iconst 0, 1) := by decide +kernel
theorem dX5_setOrder_14 : decode cX5_setOrder 14 = .ok (.istore 4, 2) := by decide +kernel
theorem dX5_setOrder_16 : decode cX5_setOrder 16 = .ok (.iload 4, 2) := by decide +kernel
theorem dX5_setOrder_18 : decode cX5_setOrder 18 = .ok (.aload_n 0, 1) := by decide +kernel
theorem dX5_setOrder_19 : decode cX5_setOrder 19 = .ok (.getfield 28, 3) := by decide +kernel
theorem dX5_setOrder_22 : decode cX5_setOrder 22 = .ok (.if_icmp .ge 38, 3) := by decide +kernel
theorem dX5_setOrder_25 : decode cX5_setOrder 25 = .ok (.aload_n 0, 1) := by decide +kernel
theorem dX5_setOrder_26 : decode cX5_setOrder 26 = .ok (.iload_n 3, 1) := by decide +kernel
theorem dX5_setOrder_27 : decode cX5_setOrder 27 = .ok (.iload_n 2, 1) := by decide +kernel
theorem dX5_setOrder_28 : decode cX5_setOrder 28 = .ok (.invokevirtual 79, 3) := by decide +kernel
theorem dX5_setOrder_31 : decode cX5_setOrder 31 = .ok (.istore 5, 2) := by decide +kernel
theorem dX5_setOrder_33 : decode cX5_setOrder 33 = .ok (.aload_n 0, 1) := by decide +kernel
theorem dX5_setOrder_34 : decode cX5_setOrder 34 = .ok (.getfield 34, 3) := by decide +kernel
theorem dX5_setOrder_37 : decode cX5_setOrder 37 = .ok (.iload 4, 2) := by decide +kernel
theorem dX5_setOrder_39 : decode cX5_setOrder 39 = .ok (.iload 5, 2) := by decide +kernel
theorem dX5_setOrder_41 : decode cX5_setOrder 41 = .ok (.iastore, 1) := by decide +kernel
theorem dX5_setOrder_42 : decode cX5_setOrder 42 = .ok (.iload_n 2, 1) := by decide +kernel
theorem dX5_setOrder_43 : decode cX5_setOrder 43 = .ok (.iconst 1, 1) := by decide +kernel
theorem dX5_setOrder_44 : decode cX5_setOrder 44 = .ok (.iload 5, 2) := by decide +kernel
theorem dX5_setOrder_46 : decode cX5_setOrder 46 = .ok (.ishl, 1) := by decide +kernel
theorem dX5_setOrder_47 : decode cX5_setOrder 47 = .ok (.iconst (-1), 1) := by decide +kernel
theorem dX5_setOrder_48 : decode cX5_setOrder 48 = .ok (.ixor, 1) := by decide +kernel
theorem dX5_setOrder_49 : decode cX5_setOrder 49 = .ok (.iand, 1) := by decide +kernel
theorem dX5_setOrder_50 : decode cX5_setOrder 50 = .ok (.istore_n 2, 1) := by decide +kernel
theorem dX5_setOrder_51 : decode cX5_setOrder 51 = .ok (.iload 5, 2) := by decide +kernel
theorem dX5_setOrder_53 : decode cX5_setOrder 53 = .ok (.istore_n 3, 1) := by decide +kernel
theorem dX5_setOrder_54 : decode cX5_setOrder 54 = .ok (.iinc 4 1, 3) := by decide +kernel
theorem dX5_setOrder_57 : decode cX5_setOrder 57 = .ok (.goto (-41), 3) := by decide +kernel
theorem dX5_setOrder_60 : decode cX5_setOrder 60 = .ok (.return_, 1) := by decide +kernel
theorem dX5_firstOfLeast_0 : decode cX5_firstOfLeast 0 = .ok (.iconst 0, 1) := by decide +kernel
theorem dX5_firstOfLeast_1 : decode cX5_firstOfLeast 1 = .ok (.istore_n 3, 1) := by decide +kernel
theorem dX5_firstOfLeast_2 : decode cX5_firstOfLeast 2 = .ok (.ldc 91, 2) := by decide +kernel
theorem dX5_firstOfLeast_4 : decode cX5_firstOfLeast 4 = .ok (.istore 4, 2) := by decide +kernel
theorem dX5_firstOfLeast_6 : decode cX5_firstOfLeast 6 = .ok (.iconst 0, 1) := by decide +kernel
theorem dX5_firstOfLeast_7 : decode cX5_firstOfLeast 7 = .ok (.istore 5, 2) := by decide +kernel
theorem dX5_firstOfLeast_9 : decode cX5_firstOfLeast 9 = .ok (.iload 5, 2) := by decide +kernel
theorem dX5_firstOfLeast_11 : decode cX5_firstOfLeast 11 = .ok (.aload_n 0, 1) := by decide +kernel
theorem dX5_firstOfLeast_12 : decode cX5_firstOfLeast 12 = .ok (.getfield 11, 3) := by decide +kernel
theorem dX5_firstOfLeast_15 : decode cX5_firstOfLeast 15 = .ok (.if_icmp .ge 47, 3) := by decide +kernel
theorem dX5_firstOfLeast_18 : decode cX5_firstOfLeast 18 = .ok (.iload_n 2, 1) := by decide +kernel
theorem dX5_firstOfLeast_19 : decode cX5_firstOfLeast 19 = .ok (.iload 5, 2) := by decide +kernel
theorem dX5_firstOfLeast_21 : decode cX5_firstOfLeast 21 = .ok (.invokestatic 75, 3) := by decide +kernel
theorem dX5_firstOfLeast_24 : decode cX5_firstOfLeast 24 = .ok (.ifCond .eq 14, 3) := by decide +kernel
theorem dX5_firstOfLeast_27 : decode cX5_firstOfLeast 27 = .ok (.aload_n 0, 1) := by decide +kernel
theorem dX5_firstOfLeast_28 : decode cX5_firstOfLeast 28 = .ok (.iload_n 1, 1) := by decide +kernel
theorem dX5_firstOfLeast_29 : decode cX5_firstOfLeast 29 = .ok (.iload 5, 2) := by decide +kernel
theorem dX5_firstOfLeast_31 : decode cX5_firstOfLeast 31 = .ok (.iload_n 2, 1) := by decide +kernel
theorem dX5_firstOfLeast_32 : decode cX5_firstOfLeast 32 = .ok (.invokevirtual 82, 3) := by decide +kernel
theorem dX5_firstOfLeast_35 : decode cX5_firstOfLeast 35 = .ok (.goto 5, 3) := by decide +kernel
theorem dX5_firstOfLeast_38 : decode cX5_firstOfLeast 38 = .ok (.ldc 91, 2) := by decide +kernel
theorem dX5_firstOfLeast_40 : decode cX5_firstOfLeast 40 = .ok (.istore 6, 2) := by decide +kernel
theorem dX5_firstOfLeast_42 : decode cX5_firstOfLeast 42 = .ok (.iload 6, 2) := by decide +kernel
theorem dX5_firstOfLeast_44 : decode cX5_firstOfLeast 44 = .ok (.iload 4, 2) := by decide +kernel
theorem dX5_firstOfLeast_46 : decode cX5_firstOfLeast 46 = .ok (.if_icmp .ge 10, 3) := by decide +kernel
theorem dX5_firstOfLeast_49 : decode cX5_firstOfLeast 49 = .ok (.iload 5, 2) := by decide +kernel
theorem dX5_firstOfLeast_51 : decode cX5_firstOfLeast 51 = .ok (.istore_n 3, 1) := by decide +kernel
theorem dX5_firstOfLeast_52 : decode cX5_firstOfLeast 52 = .ok (.iload 6, 2) := by decide +kernel
theorem dX5_firstOfLeast_54 : decode cX5_firstOfLeast 54 = .ok (.istore 4, 2) := by decide +kernel
theorem dX5_firstOfLeast_56 : decode cX5_firstOfLeast 56 = .ok (.iinc 5 1, 3) := by decide +kernel
theorem dX5_firstOfLeast_59 : decode cX5_firstOfLeast 59 = .ok (.goto (-50), 3) := by decide +kernel
theorem dX5_firstOfLeast_62 : decode cX5_firstOfLeast 62 = .ok (.iload_n 3, 1) := by decide +kernel
theorem dX5_firstOfLeast_63 : decode cX5_firstOfLeast 63 = .ok (.ireturn, 1) := by decide +kernel
theorem dX6_init_0 : decode cX6_init 0 = .ok (.aload_n 0, 1) := by decide +kernel
theorem dX6_init_1 : decode cX6_init 1 = .ok (.invokespecial 3, 3) := by decide +kernel
theorem dX6_init_4 : decode cX6_init 4 = .ok (.aload_n 0, 1) := by decide +kernel
theorem dX6_init_5 : decode cX6_init 5 = .ok (.iconst 4, 1) := by decide +kernel
theorem dX6_init_6 : decode cX6_init 6 = .ok (.putfield 9, 3) := by decide +kernel
theorem dX6_init_9 : decode cX6_init 9 = .ok (.aload_n 0, 1) := by decide +kernel
theorem dX6_init_10 : decode cX6_init 10 = .ok (.bipush 10, 2) := by decide +kernel
theorem dX6_init_12 : decode cX6_init 12 = .ok (.putfield 15, 3) := by decide +kernel
theorem dX6_init_15 : decode cX6_init 15 = .ok (.aload_n 0, 1) := by decide +kernel
theorem dX6_init_16 : decode cX6_init 16 = .ok (.bipush 20, 2) := by decide +kernel
theorem dX6_init_18 : decode cX6_init 18 = .ok (.putfield 18, 3) := by decide +kernel
theorem dX6_init_21 : decode cX6_init 21 = .ok (.aload_n 0, 1) := by decide +kernel
theorem dX6_init_22 : decode cX6_init 22 = .ok (.ldc 21, 2) := by decide +kernel
theorem dX6_init_24 : decode cX6_init 24 = .ok (.putfield 22, 3) := by decide +kernel
theorem dX6_init_27 : decode cX6_init 27 = .ok (.aload_n 0, 1) := by decide +kernel
theorem dX6_init_28 : decode cX6_init 28 = .ok (.iconst 0, 1) := by decide +kernel
theorem dX6_init_29 : decode cX6_init 29 = .ok (.putfield 25, 3) := by decide +kernel
theorem dX6_init_32 : decode cX6_init 32 = .ok (.aload_n 0, 1) := by decide +kernel
theorem dX6_init_33 : decode cX6_init 33 = .ok (.iconst 0, 1) := by decide +kernel
theorem dX6_init_34 : decode cX6_init 34 = .ok (.putfield 28, 3) := by decide +kernel
theorem dX6_init_37 : decode cX6_init 37 = .ok (.aload_n 0, 1) := by decide +kernel
theorem dX6_init_38 : decode cX6_init 38 = .ok (.bipush (-4), 2) := by decide +kernel
theorem dX6_init_40 : decode cX6_init 40 = .ok (.putfield 31, 3) := by decide +kernel
theorem dX6_init_43 : decode cX6_init 43 = .ok (.aload_n 0, 1) := by decide +kernel
theorem dX6_init_44 : decode cX6_init 44 = .ok (.bipush 8, 2) := by decide +kernel
theorem dX6_init_46 : decode cX6_init 46 = .ok (.iconst 3, 1) := by decide +kernel
theorem dX6_init_47 : decode cX6_init 47 = .ok (.multianewarray 34 2, 4) := by decide +kernel
theorem dX6_init_51 : decode cX6_init 51 = .ok (.putfield 36, 3) := by decide +kernel
theorem dX6_init_54 : decode cX6_init 54 = .ok (.return_, 1) := by decide +kernel
theorem dX6_startAnew_0 : decode cX6_startAnew 0 = .ok (.aload_n 0, 1) := by decide +kernel
theorem dX6_startAnew_1 : decode cX6_startAnew 1 = .ok (.iconst 0, 1) := by decide +kernel
theorem dX6_startAnew_2 : decode cX6_startAnew 2 = .ok (.putfield 25, 3) := by decide +kernel
theorem dX6_startAnew_5 : decode cX6_startAnew 5 = .ok (.aload_n 0, 1) := by decide +kernel
theorem dX6_startAnew_6 : decode cX6_startAnew 6 = .ok (.iconst 0, 1) := by decide +kernel
theorem dX6_startAnew_7 : decode cX6_startAnew 7 = .ok (.putfield 28, 3) := by decide +kernel
theorem dX6_startAnew_10 : decode cX6_startAnew 10 = .ok (.aload_n 0, 1) := by decide +kernel
theorem dX6_startAnew_11 : decode cX6_startAnew 11 = .ok (.bipush (-4), 2) := by decide +kernel
theorem dX6_startAnew_13 : decode cX6_startAnew 13 = .ok (.putfield 31, 3) := by decide +kernel
theorem dX6_startAnew_16 : decode cX6_startAnew 16 = .ok (.return_, 1) := by decide +kernel
theorem dX6_take_0 : decode cX6_take 0 = .ok (.aload_n 0, 1) := by decide +kernel
theorem dX6_take_1 : decode cX6_take 1 = .ok (.getfield 36, 3) := by decide +kernel
theorem dX6_take_4 : decode cX6_take 4 = .ok (.aload_n 0, 1) := by decide +kernel
theorem dX6_take_5 : decode cX6_take 5 = .ok (.getfield 28, 3) := by decide +kernel
theorem dX6_take_8 : decode cX6_take 8 = .ok (.bipush 8, 2) := by decide +kernel
theorem dX6_take_10 : decode cX6_take 10 = .ok (.irem, 1) := by decide +kernel
theorem dX6_take_11 : decode cX6_take 11 = .ok (.aaload, 1) := by decide +kernel
theorem dX6_take_12 : decode cX6_take 12 = .ok (.astore 4, 2) := by decide +kernel
theorem dX6_take_14 : decode cX6_take 14 = .ok (.aload 4, 2) := by decide +kernel
theorem dX6_take_16 : decode cX6_take 16 = .ok (.iload_n 1, 1) := by decide +kernel
theorem dX6_take_17 : decode cX6_take 17 = .ok (.iload_n 2, 1) := by decide +kernel
theorem dX6_take_18 : decode cX6_take 18 = .ok (.iload_n 3, 1) := by decide +kernel
theorem dX6_take_19 : decode cX6_take 19 = .ok (.invokestatic 39, 3) := by decide +kernel
theorem dX6_take_22 : decode cX6_take 22 = .ok (.aload_n 0, 1) := by decide +kernel
theorem dX6_take_23 : decode cX6_take 23 = .ok (.dup, 1) := by decide +kernel
theorem dX6_take_24 : decode cX6_take 24 = .ok (.getfield 28, 3) := by decide +kernel
theorem dX6_take_27 : decode cX6_take 27 = .ok (.iconst 1, 1) := by decide +kernel
theorem dX6_take_28 : decode cX6_take 28 = .ok (.iadd, 1) := by decide +kernel
theorem dX6_take_29 : decode cX6_take 29 = .ok (.putfield 28, 3) := by decide +kernel
theorem dX6_take_32 : decode cX6_take 32 = .ok (.aload_n 0, 1) := by decide +kernel
theorem dX6_take_33 : decode cX6_take 33 = .ok (.aload_n 0, 1) := by decide +kernel
theorem dX6_take_34 : decode cX6_take 34 = .ok (.aload 4, 2) := by decide +kernel
theorem dX6_take_36 : decode cX6_take 36 = .ok (.invokevirtual 43, 3) := by decide +kernel
theorem dX6_take_39 : decode cX6_take 39 = .ok (.putfield 31, 3) := by decide +kernel
theorem dX6_take_42 : decode cX6_take 42 = .ok (.aload_n 0, 1) := by decide +kernel
theorem dX6_take_43 : decode cX6_take 43 = .ok (.getfield 31, 3) := by decide +kernel
theorem dX6_take_46 : decode cX6_take 46 = .ok (.bipush (-4), 2) := by decide +kernel
theorem dX6_take_48 : decode cX6_take 48 = .ok (.if_icmp .eq 11, 3) := by decide +kernel
theorem dX6_take_51 : decode cX6_take 51 = .ok (.aload_n 0, 1) := by decide +kernel
theorem dX6_take_52 : decode cX6_take 52 = .ok (.iconst 2, 1) := by decide +kernel
theorem dX6_take_53 : decode cX6_take 53 = .ok (.putfield 25, 3) := by decide +kernel
theorem dX6_take_56 : decode cX6_take 56 = .ok (.goto 34, 3) := by decide +kernel
theorem dX6_take_59 : decode cX6_take 59 = .ok (.aload_n 0, 1) := by decide +kernel
theorem dX6_take_60 : decode cX6_take 60 = .ok (.invokevirtual 47, 3) := by decide +kernel
theorem dX6_take_63 : decode cX6_take 63 = .ok (.ifCond .eq 11, 3) := by decide +kernel
theorem dX6_take_66 : decode cX6_take 66 = .ok (.aload_n 0, 1) := by decide +kernel
theorem dX6_take_67 : decode cX6_take 67 = .ok (.iconst 1, 1) := by decide +kernel
theorem dX6_take_68 : decode cX6_take 68 = .ok (.putfield 25, 3) := by decide +kernel
theorem dX6_take_71 : decode cX6_take 71 = .ok (.goto 19, 3) := by decide +kernel
theorem dX6_take_74 : decode cX6_take 74 = .ok (.aload_n 0, 1) := by decide +kernel
theorem dX6_take_75 : decode cX6_take 75 = .ok (.getfield 28, 3) := by decide +kernel
theorem dX6_take_78 : decode cX6_take 78 = .ok (.aload_n 0, 1) := by decide +kernel
theorem dX6_take_79 : decode cX6_take 79 = .ok (.getfield 18, 3) := by decide +kernel
theorem dX6_take_82 : decode cX6_take 82 = .ok (.if_icmp .lt 8, 3) := by decide +kernel
theorem dX6_take_85 : decode cX6_take 85 = .ok (.aload_n 0, 1) := by decide +kernel
theorem dX6_take_86 : decode cX6_take 86 = .ok (.iconst 3, 1) := by decide +kernel
theorem dX6_take_87 : decode cX6_take 87 = .ok (.putfield 25, 3) := by decide +kernel
theorem dX6_take_90 : decode cX6_take 90 = .ok (.aload_n 0, 1) := by decide +kernel
theorem dX6_take_91 : decode cX6_take 91 = .ok (.getfield 25, 3) := by decide +kernel
theorem dX6_take_94 : decode cX6_take 94 = .ok (.ireturn, 1) := by decide +kernel
theorem dX6_firstBeyond_0 : decode cX6_firstBeyond 0 = .ok (.iconst 0, 1) := by decide +kernel
theorem dX6_firstBeyond_1 : decode cX6_firstBeyond 1 = .ok (.istore_n 2, 1) := by decide +kernel
theorem dX6_firstBeyond_2 : decode cX6_firstBeyond 2 = .ok (.iload_n 2, 1) := by decide +kernel
theorem dX6_firstBeyond_3 : decode cX6_firstBeyond 3 = .ok (.iconst 3, 1) := by decide +kernel
theorem dX6_firstBeyond_4 : decode cX6_firstBeyond 4 = .ok (.if_icmp .ge 24, 3) := by decide +kernel
theorem dX6_firstBeyond_7 : decode cX6_firstBeyond 7 = .ok (.aload_n 1, 1) := by decide +kernel
theorem dX6_firstBeyond_8 : decode cX6_firstBeyond 8 = .ok (.iload_n 2, 1) := by decide +kernel
theorem dX6_firstBeyond_9 : decode cX6_firstBeyond 9 = .ok (.iaload, 1) := by decide +kernel
theorem dX6_firstBeyond_10 : decode cX6_firstBeyond 10 = .ok (.invokestatic 51, 3) := by decide +kernel
theorem dX6_firstBeyond_13 : decode cX6_firstBeyond 13 = .ok (.aload_n 0, 1) := by decide +kernel
theorem dX6_firstBeyond_14 : decode cX6_firstBeyond 14 = .ok (.getfield 22, 3) := by decide +kernel
theorem dX6_firstBeyond_17 : decode cX6_firstBeyond 17 = .ok (.if_icmp .le 5, 3) := by decide +kernel
theorem dX6_firstBeyond_20 : decode cX6_firstBeyond 20 = .ok (.iload_n 2, 1) := by decide +kernel
theorem dX6_firstBeyond_21 : decode cX6_firstBeyond 21 = .ok (.ireturn, 1) := by decide +kernel
theorem dX6_firstBeyond_22 : decode cX6_firstBeyond 22 = .ok (.iinc 2 1, 3) := by decide +kernel
theorem dX6_firstBeyond_25 : decode cX6_firstBeyond 25 = .ok (.goto (-23), 3) := by decide +kernel
theorem dX6_firstBeyond_28 : decode cX6_firstBeyond 28 = .ok (.bipush (-4), 2) := by decide +kernel
theorem dX6_firstBeyond_30 : decode cX6_firstBeyond 30 = .ok (.ireturn, 1) := by decide +kernel
theorem dX6_isSettled_0 : decode cX6_isSettled 0 = .ok (.aload_n 0, 1) := by decide +kernel
theorem dX6_isSettled_1 : decode cX6_isSettled 1 = .ok (.getfield 28, 3) := by decide +kernel
theorem dX6_isSettled_4 : decode cX6_isSettled 4 = .ok (.aload_n 0, 1) := by decide +kernel
theorem dX6_isSettled_5 : decode cX6_isSettled 5 = .ok (.getfield 9, 3) := by decide +kernel
theorem dX6_isSettled_8 : decode cX6_isSettled 8 = .ok (.if_icmp .ge 5, 3) := by decide +kernel
theorem dX6_isSettled_11 : decode cX6_isSettled 11 = .ok (.iconst 0, 1) := by decide +kernel
theorem dX6_isSettled_12 : decode cX6_isSettled 12 = .ok (.ireturn, 1) := by decide +kernel
theorem dX6_isSettled_13 : decode cX6_isSettled 13 = .ok (.iconst 0, 1) := by decide +kernel
theorem dX6_isSettled_14 : decode cX6_isSettled 14 = .ok (.istore_n 1, 1) := by decide +kernel
theorem dX6_isSettled_15 : decode cX6_isSettled 15 = .ok (.iload_n 1, 1) := by decide +kernel
theorem dX6_isSettled_16 : decode cX6_isSettled 16 = .ok (.iconst 3, 1) := by decide +kernel
theorem dX6_isSettled_17 : decode cX6_isSettled 17 = .ok (.if_icmp .ge 23, 3) := by decide +kernel
theorem dX6_isSettled_20 : decode cX6_isSettled 20 = .ok (.aload_n 0, 1) := by decide +kernel
theorem dX6_isSettled_21 : decode cX6_isSettled 21 = .ok (.iload_n 1, 1) := by decide +kernel
theorem dX6_isSettled_22 : decode cX6_isSettled 22 = .ok (.invokevirtual 57, 3) := by decide +kernel
theorem dX6_isSettled_25 : decode cX6_isSettled 25 = .ok (.aload_n 0, 1) := by decide +kernel
theorem dX6_isSettled_26 : decode cX6_isSettled 26 = .ok (.getfield 15, 3) := by decide +kernel
theorem dX6_isSettled_29 : decode cX6_isSettled 29 = .ok (.if_icmp .le 5, 3) := by decide +kernel
theorem dX6_isSettled_32 : decode cX6_isSettled 32 = .ok (.iconst 0, 1) := by decide +kernel
theorem dX6_isSettled_33 : decode cX6_isSettled 33 = .ok (.ireturn, 1) := by decide +kernel
theorem dX6_isSettled_34 : decode cX6_isSettled 34 = .ok (.iinc 1 1, 3) := by decide +kernel
theorem dX6_isSettled_37 : decode cX6_isSettled 37 = .ok (.goto (-22), 3) := by decide +kernel
theorem dX6_isSettled_40 : decode cX6_isSettled 40 = .ok (.iconst 1, 1) := by decide +kernel
theorem dX6_isSettled_41 : decode cX6_isSettled 41 = .ok (.ireturn, 1) := by decide +kernel
theorem dX6_spreadOfLatest_0 : decode cX6_spreadOfLatest 0 = .ok (.ldc 60, 2) := by decide +kernel
theorem dX6_spreadOfLatest_2 : decode cX6_spreadOfLatest 2 = .ok (.istore_n 2, 1) := by decide +kernel
theorem dX6_spreadOfLatest_3 : decode cX6_spreadOfLatest 3 = .ok (.ldc 61, 2) := by decide +kernel
theorem dX6_spreadOfLatest_5 : decode cX6_spreadOfLatest 5 = .ok (.istore_n 3, 1) := by decide +kernel
theorem dX6_spreadOfLatest_6 : decode cX6_spreadOfLatest 6 = .ok (.iconst 1, 1) := by decide +kernel
theorem dX6_spreadOfLatest_7 : decode cX6_spreadOfLatest 7 = .ok (.istore 4, 2) := by decide +kernel
theorem dX6_spreadOfLatest_9 : decode cX6_spreadOfLatest 9 = .ok (.iload 4, 2) := by decide +kernel
theorem dX6_spreadOfLatest_11 : decode cX6_spreadOfLatest 11 = .ok (.aload_n 0, 1) := by decide +kernel
theorem dX6_spreadOfLatest_12 : decode cX6_spreadOfLatest 12 = .ok (.getfield 9, 3) := by decide +kernel
theorem dX6_spreadOfLatest_15 : decode cX6_spreadOfLatest 15 = .ok (.if_icmp .gt 32, 3) := by decide +kernel
theorem dX6_spreadOfLatest_18 : decode cX6_spreadOfLatest 18 = .ok (.aload_n 0, 1) := by decide +kernel
theorem dX6_spreadOfLatest_19 : decode cX6_spreadOfLatest 19 = .ok (.iload 4, 2) := by decide +kernel
theorem dX6_spreadOfLatest_21 : decode cX6_spreadOfLatest 21 = .ok (.iload_n 1, 1) := by decide +kernel
theorem dX6_spreadOfLatest_22 : decode cX6_spreadOfLatest 22 = .ok (.invokevirtual 62, 3) := by decide +kernel
theorem dX6_spreadOfLatest_25 : decode cX6_spreadOfLatest 25 = .ok (.istore 5, 2) := by decide +kernel
theorem dX6_spreadOfLatest_27 : decode cX6_spreadOfLatest 27 = .ok (.iload_n 2, 1) := by decide +kernel
theorem dX6_spreadOfLatest_28 : decode cX6_spreadOfLatest 28 = .ok (.iload 5, 2) := by decide +kernel
theorem dX6_spreadOfLatest_30 : decode cX6_spreadOfLatest 30 = .ok (.invokestatic 66, 3) := by decide +kernel
theorem dX6_spreadOfLatest_33 : decode cX6_spreadOfLatest 33 = .ok (.istore_n 2, 1) := by decide +kernel
theorem dX6_spreadOfLatest_34 : decode cX6_spreadOfLatest 34 = .ok (.iload_n 3, 1) := by decide +kernel
theorem dX6_spreadOfLatest_35 : decode cX6_spreadOfLatest 35 = .ok (.iload 5, 2) := by decide +kernel
theorem dX6_spreadOfLatest_37 : decode cX6_spreadOfLatest 37 = .ok (.invokestatic 69, 3) := by decide +kernel
theorem dX6_spreadOfLatest_40 : decode cX6_spreadOfLatest 40 = .ok (.istore_n 3, 1) := by decide +kernel
theorem dX6_spreadOfLatest_41 : decode cX6_spreadOfLatest 41 = .ok (.iinc 4 1, 3) := by decide +kernel
theorem dX6_spreadOfLatest_44 : decode cX6_spreadOfLatest 44 = .ok (.goto (-35), 3) := by decide +kernel
theorem dX6_spreadOfLatest_47 : decode cX6_spreadOfLatest 47 = .ok (.iload_n 3, 1) := by decide +kernel
theorem dX6_spreadOfLatest_48 : decode cX6_spreadOfLatest 48 = .ok (.iload_n 2, 1) := by decide +kernel
theorem dX6_spreadOfLatest_49 : decode cX6_spreadOfLatest 49 = .ok (.isub, 1) := by decide +kernel
theorem dX6_spreadOfLatest_50 : decode cX6_spreadOfLatest 50 = .ok (.ireturn, 1) := by decide +kernel
theorem dX6_sumOfLatest_0 : decode cX6_sumOfLatest 0 = .ok (.iconst 0, 1) := by decide +kernel
theorem dX6_sumOfLatest_1 : decode cX6_sumOfLatest 1 = .ok (.istore_n 2, 1) := by decide +kernel
theorem dX6_sumOfLatest_2 : decode cX6_sumOfLatest 2 = .ok (.iconst 1, 1) := by decide +kernel
theorem dX6_sumOfLatest_3 : decode cX6_sumOfLatest 3 = .ok (.istore_n 3, 1) := by decide +kernel
theorem dX6_sumOfLatest_4 : decode cX6_sumOfLatest 4 = .ok (.iload_n 3, 1) := by decide +kernel
theorem dX6_sumOfLatest_5 : decode cX6_sumOfLatest 5 = .ok (.aload_n 0, 1) := by decide +kernel
theorem dX6_sumOfLatest_6 : decode cX6_sumOfLatest 6 = .ok (.getfield 9, 3) := by decide +kernel
theorem dX6_sumOfLatest_9 : decode cX6_sumOfLatest 9 = .ok (.if_icmp .gt 18, 3) := by decide +kernel
theorem dX6_sumOfLatest_12 : decode cX6_sumOfLatest 12 = .ok (.iload_n 2, 1) := by decide +kernel
theorem dX6_sumOfLatest_13 : decode cX6_sumOfLatest 13 = .ok (.aload_n 0, 1) := by decide +kernel
theorem dX6_sumOfLatest_14 : decode cX6_sumOfLatest 14 = .ok (.iload_n 3, 1) := by decide +kernel
theorem dX6_sumOfLatest_15 : decode cX6_sumOfLatest 15 = .ok (.iload_n 1, 1) := by decide +kernel
theorem dX6_sumOfLatest_16 : decode cX6_sumOfLatest 16 = .ok (.invokevirtual 62, 3) := by decide +kernel
theorem dX6_sumOfLatest_19 : decode cX6_sumOfLatest 19 = .ok (.iadd, 1) := by decide +kernel
theorem dX6_sumOfLatest_20 : decode cX6_sumOfLatest 20 = .ok (.istore_n 2, 1) := by decide +kernel
theorem dX6_sumOfLatest_21 : decode cX6_sumOfLatest 21 = .ok (.iinc 3 1, 3) := by decide +kernel
theorem dX6_sumOfLatest_24 : decode cX6_sumOfLatest 24 = .ok (.goto (-20), 3) := by decide +kernel
theorem dX6_sumOfLatest_27 : decode cX6_sumOfLatest 27 = .ok (.iload_n 2, 1) := by decide +kernel
theorem dX6_sumOfLatest_28 : decode cX6_sumOfLatest 28 = .ok (.ireturn, 1) := by decide +kernel
theorem dX6_readingAgo_0 : decode cX6_readingAgo 0 = .ok (.aload_n 0, 1) := by decide +kernel
theorem dX6_readingAgo_1 : decode cX6_readingAgo 1 = .ok (.getfield 36, 3) := by decide +kernel
theorem dX6_readingAgo_4 : decode cX6_readingAgo 4 = .ok (.aload_n 0, 1) := by decide +kernel
theorem dX6_readingAgo_5 : decode cX6_readingAgo 5 = .ok (.getfield 28, 3) := by decide +kernel
theorem dX6_readingAgo_8 : decode cX6_readingAgo 8 = .ok (.iload_n 1, 1) := by decide +kernel
theorem dX6_readingAgo_9 : decode cX6_readingAgo 9 = .ok (.isub, 1) := by decide +kernel
theorem dX6_readingAgo_10 : decode cX6_readingAgo 10 = .ok (.bipush 8, 2) := by decide +kernel
theorem dX6_readingAgo_12 : decode cX6_readingAgo 12 = .ok (.invokestatic 72, 3) := by decide +kernel
theorem dX6_readingAgo_15 : decode cX6_readingAgo 15 = .ok (.aaload, 1) := by decide +kernel
theorem dX6_readingAgo_16 : decode cX6_readingAgo 16 = .ok (.iload_n 2, 1) := by decide +kernel
theorem dX6_readingAgo_17 : decode cX6_readingAgo 17 = .ok (.iaload, 1) := by decide +kernel
theorem dX6_readingAgo_18 : decode cX6_readingAgo 18 = .ok (.ireturn, 1) := by decide +kernel
theorem dX7_init_0 : decode cX7_init 0 = .ok (.aload_n 0, 1) := by decide +kernel
theorem dX7_init_1 : decode cX7_init 1 = .ok (.invokespecial 1, 3) := by decide +kernel
theorem dX7_init_4 : decode cX7_init 4 = .ok (.aload_n 0, 1) := by decide +kernel
theorem dX7_init_5 : decode cX7_init 5 = .ok (.iconst (-1), 1) := by decide +kernel
theorem dX7_init_6 : decode cX7_init 6 = .ok (.putfield 9, 3) := by decide +kernel
theorem dX7_init_9 : decode cX7_init 9 = .ok (.aload_n 0, 1) := by decide +kernel
theorem dX7_init_10 : decode cX7_init 10 = .ok (.iconst 0, 1) := by decide +kernel
theorem dX7_init_11 : decode cX7_init 11 = .ok (.putfield 13, 3) := by decide +kernel
theorem dX7_init_14 : decode cX7_init 14 = .ok (.aload_n 0, 1) := by decide +kernel
theorem dX7_init_15 : decode cX7_init 15 = .ok (.bipush 60, 2) := by decide +kernel
theorem dX7_init_17 : decode cX7_init 17 = .ok (.newarray .int, 2) := by decide +kernel
theorem dX7_init_19 : decode cX7_init 19 = .ok (.putfield 16, 3) := by decide +kernel
theorem dX7_init_22 : decode cX7_init 22 = .ok (.return_, 1) := by decide +kernel
theorem dX7_makeNew_0 : decode cX7_makeNew 0 = .ok (.aload_n 0, 1) := by decide +kernel
theorem dX7_makeNew_1 : decode cX7_makeNew 1 = .ok (.iload_n 1, 1) := by decide +kernel
theorem dX7_makeNew_2 : decode cX7_makeNew 2 = .ok (.putfield 9, 3) := by decide +kernel
theorem dX7_makeNew_5 : decode cX7_makeNew 5 = .ok (.aload_n 0, 1) := by decide +kernel
theorem dX7_makeNew_6 : decode cX7_makeNew 6 = .ok (.iload_n 2, 1) := by decide +kernel
theorem dX7_makeNew_7 : decode cX7_makeNew 7 = .ok (.putfield 13, 3) := by decide +kernel
theorem dX7_makeNew_10 : decode cX7_makeNew 10 = .ok (.iconst 0, 1) := by decide +kernel
theorem dX7_makeNew_11 : decode cX7_makeNew 11 = .ok (.istore_n 3, 1) := by decide +kernel
theorem dX7_makeNew_12 : decode cX7_makeNew 12 = .ok (.iload_n 3, 1) := by decide +kernel
theorem dX7_makeNew_13 : decode cX7_makeNew 13 = .ok (.bipush 60, 2) := by decide +kernel
theorem dX7_makeNew_15 : decode cX7_makeNew 15 = .ok (.if_icmp .ge 16, 3) := by decide +kernel
theorem dX7_makeNew_18 : decode cX7_makeNew 18 = .ok (.aload_n 0, 1) := by decide +kernel
theorem dX7_makeNew_19 : decode cX7_makeNew 19 = .ok (.getfield 16, 3) := by decide +kernel
theorem dX7_makeNew_22 : decode cX7_makeNew 22 = .ok (.iload_n 3, 1) := by decide +kernel
theorem dX7_makeNew_23 : decode cX7_makeNew 23 = .ok (.iconst 0, 1) := by decide +kernel
theorem dX7_makeNew_24 : decode cX7_makeNew 24 = .ok (.iastore, 1) := by decide +kernel
theorem dX7_makeNew_25 : decode cX7_makeNew 25 = .ok (.iinc 3 1, 3) := by decide +kernel
theorem dX7_makeNew_28 : decode cX7_makeNew 28 = .ok (.goto (-16), 3) := by decide +kernel
theorem dX7_makeNew_31 : decode cX7_makeNew 31 = .ok (.return_, 1) := by decide +kernel
theorem dX7_faultOfLane_0 : decode cX7_faultOfLane 0 = .ok (.aload_n 0, 1) := by decide +kernel
theorem dX7_faultOfLane_1 : decode cX7_faultOfLane 1 = .ok (.getfield 9, 3) := by decide +kernel
theorem dX7_faultOfLane_4 : decode cX7_faultOfLane 4 = .ok (.iconst (-1), 1) := by decide +kernel
theorem dX7_faultOfLane_5 : decode cX7_faultOfLane 5 = .ok (.if_icmp .ne 5, 3) := by decide +kernel
theorem dX7_faultOfLane_8 : decode cX7_faultOfLane 8 = .ok (.iconst 1, 1) := by decide +kernel
theorem dX7_faultOfLane_9 : decode cX7_faultOfLane 9 = .ok (.ireturn, 1) := by decide +kernel
theorem dX7_faultOfLane_10 : decode cX7_faultOfLane 10 = .ok (.aload_n 0, 1) := by decide +kernel
theorem dX7_faultOfLane_11 : decode cX7_faultOfLane 11 = .ok (.getfield 9, 3) := by decide +kernel
theorem dX7_faultOfLane_14 : decode cX7_faultOfLane 14 = .ok (.iload_n 1, 1) := by decide +kernel
theorem dX7_faultOfLane_15 : decode cX7_faultOfLane 15 = .ok (.if_icmp .ne 7, 3) := by decide +kernel
theorem dX7_faultOfLane_18 : decode cX7_faultOfLane 18 = .ok (.iconst 0, 1) := by decide +kernel
theorem dX7_faultOfLane_19 : decode cX7_faultOfLane 19 = .ok (.goto 4, 3) := by decide +kernel
theorem dX7_faultOfLane_22 : decode cX7_faultOfLane 22 = .ok (.iconst 3, 1) := by decide +kernel
theorem dX7_faultOfLane_23 : decode cX7_faultOfLane 23 = .ok (.ireturn, 1) := by decide +kernel
theorem dX7_faultOfCells_0 : decode cX7_faultOfCells 0 = .ok (.aload_n 0, 1) := by decide +kernel
theorem dX7_faultOfCells_1 : decode cX7_faultOfCells 1 = .ok (.getfield 9, 3) := by decide +kernel
theorem dX7_faultOfCells_4 : decode cX7_faultOfCells 4 = .ok (.iconst (-1), 1) := by decide +kernel
theorem dX7_faultOfCells_5 : decode cX7_faultOfCells 5 = .ok (.if_icmp .ne 5, 3) := by decide +kernel
theorem dX7_faultOfCells_8 : decode cX7_faultOfCells 8 = .ok (.iconst 1, 1) := by decide +kernel
theorem dX7_faultOfCells_9 : decode cX7_faultOfCells 9 = .ok (.ireturn, 1) := by decide +kernel
theorem dX7_faultOfCells_10 : decode cX7_faultOfCells 10 = .ok (.iload_n 2, 1) := by decide +kernel
theorem dX7_faultOfCells_11 : decode cX7_faultOfCells 11 = .ok (.ifCond .eq 17, 3) := by decide +kernel
theorem dX7_faultOfCells_14 : decode cX7_faultOfCells 14 = .ok (.iload_n 1, 1) := by decide +kernel
theorem dX7_faultOfCells_15 : decode cX7_faultOfCells 15 = .ok (.ifCond .lt 17, 3) := by decide +kernel
theorem dX7_faultOfCells_18 : decode cX7_faultOfCells 18 = .ok (.iload_n 1, 1) := by decide +kernel
theorem dX7_faultOfCells_19 : decode cX7_faultOfCells 19 = .ok (.aload_n 0, 1) := by decide +kernel
theorem dX7_faultOfCells_20 : decode cX7_faultOfCells 20 = .ok (.getfield 13, 3) := by decide +kernel
theorem dX7_faultOfCells_23 : decode cX7_faultOfCells 23 = .ok (.iload_n 2, 1) := by decide +kernel
theorem dX7_faultOfCells_24 : decode cX7_faultOfCells 24 = .ok (.isub, 1) := by decide +kernel
theorem dX7_faultOfCells_25 : decode cX7_faultOfCells 25 = .ok (.if_icmp .gt 7, 3) := by decide +kernel
theorem dX7_faultOfCells_28 : decode cX7_faultOfCells 28 = .ok (.iconst 1, 1) := by decide +kernel
theorem dX7_faultOfCells_29 : decode cX7_faultOfCells 29 = .ok (.goto 4, 3) := by decide +kernel
theorem dX7_faultOfCells_32 : decode cX7_faultOfCells 32 = .ok (.iconst 0, 1) := by decide +kernel
theorem dX7_faultOfCells_33 : decode cX7_faultOfCells 33 = .ok (.istore_n 3, 1) := by decide +kernel
theorem dX7_faultOfCells_34 : decode cX7_faultOfCells 34 = .ok (.iload_n 3, 1) := by decide +kernel
theorem dX7_faultOfCells_35 : decode cX7_faultOfCells 35 = .ok (.ifCond .eq 7, 3) := by decide +kernel
theorem dX7_faultOfCells_38 : decode cX7_faultOfCells 38 = .ok (.iconst 0, 1) := by decide +kernel
theorem dX7_faultOfCells_39 : decode cX7_faultOfCells 39 = .ok (.goto 4, 3) := by decide +kernel
theorem dX7_faultOfCells_42 : decode cX7_faultOfCells 42 = .ok (.iconst 2, 1) := by decide +kernel
theorem dX7_faultOfCells_43 : decode cX7_faultOfCells 43 = .ok (.ireturn, 1) := by decide +kernel
theorem dX7_set_0 : decode cX7_set 0 = .ok (.aload_n 0, 1) := by decide +kernel
theorem dX7_set_1 : decode cX7_set 1 = .ok (.getfield 9, 3) := by decide +kernel
theorem dX7_set_4 : decode cX7_set 4 = .ok (.ifCond .ne 14, 3) := by decide +kernel
theorem dX7_set_7 : decode cX7_set 7 = .ok (.aload_n 0, 1) := by decide +kernel
theorem dX7_set_8 : decode cX7_set 8 = .ok (.getfield 16, 3) := by decide +kernel
theorem dX7_set_11 : decode cX7_set 11 = .ok (.iload_n 1, 1) := by decide +kernel
theorem dX7_set_12 : decode cX7_set 12 = .ok (.iload_n 2, 1) := by decide +kernel
theorem dX7_set_13 : decode cX7_set 13 = .ok (.i2b, 1) := by decide +kernel
theorem dX7_set_14 : decode cX7_set 14 = .ok (.iastore, 1) := by decide +kernel
theorem dX7_set_15 : decode cX7_set 15 = .ok (.goto 29, 3) := by decide +kernel
theorem dX7_set_18 : decode cX7_set 18 = .ok (.aload_n 0, 1) := by decide +kernel
theorem dX7_set_19 : decode cX7_set 19 = .ok (.getfield 9, 3) := by decide +kernel
theorem dX7_set_22 : decode cX7_set 22 = .ok (.iconst 1, 1) := by decide +kernel
theorem dX7_set_23 : decode cX7_set 23 = .ok (.if_icmp .ne 14, 3) := by decide +kernel
theorem dX7_set_26 : decode cX7_set 26 = .ok (.aload_n 0, 1) := by decide +kernel
theorem dX7_set_27 : decode cX7_set 27 = .ok (.getfield 16, 3) := by decide +kernel
theorem dX7_set_30 : decode cX7_set 30 = .ok (.iload_n 1, 1) := by decide +kernel
theorem dX7_set_31 : decode cX7_set 31 = .ok (.iload_n 2, 1) := by decide +kernel
theorem dX7_set_32 : decode cX7_set 32 = .ok (.i2s, 1) := by decide +kernel
theorem dX7_set_33 : decode cX7_set 33 = .ok (.iastore, 1) := by decide +kernel
theorem dX7_set_34 : decode cX7_set 34 = .ok (.goto 10, 3) := by decide +kernel
theorem dX7_set_37 : decode cX7_set 37 = .ok (.aload_n 0, 1) := by decide +kernel
theorem dX7_set_38 : decode cX7_set 38 = .ok (.getfield 16, 3) := by decide +kernel
theorem dX7_set_41 : decode cX7_set 41 = .ok (.iload_n 1, 1) := by decide +kernel
theorem dX7_set_42 : decode cX7_set 42 = .ok (.iload_n 2, 1) := by decide +kernel
theorem dX7_set_43 : decode cX7_set 43 = .ok (.iastore, 1) := by decide +kernel
theorem dX7_set_44 : decode cX7_set 44 = .ok (.return_, 1) := by decide +kernel
theorem dX7_get_0 : decode cX7_get 0 = .ok (.aload_n 0, 1) := by decide +kernel
theorem dX7_get_1 : decode cX7_get 1 = .ok (.getfield 16, 3) := by decide +kernel
theorem dX7_get_4 : decode cX7_get 4 = .ok (.iload_n 1, 1) := by decide +kernel
theorem dX7_get_5 : decode cX7_get 5 = .ok (.iaload, 1) := by decide +kernel
theorem dX7_get_6 : decode cX7_get 6 = .ok (.ireturn, 1) := by decide +kernel
theorem dX8_init_0 : decode cX8_init 0 = .ok (.aload_n 0, 1) := by decide +kernel
theorem dX8_init_1 : decode cX8_init 1 = .ok (.invokespecial 3, 3) := by decide +kernel
theorem dX8_init_4 : decode cX8_init 4 = .ok (.aload_n 0, 1) := by decide +kernel
theorem dX8_init_5 : decode cX8_init 5 = .ok (.iconst 0, 1) := by decide +kernel
theorem dX8_init_6 : decode cX8_init 6 = .ok (.putfield 9, 3) := by decide +kernel
theorem dX8_init_9 : decode cX8_init 9 = .ok (.aload_n 0, 1) := by decide +kernel
theorem dX8_init_10 : decode cX8_init 10 = .ok (.bipush 10, 2) := by decide +kernel
theorem dX8_init_12 : decode cX8_init 12 = .ok (.newarray .boolean, 2) := by decide +kernel
theorem dX8_init_14 : decode cX8_init 14 = .ok (.putfield 15, 3) := by decide +kernel
theorem dX8_init_17 : decode cX8_init 17 = .ok (.aload_n 0, 1) := by decide +kernel
theorem dX8_init_18 : decode cX8_init 18 = .ok (.bipush 10, 2) := by decide +kernel
theorem dX8_init_20 : decode cX8_init 20 = .ok (.newarray .int, 2) := by decide +kernel
theorem dX8_init_22 : decode cX8_init 22 = .ok (.putfield 19, 3) := by decide +kernel
theorem dX8_init_25 : decode cX8_init 25 = .ok (.aload_n 0, 1) := by decide +kernel
theorem dX8_init_26 : decode cX8_init 26 = .ok (.bipush 10, 2) := by decide +kernel
theorem dX8_init_28 : decode cX8_init 28 = .ok (.newarray .int, 2) := by decide +kernel
theorem dX8_init_30 : decode cX8_init 30 = .ok (.putfield 23, 3) := by decide +kernel
theorem dX8_init_33 : decode cX8_init 33 = .ok (.return_, 1) := by decide +kernel
theorem dX8_isPressure_0 : decode cX8_isPressure 0 = .ok (.iload_n 0, 1) := by decide +kernel
theorem dX8_isPressure_1 : decode cX8_isPressure 1 = .ok (.sipush 1000, 3) := by decide +kernel
theorem dX8_isPressure_4 : decode cX8_isPressure 4 = .ok (.invokestatic 26, 3) := by decide +kernel
theorem dX8_isPressure_7 : decode cX8_isPressure 7 = .ok (.ireturn, 1) := by decide +kernel
theorem dX8_append_0 : decode cX8_append 0 = .ok (.aload_n 0, 1) := by decide +kernel
theorem dX8_append_1 : decode cX8_append 1 = .ok (.getfield 23, 3) := by decide +kernel
theorem dX8_append_4 : decode cX8_append 4 = .ok (.aload_n 0, 1) := by decide +kernel
theorem dX8_append_5 : decode cX8_append 5 = .ok (.getfield 9, 3) := by decide +kernel
theorem dX8_append_8 : decode cX8_append 8 = .ok (.iload_n 1, 1) := by decide +kernel
theorem dX8_append_9 : decode cX8_append 9 = .ok (.iastore, 1) := by decide +kernel
theorem dX8_append_10 : decode cX8_append 10 = .ok (.aload_n 0, 1) := by decide +kernel
theorem dX8_append_11 : decode cX8_append 11 = .ok (.getfield 15, 3) := by decide +kernel
theorem dX8_append_14 : decode cX8_append 14 = .ok (.aload_n 0, 1) := by decide +kernel
theorem dX8_append_15 : decode cX8_append 15 = .ok (.getfield 9, 3) := by decide +kernel
theorem dX8_append_18 : decode cX8_append 18 = .ok (.iconst 1, 1) := by decide +kernel
theorem dX8_append_19 : decode cX8_append 19 = .ok (.bastore, 1) := by decide +kernel
theorem dX8_append_20 : decode cX8_append 20 = .ok (.aload_n 0, 1) := by decide +kernel
theorem dX8_append_21 : decode cX8_append 21 = .ok (.getfield 19, 3) := by decide +kernel
theorem dX8_append_24 : decode cX8_append 24 = .ok (.aload_n 0, 1) := by decide +kernel
theorem dX8_append_25 : decode cX8_append 25 = .ok (.getfield 9, 3) := by decide +kernel
theorem dX8_append_28 : decode cX8_append 28 = .ok (.iconst 0, 1) := by decide +kernel
theorem dX8_append_29 : decode cX8_append 29 = .ok (.iastore, 1) := by decide +kernel
theorem dX8_append_30 : decode cX8_append 30 = .ok (.aload_n 0, 1) := by decide +kernel
theorem dX8_append_31 : decode cX8_append 31 = .ok (.dup, 1) := by decide +kernel
theorem dX8_append_32 : decode cX8_append 32 = .ok (.getfield 9, 3) := by decide +kernel
theorem dX8_append_35 : decode cX8_append 35 = .ok (.iconst 1, 1) := by decide +kernel
theorem dX8_append_36 : decode cX8_append 36 = .ok (.iadd, 1) := by decide +kernel
theorem dX8_append_37 : decode cX8_append 37 = .ok (.putfield 9, 3) := by decide +kernel
theorem dX8_append_40 : decode cX8_append 40 = .ok (.aload_n 0, 1) := by decide +kernel
theorem dX8_append_41 : decode cX8_append 41 = .ok (.getfield 9, 3) := by decide +kernel
theorem dX8_append_44 : decode cX8_append 44 = .ok (.iconst 1, 1) := by decide +kernel
theorem dX8_append_45 : decode cX8_append 45 = .ok (.isub, 1) := by decide +kernel
theorem dX8_append_46 : decode cX8_append 46 = .ok (.ireturn, 1) := by decide +kernel
theorem dX8_takeFrom_0 : decode cX8_takeFrom 0 = .ok (.iconst 0, 1) := by decide +kernel
theorem dX8_takeFrom_1 : decode cX8_takeFrom 1 = .ok (.istore_n 3, 1) := by decide +kernel
theorem dX8_takeFrom_2 : decode cX8_takeFrom 2 = .ok (.iload_n 3, 1) := by decide +kernel
theorem dX8_takeFrom_3 : decode cX8_takeFrom 3 = .ok (.aload_n 0, 1) := by decide +kernel
theorem dX8_takeFrom_4 : decode cX8_takeFrom 4 = .ok (.getfield 9, 3) := by decide +kernel
theorem dX8_takeFrom_7 : decode cX8_takeFrom 7 = .ok (.if_icmp .ge 58, 3) := by decide +kernel
theorem dX8_takeFrom_10 : decode cX8_takeFrom 10 = .ok (.aload_n 1, 1) := by decide +kernel
theorem dX8_takeFrom_11 : decode cX8_takeFrom 11 = .ok (.iload_n 2, 1) := by decide +kernel
theorem dX8_takeFrom_12 : decode cX8_takeFrom 12 = .ok (.iload_n 3, 1) := by decide +kernel
theorem dX8_takeFrom_13 : decode cX8_takeFrom 13 = .ok (.iadd, 1) := by decide +kernel
theorem dX8_takeFrom_14 : decode cX8_takeFrom 14 = .ok (.invokevirtual 30, 3) := by decide +kernel
theorem dX8_takeFrom_17 : decode cX8_takeFrom 17 = .ok (.istore 4, 2) := by decide +kernel
theorem dX8_takeFrom_19 : decode cX8_takeFrom 19 = .ok (.aload_n 0, 1) := by decide +kernel
theorem dX8_takeFrom_20 : decode cX8_takeFrom 20 = .ok (.getfield 15, 3) := by decide +kernel
theorem dX8_takeFrom_23 : decode cX8_takeFrom 23 = .ok (.iload_n 3, 1) := by decide +kernel
theorem dX8_takeFrom_24 : decode cX8_takeFrom 24 = .ok (.iload 4, 2) := by decide +kernel
theorem dX8_takeFrom_26 : decode cX8_takeFrom 26 = .ok (.invokestatic 36, 3) := by decide +kernel
theorem dX8_takeFrom_29 : decode cX8_takeFrom 29 = .ok (.ifCond .ne 7, 3) := by decide +kernel
theorem dX8_takeFrom_32 : decode cX8_takeFrom 32 = .ok (.iconst 1, 1) := by decide +kernel
theorem dX8_takeFrom_33 : decode cX8_takeFrom 33 = .ok (.goto 4, 3) := by decide +kernel
theorem dX8_takeFrom_36 : decode cX8_takeFrom 36 = .ok (.iconst 0, 1) := by decide +kernel
theorem dX8_takeFrom_37 : decode cX8_takeFrom 37 = .ok (.bastore, 1) := by decide +kernel
theorem dX8_takeFrom_38 : decode cX8_takeFrom 38 = .ok (.aload_n 0, 1) := by decide +kernel
theorem dX8_takeFrom_39 : decode cX8_takeFrom 39 = .ok (.getfield 19, 3) := by decide +kernel
theorem dX8_takeFrom_42 : decode cX8_takeFrom 42 = .ok (.iload_n 3, 1) := by decide +kernel
theorem dX8_takeFrom_43 : decode cX8_takeFrom 43 = .ok (.aload_n 0, 1) := by decide +kernel
theorem dX8_takeFrom_44 : decode cX8_takeFrom 44 = .ok (.getfield 15, 3) := by decide +kernel
theorem dX8_takeFrom_47 : decode cX8_takeFrom 47 = .ok (.iload_n 3, 1) := by decide +kernel
theorem dX8_takeFrom_48 : decode cX8_takeFrom 48 = .ok (.baload, 1) := by decide +kernel
theorem dX8_takeFrom_49 : decode cX8_takeFrom 49 = .ok (.ifCond .eq 7, 3) := by decide +kernel
theorem dX8_takeFrom_52 : decode cX8_takeFrom 52 = .ok (.iconst 0, 1) := by decide +kernel
theorem dX8_takeFrom_53 : decode cX8_takeFrom 53 = .ok (.goto 5, 3) := by decide +kernel
theorem dX8_takeFrom_56 : decode cX8_takeFrom 56 = .ok (.iload 4, 2) := by decide +kernel
theorem dX8_takeFrom_58 : decode cX8_takeFrom 58 = .ok (.iastore, 1) := by decide +kernel
theorem dX8_takeFrom_59 : decode cX8_takeFrom 59 = .ok (.iinc 3 1, 3) := by decide +kernel
theorem dX8_takeFrom_62 : decode cX8_takeFrom 62 = .ok (.goto (-60), 3) := by decide +kernel
theorem dX8_takeFrom_65 : decode cX8_takeFrom 65 = .ok (.return_, 1) := by decide +kernel
theorem dX8_howManyLost_0 : decode cX8_howManyLost 0 = .ok (.iconst 0, 1) := by decide +kernel
theorem dX8_howManyLost_1 : decode cX8_howManyLost 1 = .ok (.istore_n 1, 1) := by decide +kernel
theorem dX8_howManyLost_2 : decode cX8_howManyLost 2 = .ok (.iconst 0, 1) := by decide +kernel
theorem dX8_howManyLost_3 : decode cX8_howManyLost 3 = .ok (.istore_n 2, 1) := by decide +kernel
theorem dX8_howManyLost_4 : decode cX8_howManyLost 4 = .ok (.iload_n 2, 1) := by decide +kernel
theorem dX8_howManyLost_5 : decode cX8_howManyLost 5 = .ok (.aload_n 0, 1) := by decide +kernel
theorem dX8_howManyLost_6 : decode cX8_howManyLost 6 = .ok (.getfield 9, 3) := by decide +kernel
theorem dX8_howManyLost_9 : decode cX8_howManyLost 9 = .ok (.if_icmp .ge 26, 3) := by decide +kernel
theorem dX8_howManyLost_12 : decode cX8_howManyLost 12 = .ok (.iload_n 1, 1) := by decide +kernel
theorem dX8_howManyLost_13 : decode cX8_howManyLost 13 = .ok (.aload_n 0, 1) := by decide +kernel
theorem dX8_howManyLost_14 : decode cX8_howManyLost 14 = .ok (.getfield 15, 3) := by decide +kernel
theorem dX8_howManyLost_17 : decode cX8_howManyLost 17 = .ok (.iload_n 2, 1) := by decide +kernel
theorem dX8_howManyLost_18 : decode cX8_howManyLost 18 = .ok (.baload, 1) := by decide +kernel
theorem dX8_howManyLost_19 : decode cX8_howManyLost 19 = .ok (.ifCond .eq 7, 3) := by decide +kernel
theorem dX8_howManyLost_22 : decode cX8_howManyLost 22 = .ok (.iconst 1, 1) := by decide +kernel
theorem dX8_howManyLost_23 : decode cX8_howManyLost 23 = .ok (.goto 4, 3) := by decide +kernel
theorem dX8_howManyLost_26 : decode cX8_howManyLost 26 = .ok (.iconst 0, 1) := by decide +kernel
theorem dX8_howManyLost_27 : decode cX8_howManyLost 27 = .ok (.iadd, 1) := by decide +kernel
theorem dX8_howManyLost_28 : decode cX8_howManyLost 28 = .ok (.istore_n 1, 1) := by decide +kernel
theorem dX8_howManyLost_29 : decode cX8_howManyLost 29 = .ok (.iinc 2 1, 3) := by decide +kernel
theorem dX8_howManyLost_32 : decode cX8_howManyLost 32 = .ok (.goto (-28), 3) := by decide +kernel
theorem dX8_howManyLost_35 : decode cX8_howManyLost 35 = .ok (.iload_n 1, 1) := by decide +kernel
theorem dX8_howManyLost_36 : decode cX8_howManyLost 36 = .ok (.ireturn, 1) := by decide +kernel
theorem dX8_sum_0 : decode cX8_sum 0 = .ok (.iconst 0, 1) := by decide +kernel
theorem dX8_sum_1 : decode cX8_sum 1 = .ok (.istore_n 1, 1) := by decide +kernel
theorem dX8_sum_2 : decode cX8_sum 2 = .ok (.iconst 0, 1) := by decide +kernel
theorem dX8_sum_3 : decode cX8_sum 3 = .ok (.istore_n 2, 1) := by decide +kernel
theorem dX8_sum_4 : decode cX8_sum 4 = .ok (.iload_n 2, 1) := by decide +kernel
theorem dX8_sum_5 : decode cX8_sum 5 = .ok (.aload_n 0, 1) := by decide +kernel
theorem dX8_sum_6 : decode cX8_sum 6 = .ok (.getfield 9, 3) := by decide +kernel
theorem dX8_sum_9 : decode cX8_sum 9 = .ok (.if_icmp .ge 25, 3) := by decide +kernel
theorem dX8_sum_12 : decode cX8_sum 12 = .ok (.iload_n 1, 1) := by decide +kernel
theorem dX8_sum_13 : decode cX8_sum 13 = .ok (.aload_n 0, 1) := by decide +kernel
theorem dX8_sum_14 : decode cX8_sum 14 = .ok (.getfield 23, 3) := by decide +kernel
theorem dX8_sum_17 : decode cX8_sum 17 = .ok (.iload_n 2, 1) := by decide +kernel
theorem dX8_sum_18 : decode cX8_sum 18 = .ok (.iaload, 1) := by decide +kernel
theorem dX8_sum_19 : decode cX8_sum 19 = .ok (.aload_n 0, 1) := by decide +kernel
theorem dX8_sum_20 : decode cX8_sum 20 = .ok (.getfield 19, 3) := by decide +kernel
theorem dX8_sum_23 : decode cX8_sum 23 = .ok (.iload_n 2, 1) := by decide +kernel
theorem dX8_sum_24 : decode cX8_sum 24 = .ok (.iaload, 1) := by decide +kernel
theorem dX8_sum_25 : decode cX8_sum 25 = .ok (.imul, 1) := by decide +kernel
theorem dX8_sum_26 : decode cX8_sum 26 = .ok (.iadd, 1) := by decide +kernel
theorem dX8_sum_27 : decode cX8_sum 27 = .ok (.istore_n 1, 1) := by decide +kernel
theorem dX8_sum_28 : decode cX8_sum 28 = .ok (.iinc 2 1, 3) := by decide +kernel
theorem dX8_sum_31 : decode cX8_sum 31 = .ok (.goto (-27), 3) := by decide +kernel
theorem dX8_sum_34 : decode cX8_sum 34 = .ok (.iload_n 1, 1) := by decide +kernel
theorem dX8_sum_35 : decode cX8_sum 35 = .ok (.ireturn, 1) := by decide +kernel
theorem dX8_compare_0 : decode cX8_compare 0 = .ok (.iload_n 1, 1) := by decide +kernel
theorem dX8_compare_1 : decode cX8_compare 1 = .ok (.aload_n 0, 1) := by decide +kernel
theorem dX8_compare_2 : decode cX8_compare 2 = .ok (.invokevirtual 40, 3) := by decide +kernel
theorem dX8_compare_5 : decode cX8_compare 5 = .ok (.isub, 1) := by decide +kernel
theorem dX8_compare_6 : decode cX8_compare 6 = .ok (.istore_n 3, 1) := by decide +kernel
theorem dX8_compare_7 : decode cX8_compare 7 = .ok (.iload_n 3, 1) := by decide +kernel
theorem dX8_compare_8 : decode cX8_compare 8 = .ok (.invokestatic 44, 3) := by decide +kernel
theorem dX8_compare_11 : decode cX8_compare 11 = .ok (.iload_n 2, 1) := by decide +kernel
theorem dX8_compare_12 : decode cX8_compare 12 = .ok (.if_icmp .gt 5, 3) := by decide +kernel
theorem dX8_compare_15 : decode cX8_compare 15 = .ok (.iconst 0, 1) := by decide +kernel
theorem dX8_compare_16 : decode cX8_compare 16 = .ok (.ireturn, 1) := by decide +kernel
theorem dX8_compare_17 : decode cX8_compare 17 = .ok (.bipush (-4), 2) := by decide +kernel
theorem dX8_compare_19 : decode cX8_compare 19 = .ok (.istore 4, 2) := by decide +kernel
theorem dX8_compare_21 : decode cX8_compare 21 = .ok (.iconst 0, 1) := by decide +kernel
theorem dX8_compare_22 : decode cX8_compare 22 = .ok (.istore 5, 2) := by decide +kernel
theorem dX8_compare_24 : decode cX8_compare 24 = .ok (.iload 5, 2) := by decide +kernel
theorem dX8_compare_26 : decode cX8_compare 26 = .ok (.aload_n 0, 1) := by decide +kernel
theorem dX8_compare_27 : decode cX8_compare 27 = .ok (.getfield 9, 3) := by decide +kernel
theorem dX8_compare_30 : decode cX8_compare 30 = .ok (.if_icmp .ge 33, 3) := by decide +kernel
theorem dX8_compare_33 : decode cX8_compare 33 = .ok (.aload_n 0, 1) := by decide +kernel
theorem dX8_compare_34 : decode cX8_compare 34 = .ok (.iload 5, 2) := by decide +kernel
theorem dX8_compare_36 : decode cX8_compare 36 = .ok (.iload_n 3, 1) := by decide +kernel
theorem dX8_compare_37 : decode cX8_compare 37 = .ok (.iload_n 2, 1) := by decide +kernel
theorem dX8_compare_38 : decode cX8_compare 38 = .ok (.invokevirtual 49, 3) := by decide +kernel
theorem dX8_compare_41 : decode cX8_compare 41 = .ok (.ifCond .eq 16, 3) := by decide +kernel
theorem dX8_compare_44 : decode cX8_compare 44 = .ok (.iload 4, 2) := by decide +kernel
theorem dX8_compare_46 : decode cX8_compare 46 = .ok (.bipush (-4), 2) := by decide +kernel
theorem dX8_compare_48 : decode cX8_compare 48 = .ok (.if_icmp .eq 5, 3) := by decide +kernel
theorem dX8_compare_51 : decode cX8_compare 51 = .ok (.iconst 2, 1) := by decide +kernel
theorem dX8_compare_52 : decode cX8_compare 52 = .ok (.ireturn, 1) := by decide +kernel
theorem dX8_compare_53 : decode cX8_compare 53 = .ok (.iload 5, 2) := by decide +kernel
theorem dX8_compare_55 : decode cX8_compare 55 = .ok (.istore 4, 2) := by decide +kernel
theorem dX8_compare_57 : decode cX8_compare 57 = .ok (.iinc 5 1, 3) := by decide +kernel
theorem dX8_compare_60 : decode cX8_compare 60 = .ok (.goto (-36), 3) := by decide +kernel
theorem dX8_compare_63 : decode cX8_compare 63 = .ok (.iload 4, 2) := by decide +kernel
theorem dX8_compare_65 : decode cX8_compare 65 = .ok (.bipush (-4), 2) := by decide +kernel
theorem dX8_compare_67 : decode cX8_compare 67 = .ok (.if_icmp .ne 7, 3) := by decide +kernel
theorem dX8_compare_70 : decode cX8_compare 70 = .ok (.iconst 1, 1) := by decide +kernel
theorem dX8_compare_71 : decode cX8_compare 71 = .ok (.goto 8, 3) := by decide +kernel
theorem dX8_compare_74 : decode cX8_compare 74 = .ok (.bipush 10, 2) := by decide +kernel
theorem dX8_compare_76 : decode cX8_compare 76 = .ok (.iload 4, 2) := by decide +kernel
theorem dX8_compare_78 : decode cX8_compare 78 = .ok (.iadd, 1) := by decide +kernel
theorem dX8_compare_79 : decode cX8_compare 79 = .ok (.ireturn, 1) := by decide +kernel
theorem dX8_canMend_0 : decode cX8_canMend 0 = .ok (.aload_n 0, 1) := by decide +kernel
theorem dX8_canMend_1 : decode cX8_canMend 1 = .ok (.getfield 23, 3) := by decide +kernel
theorem dX8_canMend_4 : decode cX8_canMend 4 = .ok (.iload_n 1, 1) := by decide +kernel
theorem dX8_canMend_5 : decode cX8_canMend 5 = .ok (.iaload, 1) := by decide +kernel
theorem dX8_canMend_6 : decode cX8_canMend 6 = .ok (.iconst 1, 1) := by decide +kernel
theorem dX8_canMend_7 : decode cX8_canMend 7 = .ok (.if_icmp .ge 5, 3) := by decide +kernel
theorem dX8_canMend_10 : decode cX8_canMend 10 = .ok (.iconst 0, 1) := by decide +kernel
theorem dX8_canMend_11 : decode cX8_canMend 11 = .ok (.ireturn, 1) := by decide +kernel
theorem dX8_canMend_12 : decode cX8_canMend 12 = .ok (.aload_n 0, 1) := by decide +kernel
theorem dX8_canMend_13 : decode cX8_canMend 13 = .ok (.getfield 23, 3) := by decide +kernel
theorem dX8_canMend_16 : decode cX8_canMend 16 = .ok (.iload_n 1, 1) := by decide +kernel
theorem dX8_canMend_17 : decode cX8_canMend 17 = .ok (.iaload, 1) := by decide +kernel
theorem dX8_canMend_18 : decode cX8_canMend 18 = .ok (.aload_n 0, 1) := by decide +kernel
theorem dX8_canMend_19 : decode cX8_canMend 19 = .ok (.getfield 19, 3) := by decide +kernel
theorem dX8_canMend_22 : decode cX8_canMend 22 = .ok (.iload_n 1, 1) := by decide +kernel
theorem dX8_canMend_23 : decode cX8_canMend 23 = .ok (.iaload, 1) := by decide +kernel
theorem dX8_canMend_24 : decode cX8_canMend 24 = .ok (.imul, 1) := by decide +kernel
theorem dX8_canMend_25 : decode cX8_canMend 25 = .ok (.iload_n 2, 1) := by decide +kernel
theorem dX8_canMend_26 : decode cX8_canMend 26 = .ok (.iadd, 1) := by decide +kernel
theorem dX8_canMend_27 : decode cX8_canMend 27 = .ok (.istore 4, 2) := by decide +kernel
theorem dX8_canMend_29 : decode cX8_canMend 29 = .ok (.iload_n 3, 1) := by decide +kernel
theorem dX8_canMend_30 : decode cX8_canMend 30 = .ok (.iload 4, 2) := by decide +kernel
theorem dX8_canMend_32 : decode cX8_canMend 32 = .ok (.isub, 1) := by decide +kernel
theorem dX8_canMend_33 : decode cX8_canMend 33 = .ok (.aload_n 0, 1) := by decide +kernel
theorem dX8_canMend_34 : decode cX8_canMend 34 = .ok (.getfield 23, 3) := by decide +kernel
theorem dX8_canMend_37 : decode cX8_canMend 37 = .ok (.iload_n 1, 1) := by decide +kernel
theorem dX8_canMend_38 : decode cX8_canMend 38 = .ok (.iaload, 1) := by decide +kernel
theorem dX8_canMend_39 : decode cX8_canMend 39 = .ok (.invokestatic 53, 3) := by decide +kernel
theorem dX8_canMend_42 : decode cX8_canMend 42 = .ok (.ineg, 1) := by decide +kernel
theorem dX8_canMend_43 : decode cX8_canMend 43 = .ok (.istore 5, 2) := by decide +kernel
theorem dX8_canMend_45 : decode cX8_canMend 45 = .ok (.iload 4, 2) := by decide +kernel
theorem dX8_canMend_47 : decode cX8_canMend 47 = .ok (.iload_n 3, 1) := by decide +kernel
theorem dX8_canMend_48 : decode cX8_canMend 48 = .ok (.iadd, 1) := by decide +kernel
theorem dX8_canMend_49 : decode cX8_canMend 49 = .ok (.aload_n 0, 1) := by decide +kernel
theorem dX8_canMend_50 : decode cX8_canMend 50 = .ok (.getfield 23, 3) := by decide +kernel
theorem dX8_canMend_53 : decode cX8_canMend 53 = .ok (.iload_n 1, 1) := by decide +kernel
theorem dX8_canMend_54 : decode cX8_canMend 54 = .ok (.iaload, 1) := by decide +kernel
theorem dX8_canMend_55 : decode cX8_canMend 55 = .ok (.invokestatic 53, 3) := by decide +kernel
theorem dX8_canMend_58 : decode cX8_canMend 58 = .ok (.istore 6, 2) := by decide +kernel
theorem dX8_canMend_60 : decode cX8_canMend 60 = .ok (.iload 5, 2) := by decide +kernel
theorem dX8_canMend_62 : decode cX8_canMend 62 = .ok (.sipush (-1000), 3) := by decide +kernel
theorem dX8_canMend_65 : decode cX8_canMend 65 = .ok (.invokestatic 57, 3) := by decide +kernel
theorem dX8_canMend_68 : decode cX8_canMend 68 = .ok (.iload 6, 2) := by decide +kernel
theorem dX8_canMend_70 : decode cX8_canMend 70 = .ok (.sipush 1000, 3) := by decide +kernel
theorem dX8_canMend_73 : decode cX8_canMend 73 = .ok (.invokestatic 60, 3) := by decide +kernel
theorem dX8_canMend_76 : decode cX8_canMend 76 = .ok (.if_icmp .gt 7, 3) := by decide +kernel
theorem dX8_canMend_79 : decode cX8_canMend 79 = .ok (.iconst 1, 1) := by decide +kernel
theorem dX8_canMend_80 : decode cX8_canMend 80 = .ok (.goto 4, 3) := by decide +kernel
theorem dX8_canMend_83 : decode cX8_canMend 83 = .ok (.iconst 0, 1) := by decide +kernel
theorem dX8_canMend_84 : decode cX8_canMend 84 = .ok (.ireturn, 1) := by decide +kernel
theorem dX8_pressureOfLost_0 : decode cX8_pressureOfLost 0 = .ok (.iload_n 1, 1) := by decide +kernel
theorem dX8_pressureOfLost_1 : decode cX8_pressureOfLost 1 = .ok (.aload_n 0, 1) := by decide +kernel
theorem dX8_pressureOfLost_2 : decode cX8_pressureOfLost 2 = .ok (.invokevirtual 40, 3) := by decide +kernel
theorem dX8_pressureOfLost_5 : decode cX8_pressureOfLost 5 = .ok (.isub, 1) := by decide +kernel
theorem dX8_pressureOfLost_6 : decode cX8_pressureOfLost 6 = .ok (.istore_n 2, 1) := by decide +kernel
theorem dX8_pressureOfLost_7 : decode cX8_pressureOfLost 7 = .ok (.iconst 0, 1) := by decide +kernel
theorem dX8_pressureOfLost_8 : decode cX8_pressureOfLost 8 = .ok (.istore_n 3, 1) := by decide +kernel
theorem dX8_pressureOfLost_9 : decode cX8_pressureOfLost 9 = .ok (.iload_n 3, 1) := by decide +kernel
theorem dX8_pressureOfLost_10 : decode cX8_pressureOfLost 10 = .ok (.aload_n 0, 1) := by decide +kernel
theorem dX8_pressureOfLost_11 : decode cX8_pressureOfLost 11 = .ok (.getfield 9, 3) := by decide +kernel
theorem dX8_pressureOfLost_14 : decode cX8_pressureOfLost 14 = .ok (.if_icmp .ge 67, 3) := by decide +kernel
theorem dX8_pressureOfLost_17 : decode cX8_pressureOfLost 17 = .ok (.aload_n 0, 1) := by decide +kernel
theorem dX8_pressureOfLost_18 : decode cX8_pressureOfLost 18 = .ok (.getfield 15, 3) := by decide +kernel
theorem dX8_pressureOfLost_21 : decode cX8_pressureOfLost 21 = .ok (.iload_n 3, 1) := by decide +kernel
theorem dX8_pressureOfLost_22 : decode cX8_pressureOfLost 22 = .ok (.baload, 1) := by decide +kernel
theorem dX8_pressureOfLost_23 : decode cX8_pressureOfLost 23 = .ok (.ifCond .eq 52, 3) := by decide +kernel
theorem dX8_pressureOfLost_26 : decode cX8_pressureOfLost 26 = .ok (.aload_n 0, 1) := by decide +kernel
theorem dX8_pressureOfLost_27 : decode cX8_pressureOfLost 27 = .ok (.getfield 23, 3) := by decide +kernel
theorem dX8_pressureOfLost_30 : decode cX8_pressureOfLost 30 = .ok (.iload_n 3, 1) := by decide +kernel
theorem dX8_pressureOfLost_31 : decode cX8_pressureOfLost 31 = .ok (.iaload, 1) := by decide +kernel
theorem dX8_pressureOfLost_32 : decode cX8_pressureOfLost 32 = .ok (.ifCond .le 43, 3) := by decide +kernel
theorem dX8_pressureOfLost_35 : decode cX8_pressureOfLost 35 = .ok (.aload_n 0, 1) := by decide +kernel
theorem dX8_pressureOfLost_36 : decode cX8_pressureOfLost 36 = .ok (.getfield 23, 3) := by decide +kernel
theorem dX8_pressureOfLost_39 : decode cX8_pressureOfLost 39 = .ok (.iload_n 3, 1) := by decide +kernel
theorem dX8_pressureOfLost_40 : decode cX8_pressureOfLost 40 = .ok (.iaload, 1) := by decide +kernel
theorem dX8_pressureOfLost_41 : decode cX8_pressureOfLost 41 = .ok (.iconst 2, 1) := by decide +kernel
theorem dX8_pressureOfLost_42 : decode cX8_pressureOfLost 42 = .ok (.iload_n 2, 1) := by decide +kernel
theorem dX8_pressureOfLost_43 : decode cX8_pressureOfLost 43 = .ok (.imul, 1) := by decide +kernel
theorem dX8_pressureOfLost_44 : decode cX8_pressureOfLost 44 = .ok (.isub, 1) := by decide +kernel
theorem dX8_pressureOfLost_45 : decode cX8_pressureOfLost 45 = .ok (.iconst 2, 1) := by decide +kernel
theorem dX8_pressureOfLost_46 : decode cX8_pressureOfLost 46 = .ok (.aload_n 0, 1) := by decide +kernel
theorem dX8_pressureOfLost_47 : decode cX8_pressureOfLost 47 = .ok (.getfield 23, 3) := by decide +kernel
theorem dX8_pressureOfLost_50 : decode cX8_pressureOfLost 50 = .ok (.iload_n 3, 1) := by decide +kernel
theorem dX8_pressureOfLost_51 : decode cX8_pressureOfLost 51 = .ok (.iaload, 1) := by decide +kernel
theorem dX8_pressureOfLost_52 : decode cX8_pressureOfLost 52 = .ok (.imul, 1) := by decide +kernel
theorem dX8_pressureOfLost_53 : decode cX8_pressureOfLost 53 = .ok (.invokestatic 53, 3) := by decide +kernel
theorem dX8_pressureOfLost_56 : decode cX8_pressureOfLost 56 = .ok (.ineg, 1) := by decide +kernel
theorem dX8_pressureOfLost_57 : decode cX8_pressureOfLost 57 = .ok (.istore 4, 2) := by decide +kernel
theorem dX8_pressureOfLost_59 : decode cX8_pressureOfLost 59 = .ok (.iload 4, 2) := by decide +kernel
theorem dX8_pressureOfLost_61 : decode cX8_pressureOfLost 61 = .ok (.invokestatic 36, 3) := by decide +kernel
theorem dX8_pressureOfLost_64 : decode cX8_pressureOfLost 64 = .ok (.ifCond .eq 8, 3) := by decide +kernel
theorem dX8_pressureOfLost_67 : decode cX8_pressureOfLost 67 = .ok (.iload 4, 2) := by decide +kernel
theorem dX8_pressureOfLost_69 : decode cX8_pressureOfLost 69 = .ok (.goto 5, 3) := by decide +kernel
theorem dX8_pressureOfLost_72 : decode cX8_pressureOfLost 72 = .ok (.bipush (-4), 2) := by decide +kernel
theorem dX8_pressureOfLost_74 : decode cX8_pressureOfLost 74 = .ok (.ireturn, 1) := by decide +kernel
theorem dX8_pressureOfLost_75 : decode cX8_pressureOfLost 75 = .ok (.iinc 3 1, 3) := by decide +kernel
theorem dX8_pressureOfLost_78 : decode cX8_pressureOfLost 78 = .ok (.goto (-69), 3) := by decide +kernel
theorem dX8_pressureOfLost_81 : decode cX8_pressureOfLost 81 = .ok (.bipush (-4), 2) := by decide +kernel
theorem dX8_pressureOfLost_83 : decode cX8_pressureOfLost 83 = .ok (.ireturn, 1) := by decide +kernel
