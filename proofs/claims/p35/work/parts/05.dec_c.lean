theorem dX9_init_0 : decode cX9_init 0 = .ok (.aload_n 0, 1) := by decide +kernel
theorem dX9_init_1 : decode cX9_init 1 = .ok (.invokespecial 1, 3) := by decide +kernel
theorem dX9_init_4 : decode cX9_init 4 = .ok (.aload_n 0, 1) := by decide +kernel
theorem dX9_init_5 : decode cX9_init 5 = .ok (.new 7, 3) := by decide +kernel
theorem dX9_init_8 : decode cX9_init 8 = .ok (.dup, 1) := by decide +kernel
theorem dX9_init_9 : decode cX9_init 9 = .ok (.invokespecial 9, 3) := by decide +kernel
theorem dX9_init_12 : decode cX9_init 12 = .ok (.putfield 10, 3) := by decide +kernel
theorem dX9_init_15 : decode cX9_init 15 = .ok (.aload_n 0, 1) := by decide +kernel
theorem dX9_init_16 : decode cX9_init 16 = .ok (.new 16, 3) := by decide +kernel
theorem dX9_init_19 : decode cX9_init 19 = .ok (.dup, 1) := by decide +kernel
theorem dX9_init_20 : decode cX9_init 20 = .ok (.invokespecial 18, 3) := by decide +kernel
theorem dX9_init_23 : decode cX9_init 23 = .ok (.putfield 19, 3) := by decide +kernel
theorem dX9_init_26 : decode cX9_init 26 = .ok (.aload_n 0, 1) := by decide +kernel
theorem dX9_init_27 : decode cX9_init 27 = .ok (.new 23, 3) := by decide +kernel
theorem dX9_init_30 : decode cX9_init 30 = .ok (.dup, 1) := by decide +kernel
theorem dX9_init_31 : decode cX9_init 31 = .ok (.invokespecial 25, 3) := by decide +kernel
theorem dX9_init_34 : decode cX9_init 34 = .ok (.putfield 26, 3) := by decide +kernel
theorem dX9_init_37 : decode cX9_init 37 = .ok (.aload_n 0, 1) := by decide +kernel
theorem dX9_init_38 : decode cX9_init 38 = .ok (.new 30, 3) := by decide +kernel
theorem dX9_init_41 : decode cX9_init 41 = .ok (.dup, 1) := by decide +kernel
theorem dX9_init_42 : decode cX9_init 42 = .ok (.invokespecial 32, 3) := by decide +kernel
theorem dX9_init_45 : decode cX9_init 45 = .ok (.putfield 33, 3) := by decide +kernel
theorem dX9_init_48 : decode cX9_init 48 = .ok (.aload_n 0, 1) := by decide +kernel
theorem dX9_init_49 : decode cX9_init 49 = .ok (.new 37, 3) := by decide +kernel
theorem dX9_init_52 : decode cX9_init 52 = .ok (.dup, 1) := by decide +kernel
theorem dX9_init_53 : decode cX9_init 53 = .ok (.invokespecial 39, 3) := by decide +kernel
theorem dX9_init_56 : decode cX9_init 56 = .ok (.putfield 40, 3) := by decide +kernel
theorem dX9_init_59 : decode cX9_init 59 = .ok (.aload_n 0, 1) := by decide +kernel
theorem dX9_init_60 : decode cX9_init 60 = .ok (.new 44, 3) := by decide +kernel
theorem dX9_init_63 : decode cX9_init 63 = .ok (.dup, 1) := by decide +kernel
theorem dX9_init_64 : decode cX9_init 64 = .ok (.invokespecial 46, 3) := by decide +kernel
theorem dX9_init_67 : decode cX9_init 67 = .ok (.putfield 47, 3) := by decide +kernel
theorem dX9_init_70 : decode cX9_init 70 = .ok (.aload_n 0, 1) := by decide +kernel
theorem dX9_init_71 : decode cX9_init 71 = .ok (.iconst 4, 1) := by decide +kernel
theorem dX9_init_72 : decode cX9_init 72 = .ok (.anewarray 51, 3) := by decide +kernel
theorem dX9_init_75 : decode cX9_init 75 = .ok (.putfield 53, 3) := by decide +kernel
theorem dX9_init_78 : decode cX9_init 78 = .ok (.iconst 0, 1) := by decide +kernel
theorem dX9_init_79 : decode cX9_init 79 = .ok (.istore_n 1, 1) := by decide +kernel
theorem dX9_init_80 : decode cX9_init 80 = .ok (.iload_n 1, 1) := by decide +kernel
theorem dX9_init_81 : decode cX9_init 81 = .ok (.iconst 4, 1) := by decide +kernel
theorem dX9_init_82 : decode cX9_init 82 = .ok (.if_icmp .ge 22, 3) := by decide +kernel
theorem dX9_init_85 : decode cX9_init 85 = .ok (.aload_n 0, 1) := by decide +kernel
theorem dX9_init_86 : decode cX9_init 86 = .ok (.getfield 53, 3) := by decide +kernel
theorem dX9_init_89 : decode cX9_init 89 = .ok (.iload_n 1, 1) := by decide +kernel
theorem dX9_init_90 : decode cX9_init 90 = .ok (.new 51, 3) := by decide +kernel
theorem dX9_init_93 : decode cX9_init 93 = .ok (.dup, 1) := by decide +kernel
theorem dX9_init_94 : decode cX9_init 94 = .ok (.invokespecial 57, 3) := by decide +kernel
theorem dX9_init_97 : decode cX9_init 97 = .ok (.aastore, 1) := by decide +kernel
theorem dX9_init_98 : decode cX9_init 98 = .ok (.iinc 1 1, 3) := by decide +kernel
theorem dX9_init_101 : decode cX9_init 101 = .ok (.goto (-21), 3) := by decide +kernel
theorem dX9_init_104 : decode cX9_init 104 = .ok (.return_, 1) := by decide +kernel
theorem dX9_first_0 : decode cX9_first 0 = .ok (.iload_n 1, 1) := by decide +kernel
theorem dX9_first_1 : decode cX9_first 1 = .ok (.iconst 3, 1) := by decide +kernel
theorem dX9_first_2 : decode cX9_first 2 = .ok (.invokestatic 58, 3) := by decide +kernel
theorem dX9_first_5 : decode cX9_first 5 = .ok (.ifCond .eq 20, 3) := by decide +kernel
theorem dX9_first_8 : decode cX9_first 8 = .ok (.iload_n 2, 1) := by decide +kernel
theorem dX9_first_9 : decode cX9_first 9 = .ok (.iconst 3, 1) := by decide +kernel
theorem dX9_first_10 : decode cX9_first 10 = .ok (.invokestatic 58, 3) := by decide +kernel
theorem dX9_first_13 : decode cX9_first 13 = .ok (.ifCond .eq 12, 3) := by decide +kernel
theorem dX9_first_16 : decode cX9_first 16 = .ok (.iload_n 3, 1) := by decide +kernel
theorem dX9_first_17 : decode cX9_first 17 = .ok (.bipush 100, 2) := by decide +kernel
theorem dX9_first_19 : decode cX9_first 19 = .ok (.invokestatic 62, 3) := by decide +kernel
theorem dX9_first_22 : decode cX9_first 22 = .ok (.ifCond .ne 5, 3) := by decide +kernel
theorem dX9_first_25 : decode cX9_first 25 = .ok (.iconst (-1), 1) := by decide +kernel
theorem dX9_first_26 : decode cX9_first 26 = .ok (.ireturn, 1) := by decide +kernel
theorem dX9_first_27 : decode cX9_first 27 = .ok (.aload_n 0, 1) := by decide +kernel
theorem dX9_first_28 : decode cX9_first 28 = .ok (.getfield 10, 3) := by decide +kernel
theorem dX9_first_31 : decode cX9_first 31 = .ok (.getfield 65, 3) := by decide +kernel
theorem dX9_first_34 : decode cX9_first 34 = .ok (.iload_n 1, 1) := by decide +kernel
theorem dX9_first_35 : decode cX9_first 35 = .ok (.aaload, 1) := by decide +kernel
theorem dX9_first_36 : decode cX9_first 36 = .ok (.iload_n 2, 1) := by decide +kernel
theorem dX9_first_37 : decode cX9_first 37 = .ok (.iload_n 3, 1) := by decide +kernel
theorem dX9_first_38 : decode cX9_first 38 = .ok (.iastore, 1) := by decide +kernel
theorem dX9_first_39 : decode cX9_first 39 = .ok (.iconst 1, 1) := by decide +kernel
theorem dX9_first_40 : decode cX9_first 40 = .ok (.ireturn, 1) := by decide +kernel
theorem dX9_second_0 : decode cX9_second 0 = .ok (.iload_n 1, 1) := by decide +kernel
theorem dX9_second_1 : decode cX9_second 1 = .ok (.iconst 3, 1) := by decide +kernel
theorem dX9_second_2 : decode cX9_second 2 = .ok (.invokestatic 58, 3) := by decide +kernel
theorem dX9_second_5 : decode cX9_second 5 = .ok (.ifCond .eq 21, 3) := by decide +kernel
theorem dX9_second_8 : decode cX9_second 8 = .ok (.iload_n 2, 1) := by decide +kernel
theorem dX9_second_9 : decode cX9_second 9 = .ok (.bipush 6, 2) := by decide +kernel
theorem dX9_second_11 : decode cX9_second 11 = .ok (.invokestatic 58, 3) := by decide +kernel
theorem dX9_second_14 : decode cX9_second 14 = .ok (.ifCond .eq 12, 3) := by decide +kernel
theorem dX9_second_17 : decode cX9_second 17 = .ok (.iload_n 3, 1) := by decide +kernel
theorem dX9_second_18 : decode cX9_second 18 = .ok (.bipush 20, 2) := by decide +kernel
theorem dX9_second_20 : decode cX9_second 20 = .ok (.invokestatic 62, 3) := by decide +kernel
theorem dX9_second_23 : decode cX9_second 23 = .ok (.ifCond .ne 5, 3) := by decide +kernel
theorem dX9_second_26 : decode cX9_second 26 = .ok (.iconst (-1), 1) := by decide +kernel
theorem dX9_second_27 : decode cX9_second 27 = .ok (.ireturn, 1) := by decide +kernel
theorem dX9_second_28 : decode cX9_second 28 = .ok (.aload_n 0, 1) := by decide +kernel
theorem dX9_second_29 : decode cX9_second 29 = .ok (.getfield 10, 3) := by decide +kernel
theorem dX9_second_32 : decode cX9_second 32 = .ok (.getfield 69, 3) := by decide +kernel
theorem dX9_second_35 : decode cX9_second 35 = .ok (.iload_n 1, 1) := by decide +kernel
theorem dX9_second_36 : decode cX9_second 36 = .ok (.aaload, 1) := by decide +kernel
theorem dX9_second_37 : decode cX9_second 37 = .ok (.iload_n 2, 1) := by decide +kernel
theorem dX9_second_38 : decode cX9_second 38 = .ok (.iload_n 3, 1) := by decide +kernel
theorem dX9_second_39 : decode cX9_second 39 = .ok (.iastore, 1) := by decide +kernel
theorem dX9_second_40 : decode cX9_second 40 = .ok (.iconst 1, 1) := by decide +kernel
theorem dX9_second_41 : decode cX9_second 41 = .ok (.ireturn, 1) := by decide +kernel
theorem dX9_reading_0 : decode cX9_reading 0 = .ok (.iload_n 1, 1) := by decide +kernel
theorem dX9_reading_1 : decode cX9_reading 1 = .ok (.iconst 3, 1) := by decide +kernel
theorem dX9_reading_2 : decode cX9_reading 2 = .ok (.invokestatic 58, 3) := by decide +kernel
theorem dX9_reading_5 : decode cX9_reading 5 = .ok (.ifCond .eq 13, 3) := by decide +kernel
theorem dX9_reading_8 : decode cX9_reading 8 = .ok (.iload_n 2, 1) := by decide +kernel
theorem dX9_reading_9 : decode cX9_reading 9 = .ok (.iload_n 3, 1) := by decide +kernel
theorem dX9_reading_10 : decode cX9_reading 10 = .ok (.iload 4, 2) := by decide +kernel
theorem dX9_reading_12 : decode cX9_reading 12 = .ok (.invokestatic 72, 3) := by decide +kernel
theorem dX9_reading_15 : decode cX9_reading 15 = .ok (.ifCond .ne 6, 3) := by decide +kernel
theorem dX9_reading_18 : decode cX9_reading 18 = .ok (.ldc 76, 2) := by decide +kernel
theorem dX9_reading_20 : decode cX9_reading 20 = .ok (.ireturn, 1) := by decide +kernel
theorem dX9_reading_21 : decode cX9_reading 21 = .ok (.aload_n 0, 1) := by decide +kernel
theorem dX9_reading_22 : decode cX9_reading 22 = .ok (.getfield 10, 3) := by decide +kernel
theorem dX9_reading_25 : decode cX9_reading 25 = .ok (.iload_n 1, 1) := by decide +kernel
theorem dX9_reading_26 : decode cX9_reading 26 = .ok (.iload_n 2, 1) := by decide +kernel
theorem dX9_reading_27 : decode cX9_reading 27 = .ok (.iload_n 3, 1) := by decide +kernel
theorem dX9_reading_28 : decode cX9_reading 28 = .ok (.iload 4, 2) := by decide +kernel
theorem dX9_reading_30 : decode cX9_reading 30 = .ok (.invokevirtual 77, 3) := by decide +kernel
theorem dX9_reading_33 : decode cX9_reading 33 = .ok (.ireturn, 1) := by decide +kernel
theorem dX9_back_0 : decode cX9_back 0 = .ok (.iload_n 1, 1) := by decide +kernel
theorem dX9_back_1 : decode cX9_back 1 = .ok (.iload_n 2, 1) := by decide +kernel
theorem dX9_back_2 : decode cX9_back 2 = .ok (.iload_n 3, 1) := by decide +kernel
theorem dX9_back_3 : decode cX9_back 3 = .ok (.invokestatic 81, 3) := by decide +kernel
theorem dX9_back_6 : decode cX9_back 6 = .ok (.ifCond .eq 16, 3) := by decide +kernel
theorem dX9_back_9 : decode cX9_back 9 = .ok (.iload 4, 2) := by decide +kernel
theorem dX9_back_11 : decode cX9_back 11 = .ok (.iconst 1, 1) := by decide +kernel
theorem dX9_back_12 : decode cX9_back 12 = .ok (.if_icmp .lt 10, 3) := by decide +kernel
theorem dX9_back_15 : decode cX9_back 15 = .ok (.iload 4, 2) := by decide +kernel
theorem dX9_back_17 : decode cX9_back 17 = .ok (.bipush 50, 2) := by decide +kernel
theorem dX9_back_19 : decode cX9_back 19 = .ok (.if_icmp .le 5, 3) := by decide +kernel
theorem dX9_back_22 : decode cX9_back 22 = .ok (.iconst (-1), 1) := by decide +kernel
theorem dX9_back_23 : decode cX9_back 23 = .ok (.ireturn, 1) := by decide +kernel
theorem dX9_back_24 : decode cX9_back 24 = .ok (.aload_n 0, 1) := by decide +kernel
theorem dX9_back_25 : decode cX9_back 25 = .ok (.getfield 10, 3) := by decide +kernel
theorem dX9_back_28 : decode cX9_back 28 = .ok (.iload_n 1, 1) := by decide +kernel
theorem dX9_back_29 : decode cX9_back 29 = .ok (.iload_n 2, 1) := by decide +kernel
theorem dX9_back_30 : decode cX9_back 30 = .ok (.iload_n 3, 1) := by decide +kernel
theorem dX9_back_31 : decode cX9_back 31 = .ok (.iload 4, 2) := by decide +kernel
theorem dX9_back_33 : decode cX9_back 33 = .ok (.invokevirtual 84, 3) := by decide +kernel
theorem dX9_back_36 : decode cX9_back 36 = .ok (.ireturn, 1) := by decide +kernel
theorem dX9_found_0 : decode cX9_found 0 = .ok (.iload_n 1, 1) := by decide +kernel
theorem dX9_found_1 : decode cX9_found 1 = .ok (.iconst 3, 1) := by decide +kernel
theorem dX9_found_2 : decode cX9_found 2 = .ok (.invokestatic 58, 3) := by decide +kernel
theorem dX9_found_5 : decode cX9_found 5 = .ok (.ifCond .eq 13, 3) := by decide +kernel
theorem dX9_found_8 : decode cX9_found 8 = .ok (.aload_n 0, 1) := by decide +kernel
theorem dX9_found_9 : decode cX9_found 9 = .ok (.getfield 10, 3) := by decide +kernel
theorem dX9_found_12 : decode cX9_found 12 = .ok (.getfield 87, 3) := by decide +kernel
theorem dX9_found_15 : decode cX9_found 15 = .ok (.iload_n 1, 1) := by decide +kernel
theorem dX9_found_16 : decode cX9_found 16 = .ok (.iaload, 1) := by decide +kernel
theorem dX9_found_17 : decode cX9_found 17 = .ok (.ireturn, 1) := by decide +kernel
theorem dX9_found_18 : decode cX9_found 18 = .ok (.iload_n 1, 1) := by decide +kernel
theorem dX9_found_19 : decode cX9_found 19 = .ok (.iconst 3, 1) := by decide +kernel
theorem dX9_found_20 : decode cX9_found 20 = .ok (.if_icmp .ne 19, 3) := by decide +kernel
theorem dX9_found_23 : decode cX9_found 23 = .ok (.aload_n 0, 1) := by decide +kernel
theorem dX9_found_24 : decode cX9_found 24 = .ok (.getfield 10, 3) := by decide +kernel
theorem dX9_found_27 : decode cX9_found 27 = .ok (.getfield 91, 3) := by decide +kernel
theorem dX9_found_30 : decode cX9_found 30 = .ok (.ifCond .eq 7, 3) := by decide +kernel
theorem dX9_found_33 : decode cX9_found 33 = .ok (.iconst 1, 1) := by decide +kernel
theorem dX9_found_34 : decode cX9_found 34 = .ok (.goto 4, 3) := by decide +kernel
theorem dX9_found_37 : decode cX9_found 37 = .ok (.iconst 0, 1) := by decide +kernel
theorem dX9_found_38 : decode cX9_found 38 = .ok (.ireturn, 1) := by decide +kernel
theorem dX9_found_39 : decode cX9_found 39 = .ok (.iload_n 1, 1) := by decide +kernel
theorem dX9_found_40 : decode cX9_found 40 = .ok (.iconst 4, 1) := by decide +kernel
theorem dX9_found_41 : decode cX9_found 41 = .ok (.if_icmp .ne 13, 3) := by decide +kernel
theorem dX9_found_44 : decode cX9_found 44 = .ok (.aload_n 0, 1) := by decide +kernel
theorem dX9_found_45 : decode cX9_found 45 = .ok (.getfield 10, 3) := by decide +kernel
theorem dX9_found_48 : decode cX9_found 48 = .ok (.getfield 95, 3) := by decide +kernel
theorem dX9_found_51 : decode cX9_found 51 = .ok (.goto 4, 3) := by decide +kernel
theorem dX9_found_54 : decode cX9_found 54 = .ok (.iconst 0, 1) := by decide +kernel
theorem dX9_found_55 : decode cX9_found 55 = .ok (.ireturn, 1) := by decide +kernel
theorem dX9_point_0 : decode cX9_point 0 = .ok (.iload_n 1, 1) := by decide +kernel
theorem dX9_point_1 : decode cX9_point 1 = .ok (.iload_n 2, 1) := by decide +kernel
theorem dX9_point_2 : decode cX9_point 2 = .ok (.iload_n 3, 1) := by decide +kernel
theorem dX9_point_3 : decode cX9_point 3 = .ok (.invokestatic 72, 3) := by decide +kernel
theorem dX9_point_6 : decode cX9_point 6 = .ok (.ifCond .eq 15, 3) := by decide +kernel
theorem dX9_point_9 : decode cX9_point 9 = .ok (.iload 4, 2) := by decide +kernel
theorem dX9_point_11 : decode cX9_point 11 = .ok (.iload 5, 2) := by decide +kernel
theorem dX9_point_13 : decode cX9_point 13 = .ok (.iload 6, 2) := by decide +kernel
theorem dX9_point_15 : decode cX9_point 15 = .ok (.invokestatic 81, 3) := by decide +kernel
theorem dX9_point_18 : decode cX9_point 18 = .ok (.ifCond .ne 5, 3) := by decide +kernel
theorem dX9_point_21 : decode cX9_point 21 = .ok (.iconst (-1), 1) := by decide +kernel
theorem dX9_point_22 : decode cX9_point 22 = .ok (.ireturn, 1) := by decide +kernel
theorem dX9_point_23 : decode cX9_point 23 = .ok (.aload_n 0, 1) := by decide +kernel
theorem dX9_point_24 : decode cX9_point 24 = .ok (.getfield 19, 3) := by decide +kernel
theorem dX9_point_27 : decode cX9_point 27 = .ok (.getfield 99, 3) := by decide +kernel
theorem dX9_point_30 : decode cX9_point 30 = .ok (.bipush 12, 2) := by decide +kernel
theorem dX9_point_32 : decode cX9_point 32 = .ok (.if_icmp .lt 6, 3) := by decide +kernel
theorem dX9_point_35 : decode cX9_point 35 = .ok (.bipush (-3), 2) := by decide +kernel
theorem dX9_point_37 : decode cX9_point 37 = .ok (.ireturn, 1) := by decide +kernel
theorem dX9_point_38 : decode cX9_point 38 = .ok (.aload_n 0, 1) := by decide +kernel
theorem dX9_point_39 : decode cX9_point 39 = .ok (.getfield 19, 3) := by decide +kernel
theorem dX9_point_42 : decode cX9_point 42 = .ok (.getfield 102, 3) := by decide +kernel
theorem dX9_point_45 : decode cX9_point 45 = .ok (.aload_n 0, 1) := by decide +kernel
theorem dX9_point_46 : decode cX9_point 46 = .ok (.getfield 19, 3) := by decide +kernel
theorem dX9_point_49 : decode cX9_point 49 = .ok (.getfield 99, 3) := by decide +kernel
theorem dX9_point_52 : decode cX9_point 52 = .ok (.aaload, 1) := by decide +kernel
theorem dX9_point_53 : decode cX9_point 53 = .ok (.iload_n 1, 1) := by decide +kernel
theorem dX9_point_54 : decode cX9_point 54 = .ok (.iload_n 2, 1) := by decide +kernel
theorem dX9_point_55 : decode cX9_point 55 = .ok (.iload_n 3, 1) := by decide +kernel
theorem dX9_point_56 : decode cX9_point 56 = .ok (.invokestatic 105, 3) := by decide +kernel
theorem dX9_point_59 : decode cX9_point 59 = .ok (.aload_n 0, 1) := by decide +kernel
theorem dX9_point_60 : decode cX9_point 60 = .ok (.getfield 19, 3) := by decide +kernel
theorem dX9_point_63 : decode cX9_point 63 = .ok (.getfield 109, 3) := by decide +kernel
theorem dX9_point_66 : decode cX9_point 66 = .ok (.aload_n 0, 1) := by decide +kernel
theorem dX9_point_67 : decode cX9_point 67 = .ok (.getfield 19, 3) := by decide +kernel
theorem dX9_point_70 : decode cX9_point 70 = .ok (.getfield 99, 3) := by decide +kernel
theorem dX9_point_73 : decode cX9_point 73 = .ok (.aaload, 1) := by decide +kernel
theorem dX9_point_74 : decode cX9_point 74 = .ok (.iload 4, 2) := by decide +kernel
theorem dX9_point_76 : decode cX9_point 76 = .ok (.iload 5, 2) := by decide +kernel
theorem dX9_point_78 : decode cX9_point 78 = .ok (.iload 6, 2) := by decide +kernel
theorem dX9_point_80 : decode cX9_point 80 = .ok (.invokestatic 105, 3) := by decide +kernel
theorem dX9_point_83 : decode cX9_point 83 = .ok (.aload_n 0, 1) := by decide +kernel
theorem dX9_point_84 : decode cX9_point 84 = .ok (.getfield 19, 3) := by decide +kernel
theorem dX9_point_87 : decode cX9_point 87 = .ok (.dup, 1) := by decide +kernel
theorem dX9_point_88 : decode cX9_point 88 = .ok (.getfield 99, 3) := by decide +kernel
theorem dX9_point_91 : decode cX9_point 91 = .ok (.iconst 1, 1) := by decide +kernel
theorem dX9_point_92 : decode cX9_point 92 = .ok (.iadd, 1) := by decide +kernel
theorem dX9_point_93 : decode cX9_point 93 = .ok (.putfield 99, 3) := by decide +kernel
theorem dX9_point_96 : decode cX9_point 96 = .ok (.aload_n 0, 1) := by decide +kernel
theorem dX9_point_97 : decode cX9_point 97 = .ok (.getfield 19, 3) := by decide +kernel
theorem dX9_point_100 : decode cX9_point 100 = .ok (.getfield 99, 3) := by decide +kernel
theorem dX9_point_103 : decode cX9_point 103 = .ok (.ireturn, 1) := by decide +kernel
theorem dX9_fit_0 : decode cX9_fit 0 = .ok (.iload_n 1, 1) := by decide +kernel
theorem dX9_fit_1 : decode cX9_fit 1 = .ok (.iconst 3, 1) := by decide +kernel
theorem dX9_fit_2 : decode cX9_fit 2 = .ok (.invokestatic 58, 3) := by decide +kernel
theorem dX9_fit_5 : decode cX9_fit 5 = .ok (.ifCond .eq 19, 3) := by decide +kernel
theorem dX9_fit_8 : decode cX9_fit 8 = .ok (.iload_n 2, 1) := by decide +kernel
theorem dX9_fit_9 : decode cX9_fit 9 = .ok (.iconst 3, 1) := by decide +kernel
theorem dX9_fit_10 : decode cX9_fit 10 = .ok (.invokestatic 58, 3) := by decide +kernel
theorem dX9_fit_13 : decode cX9_fit 13 = .ok (.ifCond .eq 11, 3) := by decide +kernel
theorem dX9_fit_16 : decode cX9_fit 16 = .ok (.iload_n 3, 1) := by decide +kernel
theorem dX9_fit_17 : decode cX9_fit 17 = .ok (.iconst 2, 1) := by decide +kernel
theorem dX9_fit_18 : decode cX9_fit 18 = .ok (.invokestatic 58, 3) := by decide +kernel
theorem dX9_fit_21 : decode cX9_fit 21 = .ok (.ifCond .ne 7, 3) := by decide +kernel
theorem dX9_fit_24 : decode cX9_fit 24 = .ok (.ldc2_w 112, 3) := by decide +kernel
theorem dX9_fit_27 : decode cX9_fit 27 = .ok (.lreturn, 1) := by decide +kernel
theorem dX9_fit_28 : decode cX9_fit 28 = .ok (.aload_n 0, 1) := by decide +kernel
theorem dX9_fit_29 : decode cX9_fit 29 = .ok (.getfield 19, 3) := by decide +kernel
theorem dX9_fit_32 : decode cX9_fit 32 = .ok (.iload_n 1, 1) := by decide +kernel
theorem dX9_fit_33 : decode cX9_fit 33 = .ok (.iload_n 2, 1) := by decide +kernel
theorem dX9_fit_34 : decode cX9_fit 34 = .ok (.iload_n 3, 1) := by decide +kernel
theorem dX9_fit_35 : decode cX9_fit 35 = .ok (.ifCond .ne 7, 3) := by decide +kernel
theorem dX9_fit_38 : decode cX9_fit 38 = .ok (.iconst 1, 1) := by decide +kernel
theorem dX9_fit_39 : decode cX9_fit 39 = .ok (.goto 4, 3) := by decide +kernel
theorem dX9_fit_42 : decode cX9_fit 42 = .ok (.iconst 0, 1) := by decide +kernel
theorem dX9_fit_43 : decode cX9_fit 43 = .ok (.invokevirtual 114, 3) := by decide +kernel
theorem dX9_fit_46 : decode cX9_fit 46 = .ok (.lreturn, 1) := by decide +kernel
theorem dX9_miss_0 : decode cX9_miss 0 = .ok (.iload_n 1, 1) := by decide +kernel
theorem dX9_miss_1 : decode cX9_miss 1 = .ok (.iconst 3, 1) := by decide +kernel
theorem dX9_miss_2 : decode cX9_miss 2 = .ok (.invokestatic 58, 3) := by decide +kernel
theorem dX9_miss_5 : decode cX9_miss 5 = .ok (.ifCond .ne 5, 3) := by decide +kernel
theorem dX9_miss_8 : decode cX9_miss 8 = .ok (.iconst (-1), 1) := by decide +kernel
theorem dX9_miss_9 : decode cX9_miss 9 = .ok (.ireturn, 1) := by decide +kernel
theorem dX9_miss_10 : decode cX9_miss 10 = .ok (.aload_n 0, 1) := by decide +kernel
theorem dX9_miss_11 : decode cX9_miss 11 = .ok (.getfield 19, 3) := by decide +kernel
theorem dX9_miss_14 : decode cX9_miss 14 = .ok (.getfield 99, 3) := by decide +kernel
theorem dX9_miss_17 : decode cX9_miss 17 = .ok (.ifCond .ne 8, 3) := by decide +kernel
theorem dX9_miss_20 : decode cX9_miss 20 = .ok (.bipush (-4), 2) := by decide +kernel
theorem dX9_miss_22 : decode cX9_miss 22 = .ok (.goto 15, 3) := by decide +kernel
theorem dX9_miss_25 : decode cX9_miss 25 = .ok (.aload_n 0, 1) := by decide +kernel
theorem dX9_miss_26 : decode cX9_miss 26 = .ok (.getfield 19, 3) := by decide +kernel
theorem dX9_miss_29 : decode cX9_miss 29 = .ok (.iload_n 1, 1) := by decide +kernel
theorem dX9_miss_30 : decode cX9_miss 30 = .ok (.aload_n 0, 1) := by decide +kernel
theorem dX9_miss_31 : decode cX9_miss 31 = .ok (.getfield 10, 3) := by decide +kernel
theorem dX9_miss_34 : decode cX9_miss 34 = .ok (.invokevirtual 118, 3) := by decide +kernel
theorem dX9_miss_37 : decode cX9_miss 37 = .ok (.ireturn, 1) := by decide +kernel
theorem dX9_forget_0 : decode cX9_forget 0 = .ok (.aload_n 0, 1) := by decide +kernel
theorem dX9_forget_1 : decode cX9_forget 1 = .ok (.getfield 19, 3) := by decide +kernel
theorem dX9_forget_4 : decode cX9_forget 4 = .ok (.getfield 99, 3) := by decide +kernel
theorem dX9_forget_7 : decode cX9_forget 7 = .ok (.istore_n 1, 1) := by decide +kernel
theorem dX9_forget_8 : decode cX9_forget 8 = .ok (.aload_n 0, 1) := by decide +kernel
theorem dX9_forget_9 : decode cX9_forget 9 = .ok (.getfield 19, 3) := by decide +kernel
theorem dX9_forget_12 : decode cX9_forget 12 = .ok (.iconst 0, 1) := by decide +kernel
theorem dX9_forget_13 : decode cX9_forget 13 = .ok (.putfield 99, 3) := by decide +kernel
theorem dX9_forget_16 : decode cX9_forget 16 = .ok (.iload_n 1, 1) := by decide +kernel
theorem dX9_forget_17 : decode cX9_forget 17 = .ok (.ireturn, 1) := by decide +kernel
theorem dX9_correct_0 : decode cX9_correct 0 = .ok (.iload_n 1, 1) := by decide +kernel
theorem dX9_correct_1 : decode cX9_correct 1 = .ok (.iload_n 2, 1) := by decide +kernel
theorem dX9_correct_2 : decode cX9_correct 2 = .ok (.iload_n 3, 1) := by decide +kernel
theorem dX9_correct_3 : decode cX9_correct 3 = .ok (.iload 4, 2) := by decide +kernel
theorem dX9_correct_5 : decode cX9_correct 5 = .ok (.invokestatic 122, 3) := by decide +kernel
theorem dX9_correct_8 : decode cX9_correct 8 = .ok (.ifCond .ne 5, 3) := by decide +kernel
theorem dX9_correct_11 : decode cX9_correct 11 = .ok (.iconst (-1), 1) := by decide +kernel
theorem dX9_correct_12 : decode cX9_correct 12 = .ok (.ireturn, 1) := by decide +kernel
theorem dX9_correct_13 : decode cX9_correct 13 = .ok (.aload_n 0, 1) := by decide +kernel
theorem dX9_correct_14 : decode cX9_correct 14 = .ok (.getfield 26, 3) := by decide +kernel
theorem dX9_correct_17 : decode cX9_correct 17 = .ok (.getfield 128, 3) := by decide +kernel
theorem dX9_correct_20 : decode cX9_correct 20 = .ok (.bipush 10, 2) := by decide +kernel
theorem dX9_correct_22 : decode cX9_correct 22 = .ok (.if_icmp .lt 8, 3) := by decide +kernel
theorem dX9_correct_25 : decode cX9_correct 25 = .ok (.bipush (-3), 2) := by decide +kernel
theorem dX9_correct_27 : decode cX9_correct 27 = .ok (.goto 15, 3) := by decide +kernel
theorem dX9_correct_30 : decode cX9_correct 30 = .ok (.aload_n 0, 1) := by decide +kernel
theorem dX9_correct_31 : decode cX9_correct 31 = .ok (.getfield 26, 3) := by decide +kernel
theorem dX9_correct_34 : decode cX9_correct 34 = .ok (.iload_n 1, 1) := by decide +kernel
theorem dX9_correct_35 : decode cX9_correct 35 = .ok (.iload_n 2, 1) := by decide +kernel
theorem dX9_correct_36 : decode cX9_correct 36 = .ok (.iload_n 3, 1) := by decide +kernel
theorem dX9_correct_37 : decode cX9_correct 37 = .ok (.iload 4, 2) := by decide +kernel
theorem dX9_correct_39 : decode cX9_correct 39 = .ok (.invokevirtual 129, 3) := by decide +kernel
theorem dX9_correct_42 : decode cX9_correct 42 = .ok (.ireturn, 1) := by decide +kernel
theorem dX9_turn_0 : decode cX9_turn 0 = .ok (.iload_n 1, 1) := by decide +kernel
theorem dX9_turn_1 : decode cX9_turn 1 = .ok (.aload_n 0, 1) := by decide +kernel
theorem dX9_turn_2 : decode cX9_turn 2 = .ok (.getfield 26, 3) := by decide +kernel
theorem dX9_turn_5 : decode cX9_turn 5 = .ok (.getfield 128, 3) := by decide +kernel
theorem dX9_turn_8 : decode cX9_turn 8 = .ok (.invokestatic 58, 3) := by decide +kernel
theorem dX9_turn_11 : decode cX9_turn 11 = .ok (.ifCond .ne 5, 3) := by decide +kernel
theorem dX9_turn_14 : decode cX9_turn 14 = .ok (.iconst (-1), 1) := by decide +kernel
theorem dX9_turn_15 : decode cX9_turn 15 = .ok (.ireturn, 1) := by decide +kernel
theorem dX9_turn_16 : decode cX9_turn 16 = .ok (.aload_n 0, 1) := by decide +kernel
theorem dX9_turn_17 : decode cX9_turn 17 = .ok (.getfield 26, 3) := by decide +kernel
theorem dX9_turn_20 : decode cX9_turn 20 = .ok (.getfield 132, 3) := by decide +kernel
theorem dX9_turn_23 : decode cX9_turn 23 = .ok (.iload_n 1, 1) := by decide +kernel
theorem dX9_turn_24 : decode cX9_turn 24 = .ok (.aaload, 1) := by decide +kernel
theorem dX9_turn_25 : decode cX9_turn 25 = .ok (.getfield 136, 3) := by decide +kernel
theorem dX9_turn_28 : decode cX9_turn 28 = .ok (.istore_n 3, 1) := by decide +kernel
theorem dX9_turn_29 : decode cX9_turn 29 = .ok (.aload_n 0, 1) := by decide +kernel
theorem dX9_turn_30 : decode cX9_turn 30 = .ok (.getfield 26, 3) := by decide +kernel
theorem dX9_turn_33 : decode cX9_turn 33 = .ok (.getfield 132, 3) := by decide +kernel
theorem dX9_turn_36 : decode cX9_turn 36 = .ok (.iload_n 1, 1) := by decide +kernel
theorem dX9_turn_37 : decode cX9_turn 37 = .ok (.aaload, 1) := by decide +kernel
theorem dX9_turn_38 : decode cX9_turn 38 = .ok (.iload_n 2, 1) := by decide +kernel
theorem dX9_turn_39 : decode cX9_turn 39 = .ok (.putfield 136, 3) := by decide +kernel
theorem dX9_turn_42 : decode cX9_turn 42 = .ok (.iload_n 3, 1) := by decide +kernel
theorem dX9_turn_43 : decode cX9_turn 43 = .ok (.ifCond .eq 7, 3) := by decide +kernel
theorem dX9_turn_46 : decode cX9_turn 46 = .ok (.iconst 1, 1) := by decide +kernel
theorem dX9_turn_47 : decode cX9_turn 47 = .ok (.goto 4, 3) := by decide +kernel
theorem dX9_turn_50 : decode cX9_turn 50 = .ok (.iconst 0, 1) := by decide +kernel
theorem dX9_turn_51 : decode cX9_turn 51 = .ok (.ireturn, 1) := by decide +kernel
theorem dX9_swap_0 : decode cX9_swap 0 = .ok (.iload_n 1, 1) := by decide +kernel
theorem dX9_swap_1 : decode cX9_swap 1 = .ok (.aload_n 0, 1) := by decide +kernel
theorem dX9_swap_2 : decode cX9_swap 2 = .ok (.getfield 26, 3) := by decide +kernel
theorem dX9_swap_5 : decode cX9_swap 5 = .ok (.getfield 128, 3) := by decide +kernel
theorem dX9_swap_8 : decode cX9_swap 8 = .ok (.iconst 1, 1) := by decide +kernel
theorem dX9_swap_9 : decode cX9_swap 9 = .ok (.isub, 1) := by decide +kernel
theorem dX9_swap_10 : decode cX9_swap 10 = .ok (.invokestatic 58, 3) := by decide +kernel
theorem dX9_swap_13 : decode cX9_swap 13 = .ok (.ifCond .ne 5, 3) := by decide +kernel
theorem dX9_swap_16 : decode cX9_swap 16 = .ok (.iconst (-1), 1) := by decide +kernel
theorem dX9_swap_17 : decode cX9_swap 17 = .ok (.ireturn, 1) := by decide +kernel
theorem dX9_swap_18 : decode cX9_swap 18 = .ok (.aload_n 0, 1) := by decide +kernel
theorem dX9_swap_19 : decode cX9_swap 19 = .ok (.getfield 26, 3) := by decide +kernel
theorem dX9_swap_22 : decode cX9_swap 22 = .ok (.getfield 132, 3) := by decide +kernel
theorem dX9_swap_25 : decode cX9_swap 25 = .ok (.iload_n 1, 1) := by decide +kernel
theorem dX9_swap_26 : decode cX9_swap 26 = .ok (.aaload, 1) := by decide +kernel
theorem dX9_swap_27 : decode cX9_swap 27 = .ok (.astore_n 2, 1) := by decide +kernel
theorem dX9_swap_28 : decode cX9_swap 28 = .ok (.aload_n 0, 1) := by decide +kernel
theorem dX9_swap_29 : decode cX9_swap 29 = .ok (.getfield 26, 3) := by decide +kernel
theorem dX9_swap_32 : decode cX9_swap 32 = .ok (.getfield 132, 3) := by decide +kernel
theorem dX9_swap_35 : decode cX9_swap 35 = .ok (.iload_n 1, 1) := by decide +kernel
theorem dX9_swap_36 : decode cX9_swap 36 = .ok (.aload_n 0, 1) := by decide +kernel
theorem dX9_swap_37 : decode cX9_swap 37 = .ok (.getfield 26, 3) := by decide +kernel
theorem dX9_swap_40 : decode cX9_swap 40 = .ok (.getfield 132, 3) := by decide +kernel
theorem dX9_swap_43 : decode cX9_swap 43 = .ok (.iload_n 1, 1) := by decide +kernel
theorem dX9_swap_44 : decode cX9_swap 44 = .ok (.iconst 1, 1) := by decide +kernel
theorem dX9_swap_45 : decode cX9_swap 45 = .ok (.iadd, 1) := by decide +kernel
theorem dX9_swap_46 : decode cX9_swap 46 = .ok (.aaload, 1) := by decide +kernel
theorem dX9_swap_47 : decode cX9_swap 47 = .ok (.aastore, 1) := by decide +kernel
theorem dX9_swap_48 : decode cX9_swap 48 = .ok (.aload_n 0, 1) := by decide +kernel
theorem dX9_swap_49 : decode cX9_swap 49 = .ok (.getfield 26, 3) := by decide +kernel
theorem dX9_swap_52 : decode cX9_swap 52 = .ok (.getfield 132, 3) := by decide +kernel
theorem dX9_swap_55 : decode cX9_swap 55 = .ok (.iload_n 1, 1) := by decide +kernel
theorem dX9_swap_56 : decode cX9_swap 56 = .ok (.iconst 1, 1) := by decide +kernel
theorem dX9_swap_57 : decode cX9_swap 57 = .ok (.iadd, 1) := by decide +kernel
theorem dX9_swap_58 : decode cX9_swap 58 = .ok (.aload_n 2, 1) := by decide +kernel
theorem dX9_swap_59 : decode cX9_swap 59 = .ok (.aastore, 1) := by decide +kernel
theorem dX9_swap_60 : decode cX9_swap 60 = .ok (.iconst 1, 1) := by decide +kernel
theorem dX9_swap_61 : decode cX9_swap 61 = .ok (.ireturn, 1) := by decide +kernel
theorem dX9_drop_0 : decode cX9_drop 0 = .ok (.aload_n 0, 1) := by decide +kernel
theorem dX9_drop_1 : decode cX9_drop 1 = .ok (.getfield 26, 3) := by decide +kernel
theorem dX9_drop_4 : decode cX9_drop 4 = .ok (.getfield 128, 3) := by decide +kernel
theorem dX9_drop_7 : decode cX9_drop 7 = .ok (.ifCond .ne 6, 3) := by decide +kernel
theorem dX9_drop_10 : decode cX9_drop 10 = .ok (.bipush (-4), 2) := by decide +kernel
theorem dX9_drop_12 : decode cX9_drop 12 = .ok (.ireturn, 1) := by decide +kernel
theorem dX9_drop_13 : decode cX9_drop 13 = .ok (.aload_n 0, 1) := by decide +kernel
theorem dX9_drop_14 : decode cX9_drop 14 = .ok (.getfield 26, 3) := by decide +kernel
theorem dX9_drop_17 : decode cX9_drop 17 = .ok (.dup, 1) := by decide +kernel
theorem dX9_drop_18 : decode cX9_drop 18 = .ok (.getfield 128, 3) := by decide +kernel
theorem dX9_drop_21 : decode cX9_drop 21 = .ok (.iconst 1, 1) := by decide +kernel
theorem dX9_drop_22 : decode cX9_drop 22 = .ok (.isub, 1) := by decide +kernel
theorem dX9_drop_23 : decode cX9_drop 23 = .ok (.putfield 128, 3) := by decide +kernel
theorem dX9_drop_26 : decode cX9_drop 26 = .ok (.aload_n 0, 1) := by decide +kernel
theorem dX9_drop_27 : decode cX9_drop 27 = .ok (.getfield 26, 3) := by decide +kernel
theorem dX9_drop_30 : decode cX9_drop 30 = .ok (.getfield 128, 3) := by decide +kernel
theorem dX9_drop_33 : decode cX9_drop 33 = .ok (.ireturn, 1) := by decide +kernel
theorem dX9_raw_0 : decode cX9_raw 0 = .ok (.iload_n 1, 1) := by decide +kernel
theorem dX9_raw_1 : decode cX9_raw 1 = .ok (.iload_n 2, 1) := by decide +kernel
theorem dX9_raw_2 : decode cX9_raw 2 = .ok (.iload_n 3, 1) := by decide +kernel
theorem dX9_raw_3 : decode cX9_raw 3 = .ok (.invokestatic 81, 3) := by decide +kernel
theorem dX9_raw_6 : decode cX9_raw 6 = .ok (.ifCond .eq 26, 3) := by decide +kernel
theorem dX9_raw_9 : decode cX9_raw 9 = .ok (.iload 4, 2) := by decide +kernel
theorem dX9_raw_11 : decode cX9_raw 11 = .ok (.ifCond .lt 21, 3) := by decide +kernel
theorem dX9_raw_14 : decode cX9_raw 14 = .ok (.iload 4, 2) := by decide +kernel
theorem dX9_raw_16 : decode cX9_raw 16 = .ok (.sipush 1000, 3) := by decide +kernel
theorem dX9_raw_19 : decode cX9_raw 19 = .ok (.if_icmp .gt 13, 3) := by decide +kernel
theorem dX9_raw_22 : decode cX9_raw 22 = .ok (.iload 5, 2) := by decide +kernel
theorem dX9_raw_24 : decode cX9_raw 24 = .ok (.bipush 24, 2) := by decide +kernel
theorem dX9_raw_26 : decode cX9_raw 26 = .ok (.invokestatic 58, 3) := by decide +kernel
theorem dX9_raw_29 : decode cX9_raw 29 = .ok (.ifCond .ne 5, 3) := by decide +kernel
theorem dX9_raw_32 : decode cX9_raw 32 = .ok (.iconst (-1), 1) := by decide +kernel
theorem dX9_raw_33 : decode cX9_raw 33 = .ok (.ireturn, 1) := by decide +kernel
theorem dX9_raw_34 : decode cX9_raw 34 = .ok (.aload_n 0, 1) := by decide +kernel
theorem dX9_raw_35 : decode cX9_raw 35 = .ok (.getfield 26, 3) := by decide +kernel
theorem dX9_raw_38 : decode cX9_raw 38 = .ok (.getfield 139, 3) := by decide +kernel
theorem dX9_raw_41 : decode cX9_raw 41 = .ok (.iload_n 1, 1) := by decide +kernel
theorem dX9_raw_42 : decode cX9_raw 42 = .ok (.iload_n 2, 1) := by decide +kernel
theorem dX9_raw_43 : decode cX9_raw 43 = .ok (.iload_n 3, 1) := by decide +kernel
theorem dX9_raw_44 : decode cX9_raw 44 = .ok (.invokestatic 105, 3) := by decide +kernel
theorem dX9_raw_47 : decode cX9_raw 47 = .ok (.aload_n 0, 1) := by decide +kernel
theorem dX9_raw_48 : decode cX9_raw 48 = .ok (.getfield 26, 3) := by decide +kernel
theorem dX9_raw_51 : decode cX9_raw 51 = .ok (.iload 4, 2) := by decide +kernel
theorem dX9_raw_53 : decode cX9_raw 53 = .ok (.putfield 142, 3) := by decide +kernel
theorem dX9_raw_56 : decode cX9_raw 56 = .ok (.aload_n 0, 1) := by decide +kernel
theorem dX9_raw_57 : decode cX9_raw 57 = .ok (.getfield 26, 3) := by decide +kernel
theorem dX9_raw_60 : decode cX9_raw 60 = .ok (.iload 5, 2) := by decide +kernel
theorem dX9_raw_62 : decode cX9_raw 62 = .ok (.putfield 145, 3) := by decide +kernel
theorem dX9_raw_65 : decode cX9_raw 65 = .ok (.iconst 1, 1) := by decide +kernel
theorem dX9_raw_66 : decode cX9_raw 66 = .ok (.ireturn, 1) := by decide +kernel
theorem dX9_corrected_0 : decode cX9_corrected 0 = .ok (.iload_n 1, 1) := by decide +kernel
theorem dX9_corrected_1 : decode cX9_corrected 1 = .ok (.iconst 3, 1) := by decide +kernel
theorem dX9_corrected_2 : decode cX9_corrected 2 = .ok (.invokestatic 58, 3) := by decide +kernel
theorem dX9_corrected_5 : decode cX9_corrected 5 = .ok (.ifCond .eq 18, 3) := by decide +kernel
theorem dX9_corrected_8 : decode cX9_corrected 8 = .ok (.iload_n 2, 1) := by decide +kernel
theorem dX9_corrected_9 : decode cX9_corrected 9 = .ok (.ifCond .lt 14, 3) := by decide +kernel
theorem dX9_corrected_12 : decode cX9_corrected 12 = .ok (.iload_n 2, 1) := by decide +kernel
theorem dX9_corrected_13 : decode cX9_corrected 13 = .ok (.aload_n 0, 1) := by decide +kernel
theorem dX9_corrected_14 : decode cX9_corrected 14 = .ok (.getfield 26, 3) := by decide +kernel
theorem dX9_corrected_17 : decode cX9_corrected 17 = .ok (.getfield 128, 3) := by decide +kernel
theorem dX9_corrected_20 : decode cX9_corrected 20 = .ok (.if_icmp .le 5, 3) := by decide +kernel
theorem dX9_corrected_23 : decode cX9_corrected 23 = .ok (.lconst 0, 1) := by decide +kernel
theorem dX9_corrected_24 : decode cX9_corrected 24 = .ok (.lreturn, 1) := by decide +kernel
theorem dX9_corrected_25 : decode cX9_corrected 25 = .ok (.aload_n 0, 1) := by decide +kernel
theorem dX9_corrected_26 : decode cX9_corrected 26 = .ok (.getfield 26, 3) := by decide +kernel
theorem dX9_corrected_29 : decode cX9_corrected 29 = .ok (.iload_n 2, 1) := by decide +kernel
theorem dX9_corrected_30 : decode cX9_corrected 30 = .ok (.aload_n 0, 1) := by decide +kernel
theorem dX9_corrected_31 : decode cX9_corrected 31 = .ok (.getfield 26, 3) := by decide +kernel
theorem dX9_corrected_34 : decode cX9_corrected 34 = .ok (.getfield 148, 3) := by decide +kernel
theorem dX9_corrected_37 : decode cX9_corrected 37 = .ok (.invokevirtual 152, 3) := by decide +kernel
theorem dX9_corrected_40 : decode cX9_corrected 40 = .ok (.aload_n 0, 1) := by decide +kernel
theorem dX9_corrected_41 : decode cX9_corrected 41 = .ok (.getfield 26, 3) := by decide +kernel
theorem dX9_corrected_44 : decode cX9_corrected 44 = .ok (.getfield 148, 3) := by decide +kernel
theorem dX9_corrected_47 : decode cX9_corrected 47 = .ok (.iload_n 1, 1) := by decide +kernel
theorem dX9_corrected_48 : decode cX9_corrected 48 = .ok (.laload, 1) := by decide +kernel
theorem dX9_corrected_49 : decode cX9_corrected 49 = .ok (.lreturn, 1) := by decide +kernel
theorem dX9_touches_0 : decode cX9_touches 0 = .ok (.iload_n 1, 1) := by decide +kernel
theorem dX9_touches_1 : decode cX9_touches 1 = .ok (.aload_n 0, 1) := by decide +kernel
theorem dX9_touches_2 : decode cX9_touches 2 = .ok (.getfield 26, 3) := by decide +kernel
theorem dX9_touches_5 : decode cX9_touches 5 = .ok (.getfield 128, 3) := by decide +kernel
theorem dX9_touches_8 : decode cX9_touches 8 = .ok (.invokestatic 58, 3) := by decide +kernel
theorem dX9_touches_11 : decode cX9_touches 11 = .ok (.ifCond .ne 5, 3) := by decide +kernel
theorem dX9_touches_14 : decode cX9_touches 14 = .ok (.iconst (-1), 1) := by decide +kernel
theorem dX9_touches_15 : decode cX9_touches 15 = .ok (.ireturn, 1) := by decide +kernel
theorem dX9_touches_16 : decode cX9_touches 16 = .ok (.aload_n 0, 1) := by decide +kernel
theorem dX9_touches_17 : decode cX9_touches 17 = .ok (.getfield 26, 3) := by decide +kernel
theorem dX9_touches_20 : decode cX9_touches 20 = .ok (.iload_n 1, 1) := by decide +kernel
theorem dX9_touches_21 : decode cX9_touches 21 = .ok (.invokevirtual 156, 3) := by decide +kernel
theorem dX9_touches_24 : decode cX9_touches 24 = .ok (.ifCond .eq 9, 3) := by decide +kernel
theorem dX9_touches_27 : decode cX9_touches 27 = .ok (.iload_n 1, 1) := by decide +kernel
theorem dX9_touches_28 : decode cX9_touches 28 = .ok (.iconst 1, 1) := by decide +kernel
theorem dX9_touches_29 : decode cX9_touches 29 = .ok (.iadd, 1) := by decide +kernel
theorem dX9_touches_30 : decode cX9_touches 30 = .ok (.goto 5, 3) := by decide +kernel
theorem dX9_touches_33 : decode cX9_touches 33 = .ok (.bipush (-4), 2) := by decide +kernel
theorem dX9_touches_35 : decode cX9_touches 35 = .ok (.ireturn, 1) := by decide +kernel
theorem dX9_minds_0 : decode cX9_minds 0 = .ok (.iload_n 1, 1) := by decide +kernel
theorem dX9_minds_1 : decode cX9_minds 1 = .ok (.aload_n 0, 1) := by decide +kernel
theorem dX9_minds_2 : decode cX9_minds 2 = .ok (.getfield 26, 3) := by decide +kernel
theorem dX9_minds_5 : decode cX9_minds 5 = .ok (.getfield 128, 3) := by decide +kernel
theorem dX9_minds_8 : decode cX9_minds 8 = .ok (.iconst 1, 1) := by decide +kernel
theorem dX9_minds_9 : decode cX9_minds 9 = .ok (.isub, 1) := by decide +kernel
theorem dX9_minds_10 : decode cX9_minds 10 = .ok (.invokestatic 58, 3) := by decide +kernel
theorem dX9_minds_13 : decode cX9_minds 13 = .ok (.ifCond .ne 5, 3) := by decide +kernel
theorem dX9_minds_16 : decode cX9_minds 16 = .ok (.iconst (-1), 1) := by decide +kernel
theorem dX9_minds_17 : decode cX9_minds 17 = .ok (.ireturn, 1) := by decide +kernel
theorem dX9_minds_18 : decode cX9_minds 18 = .ok (.aload_n 0, 1) := by decide +kernel
theorem dX9_minds_19 : decode cX9_minds 19 = .ok (.getfield 26, 3) := by decide +kernel
theorem dX9_minds_22 : decode cX9_minds 22 = .ok (.iload_n 1, 1) := by decide +kernel
theorem dX9_minds_23 : decode cX9_minds 23 = .ok (.invokevirtual 160, 3) := by decide +kernel
theorem dX9_minds_26 : decode cX9_minds 26 = .ok (.ifCond .eq 7, 3) := by decide +kernel
theorem dX9_minds_29 : decode cX9_minds 29 = .ok (.iconst 1, 1) := by decide +kernel
theorem dX9_minds_30 : decode cX9_minds 30 = .ok (.goto 4, 3) := by decide +kernel
theorem dX9_minds_33 : decode cX9_minds 33 = .ok (.iconst 0, 1) := by decide +kernel
theorem dX9_minds_34 : decode cX9_minds 34 = .ok (.ireturn, 1) := by decide +kernel
theorem dX9_place_0 : decode cX9_place 0 = .ok (.iload_n 1, 1) := by decide +kernel
theorem dX9_place_1 : decode cX9_place 1 = .ok (.bipush 24, 2) := by decide +kernel
theorem dX9_place_3 : decode cX9_place 3 = .ok (.invokestatic 58, 3) := by decide +kernel
theorem dX9_place_6 : decode cX9_place 6 = .ok (.ifCond .eq 12, 3) := by decide +kernel
theorem dX9_place_9 : decode cX9_place 9 = .ok (.iload_n 2, 1) := by decide +kernel
theorem dX9_place_10 : decode cX9_place 10 = .ok (.bipush 10, 2) := by decide +kernel
theorem dX9_place_12 : decode cX9_place 12 = .ok (.invokestatic 58, 3) := by decide +kernel
theorem dX9_place_15 : decode cX9_place 15 = .ok (.ifCond .ne 5, 3) := by decide +kernel
theorem dX9_place_18 : decode cX9_place 18 = .ok (.iconst (-1), 1) := by decide +kernel
theorem dX9_place_19 : decode cX9_place 19 = .ok (.ireturn, 1) := by decide +kernel
theorem dX9_place_20 : decode cX9_place 20 = .ok (.aload_n 0, 1) := by decide +kernel
theorem dX9_place_21 : decode cX9_place 21 = .ok (.getfield 33, 3) := by decide +kernel
theorem dX9_place_24 : decode cX9_place 24 = .ok (.getfield 163, 3) := by decide +kernel
theorem dX9_place_27 : decode cX9_place 27 = .ok (.bipush 9, 2) := by decide +kernel
theorem dX9_place_29 : decode cX9_place 29 = .ok (.if_icmp .lt 8, 3) := by decide +kernel
theorem dX9_place_32 : decode cX9_place 32 = .ok (.bipush (-3), 2) := by decide +kernel
theorem dX9_place_34 : decode cX9_place 34 = .ok (.goto 12, 3) := by decide +kernel
theorem dX9_place_37 : decode cX9_place 37 = .ok (.aload_n 0, 1) := by decide +kernel
theorem dX9_place_38 : decode cX9_place 38 = .ok (.getfield 33, 3) := by decide +kernel
theorem dX9_place_41 : decode cX9_place 41 = .ok (.iload_n 1, 1) := by decide +kernel
theorem dX9_place_42 : decode cX9_place 42 = .ok (.iload_n 2, 1) := by decide +kernel
theorem dX9_place_43 : decode cX9_place 43 = .ok (.invokevirtual 164, 3) := by decide +kernel
theorem dX9_place_46 : decode cX9_place 46 = .ok (.ireturn, 1) := by decide +kernel
theorem dX9_done_0 : decode cX9_done 0 = .ok (.iload_n 1, 1) := by decide +kernel
theorem dX9_done_1 : decode cX9_done 1 = .ok (.aload_n 0, 1) := by decide +kernel
theorem dX9_done_2 : decode cX9_done 2 = .ok (.getfield 33, 3) := by decide +kernel
theorem dX9_done_5 : decode cX9_done 5 = .ok (.getfield 163, 3) := by decide +kernel
theorem dX9_done_8 : decode cX9_done 8 = .ok (.invokestatic 58, 3) := by decide +kernel
theorem dX9_done_11 : decode cX9_done 11 = .ok (.ifCond .ne 5, 3) := by decide +kernel
theorem dX9_done_14 : decode cX9_done 14 = .ok (.iconst (-1), 1) := by decide +kernel
theorem dX9_done_15 : decode cX9_done 15 = .ok (.ireturn, 1) := by decide +kernel
theorem dX9_done_16 : decode cX9_done 16 = .ok (.aload_n 0, 1) := by decide +kernel
theorem dX9_done_17 : decode cX9_done 17 = .ok (.getfield 33, 3) := by decide +kernel
theorem dX9_done_20 : decode cX9_done 20 = .ok (.getfield 167, 3) := by decide +kernel
theorem dX9_done_23 : decode cX9_done 23 = .ok (.iload_n 1, 1) := by decide +kernel
theorem dX9_done_24 : decode cX9_done 24 = .ok (.baload, 1) := by decide +kernel
theorem dX9_done_25 : decode cX9_done 25 = .ok (.istore_n 3, 1) := by decide +kernel
theorem dX9_done_26 : decode cX9_done 26 = .ok (.aload_n 0, 1) := by decide +kernel
theorem dX9_done_27 : decode cX9_done 27 = .ok (.getfield 33, 3) := by decide +kernel
theorem dX9_done_30 : decode cX9_done 30 = .ok (.getfield 167, 3) := by decide +kernel
theorem dX9_done_33 : decode cX9_done 33 = .ok (.iload_n 1, 1) := by decide +kernel
theorem dX9_done_34 : decode cX9_done 34 = .ok (.iload_n 2, 1) := by decide +kernel
theorem dX9_done_35 : decode cX9_done 35 = .ok (.bastore, 1) := by decide +kernel
theorem dX9_done_36 : decode cX9_done 36 = .ok (.aload_n 0, 1) := by decide +kernel
theorem dX9_done_37 : decode cX9_done 37 = .ok (.getfield 33, 3) := by decide +kernel
theorem dX9_done_40 : decode cX9_done 40 = .ok (.aload_n 0, 1) := by decide +kernel
theorem dX9_done_41 : decode cX9_done 41 = .ok (.getfield 33, 3) := by decide +kernel
theorem dX9_done_44 : decode cX9_done 44 = .ok (.getfield 171, 3) := by decide +kernel
theorem dX9_done_47 : decode cX9_done 47 = .ok (.ifCond .eq 12, 3) := by decide +kernel
theorem dX9_done_50 : decode cX9_done 50 = .ok (.iload_n 3, 1) := by decide +kernel
theorem dX9_done_51 : decode cX9_done 51 = .ok (.iload_n 2, 1) := by decide +kernel
theorem dX9_done_52 : decode cX9_done 52 = .ok (.if_icmp .ne 7, 3) := by decide +kernel
theorem dX9_done_55 : decode cX9_done 55 = .ok (.iconst 1, 1) := by decide +kernel
theorem dX9_done_56 : decode cX9_done 56 = .ok (.goto 4, 3) := by decide +kernel
theorem dX9_done_59 : decode cX9_done 59 = .ok (.iconst 0, 1) := by decide +kernel
theorem dX9_done_60 : decode cX9_done 60 = .ok (.putfield 171, 3) := by decide +kernel
theorem dX9_done_63 : decode cX9_done 63 = .ok (.iload_n 3, 1) := by decide +kernel
theorem dX9_done_64 : decode cX9_done 64 = .ok (.ifCond .eq 7, 3) := by decide +kernel
theorem dX9_done_67 : decode cX9_done 67 = .ok (.iconst 1, 1) := by decide +kernel
theorem dX9_done_68 : decode cX9_done 68 = .ok (.goto 4, 3) := by decide +kernel
theorem dX9_done_71 : decode cX9_done 71 = .ok (.iconst 0, 1) := by decide +kernel
theorem dX9_done_72 : decode cX9_done 72 = .ok (.ireturn, 1) := by decide +kernel
theorem dX9_moves_0 : decode cX9_moves 0 = .ok (.iload_n 1, 1) := by decide +kernel
theorem dX9_moves_1 : decode cX9_moves 1 = .ok (.aload_n 0, 1) := by decide +kernel
theorem dX9_moves_2 : decode cX9_moves 2 = .ok (.getfield 33, 3) := by decide +kernel
theorem dX9_moves_5 : decode cX9_moves 5 = .ok (.getfield 163, 3) := by decide +kernel
theorem dX9_moves_8 : decode cX9_moves 8 = .ok (.invokestatic 58, 3) := by decide +kernel
theorem dX9_moves_11 : decode cX9_moves 11 = .ok (.ifCond .eq 17, 3) := by decide +kernel
theorem dX9_moves_14 : decode cX9_moves 14 = .ok (.iload_n 2, 1) := by decide +kernel
theorem dX9_moves_15 : decode cX9_moves 15 = .ok (.aload_n 0, 1) := by decide +kernel
theorem dX9_moves_16 : decode cX9_moves 16 = .ok (.getfield 33, 3) := by decide +kernel
theorem dX9_moves_19 : decode cX9_moves 19 = .ok (.getfield 163, 3) := by decide +kernel
theorem dX9_moves_22 : decode cX9_moves 22 = .ok (.invokestatic 58, 3) := by decide +kernel
theorem dX9_moves_25 : decode cX9_moves 25 = .ok (.ifCond .ne 5, 3) := by decide +kernel
theorem dX9_moves_28 : decode cX9_moves 28 = .ok (.iconst (-1), 1) := by decide +kernel
theorem dX9_moves_29 : decode cX9_moves 29 = .ok (.ireturn, 1) := by decide +kernel
theorem dX9_moves_30 : decode cX9_moves 30 = .ok (.aload_n 0, 1) := by decide +kernel
theorem dX9_moves_31 : decode cX9_moves 31 = .ok (.getfield 33, 3) := by decide +kernel
theorem dX9_moves_34 : decode cX9_moves 34 = .ok (.getfield 174, 3) := by decide +kernel
theorem dX9_moves_37 : decode cX9_moves 37 = .ok (.iload_n 1, 1) := by decide +kernel
theorem dX9_moves_38 : decode cX9_moves 38 = .ok (.aaload, 1) := by decide +kernel
theorem dX9_moves_39 : decode cX9_moves 39 = .ok (.iload_n 2, 1) := by decide +kernel
theorem dX9_moves_40 : decode cX9_moves 40 = .ok (.iaload, 1) := by decide +kernel
theorem dX9_moves_41 : decode cX9_moves 41 = .ok (.ireturn, 1) := by decide +kernel
theorem dX9_least_0 : decode cX9_least 0 = .ok (.aload_n 0, 1) := by decide +kernel
theorem dX9_least_1 : decode cX9_least 1 = .ok (.getfield 33, 3) := by decide +kernel
theorem dX9_least_4 : decode cX9_least 4 = .ok (.invokevirtual 177, 3) := by decide +kernel
theorem dX9_least_7 : decode cX9_least 7 = .ok (.aload_n 0, 1) := by decide +kernel
theorem dX9_least_8 : decode cX9_least 8 = .ok (.getfield 33, 3) := by decide +kernel
theorem dX9_least_11 : decode cX9_least 11 = .ok (.getfield 180, 3) := by decide +kernel
theorem dX9_least_14 : decode cX9_least 14 = .ok (.ireturn, 1) := by decide +kernel
theorem dX9_order_0 : decode cX9_order 0 = .ok (.iload_n 1, 1) := by decide +kernel
theorem dX9_order_1 : decode cX9_order 1 = .ok (.ifCond .ge 5, 3) := by decide +kernel
theorem dX9_order_4 : decode cX9_order 4 = .ok (.iconst (-1), 1) := by decide +kernel
theorem dX9_order_5 : decode cX9_order 5 = .ok (.ireturn, 1) := by decide +kernel
theorem dX9_order_6 : decode cX9_order 6 = .ok (.aload_n 0, 1) := by decide +kernel
theorem dX9_order_7 : decode cX9_order 7 = .ok (.getfield 33, 3) := by decide +kernel
theorem dX9_order_10 : decode cX9_order 10 = .ok (.invokevirtual 177, 3) := by decide +kernel
theorem dX9_order_13 : decode cX9_order 13 = .ok (.iload_n 1, 1) := by decide +kernel
theorem dX9_order_14 : decode cX9_order 14 = .ok (.aload_n 0, 1) := by decide +kernel
theorem dX9_order_15 : decode cX9_order 15 = .ok (.getfield 33, 3) := by decide +kernel
theorem dX9_order_18 : decode cX9_order 18 = .ok (.getfield 183, 3) := by decide +kernel
theorem dX9_order_21 : decode cX9_order 21 = .ok (.if_icmp .ge 15, 3) := by decide +kernel
theorem dX9_order_24 : decode cX9_order 24 = .ok (.aload_n 0, 1) := by decide +kernel
theorem dX9_order_25 : decode cX9_order 25 = .ok (.getfield 33, 3) := by decide +kernel
theorem dX9_order_28 : decode cX9_order 28 = .ok (.getfield 186, 3) := by decide +kernel
theorem dX9_order_31 : decode cX9_order 31 = .ok (.iload_n 1, 1) := by decide +kernel
theorem dX9_order_32 : decode cX9_order 32 = .ok (.iaload, 1) := by decide +kernel
theorem dX9_order_33 : decode cX9_order 33 = .ok (.goto 5, 3) := by decide +kernel
theorem dX9_order_36 : decode cX9_order 36 = .ok (.bipush (-4), 2) := by decide +kernel
theorem dX9_order_38 : decode cX9_order 38 = .ok (.ireturn, 1) := by decide +kernel
theorem dX9_rule_0 : decode cX9_rule 0 = .ok (.iload_n 1, 1) := by decide +kernel
theorem dX9_rule_1 : decode cX9_rule 1 = .ok (.iconst 1, 1) := by decide +kernel
theorem dX9_rule_2 : decode cX9_rule 2 = .ok (.if_icmp .lt 47, 3) := by decide +kernel
theorem dX9_rule_5 : decode cX9_rule 5 = .ok (.iload_n 1, 1) := by decide +kernel
theorem dX9_rule_6 : decode cX9_rule 6 = .ok (.bipush 8, 2) := by decide +kernel
theorem dX9_rule_8 : decode cX9_rule 8 = .ok (.if_icmp .gt 41, 3) := by decide +kernel
theorem dX9_rule_11 : decode cX9_rule 11 = .ok (.iload_n 2, 1) := by decide +kernel
theorem dX9_rule_12 : decode cX9_rule 12 = .ok (.ifCond .lt 37, 3) := by decide +kernel
theorem dX9_rule_15 : decode cX9_rule 15 = .ok (.iload_n 2, 1) := by decide +kernel
theorem dX9_rule_16 : decode cX9_rule 16 = .ok (.ldc 188, 2) := by decide +kernel
theorem dX9_rule_18 : decode cX9_rule 18 = .ok (.if_icmp .gt 31, 3) := by decide +kernel
theorem dX9_rule_21 : decode cX9_rule 21 = .ok (.iload_n 3, 1) := by decide +kernel
theorem dX9_rule_22 : decode cX9_rule 22 = .ok (.iconst 1, 1) := by decide +kernel
theorem dX9_rule_23 : decode cX9_rule 23 = .ok (.if_icmp .lt 26, 3) := by decide +kernel
theorem dX9_rule_26 : decode cX9_rule 26 = .ok (.iload_n 3, 1) := by decide +kernel
theorem dX9_rule_27 : decode cX9_rule 27 = .ok (.bipush 100, 2) := by decide +kernel
theorem dX9_rule_29 : decode cX9_rule 29 = .ok (.if_icmp .gt 20, 3) := by decide +kernel
theorem dX9_rule_32 : decode cX9_rule 32 = .ok (.iload 4, 2) := by decide +kernel
theorem dX9_rule_34 : decode cX9_rule 34 = .ok (.iconst 1, 1) := by decide +kernel
theorem dX9_rule_35 : decode cX9_rule 35 = .ok (.if_icmp .lt 14, 3) := by decide +kernel
theorem dX9_rule_38 : decode cX9_rule 38 = .ok (.iload 4, 2) := by decide +kernel
theorem dX9_rule_40 : decode cX9_rule 40 = .ok (.ldc 189, 2) := by decide +kernel
theorem dX9_rule_42 : decode cX9_rule 42 = .ok (.if_icmp .gt 7, 3) := by decide +kernel
theorem dX9_rule_45 : decode cX9_rule 45 = .ok (.iconst 1, 1) := by decide +kernel
theorem dX9_rule_46 : decode cX9_rule 46 = .ok (.goto 4, 3) := by decide +kernel
theorem dX9_rule_49 : decode cX9_rule 49 = .ok (.iconst 0, 1) := by decide +kernel
theorem dX9_rule_50 : decode cX9_rule 50 = .ok (.istore 5, 2) := by decide +kernel
theorem dX9_rule_52 : decode cX9_rule 52 = .ok (.iload 5, 2) := by decide +kernel
theorem dX9_rule_54 : decode cX9_rule 54 = .ok (.ifCond .ne 5, 3) := by decide +kernel
theorem dX9_rule_57 : decode cX9_rule 57 = .ok (.iconst (-1), 1) := by decide +kernel
theorem dX9_rule_58 : decode cX9_rule 58 = .ok (.ireturn, 1) := by decide +kernel
theorem dX9_rule_59 : decode cX9_rule 59 = .ok (.aload_n 0, 1) := by decide +kernel
theorem dX9_rule_60 : decode cX9_rule 60 = .ok (.getfield 40, 3) := by decide +kernel
theorem dX9_rule_63 : decode cX9_rule 63 = .ok (.iload_n 1, 1) := by decide +kernel
theorem dX9_rule_64 : decode cX9_rule 64 = .ok (.putfield 190, 3) := by decide +kernel
theorem dX9_rule_67 : decode cX9_rule 67 = .ok (.aload_n 0, 1) := by decide +kernel
theorem dX9_rule_68 : decode cX9_rule 68 = .ok (.getfield 40, 3) := by decide +kernel
theorem dX9_rule_71 : decode cX9_rule 71 = .ok (.iload_n 2, 1) := by decide +kernel
theorem dX9_rule_72 : decode cX9_rule 72 = .ok (.putfield 193, 3) := by decide +kernel
theorem dX9_rule_75 : decode cX9_rule 75 = .ok (.aload_n 0, 1) := by decide +kernel
theorem dX9_rule_76 : decode cX9_rule 76 = .ok (.getfield 40, 3) := by decide +kernel
theorem dX9_rule_79 : decode cX9_rule 79 = .ok (.iload_n 3, 1) := by decide +kernel
theorem dX9_rule_80 : decode cX9_rule 80 = .ok (.putfield 196, 3) := by decide +kernel
theorem dX9_rule_83 : decode cX9_rule 83 = .ok (.aload_n 0, 1) := by decide +kernel
theorem dX9_rule_84 : decode cX9_rule 84 = .ok (.getfield 40, 3) := by decide +kernel
theorem dX9_rule_87 : decode cX9_rule 87 = .ok (.iload 4, 2) := by decide +kernel
theorem dX9_rule_89 : decode cX9_rule 89 = .ok (.putfield 199, 3) := by decide +kernel
theorem dX9_rule_92 : decode cX9_rule 92 = .ok (.aload_n 0, 1) := by decide +kernel
theorem dX9_rule_93 : decode cX9_rule 93 = .ok (.getfield 40, 3) := by decide +kernel
theorem dX9_rule_96 : decode cX9_rule 96 = .ok (.invokevirtual 202, 3) := by decide +kernel
theorem dX9_rule_99 : decode cX9_rule 99 = .ok (.iconst 1, 1) := by decide +kernel
theorem dX9_rule_100 : decode cX9_rule 100 = .ok (.ireturn, 1) := by decide +kernel
theorem dX9_come_0 : decode cX9_come 0 = .ok (.iload_n 1, 1) := by decide +kernel
theorem dX9_come_1 : decode cX9_come 1 = .ok (.iload_n 2, 1) := by decide +kernel
theorem dX9_come_2 : decode cX9_come 2 = .ok (.iload_n 3, 1) := by decide +kernel
theorem dX9_come_3 : decode cX9_come 3 = .ok (.invokestatic 81, 3) := by decide +kernel
theorem dX9_come_6 : decode cX9_come 6 = .ok (.ifCond .ne 5, 3) := by decide +kernel
theorem dX9_come_9 : decode cX9_come 9 = .ok (.iconst (-1), 1) := by decide +kernel
theorem dX9_come_10 : decode cX9_come 10 = .ok (.ireturn, 1) := by decide +kernel
theorem dX9_come_11 : decode cX9_come 11 = .ok (.aload_n 0, 1) := by decide +kernel
theorem dX9_come_12 : decode cX9_come 12 = .ok (.getfield 40, 3) := by decide +kernel
theorem dX9_come_15 : decode cX9_come 15 = .ok (.getfield 205, 3) := by decide +kernel
theorem dX9_come_18 : decode cX9_come 18 = .ok (.ifCond .ne 16, 3) := by decide +kernel
theorem dX9_come_21 : decode cX9_come 21 = .ok (.aload_n 0, 1) := by decide +kernel
theorem dX9_come_22 : decode cX9_come 22 = .ok (.getfield 40, 3) := by decide +kernel
theorem dX9_come_25 : decode cX9_come 25 = .ok (.iload_n 1, 1) := by decide +kernel
theorem dX9_come_26 : decode cX9_come 26 = .ok (.iload_n 2, 1) := by decide +kernel
theorem dX9_come_27 : decode cX9_come 27 = .ok (.iload_n 3, 1) := by decide +kernel
theorem dX9_come_28 : decode cX9_come 28 = .ok (.invokevirtual 208, 3) := by decide +kernel
theorem dX9_come_31 : decode cX9_come 31 = .ok (.goto 5, 3) := by decide +kernel
theorem dX9_come_34 : decode cX9_come 34 = .ok (.bipush (-2), 2) := by decide +kernel
theorem dX9_come_36 : decode cX9_come 36 = .ok (.ireturn, 1) := by decide +kernel
theorem dX9_settled_0 : decode cX9_settled 0 = .ok (.iload_n 1, 1) := by decide +kernel
theorem dX9_settled_1 : decode cX9_settled 1 = .ok (.tableswitch 89 0 5 #[39, 47, 55, 63, 63, 63], 39) := by decide +kernel
theorem dX9_settled_40 : decode cX9_settled 40 = .ok (.aload_n 0, 1) := by decide +kernel
theorem dX9_settled_41 : decode cX9_settled 41 = .ok (.getfield 40, 3) := by decide +kernel
theorem dX9_settled_44 : decode cX9_settled 44 = .ok (.getfield 205, 3) := by decide +kernel
theorem dX9_settled_47 : decode cX9_settled 47 = .ok (.ireturn, 1) := by decide +kernel
theorem dX9_settled_48 : decode cX9_settled 48 = .ok (.aload_n 0, 1) := by decide +kernel
theorem dX9_settled_49 : decode cX9_settled 49 = .ok (.getfield 40, 3) := by decide +kernel
theorem dX9_settled_52 : decode cX9_settled 52 = .ok (.getfield 212, 3) := by decide +kernel
theorem dX9_settled_55 : decode cX9_settled 55 = .ok (.ireturn, 1) := by decide +kernel
theorem dX9_settled_56 : decode cX9_settled 56 = .ok (.aload_n 0, 1) := by decide +kernel
theorem dX9_settled_57 : decode cX9_settled 57 = .ok (.getfield 40, 3) := by decide +kernel
theorem dX9_settled_60 : decode cX9_settled 60 = .ok (.getfield 215, 3) := by decide +kernel
theorem dX9_settled_63 : decode cX9_settled 63 = .ok (.ireturn, 1) := by decide +kernel
theorem dX9_settled_64 : decode cX9_settled 64 = .ok (.aload_n 0, 1) := by decide +kernel
theorem dX9_settled_65 : decode cX9_settled 65 = .ok (.getfield 40, 3) := by decide +kernel
theorem dX9_settled_68 : decode cX9_settled 68 = .ok (.getfield 205, 3) := by decide +kernel
theorem dX9_settled_71 : decode cX9_settled 71 = .ok (.iconst 1, 1) := by decide +kernel
theorem dX9_settled_72 : decode cX9_settled 72 = .ok (.if_icmp .ne 16, 3) := by decide +kernel
theorem dX9_settled_75 : decode cX9_settled 75 = .ok (.aload_n 0, 1) := by decide +kernel
theorem dX9_settled_76 : decode cX9_settled 76 = .ok (.getfield 40, 3) := by decide +kernel
theorem dX9_settled_79 : decode cX9_settled 79 = .ok (.iload_n 1, 1) := by decide +kernel
theorem dX9_settled_80 : decode cX9_settled 80 = .ok (.iconst 3, 1) := by decide +kernel
theorem dX9_settled_81 : decode cX9_settled 81 = .ok (.isub, 1) := by decide +kernel
theorem dX9_settled_82 : decode cX9_settled 82 = .ok (.invokevirtual 218, 3) := by decide +kernel
theorem dX9_settled_85 : decode cX9_settled 85 = .ok (.goto 4, 3) := by decide +kernel
theorem dX9_settled_88 : decode cX9_settled 88 = .ok (.iconst 0, 1) := by decide +kernel
theorem dX9_settled_89 : decode cX9_settled 89 = .ok (.ireturn, 1) := by decide +kernel
theorem dX9_settled_90 : decode cX9_settled 90 = .ok (.iconst (-1), 1) := by decide +kernel
theorem dX9_settled_91 : decode cX9_settled 91 = .ok (.ireturn, 1) := by decide +kernel
theorem dX9_anew_0 : decode cX9_anew 0 = .ok (.aload_n 0, 1) := by decide +kernel
theorem dX9_anew_1 : decode cX9_anew 1 = .ok (.getfield 40, 3) := by decide +kernel
theorem dX9_anew_4 : decode cX9_anew 4 = .ok (.getfield 212, 3) := by decide +kernel
theorem dX9_anew_7 : decode cX9_anew 7 = .ok (.istore_n 1, 1) := by decide +kernel
theorem dX9_anew_8 : decode cX9_anew 8 = .ok (.aload_n 0, 1) := by decide +kernel
theorem dX9_anew_9 : decode cX9_anew 9 = .ok (.getfield 40, 3) := by decide +kernel
theorem dX9_anew_12 : decode cX9_anew 12 = .ok (.invokevirtual 202, 3) := by decide +kernel
theorem dX9_anew_15 : decode cX9_anew 15 = .ok (.iload_n 1, 1) := by decide +kernel
theorem dX9_anew_16 : decode cX9_anew 16 = .ok (.ireturn, 1) := by decide +kernel
theorem dX9_tube_0 : decode cX9_tube 0 = .ok (.iload_n 1, 1) := by decide +kernel
theorem dX9_tube_1 : decode cX9_tube 1 = .ok (.iconst 1, 1) := by decide +kernel
theorem dX9_tube_2 : decode cX9_tube 2 = .ok (.if_icmp .lt 9, 3) := by decide +kernel
theorem dX9_tube_5 : decode cX9_tube 5 = .ok (.iload_n 1, 1) := by decide +kernel
theorem dX9_tube_6 : decode cX9_tube 6 = .ok (.bipush 100, 2) := by decide +kernel
theorem dX9_tube_8 : decode cX9_tube 8 = .ok (.if_icmp .le 5, 3) := by decide +kernel
theorem dX9_tube_11 : decode cX9_tube 11 = .ok (.iconst (-1), 1) := by decide +kernel
theorem dX9_tube_12 : decode cX9_tube 12 = .ok (.ireturn, 1) := by decide +kernel
theorem dX9_tube_13 : decode cX9_tube 13 = .ok (.aload_n 0, 1) := by decide +kernel
theorem dX9_tube_14 : decode cX9_tube 14 = .ok (.getfield 47, 3) := by decide +kernel
theorem dX9_tube_17 : decode cX9_tube 17 = .ok (.getfield 222, 3) := by decide +kernel
theorem dX9_tube_20 : decode cX9_tube 20 = .ok (.bipush 10, 2) := by decide +kernel
theorem dX9_tube_22 : decode cX9_tube 22 = .ok (.if_icmp .lt 8, 3) := by decide +kernel
theorem dX9_tube_25 : decode cX9_tube 25 = .ok (.bipush (-3), 2) := by decide +kernel
theorem dX9_tube_27 : decode cX9_tube 27 = .ok (.goto 11, 3) := by decide +kernel
theorem dX9_tube_30 : decode cX9_tube 30 = .ok (.aload_n 0, 1) := by decide +kernel
theorem dX9_tube_31 : decode cX9_tube 31 = .ok (.getfield 47, 3) := by decide +kernel
theorem dX9_tube_34 : decode cX9_tube 34 = .ok (.iload_n 1, 1) := by decide +kernel
theorem dX9_tube_35 : decode cX9_tube 35 = .ok (.invokevirtual 223, 3) := by decide +kernel
theorem dX9_tube_38 : decode cX9_tube 38 = .ok (.ireturn, 1) := by decide +kernel
theorem dX9_press_0 : decode cX9_press 0 = .ok (.iload_n 1, 1) := by decide +kernel
theorem dX9_press_1 : decode cX9_press 1 = .ok (.aload_n 0, 1) := by decide +kernel
theorem dX9_press_2 : decode cX9_press 2 = .ok (.getfield 47, 3) := by decide +kernel
theorem dX9_press_5 : decode cX9_press 5 = .ok (.getfield 222, 3) := by decide +kernel
theorem dX9_press_8 : decode cX9_press 8 = .ok (.invokestatic 58, 3) := by decide +kernel
theorem dX9_press_11 : decode cX9_press 11 = .ok (.ifCond .eq 14, 3) := by decide +kernel
theorem dX9_press_14 : decode cX9_press 14 = .ok (.iload_n 2, 1) := by decide +kernel
theorem dX9_press_15 : decode cX9_press 15 = .ok (.ifCond .ne 12, 3) := by decide +kernel
theorem dX9_press_18 : decode cX9_press 18 = .ok (.iload_n 3, 1) := by decide +kernel
theorem dX9_press_19 : decode cX9_press 19 = .ok (.invokestatic 225, 3) := by decide +kernel
theorem dX9_press_22 : decode cX9_press 22 = .ok (.ifCond .ne 5, 3) := by decide +kernel
theorem dX9_press_25 : decode cX9_press 25 = .ok (.iconst (-1), 1) := by decide +kernel
theorem dX9_press_26 : decode cX9_press 26 = .ok (.ireturn, 1) := by decide +kernel
theorem dX9_press_27 : decode cX9_press 27 = .ok (.aload_n 0, 1) := by decide +kernel
theorem dX9_press_28 : decode cX9_press 28 = .ok (.getfield 47, 3) := by decide +kernel
theorem dX9_press_31 : decode cX9_press 31 = .ok (.getfield 228, 3) := by decide +kernel
theorem dX9_press_34 : decode cX9_press 34 = .ok (.iload_n 1, 1) := by decide +kernel
theorem dX9_press_35 : decode cX9_press 35 = .ok (.iload_n 2, 1) := by decide +kernel
theorem dX9_press_36 : decode cX9_press 36 = .ok (.bastore, 1) := by decide +kernel
theorem dX9_press_37 : decode cX9_press 37 = .ok (.aload_n 0, 1) := by decide +kernel
theorem dX9_press_38 : decode cX9_press 38 = .ok (.getfield 47, 3) := by decide +kernel
theorem dX9_press_41 : decode cX9_press 41 = .ok (.getfield 231, 3) := by decide +kernel
theorem dX9_press_44 : decode cX9_press 44 = .ok (.iload_n 1, 1) := by decide +kernel
theorem dX9_press_45 : decode cX9_press 45 = .ok (.iload_n 2, 1) := by decide +kernel
theorem dX9_press_46 : decode cX9_press 46 = .ok (.ifCond .eq 7, 3) := by decide +kernel
theorem dX9_press_49 : decode cX9_press 49 = .ok (.iconst 0, 1) := by decide +kernel
theorem dX9_press_50 : decode cX9_press 50 = .ok (.goto 4, 3) := by decide +kernel
theorem dX9_press_53 : decode cX9_press 53 = .ok (.iload_n 3, 1) := by decide +kernel
theorem dX9_press_54 : decode cX9_press 54 = .ok (.iastore, 1) := by decide +kernel
theorem dX9_press_55 : decode cX9_press 55 = .ok (.iconst 1, 1) := by decide +kernel
theorem dX9_press_56 : decode cX9_press 56 = .ok (.ireturn, 1) := by decide +kernel
theorem dX9_sheet_0 : decode cX9_sheet 0 = .ok (.iload_n 1, 1) := by decide +kernel
theorem dX9_sheet_1 : decode cX9_sheet 1 = .ok (.iconst 4, 1) := by decide +kernel
theorem dX9_sheet_2 : decode cX9_sheet 2 = .ok (.invokestatic 58, 3) := by decide +kernel
theorem dX9_sheet_5 : decode cX9_sheet 5 = .ok (.ifCond .eq 17, 3) := by decide +kernel
theorem dX9_sheet_8 : decode cX9_sheet 8 = .ok (.iload_n 2, 1) := by decide +kernel
theorem dX9_sheet_9 : decode cX9_sheet 9 = .ok (.iconst 3, 1) := by decide +kernel
theorem dX9_sheet_10 : decode cX9_sheet 10 = .ok (.invokestatic 58, 3) := by decide +kernel
theorem dX9_sheet_13 : decode cX9_sheet 13 = .ok (.ifCond .eq 9, 3) := by decide +kernel
theorem dX9_sheet_16 : decode cX9_sheet 16 = .ok (.iload_n 3, 1) := by decide +kernel
theorem dX9_sheet_17 : decode cX9_sheet 17 = .ok (.bipush 60, 2) := by decide +kernel
theorem dX9_sheet_19 : decode cX9_sheet 19 = .ok (.if_icmp .le 5, 3) := by decide +kernel
theorem dX9_sheet_22 : decode cX9_sheet 22 = .ok (.iconst (-1), 1) := by decide +kernel
theorem dX9_sheet_23 : decode cX9_sheet 23 = .ok (.ireturn, 1) := by decide +kernel
theorem dX9_sheet_24 : decode cX9_sheet 24 = .ok (.iload_n 3, 1) := by decide +kernel
theorem dX9_sheet_25 : decode cX9_sheet 25 = .ok (.ifCond .ge 8, 3) := by decide +kernel
theorem dX9_sheet_28 : decode cX9_sheet 28 = .ok (.iconst 4, 1) := by decide +kernel
theorem dX9_sheet_29 : decode cX9_sheet 29 = .ok (.invokestatic 234, 3) := by decide +kernel
theorem dX9_sheet_32 : decode cX9_sheet 32 = .ok (.ireturn, 1) := by decide +kernel
theorem dX9_sheet_33 : decode cX9_sheet 33 = .ok (.aload_n 0, 1) := by decide +kernel
theorem dX9_sheet_34 : decode cX9_sheet 34 = .ok (.getfield 53, 3) := by decide +kernel
theorem dX9_sheet_37 : decode cX9_sheet 37 = .ok (.iload_n 1, 1) := by decide +kernel
theorem dX9_sheet_38 : decode cX9_sheet 38 = .ok (.aaload, 1) := by decide +kernel
theorem dX9_sheet_39 : decode cX9_sheet 39 = .ok (.iload_n 2, 1) := by decide +kernel
theorem dX9_sheet_40 : decode cX9_sheet 40 = .ok (.iload_n 3, 1) := by decide +kernel
theorem dX9_sheet_41 : decode cX9_sheet 41 = .ok (.invokevirtual 237, 3) := by decide +kernel
theorem dX9_sheet_44 : decode cX9_sheet 44 = .ok (.iconst 1, 1) := by decide +kernel
theorem dX9_sheet_45 : decode cX9_sheet 45 = .ok (.ireturn, 1) := by decide +kernel
theorem dX9_lay_0 : decode cX9_lay 0 = .ok (.iload_n 1, 1) := by decide +kernel
theorem dX9_lay_1 : decode cX9_lay 1 = .ok (.iconst 4, 1) := by decide +kernel
theorem dX9_lay_2 : decode cX9_lay 2 = .ok (.invokestatic 58, 3) := by decide +kernel
theorem dX9_lay_5 : decode cX9_lay 5 = .ok (.ifCond .ne 5, 3) := by decide +kernel
theorem dX9_lay_8 : decode cX9_lay 8 = .ok (.iconst (-1), 1) := by decide +kernel
theorem dX9_lay_9 : decode cX9_lay 9 = .ok (.ireturn, 1) := by decide +kernel
theorem dX9_lay_10 : decode cX9_lay 10 = .ok (.aload_n 0, 1) := by decide +kernel
theorem dX9_lay_11 : decode cX9_lay 11 = .ok (.getfield 53, 3) := by decide +kernel
theorem dX9_lay_14 : decode cX9_lay 14 = .ok (.iload_n 1, 1) := by decide +kernel
theorem dX9_lay_15 : decode cX9_lay 15 = .ok (.aaload, 1) := by decide +kernel
theorem dX9_lay_16 : decode cX9_lay 16 = .ok (.iload_n 2, 1) := by decide +kernel
theorem dX9_lay_17 : decode cX9_lay 17 = .ok (.iconst 1, 1) := by decide +kernel
theorem dX9_lay_18 : decode cX9_lay 18 = .ok (.invokevirtual 241, 3) := by decide +kernel
theorem dX9_lay_21 : decode cX9_lay 21 = .ok (.istore 4, 2) := by decide +kernel
theorem dX9_lay_23 : decode cX9_lay 23 = .ok (.iload 4, 2) := by decide +kernel
theorem dX9_lay_25 : decode cX9_lay 25 = .ok (.ifCond .eq 9, 3) := by decide +kernel
theorem dX9_lay_28 : decode cX9_lay 28 = .ok (.iload 4, 2) := by decide +kernel
theorem dX9_lay_30 : decode cX9_lay 30 = .ok (.invokestatic 234, 3) := by decide +kernel
theorem dX9_lay_33 : decode cX9_lay 33 = .ok (.ireturn, 1) := by decide +kernel
theorem dX9_lay_34 : decode cX9_lay 34 = .ok (.aload_n 0, 1) := by decide +kernel
theorem dX9_lay_35 : decode cX9_lay 35 = .ok (.getfield 53, 3) := by decide +kernel
theorem dX9_lay_38 : decode cX9_lay 38 = .ok (.iload_n 1, 1) := by decide +kernel
theorem dX9_lay_39 : decode cX9_lay 39 = .ok (.aaload, 1) := by decide +kernel
theorem dX9_lay_40 : decode cX9_lay 40 = .ok (.iload_n 2, 1) := by decide +kernel
theorem dX9_lay_41 : decode cX9_lay 41 = .ok (.iload_n 3, 1) := by decide +kernel
theorem dX9_lay_42 : decode cX9_lay 42 = .ok (.invokevirtual 244, 3) := by decide +kernel
theorem dX9_lay_45 : decode cX9_lay 45 = .ok (.iconst 1, 1) := by decide +kernel
theorem dX9_lay_46 : decode cX9_lay 46 = .ok (.ireturn, 1) := by decide +kernel
theorem dX9_scan_0 : decode cX9_scan 0 = .ok (.iload_n 1, 1) := by decide +kernel
theorem dX9_scan_1 : decode cX9_scan 1 = .ok (.iconst 4, 1) := by decide +kernel
theorem dX9_scan_2 : decode cX9_scan 2 = .ok (.invokestatic 58, 3) := by decide +kernel
theorem dX9_scan_5 : decode cX9_scan 5 = .ok (.ifCond .eq 11, 3) := by decide +kernel
theorem dX9_scan_8 : decode cX9_scan 8 = .ok (.iload_n 2, 1) := by decide +kernel
theorem dX9_scan_9 : decode cX9_scan 9 = .ok (.iconst 3, 1) := by decide +kernel
theorem dX9_scan_10 : decode cX9_scan 10 = .ok (.invokestatic 58, 3) := by decide +kernel
theorem dX9_scan_13 : decode cX9_scan 13 = .ok (.ifCond .ne 5, 3) := by decide +kernel
theorem dX9_scan_16 : decode cX9_scan 16 = .ok (.iconst (-1), 1) := by decide +kernel
theorem dX9_scan_17 : decode cX9_scan 17 = .ok (.ireturn, 1) := by decide +kernel
theorem dX9_scan_18 : decode cX9_scan 18 = .ok (.aload_n 0, 1) := by decide +kernel
theorem dX9_scan_19 : decode cX9_scan 19 = .ok (.getfield 53, 3) := by decide +kernel
theorem dX9_scan_22 : decode cX9_scan 22 = .ok (.iload_n 1, 1) := by decide +kernel
theorem dX9_scan_23 : decode cX9_scan 23 = .ok (.aaload, 1) := by decide +kernel
theorem dX9_scan_24 : decode cX9_scan 24 = .ok (.iload_n 2, 1) := by decide +kernel
theorem dX9_scan_25 : decode cX9_scan 25 = .ok (.invokevirtual 247, 3) := by decide +kernel
theorem dX9_scan_28 : decode cX9_scan 28 = .ok (.istore 4, 2) := by decide +kernel
theorem dX9_scan_30 : decode cX9_scan 30 = .ok (.iload 4, 2) := by decide +kernel
theorem dX9_scan_32 : decode cX9_scan 32 = .ok (.ifCond .ne 22, 3) := by decide +kernel
theorem dX9_scan_35 : decode cX9_scan 35 = .ok (.aload_n 0, 1) := by decide +kernel
theorem dX9_scan_36 : decode cX9_scan 36 = .ok (.getfield 53, 3) := by decide +kernel
theorem dX9_scan_39 : decode cX9_scan 39 = .ok (.iload_n 1, 1) := by decide +kernel
theorem dX9_scan_40 : decode cX9_scan 40 = .ok (.aaload, 1) := by decide +kernel
theorem dX9_scan_41 : decode cX9_scan 41 = .ok (.iload_n 3, 1) := by decide +kernel
theorem dX9_scan_42 : decode cX9_scan 42 = .ok (.aload_n 0, 1) := by decide +kernel
theorem dX9_scan_43 : decode cX9_scan 43 = .ok (.getfield 47, 3) := by decide +kernel
theorem dX9_scan_46 : decode cX9_scan 46 = .ok (.getfield 222, 3) := by decide +kernel
theorem dX9_scan_49 : decode cX9_scan 49 = .ok (.invokevirtual 241, 3) := by decide +kernel
theorem dX9_scan_52 : decode cX9_scan 52 = .ok (.istore 4, 2) := by decide +kernel
theorem dX9_scan_54 : decode cX9_scan 54 = .ok (.iload 4, 2) := by decide +kernel
theorem dX9_scan_56 : decode cX9_scan 56 = .ok (.ifCond .eq 9, 3) := by decide +kernel
theorem dX9_scan_59 : decode cX9_scan 59 = .ok (.iload 4, 2) := by decide +kernel
theorem dX9_scan_61 : decode cX9_scan 61 = .ok (.invokestatic 234, 3) := by decide +kernel
theorem dX9_scan_64 : decode cX9_scan 64 = .ok (.ireturn, 1) := by decide +kernel
theorem dX9_scan_65 : decode cX9_scan 65 = .ok (.aload_n 0, 1) := by decide +kernel
theorem dX9_scan_66 : decode cX9_scan 66 = .ok (.getfield 47, 3) := by decide +kernel
theorem dX9_scan_69 : decode cX9_scan 69 = .ok (.aload_n 0, 1) := by decide +kernel
theorem dX9_scan_70 : decode cX9_scan 70 = .ok (.getfield 53, 3) := by decide +kernel
theorem dX9_scan_73 : decode cX9_scan 73 = .ok (.iload_n 1, 1) := by decide +kernel
theorem dX9_scan_74 : decode cX9_scan 74 = .ok (.aaload, 1) := by decide +kernel
theorem dX9_scan_75 : decode cX9_scan 75 = .ok (.iload_n 3, 1) := by decide +kernel
theorem dX9_scan_76 : decode cX9_scan 76 = .ok (.invokevirtual 250, 3) := by decide +kernel
theorem dX9_scan_79 : decode cX9_scan 79 = .ok (.aload_n 0, 1) := by decide +kernel
theorem dX9_scan_80 : decode cX9_scan 80 = .ok (.getfield 47, 3) := by decide +kernel
theorem dX9_scan_83 : decode cX9_scan 83 = .ok (.invokevirtual 254, 3) := by decide +kernel
theorem dX9_scan_86 : decode cX9_scan 86 = .ok (.ireturn, 1) := by decide +kernel
theorem dX9_force_0 : decode cX9_force 0 = .ok (.aload_n 0, 1) := by decide +kernel
theorem dX9_force_1 : decode cX9_force 1 = .ok (.getfield 47, 3) := by decide +kernel
theorem dX9_force_4 : decode cX9_force 4 = .ok (.invokevirtual 258, 3) := by decide +kernel
theorem dX9_force_7 : decode cX9_force 7 = .ok (.ireturn, 1) := by decide +kernel
theorem dX9_check_0 : decode cX9_check 0 = .ok (.iload_n 2, 1) := by decide +kernel
theorem dX9_check_1 : decode cX9_check 1 = .ok (.ifCond .lt 18, 3) := by decide +kernel
theorem dX9_check_4 : decode cX9_check 4 = .ok (.iload_n 2, 1) := by decide +kernel
theorem dX9_check_5 : decode cX9_check 5 = .ok (.ldc 188, 2) := by decide +kernel
theorem dX9_check_7 : decode cX9_check 7 = .ok (.if_icmp .gt 12, 3) := by decide +kernel
theorem dX9_check_10 : decode cX9_check 10 = .ok (.iload_n 1, 1) := by decide +kernel
theorem dX9_check_11 : decode cX9_check 11 = .ok (.ldc 189, 2) := by decide +kernel
theorem dX9_check_13 : decode cX9_check 13 = .ok (.invokestatic 62, 3) := by decide +kernel
theorem dX9_check_16 : decode cX9_check 16 = .ok (.ifCond .ne 5, 3) := by decide +kernel
theorem dX9_check_19 : decode cX9_check 19 = .ok (.iconst (-1), 1) := by decide +kernel
theorem dX9_check_20 : decode cX9_check 20 = .ok (.ireturn, 1) := by decide +kernel
theorem dX9_check_21 : decode cX9_check 21 = .ok (.aload_n 0, 1) := by decide +kernel
theorem dX9_check_22 : decode cX9_check 22 = .ok (.getfield 47, 3) := by decide +kernel
theorem dX9_check_25 : decode cX9_check 25 = .ok (.invokevirtual 254, 3) := by decide +kernel
theorem dX9_check_28 : decode cX9_check 28 = .ok (.ifCond .le 8, 3) := by decide +kernel
theorem dX9_check_31 : decode cX9_check 31 = .ok (.bipush (-2), 2) := by decide +kernel
theorem dX9_check_33 : decode cX9_check 33 = .ok (.goto 12, 3) := by decide +kernel
theorem dX9_check_36 : decode cX9_check 36 = .ok (.aload_n 0, 1) := by decide +kernel
theorem dX9_check_37 : decode cX9_check 37 = .ok (.getfield 47, 3) := by decide +kernel
theorem dX9_check_40 : decode cX9_check 40 = .ok (.iload_n 1, 1) := by decide +kernel
theorem dX9_check_41 : decode cX9_check 41 = .ok (.iload_n 2, 1) := by decide +kernel
theorem dX9_check_42 : decode cX9_check 42 = .ok (.invokevirtual 261, 3) := by decide +kernel
theorem dX9_check_45 : decode cX9_check 45 = .ok (.ireturn, 1) := by decide +kernel
theorem dX9_fill_0 : decode cX9_fill 0 = .ok (.iload_n 1, 1) := by decide +kernel
theorem dX9_fill_1 : decode cX9_fill 1 = .ok (.ldc 189, 2) := by decide +kernel
theorem dX9_fill_3 : decode cX9_fill 3 = .ok (.invokestatic 62, 3) := by decide +kernel
theorem dX9_fill_6 : decode cX9_fill 6 = .ok (.ifCond .ne 5, 3) := by decide +kernel
theorem dX9_fill_9 : decode cX9_fill 9 = .ok (.iconst (-1), 1) := by decide +kernel
theorem dX9_fill_10 : decode cX9_fill 10 = .ok (.ireturn, 1) := by decide +kernel
theorem dX9_fill_11 : decode cX9_fill 11 = .ok (.aload_n 0, 1) := by decide +kernel
theorem dX9_fill_12 : decode cX9_fill 12 = .ok (.getfield 47, 3) := by decide +kernel
theorem dX9_fill_15 : decode cX9_fill 15 = .ok (.invokevirtual 254, 3) := by decide +kernel
theorem dX9_fill_18 : decode cX9_fill 18 = .ok (.iconst 1, 1) := by decide +kernel
theorem dX9_fill_19 : decode cX9_fill 19 = .ok (.if_icmp .ne 14, 3) := by decide +kernel
theorem dX9_fill_22 : decode cX9_fill 22 = .ok (.aload_n 0, 1) := by decide +kernel
theorem dX9_fill_23 : decode cX9_fill 23 = .ok (.getfield 47, 3) := by decide +kernel
theorem dX9_fill_26 : decode cX9_fill 26 = .ok (.iload_n 1, 1) := by decide +kernel
theorem dX9_fill_27 : decode cX9_fill 27 = .ok (.invokevirtual 264, 3) := by decide +kernel
theorem dX9_fill_30 : decode cX9_fill 30 = .ok (.goto 5, 3) := by decide +kernel
theorem dX9_fill_33 : decode cX9_fill 33 = .ok (.bipush (-2), 2) := by decide +kernel
theorem dX9_fill_35 : decode cX9_fill 35 = .ok (.ireturn, 1) := by decide +kernel
theorem dX9_count_0 : decode cX9_count 0 = .ok (.iload_n 1, 1) := by decide +kernel
theorem dX9_count_1 : decode cX9_count 1 = .ok (.tableswitch 87 0 5 #[39, 47, 55, 63, 71, 79], 39) := by decide +kernel
theorem dX9_count_40 : decode cX9_count 40 = .ok (.aload_n 0, 1) := by decide +kernel
theorem dX9_count_41 : decode cX9_count 41 = .ok (.getfield 19, 3) := by decide +kernel
theorem dX9_count_44 : decode cX9_count 44 = .ok (.getfield 99, 3) := by decide +kernel
theorem dX9_count_47 : decode cX9_count 47 = .ok (.ireturn, 1) := by decide +kernel
theorem dX9_count_48 : decode cX9_count 48 = .ok (.aload_n 0, 1) := by decide +kernel
theorem dX9_count_49 : decode cX9_count 49 = .ok (.getfield 26, 3) := by decide +kernel
theorem dX9_count_52 : decode cX9_count 52 = .ok (.getfield 128, 3) := by decide +kernel
theorem dX9_count_55 : decode cX9_count 55 = .ok (.ireturn, 1) := by decide +kernel
theorem dX9_count_56 : decode cX9_count 56 = .ok (.aload_n 0, 1) := by decide +kernel
theorem dX9_count_57 : decode cX9_count 57 = .ok (.getfield 33, 3) := by decide +kernel
theorem dX9_count_60 : decode cX9_count 60 = .ok (.getfield 163, 3) := by decide +kernel
theorem dX9_count_63 : decode cX9_count 63 = .ok (.ireturn, 1) := by decide +kernel
theorem dX9_count_64 : decode cX9_count 64 = .ok (.aload_n 0, 1) := by decide +kernel
theorem dX9_count_65 : decode cX9_count 65 = .ok (.getfield 33, 3) := by decide +kernel
theorem dX9_count_68 : decode cX9_count 68 = .ok (.invokevirtual 267, 3) := by decide +kernel
theorem dX9_count_71 : decode cX9_count 71 = .ok (.ireturn, 1) := by decide +kernel
theorem dX9_count_72 : decode cX9_count 72 = .ok (.aload_n 0, 1) := by decide +kernel
theorem dX9_count_73 : decode cX9_count 73 = .ok (.getfield 47, 3) := by decide +kernel
theorem dX9_count_76 : decode cX9_count 76 = .ok (.getfield 222, 3) := by decide +kernel
theorem dX9_count_79 : decode cX9_count 79 = .ok (.ireturn, 1) := by decide +kernel
theorem dX9_count_80 : decode cX9_count 80 = .ok (.aload_n 0, 1) := by decide +kernel
theorem dX9_count_81 : decode cX9_count 81 = .ok (.getfield 47, 3) := by decide +kernel
theorem dX9_count_84 : decode cX9_count 84 = .ok (.invokevirtual 254, 3) := by decide +kernel
theorem dX9_count_87 : decode cX9_count 87 = .ok (.ireturn, 1) := by decide +kernel
theorem dX9_count_88 : decode cX9_count 88 = .ok (.iconst (-1), 1) := by decide +kernel
theorem dX9_count_89 : decode cX9_count 89 = .ok (.ireturn, 1) := by decide +kernel
theorem dX9_isIndex_0 : decode cX9_isIndex 0 = .ok (.iload_n 0, 1) := by decide +kernel
theorem dX9_isIndex_1 : decode cX9_isIndex 1 = .ok (.ifCond .lt 12, 3) := by decide +kernel
theorem dX9_isIndex_4 : decode cX9_isIndex 4 = .ok (.iload_n 0, 1) := by decide +kernel
theorem dX9_isIndex_5 : decode cX9_isIndex 5 = .ok (.iload_n 1, 1) := by decide +kernel
theorem dX9_isIndex_6 : decode cX9_isIndex 6 = .ok (.if_icmp .ge 7, 3) := by decide +kernel
theorem dX9_isIndex_9 : decode cX9_isIndex 9 = .ok (.iconst 1, 1) := by decide +kernel
theorem dX9_isIndex_10 : decode cX9_isIndex 10 = .ok (.goto 4, 3) := by decide +kernel
theorem dX9_isIndex_13 : decode cX9_isIndex 13 = .ok (.iconst 0, 1) := by decide +kernel
theorem dX9_isIndex_14 : decode cX9_isIndex 14 = .ok (.ireturn, 1) := by decide +kernel
theorem dX9_isWithin_0 : decode cX9_isWithin 0 = .ok (.iload_n 0, 1) := by decide +kernel
theorem dX9_isWithin_1 : decode cX9_isWithin 1 = .ok (.iload_n 1, 1) := by decide +kernel
theorem dX9_isWithin_2 : decode cX9_isWithin 2 = .ok (.ineg, 1) := by decide +kernel
theorem dX9_isWithin_3 : decode cX9_isWithin 3 = .ok (.if_icmp .lt 12, 3) := by decide +kernel
theorem dX9_isWithin_6 : decode cX9_isWithin 6 = .ok (.iload_n 0, 1) := by decide +kernel
theorem dX9_isWithin_7 : decode cX9_isWithin 7 = .ok (.iload_n 1, 1) := by decide +kernel
theorem dX9_isWithin_8 : decode cX9_isWithin 8 = .ok (.if_icmp .gt 7, 3) := by decide +kernel
theorem dX9_isWithin_11 : decode cX9_isWithin 11 = .ok (.iconst 1, 1) := by decide +kernel
theorem dX9_isWithin_12 : decode cX9_isWithin 12 = .ok (.goto 4, 3) := by decide +kernel
theorem dX9_isWithin_15 : decode cX9_isWithin 15 = .ok (.iconst 0, 1) := by decide +kernel
theorem dX9_isWithin_16 : decode cX9_isWithin 16 = .ok (.ireturn, 1) := by decide +kernel
theorem dX9_areLoads_0 : decode cX9_areLoads 0 = .ok (.iload_n 0, 1) := by decide +kernel
theorem dX9_areLoads_1 : decode cX9_areLoads 1 = .ok (.bipush 50, 2) := by decide +kernel
theorem dX9_areLoads_3 : decode cX9_areLoads 3 = .ok (.invokestatic 62, 3) := by decide +kernel
theorem dX9_areLoads_6 : decode cX9_areLoads 6 = .ok (.ifCond .eq 25, 3) := by decide +kernel
theorem dX9_areLoads_9 : decode cX9_areLoads 9 = .ok (.iload_n 1, 1) := by decide +kernel
theorem dX9_areLoads_10 : decode cX9_areLoads 10 = .ok (.bipush 50, 2) := by decide +kernel
theorem dX9_areLoads_12 : decode cX9_areLoads 12 = .ok (.invokestatic 62, 3) := by decide +kernel
theorem dX9_areLoads_15 : decode cX9_areLoads 15 = .ok (.ifCond .eq 16, 3) := by decide +kernel
theorem dX9_areLoads_18 : decode cX9_areLoads 18 = .ok (.iload_n 2, 1) := by decide +kernel
theorem dX9_areLoads_19 : decode cX9_areLoads 19 = .ok (.bipush 50, 2) := by decide +kernel
theorem dX9_areLoads_21 : decode cX9_areLoads 21 = .ok (.invokestatic 62, 3) := by decide +kernel
theorem dX9_areLoads_24 : decode cX9_areLoads 24 = .ok (.ifCond .eq 7, 3) := by decide +kernel
theorem dX9_areLoads_27 : decode cX9_areLoads 27 = .ok (.iconst 1, 1) := by decide +kernel
theorem dX9_areLoads_28 : decode cX9_areLoads 28 = .ok (.goto 4, 3) := by decide +kernel
theorem dX9_areLoads_31 : decode cX9_areLoads 31 = .ok (.iconst 0, 1) := by decide +kernel
theorem dX9_areLoads_32 : decode cX9_areLoads 32 = .ok (.ireturn, 1) := by decide +kernel
theorem dX9_areReadings_0 : decode cX9_areReadings 0 = .ok (.iload_n 0, 1) := by decide +kernel
theorem dX9_areReadings_1 : decode cX9_areReadings 1 = .ok (.ldc 189, 2) := by decide +kernel
theorem dX9_areReadings_3 : decode cX9_areReadings 3 = .ok (.invokestatic 62, 3) := by decide +kernel
theorem dX9_areReadings_6 : decode cX9_areReadings 6 = .ok (.ifCond .eq 25, 3) := by decide +kernel
theorem dX9_areReadings_9 : decode cX9_areReadings 9 = .ok (.iload_n 1, 1) := by decide +kernel
theorem dX9_areReadings_10 : decode cX9_areReadings 10 = .ok (.ldc 189, 2) := by decide +kernel
theorem dX9_areReadings_12 : decode cX9_areReadings 12 = .ok (.invokestatic 62, 3) := by decide +kernel
theorem dX9_areReadings_15 : decode cX9_areReadings 15 = .ok (.ifCond .eq 16, 3) := by decide +kernel
theorem dX9_areReadings_18 : decode cX9_areReadings 18 = .ok (.iload_n 2, 1) := by decide +kernel
theorem dX9_areReadings_19 : decode cX9_areReadings 19 = .ok (.ldc 189, 2) := by decide +kernel
theorem dX9_areReadings_21 : decode cX9_areReadings 21 = .ok (.invokestatic 62, 3) := by decide +kernel
theorem dX9_areReadings_24 : decode cX9_areReadings 24 = .ok (.ifCond .eq 7, 3) := by decide +kernel
theorem dX9_areReadings_27 : decode cX9_areReadings 27 = .ok (.iconst 1, 1) := by decide +kernel
theorem dX9_areReadings_28 : decode cX9_areReadings 28 = .ok (.goto 4, 3) := by decide +kernel
theorem dX9_areReadings_31 : decode cX9_areReadings 31 = .ok (.iconst 0, 1) := by decide +kernel
theorem dX9_areReadings_32 : decode cX9_areReadings 32 = .ok (.ireturn, 1) := by decide +kernel
theorem dX9_setRow_0 : decode cX9_setRow 0 = .ok (.aload_n 0, 1) := by decide +kernel
theorem dX9_setRow_1 : decode cX9_setRow 1 = .ok (.iconst 0, 1) := by decide +kernel
theorem dX9_setRow_2 : decode cX9_setRow 2 = .ok (.iload_n 1, 1) := by decide +kernel
theorem dX9_setRow_3 : decode cX9_setRow 3 = .ok (.iastore, 1) := by decide +kernel
theorem dX9_setRow_4 : decode cX9_setRow 4 = .ok (.aload_n 0, 1) := by decide +kernel
theorem dX9_setRow_5 : decode cX9_setRow 5 = .ok (.iconst 1, 1) := by decide +kernel
theorem dX9_setRow_6 : decode cX9_setRow 6 = .ok (.iload_n 2, 1) := by decide +kernel
theorem dX9_setRow_7 : decode cX9_setRow 7 = .ok (.iastore, 1) := by decide +kernel
theorem dX9_setRow_8 : decode cX9_setRow 8 = .ok (.aload_n 0, 1) := by decide +kernel
theorem dX9_setRow_9 : decode cX9_setRow 9 = .ok (.iconst 2, 1) := by decide +kernel
theorem dX9_setRow_10 : decode cX9_setRow 10 = .ok (.iload_n 3, 1) := by decide +kernel
theorem dX9_setRow_11 : decode cX9_setRow 11 = .ok (.iastore, 1) := by decide +kernel
theorem dX9_setRow_12 : decode cX9_setRow 12 = .ok (.return_, 1) := by decide +kernel
theorem dX9_answerOfFault_0 : decode cX9_answerOfFault 0 = .ok (.bipush (-10), 2) := by decide +kernel
theorem dX9_answerOfFault_2 : decode cX9_answerOfFault 2 = .ok (.iload_n 0, 1) := by decide +kernel
theorem dX9_answerOfFault_3 : decode cX9_answerOfFault 3 = .ok (.isub, 1) := by decide +kernel
theorem dX9_answerOfFault_4 : decode cX9_answerOfFault 4 = .ok (.ireturn, 1) := by decide +kernel
