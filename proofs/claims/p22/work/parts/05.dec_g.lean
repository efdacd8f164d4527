theorem dX10_anew_0 : decode cX10_anew 0 = .ok (.aload_n 0, 1) := by decide +kernel
theorem dX10_anew_1 : decode cX10_anew 1 = .ok (.getfield 257, 3) := by decide +kernel
theorem dX10_anew_4 : decode cX10_anew 4 = .ok (.istore_n 1, 1) := by decide +kernel
theorem dX10_anew_5 : decode cX10_anew 5 = .ok (.aload_n 0, 1) := by decide +kernel
theorem dX10_anew_6 : decode cX10_anew 6 = .ok (.invokevirtual 264, 3) := by decide +kernel
theorem dX10_anew_9 : decode cX10_anew 9 = .ok (.iload_n 1, 1) := by decide +kernel
theorem dX10_anew_10 : decode cX10_anew 10 = .ok (.ireturn, 1) := by decide +kernel
theorem dX10_tube_0 : decode cX10_tube 0 = .ok (.iload_n 1, 1) := by decide +kernel
theorem dX10_tube_1 : decode cX10_tube 1 = .ok (.i2l, 1) := by decide +kernel
theorem dX10_tube_2 : decode cX10_tube 2 = .ok (.lconst 1, 1) := by decide +kernel
theorem dX10_tube_3 : decode cX10_tube 3 = .ok (.ldc2_w 126, 3) := by decide +kernel
theorem dX10_tube_6 : decode cX10_tube 6 = .ok (.invokestatic 114, 3) := by decide +kernel
theorem dX10_tube_9 : decode cX10_tube 9 = .ok (.ifCond .ne 5, 3) := by decide +kernel
theorem dX10_tube_12 : decode cX10_tube 12 = .ok (.iconst (-1), 1) := by decide +kernel
theorem dX10_tube_13 : decode cX10_tube 13 = .ok (.ireturn, 1) := by decide +kernel
theorem dX10_tube_14 : decode cX10_tube 14 = .ok (.aload_n 0, 1) := by decide +kernel
theorem dX10_tube_15 : decode cX10_tube 15 = .ok (.getfield 273, 3) := by decide +kernel
theorem dX10_tube_18 : decode cX10_tube 18 = .ok (.bipush 10, 2) := by decide +kernel
theorem dX10_tube_20 : decode cX10_tube 20 = .ok (.if_icmp .ne 6, 3) := by decide +kernel
theorem dX10_tube_23 : decode cX10_tube 23 = .ok (.bipush (-3), 2) := by decide +kernel
theorem dX10_tube_25 : decode cX10_tube 25 = .ok (.ireturn, 1) := by decide +kernel
theorem dX10_tube_26 : decode cX10_tube 26 = .ok (.aload_n 0, 1) := by decide +kernel
theorem dX10_tube_27 : decode cX10_tube 27 = .ok (.getfield 92, 3) := by decide +kernel
theorem dX10_tube_30 : decode cX10_tube 30 = .ok (.aload_n 0, 1) := by decide +kernel
theorem dX10_tube_31 : decode cX10_tube 31 = .ok (.getfield 273, 3) := by decide +kernel
theorem dX10_tube_34 : decode cX10_tube 34 = .ok (.iload_n 1, 1) := by decide +kernel
theorem dX10_tube_35 : decode cX10_tube 35 = .ok (.iastore, 1) := by decide +kernel
theorem dX10_tube_36 : decode cX10_tube 36 = .ok (.aload_n 0, 1) := by decide +kernel
theorem dX10_tube_37 : decode cX10_tube 37 = .ok (.getfield 95, 3) := by decide +kernel
theorem dX10_tube_40 : decode cX10_tube 40 = .ok (.aload_n 0, 1) := by decide +kernel
theorem dX10_tube_41 : decode cX10_tube 41 = .ok (.getfield 273, 3) := by decide +kernel
theorem dX10_tube_44 : decode cX10_tube 44 = .ok (.iconst 0, 1) := by decide +kernel
theorem dX10_tube_45 : decode cX10_tube 45 = .ok (.iastore, 1) := by decide +kernel
theorem dX10_tube_46 : decode cX10_tube 46 = .ok (.aload_n 0, 1) := by decide +kernel
theorem dX10_tube_47 : decode cX10_tube 47 = .ok (.getfield 98, 3) := by decide +kernel
theorem dX10_tube_50 : decode cX10_tube 50 = .ok (.aload_n 0, 1) := by decide +kernel
theorem dX10_tube_51 : decode cX10_tube 51 = .ok (.getfield 273, 3) := by decide +kernel
theorem dX10_tube_54 : decode cX10_tube 54 = .ok (.iconst 1, 1) := by decide +kernel
theorem dX10_tube_55 : decode cX10_tube 55 = .ok (.bastore, 1) := by decide +kernel
theorem dX10_tube_56 : decode cX10_tube 56 = .ok (.aload_n 0, 1) := by decide +kernel
theorem dX10_tube_57 : decode cX10_tube 57 = .ok (.dup, 1) := by decide +kernel
theorem dX10_tube_58 : decode cX10_tube 58 = .ok (.getfield 273, 3) := by decide +kernel
theorem dX10_tube_61 : decode cX10_tube 61 = .ok (.iconst 1, 1) := by decide +kernel
theorem dX10_tube_62 : decode cX10_tube 62 = .ok (.iadd, 1) := by decide +kernel
theorem dX10_tube_63 : decode cX10_tube 63 = .ok (.putfield 273, 3) := by decide +kernel
theorem dX10_tube_66 : decode cX10_tube 66 = .ok (.aload_n 0, 1) := by decide +kernel
theorem dX10_tube_67 : decode cX10_tube 67 = .ok (.getfield 273, 3) := by decide +kernel
theorem dX10_tube_70 : decode cX10_tube 70 = .ok (.iconst 1, 1) := by decide +kernel
theorem dX10_tube_71 : decode cX10_tube 71 = .ok (.isub, 1) := by decide +kernel
theorem dX10_tube_72 : decode cX10_tube 72 = .ok (.ireturn, 1) := by decide +kernel
theorem dX10_press_0 : decode cX10_press 0 = .ok (.iload_n 1, 1) := by decide +kernel
theorem dX10_press_1 : decode cX10_press 1 = .ok (.i2l, 1) := by decide +kernel
theorem dX10_press_2 : decode cX10_press 2 = .ok (.lconst 0, 1) := by decide +kernel
theorem dX10_press_3 : decode cX10_press 3 = .ok (.aload_n 0, 1) := by decide +kernel
theorem dX10_press_4 : decode cX10_press 4 = .ok (.getfield 273, 3) := by decide +kernel
theorem dX10_press_7 : decode cX10_press 7 = .ok (.iconst 1, 1) := by decide +kernel
theorem dX10_press_8 : decode cX10_press 8 = .ok (.isub, 1) := by decide +kernel
theorem dX10_press_9 : decode cX10_press 9 = .ok (.i2l, 1) := by decide +kernel
theorem dX10_press_10 : decode cX10_press 10 = .ok (.invokestatic 114, 3) := by decide +kernel
theorem dX10_press_13 : decode cX10_press 13 = .ok (.ifCond .eq 21, 3) := by decide +kernel
theorem dX10_press_16 : decode cX10_press 16 = .ok (.iload_n 2, 1) := by decide +kernel
theorem dX10_press_17 : decode cX10_press 17 = .ok (.ifCond .ne 19, 3) := by decide +kernel
theorem dX10_press_20 : decode cX10_press 20 = .ok (.iload_n 3, 1) := by decide +kernel
theorem dX10_press_21 : decode cX10_press 21 = .ok (.i2l, 1) := by decide +kernel
theorem dX10_press_22 : decode cX10_press 22 = .ok (.ldc2_w 276, 3) := by decide +kernel
theorem dX10_press_25 : decode cX10_press 25 = .ok (.ldc2_w 194, 3) := by decide +kernel
theorem dX10_press_28 : decode cX10_press 28 = .ok (.invokestatic 114, 3) := by decide +kernel
theorem dX10_press_31 : decode cX10_press 31 = .ok (.ifCond .ne 5, 3) := by decide +kernel
theorem dX10_press_34 : decode cX10_press 34 = .ok (.iconst (-1), 1) := by decide +kernel
theorem dX10_press_35 : decode cX10_press 35 = .ok (.ireturn, 1) := by decide +kernel
theorem dX10_press_36 : decode cX10_press 36 = .ok (.aload_n 0, 1) := by decide +kernel
theorem dX10_press_37 : decode cX10_press 37 = .ok (.getfield 98, 3) := by decide +kernel
theorem dX10_press_40 : decode cX10_press 40 = .ok (.iload_n 1, 1) := by decide +kernel
theorem dX10_press_41 : decode cX10_press 41 = .ok (.iload_n 2, 1) := by decide +kernel
theorem dX10_press_42 : decode cX10_press 42 = .ok (.bastore, 1) := by decide +kernel
theorem dX10_press_43 : decode cX10_press 43 = .ok (.aload_n 0, 1) := by decide +kernel
theorem dX10_press_44 : decode cX10_press 44 = .ok (.getfield 95, 3) := by decide +kernel
theorem dX10_press_47 : decode cX10_press 47 = .ok (.iload_n 1, 1) := by decide +kernel
theorem dX10_press_48 : decode cX10_press 48 = .ok (.iload_n 2, 1) := by decide +kernel
theorem dX10_press_49 : decode cX10_press 49 = .ok (.ifCond .eq 7, 3) := by decide +kernel
theorem dX10_press_52 : decode cX10_press 52 = .ok (.iconst 0, 1) := by decide +kernel
theorem dX10_press_53 : decode cX10_press 53 = .ok (.goto 4, 3) := by decide +kernel
theorem dX10_press_56 : decode cX10_press 56 = .ok (.iload_n 3, 1) := by decide +kernel
theorem dX10_press_57 : decode cX10_press 57 = .ok (.iastore, 1) := by decide +kernel
theorem dX10_press_58 : decode cX10_press 58 = .ok (.iconst 1, 1) := by decide +kernel
theorem dX10_press_59 : decode cX10_press 59 = .ok (.ireturn, 1) := by decide +kernel
theorem dX10_sheet_0 : decode cX10_sheet 0 = .ok (.iload_n 1, 1) := by decide +kernel
theorem dX10_sheet_1 : decode cX10_sheet 1 = .ok (.i2l, 1) := by decide +kernel
theorem dX10_sheet_2 : decode cX10_sheet 2 = .ok (.lconst 0, 1) := by decide +kernel
theorem dX10_sheet_3 : decode cX10_sheet 3 = .ok (.ldc2_w 271, 3) := by decide +kernel
theorem dX10_sheet_6 : decode cX10_sheet 6 = .ok (.invokestatic 114, 3) := by decide +kernel
theorem dX10_sheet_9 : decode cX10_sheet 9 = .ok (.ifCond .eq 21, 3) := by decide +kernel
theorem dX10_sheet_12 : decode cX10_sheet 12 = .ok (.iload_n 2, 1) := by decide +kernel
theorem dX10_sheet_13 : decode cX10_sheet 13 = .ok (.i2l, 1) := by decide +kernel
theorem dX10_sheet_14 : decode cX10_sheet 14 = .ok (.lconst 0, 1) := by decide +kernel
theorem dX10_sheet_15 : decode cX10_sheet 15 = .ok (.ldc2_w 122, 3) := by decide +kernel
theorem dX10_sheet_18 : decode cX10_sheet 18 = .ok (.invokestatic 114, 3) := by decide +kernel
theorem dX10_sheet_21 : decode cX10_sheet 21 = .ok (.ifCond .eq 9, 3) := by decide +kernel
theorem dX10_sheet_24 : decode cX10_sheet 24 = .ok (.iload_n 3, 1) := by decide +kernel
theorem dX10_sheet_25 : decode cX10_sheet 25 = .ok (.bipush 60, 2) := by decide +kernel
theorem dX10_sheet_27 : decode cX10_sheet 27 = .ok (.if_icmp .le 5, 3) := by decide +kernel
theorem dX10_sheet_30 : decode cX10_sheet 30 = .ok (.iconst (-1), 1) := by decide +kernel
theorem dX10_sheet_31 : decode cX10_sheet 31 = .ok (.ireturn, 1) := by decide +kernel
theorem dX10_sheet_32 : decode cX10_sheet 32 = .ok (.iload_n 3, 1) := by decide +kernel
theorem dX10_sheet_33 : decode cX10_sheet 33 = .ok (.ifCond .ge 6, 3) := by decide +kernel
theorem dX10_sheet_36 : decode cX10_sheet 36 = .ok (.bipush (-14), 2) := by decide +kernel
theorem dX10_sheet_38 : decode cX10_sheet 38 = .ok (.ireturn, 1) := by decide +kernel
theorem dX10_sheet_39 : decode cX10_sheet 39 = .ok (.aload_n 0, 1) := by decide +kernel
theorem dX10_sheet_40 : decode cX10_sheet 40 = .ok (.getfield 101, 3) := by decide +kernel
theorem dX10_sheet_43 : decode cX10_sheet 43 = .ok (.iload_n 1, 1) := by decide +kernel
theorem dX10_sheet_44 : decode cX10_sheet 44 = .ok (.iload_n 2, 1) := by decide +kernel
theorem dX10_sheet_45 : decode cX10_sheet 45 = .ok (.iastore, 1) := by decide +kernel
theorem dX10_sheet_46 : decode cX10_sheet 46 = .ok (.aload_n 0, 1) := by decide +kernel
theorem dX10_sheet_47 : decode cX10_sheet 47 = .ok (.getfield 104, 3) := by decide +kernel
theorem dX10_sheet_50 : decode cX10_sheet 50 = .ok (.iload_n 1, 1) := by decide +kernel
theorem dX10_sheet_51 : decode cX10_sheet 51 = .ok (.iload_n 3, 1) := by decide +kernel
theorem dX10_sheet_52 : decode cX10_sheet 52 = .ok (.iastore, 1) := by decide +kernel
theorem dX10_sheet_53 : decode cX10_sheet 53 = .ok (.iconst 0, 1) := by decide +kernel
theorem dX10_sheet_54 : decode cX10_sheet 54 = .ok (.istore 4, 2) := by decide +kernel
theorem dX10_sheet_56 : decode cX10_sheet 56 = .ok (.iload 4, 2) := by decide +kernel
theorem dX10_sheet_58 : decode cX10_sheet 58 = .ok (.bipush 60, 2) := by decide +kernel
theorem dX10_sheet_60 : decode cX10_sheet 60 = .ok (.if_icmp .ge 22, 3) := by decide +kernel
theorem dX10_sheet_63 : decode cX10_sheet 63 = .ok (.aload_n 0, 1) := by decide +kernel
theorem dX10_sheet_64 : decode cX10_sheet 64 = .ok (.getfield 107, 3) := by decide +kernel
theorem dX10_sheet_67 : decode cX10_sheet 67 = .ok (.bipush 60, 2) := by decide +kernel
theorem dX10_sheet_69 : decode cX10_sheet 69 = .ok (.iload_n 1, 1) := by decide +kernel
theorem dX10_sheet_70 : decode cX10_sheet 70 = .ok (.imul, 1) := by decide +kernel
theorem dX10_sheet_71 : decode cX10_sheet 71 = .ok (.iload 4, 2) := by decide +kernel
theorem dX10_sheet_73 : decode cX10_sheet 73 = .ok (.iadd, 1) := by decide +kernel
theorem dX10_sheet_74 : decode cX10_sheet 74 = .ok (.iconst 0, 1) := by decide +kernel
theorem dX10_sheet_75 : decode cX10_sheet 75 = .ok (.iastore, 1) := by decide +kernel
theorem dX10_sheet_76 : decode cX10_sheet 76 = .ok (.iinc 4 1, 3) := by decide +kernel
theorem dX10_sheet_79 : decode cX10_sheet 79 = .ok (.goto (-23), 3) := by decide +kernel
theorem dX10_sheet_82 : decode cX10_sheet 82 = .ok (.iconst 1, 1) := by decide +kernel
theorem dX10_sheet_83 : decode cX10_sheet 83 = .ok (.ireturn, 1) := by decide +kernel
theorem dX10_lay_0 : decode cX10_lay 0 = .ok (.iload_n 1, 1) := by decide +kernel
theorem dX10_lay_1 : decode cX10_lay 1 = .ok (.i2l, 1) := by decide +kernel
theorem dX10_lay_2 : decode cX10_lay 2 = .ok (.lconst 0, 1) := by decide +kernel
theorem dX10_lay_3 : decode cX10_lay 3 = .ok (.ldc2_w 271, 3) := by decide +kernel
theorem dX10_lay_6 : decode cX10_lay 6 = .ok (.invokestatic 114, 3) := by decide +kernel
theorem dX10_lay_9 : decode cX10_lay 9 = .ok (.ifCond .ne 5, 3) := by decide +kernel
theorem dX10_lay_12 : decode cX10_lay 12 = .ok (.iconst (-1), 1) := by decide +kernel
theorem dX10_lay_13 : decode cX10_lay 13 = .ok (.ireturn, 1) := by decide +kernel
theorem dX10_lay_14 : decode cX10_lay 14 = .ok (.aload_n 0, 1) := by decide +kernel
theorem dX10_lay_15 : decode cX10_lay 15 = .ok (.getfield 101, 3) := by decide +kernel
theorem dX10_lay_18 : decode cX10_lay 18 = .ok (.iload_n 1, 1) := by decide +kernel
theorem dX10_lay_19 : decode cX10_lay 19 = .ok (.iaload, 1) := by decide +kernel
theorem dX10_lay_20 : decode cX10_lay 20 = .ok (.bipush (-4), 2) := by decide +kernel
theorem dX10_lay_22 : decode cX10_lay 22 = .ok (.if_icmp .ne 6, 3) := by decide +kernel
theorem dX10_lay_25 : decode cX10_lay 25 = .ok (.bipush (-11), 2) := by decide +kernel
theorem dX10_lay_27 : decode cX10_lay 27 = .ok (.ireturn, 1) := by decide +kernel
theorem dX10_lay_28 : decode cX10_lay 28 = .ok (.iload_n 2, 1) := by decide +kernel
theorem dX10_lay_29 : decode cX10_lay 29 = .ok (.i2l, 1) := by decide +kernel
theorem dX10_lay_30 : decode cX10_lay 30 = .ok (.lconst 0, 1) := by decide +kernel
theorem dX10_lay_31 : decode cX10_lay 31 = .ok (.aload_n 0, 1) := by decide +kernel
theorem dX10_lay_32 : decode cX10_lay 32 = .ok (.getfield 104, 3) := by decide +kernel
theorem dX10_lay_35 : decode cX10_lay 35 = .ok (.iload_n 1, 1) := by decide +kernel
theorem dX10_lay_36 : decode cX10_lay 36 = .ok (.iaload, 1) := by decide +kernel
theorem dX10_lay_37 : decode cX10_lay 37 = .ok (.iconst 1, 1) := by decide +kernel
theorem dX10_lay_38 : decode cX10_lay 38 = .ok (.isub, 1) := by decide +kernel
theorem dX10_lay_39 : decode cX10_lay 39 = .ok (.i2l, 1) := by decide +kernel
theorem dX10_lay_40 : decode cX10_lay 40 = .ok (.invokestatic 114, 3) := by decide +kernel
theorem dX10_lay_43 : decode cX10_lay 43 = .ok (.ifCond .ne 6, 3) := by decide +kernel
theorem dX10_lay_46 : decode cX10_lay 46 = .ok (.bipush (-12), 2) := by decide +kernel
theorem dX10_lay_48 : decode cX10_lay 48 = .ok (.ireturn, 1) := by decide +kernel
theorem dX10_lay_49 : decode cX10_lay 49 = .ok (.aload_n 0, 1) := by decide +kernel
theorem dX10_lay_50 : decode cX10_lay 50 = .ok (.getfield 107, 3) := by decide +kernel
theorem dX10_lay_53 : decode cX10_lay 53 = .ok (.bipush 60, 2) := by decide +kernel
theorem dX10_lay_55 : decode cX10_lay 55 = .ok (.iload_n 1, 1) := by decide +kernel
theorem dX10_lay_56 : decode cX10_lay 56 = .ok (.imul, 1) := by decide +kernel
theorem dX10_lay_57 : decode cX10_lay 57 = .ok (.iload_n 2, 1) := by decide +kernel
theorem dX10_lay_58 : decode cX10_lay 58 = .ok (.iadd, 1) := by decide +kernel
theorem dX10_lay_59 : decode cX10_lay 59 = .ok (.aload_n 0, 1) := by decide +kernel
theorem dX10_lay_60 : decode cX10_lay 60 = .ok (.getfield 101, 3) := by decide +kernel
theorem dX10_lay_63 : decode cX10_lay 63 = .ok (.iload_n 1, 1) := by decide +kernel
theorem dX10_lay_64 : decode cX10_lay 64 = .ok (.iaload, 1) := by decide +kernel
theorem dX10_lay_65 : decode cX10_lay 65 = .ok (.ifCond .ne 8, 3) := by decide +kernel
theorem dX10_lay_68 : decode cX10_lay 68 = .ok (.iload_n 3, 1) := by decide +kernel
theorem dX10_lay_69 : decode cX10_lay 69 = .ok (.i2b, 1) := by decide +kernel
theorem dX10_lay_70 : decode cX10_lay 70 = .ok (.goto 19, 3) := by decide +kernel
theorem dX10_lay_73 : decode cX10_lay 73 = .ok (.aload_n 0, 1) := by decide +kernel
theorem dX10_lay_74 : decode cX10_lay 74 = .ok (.getfield 101, 3) := by decide +kernel
theorem dX10_lay_77 : decode cX10_lay 77 = .ok (.iload_n 1, 1) := by decide +kernel
theorem dX10_lay_78 : decode cX10_lay 78 = .ok (.iaload, 1) := by decide +kernel
theorem dX10_lay_79 : decode cX10_lay 79 = .ok (.iconst 1, 1) := by decide +kernel
theorem dX10_lay_80 : decode cX10_lay 80 = .ok (.if_icmp .ne 8, 3) := by decide +kernel
theorem dX10_lay_83 : decode cX10_lay 83 = .ok (.iload_n 3, 1) := by decide +kernel
theorem dX10_lay_84 : decode cX10_lay 84 = .ok (.i2s, 1) := by decide +kernel
theorem dX10_lay_85 : decode cX10_lay 85 = .ok (.goto 4, 3) := by decide +kernel
theorem dX10_lay_88 : decode cX10_lay 88 = .ok (.iload_n 3, 1) := by decide +kernel
theorem dX10_lay_89 : decode cX10_lay 89 = .ok (.iastore, 1) := by decide +kernel
theorem dX10_lay_90 : decode cX10_lay 90 = .ok (.iconst 1, 1) := by decide +kernel
theorem dX10_lay_91 : decode cX10_lay 91 = .ok (.ireturn, 1) := by decide +kernel
theorem dX10_lostMany_0 : decode cX10_lostMany 0 = .ok (.iconst 0, 1) := by decide +kernel
theorem dX10_lostMany_1 : decode cX10_lostMany 1 = .ok (.istore_n 1, 1) := by decide +kernel
theorem dX10_lostMany_2 : decode cX10_lostMany 2 = .ok (.iconst 0, 1) := by decide +kernel
theorem dX10_lostMany_3 : decode cX10_lostMany 3 = .ok (.istore_n 2, 1) := by decide +kernel
theorem dX10_lostMany_4 : decode cX10_lostMany 4 = .ok (.iload_n 2, 1) := by decide +kernel
theorem dX10_lostMany_5 : decode cX10_lostMany 5 = .ok (.aload_n 0, 1) := by decide +kernel
theorem dX10_lostMany_6 : decode cX10_lostMany 6 = .ok (.getfield 273, 3) := by decide +kernel
theorem dX10_lostMany_9 : decode cX10_lostMany 9 = .ok (.if_icmp .ge 26, 3) := by decide +kernel
theorem dX10_lostMany_12 : decode cX10_lostMany 12 = .ok (.iload_n 1, 1) := by decide +kernel
theorem dX10_lostMany_13 : decode cX10_lostMany 13 = .ok (.aload_n 0, 1) := by decide +kernel
theorem dX10_lostMany_14 : decode cX10_lostMany 14 = .ok (.getfield 98, 3) := by decide +kernel
theorem dX10_lostMany_17 : decode cX10_lostMany 17 = .ok (.iload_n 2, 1) := by decide +kernel
theorem dX10_lostMany_18 : decode cX10_lostMany 18 = .ok (.baload, 1) := by decide +kernel
theorem dX10_lostMany_19 : decode cX10_lostMany 19 = .ok (.ifCond .eq 7, 3) := by decide +kernel
theorem dX10_lostMany_22 : decode cX10_lostMany 22 = .ok (.iconst 1, 1) := by decide +kernel
theorem dX10_lostMany_23 : decode cX10_lostMany 23 = .ok (.goto 4, 3) := by decide +kernel
theorem dX10_lostMany_26 : decode cX10_lostMany 26 = .ok (.iconst 0, 1) := by decide +kernel
theorem dX10_lostMany_27 : decode cX10_lostMany 27 = .ok (.iadd, 1) := by decide +kernel
theorem dX10_lostMany_28 : decode cX10_lostMany 28 = .ok (.istore_n 1, 1) := by decide +kernel
theorem dX10_lostMany_29 : decode cX10_lostMany 29 = .ok (.iinc 2 1, 3) := by decide +kernel
theorem dX10_lostMany_32 : decode cX10_lostMany 32 = .ok (.goto (-28), 3) := by decide +kernel
theorem dX10_lostMany_35 : decode cX10_lostMany 35 = .ok (.iload_n 1, 1) := by decide +kernel
theorem dX10_lostMany_36 : decode cX10_lostMany 36 = .ok (.ireturn, 1) := by decide +kernel
theorem dX10_scan_0 : decode cX10_scan 0 = .ok (.iload_n 1, 1) := by decide +kernel
theorem dX10_scan_1 : decode cX10_scan 1 = .ok (.i2l, 1) := by decide +kernel
theorem dX10_scan_2 : decode cX10_scan 2 = .ok (.lconst 0, 1) := by decide +kernel
theorem dX10_scan_3 : decode cX10_scan 3 = .ok (.ldc2_w 271, 3) := by decide +kernel
theorem dX10_scan_6 : decode cX10_scan 6 = .ok (.invokestatic 114, 3) := by decide +kernel
theorem dX10_scan_9 : decode cX10_scan 9 = .ok (.ifCond .eq 15, 3) := by decide +kernel
theorem dX10_scan_12 : decode cX10_scan 12 = .ok (.iload_n 2, 1) := by decide +kernel
theorem dX10_scan_13 : decode cX10_scan 13 = .ok (.i2l, 1) := by decide +kernel
theorem dX10_scan_14 : decode cX10_scan 14 = .ok (.lconst 0, 1) := by decide +kernel
theorem dX10_scan_15 : decode cX10_scan 15 = .ok (.ldc2_w 122, 3) := by decide +kernel
theorem dX10_scan_18 : decode cX10_scan 18 = .ok (.invokestatic 114, 3) := by decide +kernel
theorem dX10_scan_21 : decode cX10_scan 21 = .ok (.ifCond .ne 5, 3) := by decide +kernel
theorem dX10_scan_24 : decode cX10_scan 24 = .ok (.iconst (-1), 1) := by decide +kernel
theorem dX10_scan_25 : decode cX10_scan 25 = .ok (.ireturn, 1) := by decide +kernel
theorem dX10_scan_26 : decode cX10_scan 26 = .ok (.aload_n 0, 1) := by decide +kernel
theorem dX10_scan_27 : decode cX10_scan 27 = .ok (.getfield 101, 3) := by decide +kernel
theorem dX10_scan_30 : decode cX10_scan 30 = .ok (.iload_n 1, 1) := by decide +kernel
theorem dX10_scan_31 : decode cX10_scan 31 = .ok (.iaload, 1) := by decide +kernel
theorem dX10_scan_32 : decode cX10_scan 32 = .ok (.iload_n 2, 1) := by decide +kernel
theorem dX10_scan_33 : decode cX10_scan 33 = .ok (.if_icmp .eq 22, 3) := by decide +kernel
theorem dX10_scan_36 : decode cX10_scan 36 = .ok (.aload_n 0, 1) := by decide +kernel
theorem dX10_scan_37 : decode cX10_scan 37 = .ok (.getfield 101, 3) := by decide +kernel
theorem dX10_scan_40 : decode cX10_scan 40 = .ok (.iload_n 1, 1) := by decide +kernel
theorem dX10_scan_41 : decode cX10_scan 41 = .ok (.iaload, 1) := by decide +kernel
theorem dX10_scan_42 : decode cX10_scan 42 = .ok (.bipush (-4), 2) := by decide +kernel
theorem dX10_scan_44 : decode cX10_scan 44 = .ok (.if_icmp .ne 8, 3) := by decide +kernel
theorem dX10_scan_47 : decode cX10_scan 47 = .ok (.bipush (-11), 2) := by decide +kernel
theorem dX10_scan_49 : decode cX10_scan 49 = .ok (.goto 5, 3) := by decide +kernel
theorem dX10_scan_52 : decode cX10_scan 52 = .ok (.bipush (-13), 2) := by decide +kernel
theorem dX10_scan_54 : decode cX10_scan 54 = .ok (.ireturn, 1) := by decide +kernel
theorem dX10_scan_55 : decode cX10_scan 55 = .ok (.aload_n 0, 1) := by decide +kernel
theorem dX10_scan_56 : decode cX10_scan 56 = .ok (.getfield 273, 3) := by decide +kernel
theorem dX10_scan_59 : decode cX10_scan 59 = .ok (.ifCond .le 29, 3) := by decide +kernel
theorem dX10_scan_62 : decode cX10_scan 62 = .ok (.iload_n 3, 1) := by decide +kernel
theorem dX10_scan_63 : decode cX10_scan 63 = .ok (.ifCond .lt 22, 3) := by decide +kernel
theorem dX10_scan_66 : decode cX10_scan 66 = .ok (.iload_n 3, 1) := by decide +kernel
theorem dX10_scan_67 : decode cX10_scan 67 = .ok (.i2l, 1) := by decide +kernel
theorem dX10_scan_68 : decode cX10_scan 68 = .ok (.aload_n 0, 1) := by decide +kernel
theorem dX10_scan_69 : decode cX10_scan 69 = .ok (.getfield 273, 3) := by decide +kernel
theorem dX10_scan_72 : decode cX10_scan 72 = .ok (.i2l, 1) := by decide +kernel
theorem dX10_scan_73 : decode cX10_scan 73 = .ok (.ladd, 1) := by decide +kernel
theorem dX10_scan_74 : decode cX10_scan 74 = .ok (.aload_n 0, 1) := by decide +kernel
theorem dX10_scan_75 : decode cX10_scan 75 = .ok (.getfield 104, 3) := by decide +kernel
theorem dX10_scan_78 : decode cX10_scan 78 = .ok (.iload_n 1, 1) := by decide +kernel
theorem dX10_scan_79 : decode cX10_scan 79 = .ok (.iaload, 1) := by decide +kernel
theorem dX10_scan_80 : decode cX10_scan 80 = .ok (.i2l, 1) := by decide +kernel
theorem dX10_scan_81 : decode cX10_scan 81 = .ok (.lcmp, 1) := by decide +kernel
theorem dX10_scan_82 : decode cX10_scan 82 = .ok (.ifCond .le 6, 3) := by decide +kernel
theorem dX10_scan_85 : decode cX10_scan 85 = .ok (.bipush (-12), 2) := by decide +kernel
theorem dX10_scan_87 : decode cX10_scan 87 = .ok (.ireturn, 1) := by decide +kernel
theorem dX10_scan_88 : decode cX10_scan 88 = .ok (.iconst 0, 1) := by decide +kernel
theorem dX10_scan_89 : decode cX10_scan 89 = .ok (.istore 4, 2) := by decide +kernel
theorem dX10_scan_91 : decode cX10_scan 91 = .ok (.iload 4, 2) := by decide +kernel
theorem dX10_scan_93 : decode cX10_scan 93 = .ok (.aload_n 0, 1) := by decide +kernel
theorem dX10_scan_94 : decode cX10_scan 94 = .ok (.getfield 273, 3) := by decide +kernel
theorem dX10_scan_97 : decode cX10_scan 97 = .ok (.if_icmp .ge 75, 3) := by decide +kernel
theorem dX10_scan_100 : decode cX10_scan 100 = .ok (.aload_n 0, 1) := by decide +kernel
theorem dX10_scan_101 : decode cX10_scan 101 = .ok (.getfield 107, 3) := by decide +kernel
theorem dX10_scan_104 : decode cX10_scan 104 = .ok (.bipush 60, 2) := by decide +kernel
theorem dX10_scan_106 : decode cX10_scan 106 = .ok (.iload_n 1, 1) := by decide +kernel
theorem dX10_scan_107 : decode cX10_scan 107 = .ok (.imul, 1) := by decide +kernel
theorem dX10_scan_108 : decode cX10_scan 108 = .ok (.iload_n 3, 1) := by decide +kernel
theorem dX10_scan_109 : decode cX10_scan 109 = .ok (.iadd, 1) := by decide +kernel
theorem dX10_scan_110 : decode cX10_scan 110 = .ok (.iload 4, 2) := by decide +kernel
theorem dX10_scan_112 : decode cX10_scan 112 = .ok (.iadd, 1) := by decide +kernel
theorem dX10_scan_113 : decode cX10_scan 113 = .ok (.iaload, 1) := by decide +kernel
theorem dX10_scan_114 : decode cX10_scan 114 = .ok (.istore 5, 2) := by decide +kernel
theorem dX10_scan_116 : decode cX10_scan 116 = .ok (.aload_n 0, 1) := by decide +kernel
theorem dX10_scan_117 : decode cX10_scan 117 = .ok (.getfield 98, 3) := by decide +kernel
theorem dX10_scan_120 : decode cX10_scan 120 = .ok (.iload 4, 2) := by decide +kernel
theorem dX10_scan_122 : decode cX10_scan 122 = .ok (.iload 5, 2) := by decide +kernel
theorem dX10_scan_124 : decode cX10_scan 124 = .ok (.i2l, 1) := by decide +kernel
theorem dX10_scan_125 : decode cX10_scan 125 = .ok (.ldc2_w 276, 3) := by decide +kernel
theorem dX10_scan_128 : decode cX10_scan 128 = .ok (.ldc2_w 194, 3) := by decide +kernel
theorem dX10_scan_131 : decode cX10_scan 131 = .ok (.invokestatic 114, 3) := by decide +kernel
theorem dX10_scan_134 : decode cX10_scan 134 = .ok (.ifCond .ne 7, 3) := by decide +kernel
theorem dX10_scan_137 : decode cX10_scan 137 = .ok (.iconst 1, 1) := by decide +kernel
theorem dX10_scan_138 : decode cX10_scan 138 = .ok (.goto 4, 3) := by decide +kernel
theorem dX10_scan_141 : decode cX10_scan 141 = .ok (.iconst 0, 1) := by decide +kernel
theorem dX10_scan_142 : decode cX10_scan 142 = .ok (.bastore, 1) := by decide +kernel
theorem dX10_scan_143 : decode cX10_scan 143 = .ok (.aload_n 0, 1) := by decide +kernel
theorem dX10_scan_144 : decode cX10_scan 144 = .ok (.getfield 95, 3) := by decide +kernel
theorem dX10_scan_147 : decode cX10_scan 147 = .ok (.iload 4, 2) := by decide +kernel
theorem dX10_scan_149 : decode cX10_scan 149 = .ok (.aload_n 0, 1) := by decide +kernel
theorem dX10_scan_150 : decode cX10_scan 150 = .ok (.getfield 98, 3) := by decide +kernel
theorem dX10_scan_153 : decode cX10_scan 153 = .ok (.iload 4, 2) := by decide +kernel
theorem dX10_scan_155 : decode cX10_scan 155 = .ok (.baload, 1) := by decide +kernel
theorem dX10_scan_156 : decode cX10_scan 156 = .ok (.ifCond .eq 7, 3) := by decide +kernel
theorem dX10_scan_159 : decode cX10_scan 159 = .ok (.iconst 0, 1) := by decide +kernel
theorem dX10_scan_160 : decode cX10_scan 160 = .ok (.goto 5, 3) := by decide +kernel
theorem dX10_scan_163 : decode cX10_scan 163 = .ok (.iload 5, 2) := by decide +kernel
theorem dX10_scan_165 : decode cX10_scan 165 = .ok (.iastore, 1) := by decide +kernel
theorem dX10_scan_166 : decode cX10_scan 166 = .ok (.iinc 4 1, 3) := by decide +kernel
theorem dX10_scan_169 : decode cX10_scan 169 = .ok (.goto (-78), 3) := by decide +kernel
theorem dX10_scan_172 : decode cX10_scan 172 = .ok (.aload_n 0, 1) := by decide +kernel
theorem dX10_scan_173 : decode cX10_scan 173 = .ok (.invokevirtual 278, 3) := by decide +kernel
theorem dX10_scan_176 : decode cX10_scan 176 = .ok (.ireturn, 1) := by decide +kernel
theorem dX10_force_0 : decode cX10_force 0 = .ok (.iconst 0, 1) := by decide +kernel
theorem dX10_force_1 : decode cX10_force 1 = .ok (.istore_n 1, 1) := by decide +kernel
theorem dX10_force_2 : decode cX10_force 2 = .ok (.iconst 0, 1) := by decide +kernel
theorem dX10_force_3 : decode cX10_force 3 = .ok (.istore_n 2, 1) := by decide +kernel
theorem dX10_force_4 : decode cX10_force 4 = .ok (.iload_n 2, 1) := by decide +kernel
theorem dX10_force_5 : decode cX10_force 5 = .ok (.aload_n 0, 1) := by decide +kernel
theorem dX10_force_6 : decode cX10_force 6 = .ok (.getfield 273, 3) := by decide +kernel
theorem dX10_force_9 : decode cX10_force 9 = .ok (.if_icmp .ge 38, 3) := by decide +kernel
theorem dX10_force_12 : decode cX10_force 12 = .ok (.iload_n 1, 1) := by decide +kernel
theorem dX10_force_13 : decode cX10_force 13 = .ok (.aload_n 0, 1) := by decide +kernel
theorem dX10_force_14 : decode cX10_force 14 = .ok (.getfield 98, 3) := by decide +kernel
theorem dX10_force_17 : decode cX10_force 17 = .ok (.iload_n 2, 1) := by decide +kernel
theorem dX10_force_18 : decode cX10_force 18 = .ok (.baload, 1) := by decide +kernel
theorem dX10_force_19 : decode cX10_force 19 = .ok (.ifCond .eq 7, 3) := by decide +kernel
theorem dX10_force_22 : decode cX10_force 22 = .ok (.iconst 0, 1) := by decide +kernel
theorem dX10_force_23 : decode cX10_force 23 = .ok (.goto 16, 3) := by decide +kernel
theorem dX10_force_26 : decode cX10_force 26 = .ok (.aload_n 0, 1) := by decide +kernel
theorem dX10_force_27 : decode cX10_force 27 = .ok (.getfield 92, 3) := by decide +kernel
theorem dX10_force_30 : decode cX10_force 30 = .ok (.iload_n 2, 1) := by decide +kernel
theorem dX10_force_31 : decode cX10_force 31 = .ok (.iaload, 1) := by decide +kernel
theorem dX10_force_32 : decode cX10_force 32 = .ok (.aload_n 0, 1) := by decide +kernel
theorem dX10_force_33 : decode cX10_force 33 = .ok (.getfield 95, 3) := by decide +kernel
theorem dX10_force_36 : decode cX10_force 36 = .ok (.iload_n 2, 1) := by decide +kernel
theorem dX10_force_37 : decode cX10_force 37 = .ok (.iaload, 1) := by decide +kernel
theorem dX10_force_38 : decode cX10_force 38 = .ok (.imul, 1) := by decide +kernel
theorem dX10_force_39 : decode cX10_force 39 = .ok (.iadd, 1) := by decide +kernel
theorem dX10_force_40 : decode cX10_force 40 = .ok (.istore_n 1, 1) := by decide +kernel
theorem dX10_force_41 : decode cX10_force 41 = .ok (.iinc 2 1, 3) := by decide +kernel
theorem dX10_force_44 : decode cX10_force 44 = .ok (.goto (-40), 3) := by decide +kernel
theorem dX10_force_47 : decode cX10_force 47 = .ok (.iload_n 1, 1) := by decide +kernel
theorem dX10_force_48 : decode cX10_force 48 = .ok (.ireturn, 1) := by decide +kernel
theorem dX10_check_0 : decode cX10_check 0 = .ok (.iload_n 1, 1) := by decide +kernel
theorem dX10_check_1 : decode cX10_check 1 = .ok (.invokestatic 150, 3) := by decide +kernel
theorem dX10_check_4 : decode cX10_check 4 = .ok (.ifCond .eq 15, 3) := by decide +kernel
theorem dX10_check_7 : decode cX10_check 7 = .ok (.iload_n 2, 1) := by decide +kernel
theorem dX10_check_8 : decode cX10_check 8 = .ok (.i2l, 1) := by decide +kernel
theorem dX10_check_9 : decode cX10_check 9 = .ok (.lconst 0, 1) := by decide +kernel
theorem dX10_check_10 : decode cX10_check 10 = .ok (.ldc2_w 262, 3) := by decide +kernel
theorem dX10_check_13 : decode cX10_check 13 = .ok (.invokestatic 114, 3) := by decide +kernel
theorem dX10_check_16 : decode cX10_check 16 = .ok (.ifCond .ne 5, 3) := by decide +kernel
theorem dX10_check_19 : decode cX10_check 19 = .ok (.iconst (-1), 1) := by decide +kernel
theorem dX10_check_20 : decode cX10_check 20 = .ok (.ireturn, 1) := by decide +kernel
theorem dX10_check_21 : decode cX10_check 21 = .ok (.aload_n 0, 1) := by decide +kernel
theorem dX10_check_22 : decode cX10_check 22 = .ok (.invokevirtual 278, 3) := by decide +kernel
theorem dX10_check_25 : decode cX10_check 25 = .ok (.ifCond .le 6, 3) := by decide +kernel
theorem dX10_check_28 : decode cX10_check 28 = .ok (.bipush (-2), 2) := by decide +kernel
theorem dX10_check_30 : decode cX10_check 30 = .ok (.ireturn, 1) := by decide +kernel
theorem dX10_check_31 : decode cX10_check 31 = .ok (.aload_n 0, 1) := by decide +kernel
theorem dX10_check_32 : decode cX10_check 32 = .ok (.invokevirtual 281, 3) := by decide +kernel
theorem dX10_check_35 : decode cX10_check 35 = .ok (.istore_n 3, 1) := by decide +kernel
theorem dX10_check_36 : decode cX10_check 36 = .ok (.iload_n 3, 1) := by decide +kernel
theorem dX10_check_37 : decode cX10_check 37 = .ok (.i2l, 1) := by decide +kernel
theorem dX10_check_38 : decode cX10_check 38 = .ok (.iload_n 1, 1) := by decide +kernel
theorem dX10_check_39 : decode cX10_check 39 = .ok (.iload_n 2, 1) := by decide +kernel
theorem dX10_check_40 : decode cX10_check 40 = .ok (.isub, 1) := by decide +kernel
theorem dX10_check_41 : decode cX10_check 41 = .ok (.i2l, 1) := by decide +kernel
theorem dX10_check_42 : decode cX10_check 42 = .ok (.iload_n 1, 1) := by decide +kernel
theorem dX10_check_43 : decode cX10_check 43 = .ok (.iload_n 2, 1) := by decide +kernel
theorem dX10_check_44 : decode cX10_check 44 = .ok (.iadd, 1) := by decide +kernel
theorem dX10_check_45 : decode cX10_check 45 = .ok (.i2l, 1) := by decide +kernel
theorem dX10_check_46 : decode cX10_check 46 = .ok (.invokestatic 114, 3) := by decide +kernel
theorem dX10_check_49 : decode cX10_check 49 = .ok (.ifCond .eq 5, 3) := by decide +kernel
theorem dX10_check_52 : decode cX10_check 52 = .ok (.iconst 0, 1) := by decide +kernel
theorem dX10_check_53 : decode cX10_check 53 = .ok (.ireturn, 1) := by decide +kernel
theorem dX10_check_54 : decode cX10_check 54 = .ok (.iconst 0, 1) := by decide +kernel
theorem dX10_check_55 : decode cX10_check 55 = .ok (.istore 4, 2) := by decide +kernel
theorem dX10_check_57 : decode cX10_check 57 = .ok (.bipush (-4), 2) := by decide +kernel
theorem dX10_check_59 : decode cX10_check 59 = .ok (.istore 5, 2) := by decide +kernel
theorem dX10_check_61 : decode cX10_check 61 = .ok (.iconst 0, 1) := by decide +kernel
theorem dX10_check_62 : decode cX10_check 62 = .ok (.istore 6, 2) := by decide +kernel
theorem dX10_check_64 : decode cX10_check 64 = .ok (.iload 6, 2) := by decide +kernel
theorem dX10_check_66 : decode cX10_check 66 = .ok (.aload_n 0, 1) := by decide +kernel
theorem dX10_check_67 : decode cX10_check 67 = .ok (.getfield 273, 3) := by decide +kernel
theorem dX10_check_70 : decode cX10_check 70 = .ok (.if_icmp .ge 106, 3) := by decide +kernel
theorem dX10_check_73 : decode cX10_check 73 = .ok (.iload_n 3, 1) := by decide +kernel
theorem dX10_check_74 : decode cX10_check 74 = .ok (.aload_n 0, 1) := by decide +kernel
theorem dX10_check_75 : decode cX10_check 75 = .ok (.getfield 92, 3) := by decide +kernel
theorem dX10_check_78 : decode cX10_check 78 = .ok (.iload 6, 2) := by decide +kernel
theorem dX10_check_80 : decode cX10_check 80 = .ok (.iaload, 1) := by decide +kernel
theorem dX10_check_81 : decode cX10_check 81 = .ok (.aload_n 0, 1) := by decide +kernel
theorem dX10_check_82 : decode cX10_check 82 = .ok (.getfield 95, 3) := by decide +kernel
theorem dX10_check_85 : decode cX10_check 85 = .ok (.iload 6, 2) := by decide +kernel
theorem dX10_check_87 : decode cX10_check 87 = .ok (.iaload, 1) := by decide +kernel
theorem dX10_check_88 : decode cX10_check 88 = .ok (.imul, 1) := by decide +kernel
theorem dX10_check_89 : decode cX10_check 89 = .ok (.isub, 1) := by decide +kernel
theorem dX10_check_90 : decode cX10_check 90 = .ok (.istore 7, 2) := by decide +kernel
theorem dX10_check_92 : decode cX10_check 92 = .ok (.iload_n 1, 1) := by decide +kernel
theorem dX10_check_93 : decode cX10_check 93 = .ok (.iload_n 2, 1) := by decide +kernel
theorem dX10_check_94 : decode cX10_check 94 = .ok (.iadd, 1) := by decide +kernel
theorem dX10_check_95 : decode cX10_check 95 = .ok (.iload 7, 2) := by decide +kernel
theorem dX10_check_97 : decode cX10_check 97 = .ok (.isub, 1) := by decide +kernel
theorem dX10_check_98 : decode cX10_check 98 = .ok (.i2l, 1) := by decide +kernel
theorem dX10_check_99 : decode cX10_check 99 = .ok (.aload_n 0, 1) := by decide +kernel
theorem dX10_check_100 : decode cX10_check 100 = .ok (.getfield 92, 3) := by decide +kernel
theorem dX10_check_103 : decode cX10_check 103 = .ok (.iload 6, 2) := by decide +kernel
theorem dX10_check_105 : decode cX10_check 105 = .ok (.iaload, 1) := by decide +kernel
theorem dX10_check_106 : decode cX10_check 106 = .ok (.i2l, 1) := by decide +kernel
theorem dX10_check_107 : decode cX10_check 107 = .ok (.invokestatic 167, 3) := by decide +kernel
theorem dX10_check_110 : decode cX10_check 110 = .ok (.lstore 8, 2) := by decide +kernel
theorem dX10_check_112 : decode cX10_check 112 = .ok (.lload 8, 2) := by decide +kernel
theorem dX10_check_114 : decode cX10_check 114 = .ok (.ldc2_w 194, 3) := by decide +kernel
theorem dX10_check_117 : decode cX10_check 117 = .ok (.lcmp, 1) := by decide +kernel
theorem dX10_check_118 : decode cX10_check 118 = .ok (.ifCond .le 9, 3) := by decide +kernel
theorem dX10_check_121 : decode cX10_check 121 = .ok (.ldc2_w 194, 3) := by decide +kernel
theorem dX10_check_124 : decode cX10_check 124 = .ok (.goto 5, 3) := by decide +kernel
theorem dX10_check_127 : decode cX10_check 127 = .ok (.lload 8, 2) := by decide +kernel
theorem dX10_check_129 : decode cX10_check 129 = .ok (.lstore 8, 2) := by decide +kernel
theorem dX10_check_131 : decode cX10_check 131 = .ok (.lload 8, 2) := by decide +kernel
theorem dX10_check_133 : decode cX10_check 133 = .ok (.ldc2_w 276, 3) := by decide +kernel
theorem dX10_check_136 : decode cX10_check 136 = .ok (.lcmp, 1) := by decide +kernel
theorem dX10_check_137 : decode cX10_check 137 = .ok (.ifCond .lt 33, 3) := by decide +kernel
theorem dX10_check_140 : decode cX10_check 140 = .ok (.lload 8, 2) := by decide +kernel
theorem dX10_check_142 : decode cX10_check 142 = .ok (.aload_n 0, 1) := by decide +kernel
theorem dX10_check_143 : decode cX10_check 143 = .ok (.getfield 92, 3) := by decide +kernel
theorem dX10_check_146 : decode cX10_check 146 = .ok (.iload 6, 2) := by decide +kernel
theorem dX10_check_148 : decode cX10_check 148 = .ok (.iaload, 1) := by decide +kernel
theorem dX10_check_149 : decode cX10_check 149 = .ok (.i2l, 1) := by decide +kernel
theorem dX10_check_150 : decode cX10_check 150 = .ok (.lmul, 1) := by decide +kernel
theorem dX10_check_151 : decode cX10_check 151 = .ok (.iload 7, 2) := by decide +kernel
theorem dX10_check_153 : decode cX10_check 153 = .ok (.i2l, 1) := by decide +kernel
theorem dX10_check_154 : decode cX10_check 154 = .ok (.ladd, 1) := by decide +kernel
theorem dX10_check_155 : decode cX10_check 155 = .ok (.iload_n 1, 1) := by decide +kernel
theorem dX10_check_156 : decode cX10_check 156 = .ok (.iload_n 2, 1) := by decide +kernel
theorem dX10_check_157 : decode cX10_check 157 = .ok (.isub, 1) := by decide +kernel
theorem dX10_check_158 : decode cX10_check 158 = .ok (.i2l, 1) := by decide +kernel
theorem dX10_check_159 : decode cX10_check 159 = .ok (.lcmp, 1) := by decide +kernel
theorem dX10_check_160 : decode cX10_check 160 = .ok (.ifCond .lt 10, 3) := by decide +kernel
theorem dX10_check_163 : decode cX10_check 163 = .ok (.iinc 4 1, 3) := by decide +kernel
theorem dX10_check_166 : decode cX10_check 166 = .ok (.iload 6, 2) := by decide +kernel
theorem dX10_check_168 : decode cX10_check 168 = .ok (.istore 5, 2) := by decide +kernel
theorem dX10_check_170 : decode cX10_check 170 = .ok (.iinc 6 1, 3) := by decide +kernel
theorem dX10_check_173 : decode cX10_check 173 = .ok (.goto (-109), 3) := by decide +kernel
theorem dX10_check_176 : decode cX10_check 176 = .ok (.iload 4, 2) := by decide +kernel
theorem dX10_check_178 : decode cX10_check 178 = .ok (.ifCond .ne 7, 3) := by decide +kernel
theorem dX10_check_181 : decode cX10_check 181 = .ok (.iconst 1, 1) := by decide +kernel
theorem dX10_check_182 : decode cX10_check 182 = .ok (.goto 18, 3) := by decide +kernel
theorem dX10_check_185 : decode cX10_check 185 = .ok (.iload 4, 2) := by decide +kernel
theorem dX10_check_187 : decode cX10_check 187 = .ok (.iconst 1, 1) := by decide +kernel
theorem dX10_check_188 : decode cX10_check 188 = .ok (.if_icmp .le 7, 3) := by decide +kernel
theorem dX10_check_191 : decode cX10_check 191 = .ok (.iconst 2, 1) := by decide +kernel
theorem dX10_check_192 : decode cX10_check 192 = .ok (.goto 8, 3) := by decide +kernel
theorem dX10_check_195 : decode cX10_check 195 = .ok (.bipush 10, 2) := by decide +kernel
theorem dX10_check_197 : decode cX10_check 197 = .ok (.iload 5, 2) := by decide +kernel
theorem dX10_check_199 : decode cX10_check 199 = .ok (.iadd, 1) := by decide +kernel
theorem dX10_check_200 : decode cX10_check 200 = .ok (.ireturn, 1) := by decide +kernel
theorem dX10_fill_0 : decode cX10_fill 0 = .ok (.iload_n 1, 1) := by decide +kernel
theorem dX10_fill_1 : decode cX10_fill 1 = .ok (.invokestatic 150, 3) := by decide +kernel
theorem dX10_fill_4 : decode cX10_fill 4 = .ok (.ifCond .ne 5, 3) := by decide +kernel
theorem dX10_fill_7 : decode cX10_fill 7 = .ok (.iconst (-1), 1) := by decide +kernel
theorem dX10_fill_8 : decode cX10_fill 8 = .ok (.ireturn, 1) := by decide +kernel
theorem dX10_fill_9 : decode cX10_fill 9 = .ok (.aload_n 0, 1) := by decide +kernel
theorem dX10_fill_10 : decode cX10_fill 10 = .ok (.invokevirtual 278, 3) := by decide +kernel
theorem dX10_fill_13 : decode cX10_fill 13 = .ok (.iconst 1, 1) := by decide +kernel
theorem dX10_fill_14 : decode cX10_fill 14 = .ok (.if_icmp .eq 6, 3) := by decide +kernel
theorem dX10_fill_17 : decode cX10_fill 17 = .ok (.bipush (-2), 2) := by decide +kernel
theorem dX10_fill_19 : decode cX10_fill 19 = .ok (.ireturn, 1) := by decide +kernel
theorem dX10_fill_20 : decode cX10_fill 20 = .ok (.iconst 0, 1) := by decide +kernel
theorem dX10_fill_21 : decode cX10_fill 21 = .ok (.istore_n 2, 1) := by decide +kernel
theorem dX10_fill_22 : decode cX10_fill 22 = .ok (.aload_n 0, 1) := by decide +kernel
theorem dX10_fill_23 : decode cX10_fill 23 = .ok (.getfield 98, 3) := by decide +kernel
theorem dX10_fill_26 : decode cX10_fill 26 = .ok (.iload_n 2, 1) := by decide +kernel
theorem dX10_fill_27 : decode cX10_fill 27 = .ok (.baload, 1) := by decide +kernel
theorem dX10_fill_28 : decode cX10_fill 28 = .ok (.ifCond .ne 9, 3) := by decide +kernel
theorem dX10_fill_31 : decode cX10_fill 31 = .ok (.iinc 2 1, 3) := by decide +kernel
theorem dX10_fill_34 : decode cX10_fill 34 = .ok (.goto (-12), 3) := by decide +kernel
theorem dX10_fill_37 : decode cX10_fill 37 = .ok (.iload_n 1, 1) := by decide +kernel
theorem dX10_fill_38 : decode cX10_fill 38 = .ok (.aload_n 0, 1) := by decide +kernel
theorem dX10_fill_39 : decode cX10_fill 39 = .ok (.invokevirtual 281, 3) := by decide +kernel
theorem dX10_fill_42 : decode cX10_fill 42 = .ok (.isub, 1) := by decide +kernel
theorem dX10_fill_43 : decode cX10_fill 43 = .ok (.i2l, 1) := by decide +kernel
theorem dX10_fill_44 : decode cX10_fill 44 = .ok (.lstore_n 3, 1) := by decide +kernel
theorem dX10_fill_45 : decode cX10_fill 45 = .ok (.aload_n 0, 1) := by decide +kernel
theorem dX10_fill_46 : decode cX10_fill 46 = .ok (.getfield 92, 3) := by decide +kernel
theorem dX10_fill_49 : decode cX10_fill 49 = .ok (.iload_n 2, 1) := by decide +kernel
theorem dX10_fill_50 : decode cX10_fill 50 = .ok (.iaload, 1) := by decide +kernel
theorem dX10_fill_51 : decode cX10_fill 51 = .ok (.i2l, 1) := by decide +kernel
theorem dX10_fill_52 : decode cX10_fill 52 = .ok (.ldc2_w 122, 3) := by decide +kernel
theorem dX10_fill_55 : decode cX10_fill 55 = .ok (.lload_n 3, 1) := by decide +kernel
theorem dX10_fill_56 : decode cX10_fill 56 = .ok (.lmul, 1) := by decide +kernel
theorem dX10_fill_57 : decode cX10_fill 57 = .ok (.lsub, 1) := by decide +kernel
theorem dX10_fill_58 : decode cX10_fill 58 = .ok (.ldc2_w 122, 3) := by decide +kernel
theorem dX10_fill_61 : decode cX10_fill 61 = .ok (.aload_n 0, 1) := by decide +kernel
theorem dX10_fill_62 : decode cX10_fill 62 = .ok (.getfield 92, 3) := by decide +kernel
theorem dX10_fill_65 : decode cX10_fill 65 = .ok (.iload_n 2, 1) := by decide +kernel
theorem dX10_fill_66 : decode cX10_fill 66 = .ok (.iaload, 1) := by decide +kernel
theorem dX10_fill_67 : decode cX10_fill 67 = .ok (.i2l, 1) := by decide +kernel
theorem dX10_fill_68 : decode cX10_fill 68 = .ok (.lmul, 1) := by decide +kernel
theorem dX10_fill_69 : decode cX10_fill 69 = .ok (.invokestatic 167, 3) := by decide +kernel
theorem dX10_fill_72 : decode cX10_fill 72 = .ok (.lneg, 1) := by decide +kernel
theorem dX10_fill_73 : decode cX10_fill 73 = .ok (.lstore 5, 2) := by decide +kernel
theorem dX10_fill_75 : decode cX10_fill 75 = .ok (.lload 5, 2) := by decide +kernel
theorem dX10_fill_77 : decode cX10_fill 77 = .ok (.ldc2_w 276, 3) := by decide +kernel
theorem dX10_fill_80 : decode cX10_fill 80 = .ok (.ldc2_w 194, 3) := by decide +kernel
theorem dX10_fill_83 : decode cX10_fill 83 = .ok (.invokestatic 114, 3) := by decide +kernel
theorem dX10_fill_86 : decode cX10_fill 86 = .ok (.ifCond .eq 9, 3) := by decide +kernel
theorem dX10_fill_89 : decode cX10_fill 89 = .ok (.lload 5, 2) := by decide +kernel
theorem dX10_fill_91 : decode cX10_fill 91 = .ok (.l2i, 1) := by decide +kernel
theorem dX10_fill_92 : decode cX10_fill 92 = .ok (.goto 5, 3) := by decide +kernel
theorem dX10_fill_95 : decode cX10_fill 95 = .ok (.bipush (-4), 2) := by decide +kernel
theorem dX10_fill_97 : decode cX10_fill 97 = .ok (.ireturn, 1) := by decide +kernel
theorem dX10_count_0 : decode cX10_count 0 = .ok (.iconst 0, 1) := by decide +kernel
theorem dX10_count_1 : decode cX10_count 1 = .ok (.istore_n 2, 1) := by decide +kernel
theorem dX10_count_2 : decode cX10_count 2 = .ok (.iconst 0, 1) := by decide +kernel
theorem dX10_count_3 : decode cX10_count 3 = .ok (.istore_n 3, 1) := by decide +kernel
theorem dX10_count_4 : decode cX10_count 4 = .ok (.iload_n 3, 1) := by decide +kernel
theorem dX10_count_5 : decode cX10_count 5 = .ok (.aload_n 0, 1) := by decide +kernel
theorem dX10_count_6 : decode cX10_count 6 = .ok (.getfield 228, 3) := by decide +kernel
theorem dX10_count_9 : decode cX10_count 9 = .ok (.if_icmp .ge 26, 3) := by decide +kernel
theorem dX10_count_12 : decode cX10_count 12 = .ok (.iload_n 2, 1) := by decide +kernel
theorem dX10_count_13 : decode cX10_count 13 = .ok (.aload_n 0, 1) := by decide +kernel
theorem dX10_count_14 : decode cX10_count 14 = .ok (.getfield 66, 3) := by decide +kernel
theorem dX10_count_17 : decode cX10_count 17 = .ok (.iload_n 3, 1) := by decide +kernel
theorem dX10_count_18 : decode cX10_count 18 = .ok (.baload, 1) := by decide +kernel
theorem dX10_count_19 : decode cX10_count 19 = .ok (.ifCond .eq 7, 3) := by decide +kernel
theorem dX10_count_22 : decode cX10_count 22 = .ok (.iconst 1, 1) := by decide +kernel
theorem dX10_count_23 : decode cX10_count 23 = .ok (.goto 4, 3) := by decide +kernel
theorem dX10_count_26 : decode cX10_count 26 = .ok (.iconst 0, 1) := by decide +kernel
theorem dX10_count_27 : decode cX10_count 27 = .ok (.iadd, 1) := by decide +kernel
theorem dX10_count_28 : decode cX10_count 28 = .ok (.istore_n 2, 1) := by decide +kernel
theorem dX10_count_29 : decode cX10_count 29 = .ok (.iinc 3 1, 3) := by decide +kernel
theorem dX10_count_32 : decode cX10_count 32 = .ok (.goto (-28), 3) := by decide +kernel
theorem dX10_count_35 : decode cX10_count 35 = .ok (.iload_n 1, 1) := by decide +kernel
theorem dX10_count_36 : decode cX10_count 36 = .ok (.ifCond .ne 10, 3) := by decide +kernel
theorem dX10_count_39 : decode cX10_count 39 = .ok (.aload_n 0, 1) := by decide +kernel
theorem dX10_count_40 : decode cX10_count 40 = .ok (.getfield 170, 3) := by decide +kernel
theorem dX10_count_43 : decode cX10_count 43 = .ok (.goto 61, 3) := by decide +kernel
theorem dX10_count_46 : decode cX10_count 46 = .ok (.iload_n 1, 1) := by decide +kernel
theorem dX10_count_47 : decode cX10_count 47 = .ok (.iconst 1, 1) := by decide +kernel
theorem dX10_count_48 : decode cX10_count 48 = .ok (.if_icmp .ne 10, 3) := by decide +kernel
theorem dX10_count_51 : decode cX10_count 51 = .ok (.aload_n 0, 1) := by decide +kernel
theorem dX10_count_52 : decode cX10_count 52 = .ok (.getfield 178, 3) := by decide +kernel
theorem dX10_count_55 : decode cX10_count 55 = .ok (.goto 49, 3) := by decide +kernel
theorem dX10_count_58 : decode cX10_count 58 = .ok (.iload_n 1, 1) := by decide +kernel
theorem dX10_count_59 : decode cX10_count 59 = .ok (.iconst 2, 1) := by decide +kernel
theorem dX10_count_60 : decode cX10_count 60 = .ok (.if_icmp .ne 10, 3) := by decide +kernel
theorem dX10_count_63 : decode cX10_count 63 = .ok (.aload_n 0, 1) := by decide +kernel
theorem dX10_count_64 : decode cX10_count 64 = .ok (.getfield 228, 3) := by decide +kernel
theorem dX10_count_67 : decode cX10_count 67 = .ok (.goto 37, 3) := by decide +kernel
theorem dX10_count_70 : decode cX10_count 70 = .ok (.iload_n 1, 1) := by decide +kernel
theorem dX10_count_71 : decode cX10_count 71 = .ok (.iconst 3, 1) := by decide +kernel
theorem dX10_count_72 : decode cX10_count 72 = .ok (.if_icmp .ne 7, 3) := by decide +kernel
theorem dX10_count_75 : decode cX10_count 75 = .ok (.iload_n 2, 1) := by decide +kernel
theorem dX10_count_76 : decode cX10_count 76 = .ok (.goto 28, 3) := by decide +kernel
theorem dX10_count_79 : decode cX10_count 79 = .ok (.iload_n 1, 1) := by decide +kernel
theorem dX10_count_80 : decode cX10_count 80 = .ok (.iconst 4, 1) := by decide +kernel
theorem dX10_count_81 : decode cX10_count 81 = .ok (.if_icmp .ne 10, 3) := by decide +kernel
theorem dX10_count_84 : decode cX10_count 84 = .ok (.aload_n 0, 1) := by decide +kernel
theorem dX10_count_85 : decode cX10_count 85 = .ok (.getfield 273, 3) := by decide +kernel
theorem dX10_count_88 : decode cX10_count 88 = .ok (.goto 16, 3) := by decide +kernel
theorem dX10_count_91 : decode cX10_count 91 = .ok (.iload_n 1, 1) := by decide +kernel
theorem dX10_count_92 : decode cX10_count 92 = .ok (.iconst 5, 1) := by decide +kernel
theorem dX10_count_93 : decode cX10_count 93 = .ok (.if_icmp .ne 10, 3) := by decide +kernel
theorem dX10_count_96 : decode cX10_count 96 = .ok (.aload_n 0, 1) := by decide +kernel
theorem dX10_count_97 : decode cX10_count 97 = .ok (.invokevirtual 278, 3) := by decide +kernel
theorem dX10_count_100 : decode cX10_count 100 = .ok (.goto 4, 3) := by decide +kernel
theorem dX10_count_103 : decode cX10_count 103 = .ok (.iconst (-1), 1) := by decide +kernel
theorem dX10_count_104 : decode cX10_count 104 = .ok (.ireturn, 1) := by decide +kernel
