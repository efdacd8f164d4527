theorem dX10_anew_0 : decode cX10_anew 0 = Except.ok (Instr.aload_n 0, 1) := by decide +kernel
theorem dX10_anew_1 : decode cX10_anew 1 = Except.ok (Instr.getfield 257, 3) := by decide +kernel
theorem dX10_anew_4 : decode cX10_anew 4 = Except.ok (Instr.istore_n 1, 1) := by decide +kernel
theorem dX10_anew_5 : decode cX10_anew 5 = Except.ok (Instr.aload_n 0, 1) := by decide +kernel
theorem dX10_anew_6 : decode cX10_anew 6 = Except.ok (Instr.invokevirtual 264, 3) := by decide +kernel
theorem dX10_anew_9 : decode cX10_anew 9 = Except.ok (Instr.iload_n 1, 1) := by decide +kernel
theorem dX10_anew_10 : decode cX10_anew 10 = Except.ok (Instr.ireturn, 1) := by decide +kernel
theorem dX10_tube_0 : decode cX10_tube 0 = Except.ok (Instr.iload_n 1, 1) := by decide +kernel
theorem dX10_tube_1 : decode cX10_tube 1 = Except.ok (Instr.i2l, 1) := by decide +kernel
theorem dX10_tube_2 : decode cX10_tube 2 = Except.ok (Instr.lconst 1, 1) := by decide +kernel
theorem dX10_tube_3 : decode cX10_tube 3 = Except.ok (Instr.ldc2_w 126, 3) := by decide +kernel
theorem dX10_tube_6 : decode cX10_tube 6 = Except.ok (Instr.invokestatic 114, 3) := by decide +kernel
theorem dX10_tube_9 : decode cX10_tube 9 = Except.ok (Instr.ifCond .ne 5, 3) := by decide +kernel
theorem dX10_tube_12 : decode cX10_tube 12 = Except.ok (Instr.iconst (-1), 1) := by decide +kernel
theorem dX10_tube_13 : decode cX10_tube 13 = Except.ok (Instr.ireturn, 1) := by decide +kernel
theorem dX10_tube_14 : decode cX10_tube 14 = Except.ok (Instr.aload_n 0, 1) := by decide +kernel
theorem dX10_tube_15 : decode cX10_tube 15 = Except.ok (Instr.getfield 273, 3) := by decide +kernel
theorem dX10_tube_18 : decode cX10_tube 18 = Except.ok (Instr.bipush 10, 2) := by decide +kernel
theorem dX10_tube_20 : decode cX10_tube 20 = Except.ok (Instr.if_icmp .ne 6, 3) := by decide +kernel
theorem dX10_tube_23 : decode cX10_tube 23 = Except.ok (Instr.bipush (-3), 2) := by decide +kernel
theorem dX10_tube_25 : decode cX10_tube 25 = Except.ok (Instr.ireturn, 1) := by decide +kernel
theorem dX10_tube_26 : decode cX10_tube 26 = Except.ok (Instr.aload_n 0, 1) := by decide +kernel
theorem dX10_tube_27 : decode cX10_tube 27 = Except.ok (Instr.getfield 92, 3) := by decide +kernel
theorem dX10_tube_30 : decode cX10_tube 30 = Except.ok (Instr.aload_n 0, 1) := by decide +kernel
theorem dX10_tube_31 : decode cX10_tube 31 = Except.ok (Instr.getfield 273, 3) := by decide +kernel
theorem dX10_tube_34 : decode cX10_tube 34 = Except.ok (Instr.iload_n 1, 1) := by decide +kernel
theorem dX10_tube_35 : decode cX10_tube 35 = Except.ok (Instr.iastore, 1) := by decide +kernel
theorem dX10_tube_36 : decode cX10_tube 36 = Except.ok (Instr.aload_n 0, 1) := by decide +kernel
theorem dX10_tube_37 : decode cX10_tube 37 = Except.ok (Instr.getfield 95, 3) := by decide +kernel
theorem dX10_tube_40 : decode cX10_tube 40 = Except.ok (Instr.aload_n 0, 1) := by decide +kernel
theorem dX10_tube_41 : decode cX10_tube 41 = Except.ok (Instr.getfield 273, 3) := by decide +kernel
theorem dX10_tube_44 : decode cX10_tube 44 = Except.ok (Instr.iconst 0, 1) := by decide +kernel
theorem dX10_tube_45 : decode cX10_tube 45 = Except.ok (Instr.iastore, 1) := by decide +kernel
theorem dX10_tube_46 : decode cX10_tube 46 = Except.ok (Instr.aload_n 0, 1) := by decide +kernel
theorem dX10_tube_47 : decode cX10_tube 47 = Except.ok (Instr.getfield 98, 3) := by decide +kernel
theorem dX10_tube_50 : decode cX10_tube 50 = Except.ok (Instr.aload_n 0, 1) := by decide +kernel
theorem dX10_tube_51 : decode cX10_tube 51 = Except.ok (Instr.getfield 273, 3) := by decide +kernel
theorem dX10_tube_54 : decode cX10_tube 54 = Except.ok (Instr.iconst 1, 1) := by decide +kernel
theorem dX10_tube_55 : decode cX10_tube 55 = Except.ok (Instr.bastore, 1) := by decide +kernel
theorem dX10_tube_56 : decode cX10_tube 56 = Except.ok (Instr.aload_n 0, 1) := by decide +kernel
theorem dX10_tube_57 : decode cX10_tube 57 = Except.ok (Instr.dup, 1) := by decide +kernel
theorem dX10_tube_58 : decode cX10_tube 58 = Except.ok (Instr.getfield 273, 3) := by decide +kernel
theorem dX10_tube_61 : decode cX10_tube 61 = Except.ok (Instr.iconst 1, 1) := by decide +kernel
theorem dX10_tube_62 : decode cX10_tube 62 = Except.ok (Instr.iadd, 1) := by decide +kernel
theorem dX10_tube_63 : decode cX10_tube 63 = Except.ok (Instr.putfield 273, 3) := by decide +kernel
theorem dX10_tube_66 : decode cX10_tube 66 = Except.ok (Instr.aload_n 0, 1) := by decide +kernel
theorem dX10_tube_67 : decode cX10_tube 67 = Except.ok (Instr.getfield 273, 3) := by decide +kernel
theorem dX10_tube_70 : decode cX10_tube 70 = Except.ok (Instr.iconst 1, 1) := by decide +kernel
theorem dX10_tube_71 : decode cX10_tube 71 = Except.ok (Instr.isub, 1) := by decide +kernel
theorem dX10_tube_72 : decode cX10_tube 72 = Except.ok (Instr.ireturn, 1) := by decide +kernel
theorem dX10_press_0 : decode cX10_press 0 = Except.ok (Instr.iload_n 1, 1) := by decide +kernel
theorem dX10_press_1 : decode cX10_press 1 = Except.ok (Instr.i2l, 1) := by decide +kernel
theorem dX10_press_2 : decode cX10_press 2 = Except.ok (Instr.lconst 0, 1) := by decide +kernel
theorem dX10_press_3 : decode cX10_press 3 = Except.ok (Instr.aload_n 0, 1) := by decide +kernel
theorem dX10_press_4 : decode cX10_press 4 = Except.ok (Instr.getfield 273, 3) := by decide +kernel
theorem dX10_press_7 : decode cX10_press 7 = Except.ok (Instr.iconst 1, 1) := by decide +kernel
theorem dX10_press_8 : decode cX10_press 8 = Except.ok (Instr.isub, 1) := by decide +kernel
theorem dX10_press_9 : decode cX10_press 9 = Except.ok (Instr.i2l, 1) := by decide +kernel
theorem dX10_press_10 : decode cX10_press 10 = Except.ok (Instr.invokestatic 114, 3) := by decide +kernel
theorem dX10_press_13 : decode cX10_press 13 = Except.ok (Instr.ifCond .eq 21, 3) := by decide +kernel
theorem dX10_press_16 : decode cX10_press 16 = Except.ok (Instr.iload_n 2, 1) := by decide +kernel
theorem dX10_press_17 : decode cX10_press 17 = Except.ok (Instr.ifCond .ne 19, 3) := by decide +kernel
theorem dX10_press_20 : decode cX10_press 20 = Except.ok (Instr.iload_n 3, 1) := by decide +kernel
theorem dX10_press_21 : decode cX10_press 21 = Except.ok (Instr.i2l, 1) := by decide +kernel
theorem dX10_press_22 : decode cX10_press 22 = Except.ok (Instr.ldc2_w 276, 3) := by decide +kernel
theorem dX10_press_25 : decode cX10_press 25 = Except.ok (Instr.ldc2_w 194, 3) := by decide +kernel
theorem dX10_press_28 : decode cX10_press 28 = Except.ok (Instr.invokestatic 114, 3) := by decide +kernel
theorem dX10_press_31 : decode cX10_press 31 = Except.ok (Instr.ifCond .ne 5, 3) := by decide +kernel
theorem dX10_press_34 : decode cX10_press 34 = Except.ok (Instr.iconst (-1), 1) := by decide +kernel
theorem dX10_press_35 : decode cX10_press 35 = Except.ok (Instr.ireturn, 1) := by decide +kernel
theorem dX10_press_36 : decode cX10_press 36 = Except.ok (Instr.aload_n 0, 1) := by decide +kernel
theorem dX10_press_37 : decode cX10_press 37 = Except.ok (Instr.getfield 98, 3) := by decide +kernel
theorem dX10_press_40 : decode cX10_press 40 = Except.ok (Instr.iload_n 1, 1) := by decide +kernel
theorem dX10_press_41 : decode cX10_press 41 = Except.ok (Instr.iload_n 2, 1) := by decide +kernel
theorem dX10_press_42 : decode cX10_press 42 = Except.ok (Instr.bastore, 1) := by decide +kernel
theorem dX10_press_43 : decode cX10_press 43 = Except.ok (Instr.aload_n 0, 1) := by decide +kernel
theorem dX10_press_44 : decode cX10_press 44 = Except.ok (Instr.getfield 95, 3) := by decide +kernel
theorem dX10_press_47 : decode cX10_press 47 = Except.ok (Instr.iload_n 1, 1) := by decide +kernel
theorem dX10_press_48 : decode cX10_press 48 = Except.ok (Instr.iload_n 2, 1) := by decide +kernel
theorem dX10_press_49 : decode cX10_press 49 = Except.ok (Instr.ifCond .eq 7, 3) := by decide +kernel
theorem dX10_press_52 : decode cX10_press 52 = Except.ok (Instr.iconst 0, 1) := by decide +kernel
theorem dX10_press_53 : decode cX10_press 53 = Except.ok (Instr.goto 4, 3) := by decide +kernel
theorem dX10_press_56 : decode cX10_press 56 = Except.ok (Instr.iload_n 3, 1) := by decide +kernel
theorem dX10_press_57 : decode cX10_press 57 = Except.ok (Instr.iastore, 1) := by decide +kernel
theorem dX10_press_58 : decode cX10_press 58 = Except.ok (Instr.iconst 1, 1) := by decide +kernel
theorem dX10_press_59 : decode cX10_press 59 = Except.ok (Instr.ireturn, 1) := by decide +kernel
theorem dX10_sheet_0 : decode cX10_sheet 0 = Except.ok (Instr.iload_n 1, 1) := by decide +kernel
theorem dX10_sheet_1 : decode cX10_sheet 1 = Except.ok (Instr.i2l, 1) := by decide +kernel
theorem dX10_sheet_2 : decode cX10_sheet 2 = Except.ok (Instr.lconst 0, 1) := by decide +kernel
theorem dX10_sheet_3 : decode cX10_sheet 3 = Except.ok (Instr.ldc2_w 271, 3) := by decide +kernel
theorem dX10_sheet_6 : decode cX10_sheet 6 = Except.ok (Instr.invokestatic 114, 3) := by decide +kernel
theorem dX10_sheet_9 : decode cX10_sheet 9 = Except.ok (Instr.ifCond .eq 21, 3) := by decide +kernel
theorem dX10_sheet_12 : decode cX10_sheet 12 = Except.ok (Instr.iload_n 2, 1) := by decide +kernel
theorem dX10_sheet_13 : decode cX10_sheet 13 = Except.ok (Instr.i2l, 1) := by decide +kernel
theorem dX10_sheet_14 : decode cX10_sheet 14 = Except.ok (Instr.lconst 0, 1) := by decide +kernel
theorem dX10_sheet_15 : decode cX10_sheet 15 = Except.ok (Instr.ldc2_w 122, 3) := by decide +kernel
theorem dX10_sheet_18 : decode cX10_sheet 18 = Except.ok (Instr.invokestatic 114, 3) := by decide +kernel
theorem dX10_sheet_21 : decode cX10_sheet 21 = Except.ok (Instr.ifCond .eq 9, 3) := by decide +kernel
theorem dX10_sheet_24 : decode cX10_sheet 24 = Except.ok (Instr.iload_n 3, 1) := by decide +kernel
theorem dX10_sheet_25 : decode cX10_sheet 25 = Except.ok (Instr.bipush 60, 2) := by decide +kernel
theorem dX10_sheet_27 : decode cX10_sheet 27 = Except.ok (Instr.if_icmp .le 5, 3) := by decide +kernel
theorem dX10_sheet_30 : decode cX10_sheet 30 = Except.ok (Instr.iconst (-1), 1) := by decide +kernel
theorem dX10_sheet_31 : decode cX10_sheet 31 = Except.ok (Instr.ireturn, 1) := by decide +kernel
theorem dX10_sheet_32 : decode cX10_sheet 32 = Except.ok (Instr.iload_n 3, 1) := by decide +kernel
theorem dX10_sheet_33 : decode cX10_sheet 33 = Except.ok (Instr.ifCond .ge 6, 3) := by decide +kernel
theorem dX10_sheet_36 : decode cX10_sheet 36 = Except.ok (Instr.bipush (-14), 2) := by decide +kernel
theorem dX10_sheet_38 : decode cX10_sheet 38 = Except.ok (Instr.ireturn, 1) := by decide +kernel
theorem dX10_sheet_39 : decode cX10_sheet 39 = Except.ok (Instr.aload_n 0, 1) := by decide +kernel
theorem dX10_sheet_40 : decode cX10_sheet 40 = Except.ok (Instr.getfield 101, 3) := by decide +kernel
theorem dX10_sheet_43 : decode cX10_sheet 43 = Except.ok (Instr.iload_n 1, 1) := by decide +kernel
theorem dX10_sheet_44 : decode cX10_sheet 44 = Except.ok (Instr.iload_n 2, 1) := by decide +kernel
theorem dX10_sheet_45 : decode cX10_sheet 45 = Except.ok (Instr.iastore, 1) := by decide +kernel
theorem dX10_sheet_46 : decode cX10_sheet 46 = Except.ok (Instr.aload_n 0, 1) := by decide +kernel
theorem dX10_sheet_47 : decode cX10_sheet 47 = Except.ok (Instr.getfield 104, 3) := by decide +kernel
theorem dX10_sheet_50 : decode cX10_sheet 50 = Except.ok (Instr.iload_n 1, 1) := by decide +kernel
theorem dX10_sheet_51 : decode cX10_sheet 51 = Except.ok (Instr.iload_n 3, 1) := by decide +kernel
theorem dX10_sheet_52 : decode cX10_sheet 52 = Except.ok (Instr.iastore, 1) := by decide +kernel
theorem dX10_sheet_53 : decode cX10_sheet 53 = Except.ok (Instr.iconst 0, 1) := by decide +kernel
theorem dX10_sheet_54 : decode cX10_sheet 54 = Except.ok (Instr.istore 4, 2) := by decide +kernel
theorem dX10_sheet_56 : decode cX10_sheet 56 = Except.ok (Instr.iload 4, 2) := by decide +kernel
theorem dX10_sheet_58 : decode cX10_sheet 58 = Except.ok (Instr.bipush 60, 2) := by decide +kernel
theorem dX10_sheet_60 : decode cX10_sheet 60 = Except.ok (Instr.if_icmp .ge 22, 3) := by decide +kernel
theorem dX10_sheet_63 : decode cX10_sheet 63 = Except.ok (Instr.aload_n 0, 1) := by decide +kernel
theorem dX10_sheet_64 : decode cX10_sheet 64 = Except.ok (Instr.getfield 107, 3) := by decide +kernel
theorem dX10_sheet_67 : decode cX10_sheet 67 = Except.ok (Instr.bipush 60, 2) := by decide +kernel
theorem dX10_sheet_69 : decode cX10_sheet 69 = Except.ok (Instr.iload_n 1, 1) := by decide +kernel
theorem dX10_sheet_70 : decode cX10_sheet 70 = Except.ok (Instr.imul, 1) := by decide +kernel
theorem dX10_sheet_71 : decode cX10_sheet 71 = Except.ok (Instr.iload 4, 2) := by decide +kernel
theorem dX10_sheet_73 : decode cX10_sheet 73 = Except.ok (Instr.iadd, 1) := by decide +kernel
theorem dX10_sheet_74 : decode cX10_sheet 74 = Except.ok (Instr.iconst 0, 1) := by decide +kernel
theorem dX10_sheet_75 : decode cX10_sheet 75 = Except.ok (Instr.iastore, 1) := by decide +kernel
theorem dX10_sheet_76 : decode cX10_sheet 76 = Except.ok (Instr.iinc 4 1, 3) := by decide +kernel
theorem dX10_sheet_79 : decode cX10_sheet 79 = Except.ok (Instr.goto (-23), 3) := by decide +kernel
theorem dX10_sheet_82 : decode cX10_sheet 82 = Except.ok (Instr.iconst 1, 1) := by decide +kernel
theorem dX10_sheet_83 : decode cX10_sheet 83 = Except.ok (Instr.ireturn, 1) := by decide +kernel
theorem dX10_lay_0 : decode cX10_lay 0 = Except.ok (Instr.iload_n 1, 1) := by decide +kernel
theorem dX10_lay_1 : decode cX10_lay 1 = Except.ok (Instr.i2l, 1) := by decide +kernel
theorem dX10_lay_2 : decode cX10_lay 2 = Except.ok (Instr.lconst 0, 1) := by decide +kernel
theorem dX10_lay_3 : decode cX10_lay 3 = Except.ok (Instr.ldc2_w 271, 3) := by decide +kernel
theorem dX10_lay_6 : decode cX10_lay 6 = Except.ok (Instr.invokestatic 114, 3) := by decide +kernel
theorem dX10_lay_9 : decode cX10_lay 9 = Except.ok (Instr.ifCond .ne 5, 3) := by decide +kernel
theorem dX10_lay_12 : decode cX10_lay 12 = Except.ok (Instr.iconst (-1), 1) := by decide +kernel
theorem dX10_lay_13 : decode cX10_lay 13 = Except.ok (Instr.ireturn, 1) := by decide +kernel
theorem dX10_lay_14 : decode cX10_lay 14 = Except.ok (Instr.aload_n 0, 1) := by decide +kernel
theorem dX10_lay_15 : decode cX10_lay 15 = Except.ok (Instr.getfield 101, 3) := by decide +kernel
theorem dX10_lay_18 : decode cX10_lay 18 = Except.ok (Instr.iload_n 1, 1) := by decide +kernel
theorem dX10_lay_19 : decode cX10_lay 19 = Except.ok (Instr.iaload, 1) := by decide +kernel
theorem dX10_lay_20 : decode cX10_lay 20 = Except.ok (Instr.bipush (-4), 2) := by decide +kernel
theorem dX10_lay_22 : decode cX10_lay 22 = Except.ok (Instr.if_icmp .ne 6, 3) := by decide +kernel
theorem dX10_lay_25 : decode cX10_lay 25 = Except.ok (Instr.bipush (-11), 2) := by decide +kernel
theorem dX10_lay_27 : decode cX10_lay 27 = Except.ok (Instr.ireturn, 1) := by decide +kernel
theorem dX10_lay_28 : decode cX10_lay 28 = Except.ok (Instr.iload_n 2, 1) := by decide +kernel
theorem dX10_lay_29 : decode cX10_lay 29 = Except.ok (Instr.i2l, 1) := by decide +kernel
theorem dX10_lay_30 : decode cX10_lay 30 = Except.ok (Instr.lconst 0, 1) := by decide +kernel
theorem dX10_lay_31 : decode cX10_lay 31 = Except.ok (Instr.aload_n 0, 1) := by decide +kernel
theorem dX10_lay_32 : decode cX10_lay 32 = Except.ok (Instr.getfield 104, 3) := by decide +kernel
theorem dX10_lay_35 : decode cX10_lay 35 = Except.ok (Instr.iload_n 1, 1) := by decide +kernel
theorem dX10_lay_36 : decode cX10_lay 36 = Except.ok (Instr.iaload, 1) := by decide +kernel
theorem dX10_lay_37 : decode cX10_lay 37 = Except.ok (Instr.iconst 1, 1) := by decide +kernel
theorem dX10_lay_38 : decode cX10_lay 38 = Except.ok (Instr.isub, 1) := by decide +kernel
theorem dX10_lay_39 : decode cX10_lay 39 = Except.ok (Instr.i2l, 1) := by decide +kernel
theorem dX10_lay_40 : decode cX10_lay 40 = Except.ok (Instr.invokestatic 114, 3) := by decide +kernel
theorem dX10_lay_43 : decode cX10_lay 43 = Except.ok (Instr.ifCond .ne 6, 3) := by decide +kernel
theorem dX10_lay_46 : decode cX10_lay 46 = Except.ok (Instr.bipush (-12), 2) := by decide +kernel
theorem dX10_lay_48 : decode cX10_lay 48 = Except.ok (Instr.ireturn, 1) := by decide +kernel
theorem dX10_lay_49 : decode cX10_lay 49 = Except.ok (Instr.aload_n 0, 1) := by decide +kernel
theorem dX10_lay_50 : decode cX10_lay 50 = Except.ok (Instr.getfield 107, 3) := by decide +kernel
theorem dX10_lay_53 : decode cX10_lay 53 = Except.ok (Instr.bipush 60, 2) := by decide +kernel
theorem dX10_lay_55 : decode cX10_lay 55 = Except.ok (Instr.iload_n 1, 1) := by decide +kernel
theorem dX10_lay_56 : decode cX10_lay 56 = Except.ok (Instr.imul, 1) := by decide +kernel
theorem dX10_lay_57 : decode cX10_lay 57 = Except.ok (Instr.iload_n 2, 1) := by decide +kernel
theorem dX10_lay_58 : decode cX10_lay 58 = Except.ok (Instr.iadd, 1) := by decide +kernel
theorem dX10_lay_59 : decode cX10_lay 59 = Except.ok (Instr.aload_n 0, 1) := by decide +kernel
theorem dX10_lay_60 : decode cX10_lay 60 = Except.ok (Instr.getfield 101, 3) := by decide +kernel
theorem dX10_lay_63 : decode cX10_lay 63 = Except.ok (Instr.iload_n 1, 1) := by decide +kernel
theorem dX10_lay_64 : decode cX10_lay 64 = Except.ok (Instr.iaload, 1) := by decide +kernel
theorem dX10_lay_65 : decode cX10_lay 65 = Except.ok (Instr.ifCond .ne 8, 3) := by decide +kernel
theorem dX10_lay_68 : decode cX10_lay 68 = Except.ok (Instr.iload_n 3, 1) := by decide +kernel
theorem dX10_lay_69 : decode cX10_lay 69 = Except.ok (Instr.i2b, 1) := by decide +kernel
theorem dX10_lay_70 : decode cX10_lay 70 = Except.ok (Instr.goto 19, 3) := by decide +kernel
theorem dX10_lay_73 : decode cX10_lay 73 = Except.ok (Instr.aload_n 0, 1) := by decide +kernel
theorem dX10_lay_74 : decode cX10_lay 74 = Except.ok (Instr.getfield 101, 3) := by decide +kernel
theorem dX10_lay_77 : decode cX10_lay 77 = Except.ok (Instr.iload_n 1, 1) := by decide +kernel
theorem dX10_lay_78 : decode cX10_lay 78 = Except.ok (Instr.iaload, 1) := by decide +kernel
theorem dX10_lay_79 : decode cX10_lay 79 = Except.ok (Instr.iconst 1, 1) := by decide +kernel
theorem dX10_lay_80 : decode cX10_lay 80 = Except.ok (Instr.if_icmp .ne 8, 3) := by decide +kernel
theorem dX10_lay_83 : decode cX10_lay 83 = Except.ok (Instr.iload_n 3, 1) := by decide +kernel
theorem dX10_lay_84 : decode cX10_lay 84 = Except.ok (Instr.i2s, 1) := by decide +kernel
theorem dX10_lay_85 : decode cX10_lay 85 = Except.ok (Instr.goto 4, 3) := by decide +kernel
theorem dX10_lay_88 : decode cX10_lay 88 = Except.ok (Instr.iload_n 3, 1) := by decide +kernel
theorem dX10_lay_89 : decode cX10_lay 89 = Except.ok (Instr.iastore, 1) := by decide +kernel
theorem dX10_lay_90 : decode cX10_lay 90 = Except.ok (Instr.iconst 1, 1) := by decide +kernel
theorem dX10_lay_91 : decode cX10_lay 91 = Except.ok (Instr.ireturn, 1) := by decide +kernel
theorem dX10_lostMany_0 : decode cX10_lostMany 0 = Except.ok (Instr.iconst 0, 1) := by decide +kernel
theorem dX10_lostMany_1 : decode cX10_lostMany 1 = Except.ok (Instr.istore_n 1, 1) := by decide +kernel
theorem dX10_lostMany_2 : decode cX10_lostMany 2 = Except.ok (Instr.iconst 0, 1) := by decide +kernel
theorem dX10_lostMany_3 : decode cX10_lostMany 3 = Except.ok (Instr.istore_n 2, 1) := by decide +kernel
theorem dX10_lostMany_4 : decode cX10_lostMany 4 = Except.ok (Instr.iload_n 2, 1) := by decide +kernel
theorem dX10_lostMany_5 : decode cX10_lostMany 5 = Except.ok (Instr.aload_n 0, 1) := by decide +kernel
theorem dX10_lostMany_6 : decode cX10_lostMany 6 = Except.ok (Instr.getfield 273, 3) := by decide +kernel
theorem dX10_lostMany_9 : decode cX10_lostMany 9 = Except.ok (Instr.if_icmp .ge 26, 3) := by decide +kernel
theorem dX10_lostMany_12 : decode cX10_lostMany 12 = Except.ok (Instr.iload_n 1, 1) := by decide +kernel
theorem dX10_lostMany_13 : decode cX10_lostMany 13 = Except.ok (Instr.aload_n 0, 1) := by decide +kernel
theorem dX10_lostMany_14 : decode cX10_lostMany 14 = Except.ok (Instr.getfield 98, 3) := by decide +kernel
theorem dX10_lostMany_17 : decode cX10_lostMany 17 = Except.ok (Instr.iload_n 2, 1) := by decide +kernel
theorem dX10_lostMany_18 : decode cX10_lostMany 18 = Except.ok (Instr.baload, 1) := by decide +kernel
theorem dX10_lostMany_19 : decode cX10_lostMany 19 = Except.ok (Instr.ifCond .eq 7, 3) := by decide +kernel
theorem dX10_lostMany_22 : decode cX10_lostMany 22 = Except.ok (Instr.iconst 1, 1) := by decide +kernel
theorem dX10_lostMany_23 : decode cX10_lostMany 23 = Except.ok (Instr.goto 4, 3) := by decide +kernel
theorem dX10_lostMany_26 : decode cX10_lostMany 26 = Except.ok (Instr.iconst 0, 1) := by decide +kernel
theorem dX10_lostMany_27 : decode cX10_lostMany 27 = Except.ok (Instr.iadd, 1) := by decide +kernel
theorem dX10_lostMany_28 : decode cX10_lostMany 28 = Except.ok (Instr.istore_n 1, 1) := by decide +kernel
theorem dX10_lostMany_29 : decode cX10_lostMany 29 = Except.ok (Instr.iinc 2 1, 3) := by decide +kernel
theorem dX10_lostMany_32 : decode cX10_lostMany 32 = Except.ok (Instr.goto (-28), 3) := by decide +kernel
theorem dX10_lostMany_35 : decode cX10_lostMany 35 = Except.ok (Instr.iload_n 1, 1) := by decide +kernel
theorem dX10_lostMany_36 : decode cX10_lostMany 36 = Except.ok (Instr.ireturn, 1) := by decide +kernel
theorem dX10_scan_0 : decode cX10_scan 0 = Except.ok (Instr.iload_n 1, 1) := by decide +kernel
theorem dX10_scan_1 : decode cX10_scan 1 = Except.ok (Instr.i2l, 1) := by decide +kernel
theorem dX10_scan_2 : decode cX10_scan 2 = Except.ok (Instr.lconst 0, 1) := by decide +kernel
theorem dX10_scan_3 : decode cX10_scan 3 = Except.ok (Instr.ldc2_w 271, 3) := by decide +kernel
theorem dX10_scan_6 : decode cX10_scan 6 = Except.ok (Instr.invokestatic 114, 3) := by decide +kernel
theorem dX10_scan_9 : decode cX10_scan 9 = Except.ok (Instr.ifCond .eq 15, 3) := by decide +kernel
theorem dX10_scan_12 : decode cX10_scan 12 = Except.ok (Instr.iload_n 2, 1) := by decide +kernel
theorem dX10_scan_13 : decode cX10_scan 13 = Except.ok (Instr.i2l, 1) := by decide +kernel
theorem dX10_scan_14 : decode cX10_scan 14 = Except.ok (Instr.lconst 0, 1) := by decide +kernel
theorem dX10_scan_15 : decode cX10_scan 15 = Except.ok (Instr.ldc2_w 122, 3) := by decide +kernel
theorem dX10_scan_18 : decode cX10_scan 18 = Except.ok (Instr.invokestatic 114, 3) := by decide +kernel
theorem dX10_scan_21 : decode cX10_scan 21 = Except.ok (Instr.ifCond .ne 5, 3) := by decide +kernel
theorem dX10_scan_24 : decode cX10_scan 24 = Except.ok (Instr.iconst (-1), 1) := by decide +kernel
theorem dX10_scan_25 : decode cX10_scan 25 = Except.ok (Instr.ireturn, 1) := by decide +kernel
theorem dX10_scan_26 : decode cX10_scan 26 = Except.ok (Instr.aload_n 0, 1) := by decide +kernel
theorem dX10_scan_27 : decode cX10_scan 27 = Except.ok (Instr.getfield 101, 3) := by decide +kernel
theorem dX10_scan_30 : decode cX10_scan 30 = Except.ok (Instr.iload_n 1, 1) := by decide +kernel
theorem dX10_scan_31 : decode cX10_scan 31 = Except.ok (Instr.iaload, 1) := by decide +kernel
theorem dX10_scan_32 : decode cX10_scan 32 = Except.ok (Instr.iload_n 2, 1) := by decide +kernel
theorem dX10_scan_33 : decode cX10_scan 33 = Except.ok (Instr.if_icmp .eq 22, 3) := by decide +kernel
theorem dX10_scan_36 : decode cX10_scan 36 = Except.ok (Instr.aload_n 0, 1) := by decide +kernel
theorem dX10_scan_37 : decode cX10_scan 37 = Except.ok (Instr.getfield 101, 3) := by decide +kernel
theorem dX10_scan_40 : decode cX10_scan 40 = Except.ok (Instr.iload_n 1, 1) := by decide +kernel
theorem dX10_scan_41 : decode cX10_scan 41 = Except.ok (Instr.iaload, 1) := by decide +kernel
theorem dX10_scan_42 : decode cX10_scan 42 = Except.ok (Instr.bipush (-4), 2) := by decide +kernel
theorem dX10_scan_44 : decode cX10_scan 44 = Except.ok (Instr.if_icmp .ne 8, 3) := by decide +kernel
theorem dX10_scan_47 : decode cX10_scan 47 = Except.ok (Instr.bipush (-11), 2) := by decide +kernel
theorem dX10_scan_49 : decode cX10_scan 49 = Except.ok (Instr.goto 5, 3) := by decide +kernel
theorem dX10_scan_52 : decode cX10_scan 52 = Except.ok (Instr.bipush (-13), 2) := by decide +kernel
theorem dX10_scan_54 : decode cX10_scan 54 = Except.ok (Instr.ireturn, 1) := by decide +kernel
theorem dX10_scan_55 : decode cX10_scan 55 = Except.ok (Instr.aload_n 0, 1) := by decide +kernel
theorem dX10_scan_56 : decode cX10_scan 56 = Except.ok (Instr.getfield 273, 3) := by decide +kernel
theorem dX10_scan_59 : decode cX10_scan 59 = Except.ok (Instr.ifCond .le 29, 3) := by decide +kernel
theorem dX10_scan_62 : decode cX10_scan 62 = Except.ok (Instr.iload_n 3, 1) := by decide +kernel
theorem dX10_scan_63 : decode cX10_scan 63 = Except.ok (Instr.ifCond .lt 22, 3) := by decide +kernel
theorem dX10_scan_66 : decode cX10_scan 66 = Except.ok (Instr.iload_n 3, 1) := by decide +kernel
theorem dX10_scan_67 : decode cX10_scan 67 = Except.ok (Instr.i2l, 1) := by decide +kernel
theorem dX10_scan_68 : decode cX10_scan 68 = Except.ok (Instr.aload_n 0, 1) := by decide +kernel
theorem dX10_scan_69 : decode cX10_scan 69 = Except.ok (Instr.getfield 273, 3) := by decide +kernel
theorem dX10_scan_72 : decode cX10_scan 72 = Except.ok (Instr.i2l, 1) := by decide +kernel
theorem dX10_scan_73 : decode cX10_scan 73 = Except.ok (Instr.ladd, 1) := by decide +kernel
theorem dX10_scan_74 : decode cX10_scan 74 = Except.ok (Instr.aload_n 0, 1) := by decide +kernel
theorem dX10_scan_75 : decode cX10_scan 75 = Except.ok (Instr.getfield 104, 3) := by decide +kernel
theorem dX10_scan_78 : decode cX10_scan 78 = Except.ok (Instr.iload_n 1, 1) := by decide +kernel
theorem dX10_scan_79 : decode cX10_scan 79 = Except.ok (Instr.iaload, 1) := by decide +kernel
theorem dX10_scan_80 : decode cX10_scan 80 = Except.ok (Instr.i2l, 1) := by decide +kernel
theorem dX10_scan_81 : decode cX10_scan 81 = Except.ok (Instr.lcmp, 1) := by decide +kernel
theorem dX10_scan_82 : decode cX10_scan 82 = Except.ok (Instr.ifCond .le 6, 3) := by decide +kernel
theorem dX10_scan_85 : decode cX10_scan 85 = Except.ok (Instr.bipush (-12), 2) := by decide +kernel
theorem dX10_scan_87 : decode cX10_scan 87 = Except.ok (Instr.ireturn, 1) := by decide +kernel
theorem dX10_scan_88 : decode cX10_scan 88 = Except.ok (Instr.iconst 0, 1) := by decide +kernel
theorem dX10_scan_89 : decode cX10_scan 89 = Except.ok (Instr.istore 4, 2) := by decide +kernel
theorem dX10_scan_91 : decode cX10_scan 91 = Except.ok (Instr.iload 4, 2) := by decide +kernel
theorem dX10_scan_93 : decode cX10_scan 93 = Except.ok (Instr.aload_n 0, 1) := by decide +kernel
theorem dX10_scan_94 : decode cX10_scan 94 = Except.ok (Instr.getfield 273, 3) := by decide +kernel
theorem dX10_scan_97 : decode cX10_scan 97 = Except.ok (Instr.if_icmp .ge 75, 3) := by decide +kernel
theorem dX10_scan_100 : decode cX10_scan 100 = Except.ok (Instr.aload_n 0, 1) := by decide +kernel
theorem dX10_scan_101 : decode cX10_scan 101 = Except.ok (Instr.getfield 107, 3) := by decide +kernel
theorem dX10_scan_104 : decode cX10_scan 104 = Except.ok (Instr.bipush 60, 2) := by decide +kernel
theorem dX10_scan_106 : decode cX10_scan 106 = Except.ok (Instr.iload_n 1, 1) := by decide +kernel
theorem dX10_scan_107 : decode cX10_scan 107 = Except.ok (Instr.imul, 1) := by decide +kernel
theorem dX10_scan_108 : decode cX10_scan 108 = Except.ok (Instr.iload_n 3, 1) := by decide +kernel
theorem dX10_scan_109 : decode cX10_scan 109 = Except.ok (Instr.iadd, 1) := by decide +kernel
theorem dX10_scan_110 : decode cX10_scan 110 = Except.ok (Instr.iload 4, 2) := by decide +kernel
theorem dX10_scan_112 : decode cX10_scan 112 = Except.ok (Instr.iadd, 1) := by decide +kernel
theorem dX10_scan_113 : decode cX10_scan 113 = Except.ok (Instr.iaload, 1) := by decide +kernel
theorem dX10_scan_114 : decode cX10_scan 114 = Except.ok (Instr.istore 5, 2) := by decide +kernel
theorem dX10_scan_116 : decode cX10_scan 116 = Except.ok (Instr.aload_n 0, 1) := by decide +kernel
theorem dX10_scan_117 : decode cX10_scan 117 = Except.ok (Instr.getfield 98, 3) := by decide +kernel
theorem dX10_scan_120 : decode cX10_scan 120 = Except.ok (Instr.iload 4, 2) := by decide +kernel
theorem dX10_scan_122 : decode cX10_scan 122 = Except.ok (Instr.iload 5, 2) := by decide +kernel
theorem dX10_scan_124 : decode cX10_scan 124 = Except.ok (Instr.i2l, 1) := by decide +kernel
theorem dX10_scan_125 : decode cX10_scan 125 = Except.ok (Instr.ldc2_w 276, 3) := by decide +kernel
theorem dX10_scan_128 : decode cX10_scan 128 = Except.ok (Instr.ldc2_w 194, 3) := by decide +kernel
theorem dX10_scan_131 : decode cX10_scan 131 = Except.ok (Instr.invokestatic 114, 3) := by decide +kernel
theorem dX10_scan_134 : decode cX10_scan 134 = Except.ok (Instr.ifCond .ne 7, 3) := by decide +kernel
theorem dX10_scan_137 : decode cX10_scan 137 = Except.ok (Instr.iconst 1, 1) := by decide +kernel
theorem dX10_scan_138 : decode cX10_scan 138 = Except.ok (Instr.goto 4, 3) := by decide +kernel
theorem dX10_scan_141 : decode cX10_scan 141 = Except.ok (Instr.iconst 0, 1) := by decide +kernel
theorem dX10_scan_142 : decode cX10_scan 142 = Except.ok (Instr.bastore, 1) := by decide +kernel
theorem dX10_scan_143 : decode cX10_scan 143 = Except.ok (Instr.aload_n 0, 1) := by decide +kernel
theorem dX10_scan_144 : decode cX10_scan 144 = Except.ok (Instr.getfield 95, 3) := by decide +kernel
theorem dX10_scan_147 : decode cX10_scan 147 = Except.ok (Instr.iload 4, 2) := by decide +kernel
theorem dX10_scan_149 : decode cX10_scan 149 = Except.ok (Instr.aload_n 0, 1) := by decide +kernel
theorem dX10_scan_150 : decode cX10_scan 150 = Except.ok (Instr.getfield 98, 3) := by decide +kernel
theorem dX10_scan_153 : decode cX10_scan 153 = Except.ok (Instr.iload 4, 2) := by decide +kernel
theorem dX10_scan_155 : decode cX10_scan 155 = Except.ok (Instr.baload, 1) := by decide +kernel
theorem dX10_scan_156 : decode cX10_scan 156 = Except.ok (Instr.ifCond .eq 7, 3) := by decide +kernel
theorem dX10_scan_159 : decode cX10_scan 159 = Except.ok (Instr.iconst 0, 1) := by decide +kernel
theorem dX10_scan_160 : decode cX10_scan 160 = Except.ok (Instr.goto 5, 3) := by decide +kernel
theorem dX10_scan_163 : decode cX10_scan 163 = Except.ok (Instr.iload 5, 2) := by decide +kernel
theorem dX10_scan_165 : decode cX10_scan 165 = Except.ok (Instr.iastore, 1) := by decide +kernel
theorem dX10_scan_166 : decode cX10_scan 166 = Except.ok (Instr.iinc 4 1, 3) := by decide +kernel
theorem dX10_scan_169 : decode cX10_scan 169 = Except.ok (Instr.goto (-78), 3) := by decide +kernel
theorem dX10_scan_172 : decode cX10_scan 172 = Except.ok (Instr.aload_n 0, 1) := by decide +kernel
theorem dX10_scan_173 : decode cX10_scan 173 = Except.ok (Instr.invokevirtual 278, 3) := by decide +kernel
theorem dX10_scan_176 : decode cX10_scan 176 = Except.ok (Instr.ireturn, 1) := by decide +kernel
theorem dX10_force_0 : decode cX10_force 0 = Except.ok (Instr.iconst 0, 1) := by decide +kernel
theorem dX10_force_1 : decode cX10_force 1 = Except.ok (Instr.istore_n 1, 1) := by decide +kernel
theorem dX10_force_2 : decode cX10_force 2 = Except.ok (Instr.iconst 0, 1) := by decide +kernel
theorem dX10_force_3 : decode cX10_force 3 = Except.ok (Instr.istore_n 2, 1) := by decide +kernel
theorem dX10_force_4 : decode cX10_force 4 = Except.ok (Instr.iload_n 2, 1) := by decide +kernel
theorem dX10_force_5 : decode cX10_force 5 = Except.ok (Instr.aload_n 0, 1) := by decide +kernel
theorem dX10_force_6 : decode cX10_force 6 = Except.ok (Instr.getfield 273, 3) := by decide +kernel
theorem dX10_force_9 : decode cX10_force 9 = Except.ok (Instr.if_icmp .ge 38, 3) := by decide +kernel
theorem dX10_force_12 : decode cX10_force 12 = Except.ok (Instr.iload_n 1, 1) := by decide +kernel
theorem dX10_force_13 : decode cX10_force 13 = Except.ok (Instr.aload_n 0, 1) := by decide +kernel
theorem dX10_force_14 : decode cX10_force 14 = Except.ok (Instr.getfield 98, 3) := by decide +kernel
theorem dX10_force_17 : decode cX10_force 17 = Except.ok (Instr.iload_n 2, 1) := by decide +kernel
theorem dX10_force_18 : decode cX10_force 18 = Except.ok (Instr.baload, 1) := by decide +kernel
theorem dX10_force_19 : decode cX10_force 19 = Except.ok (Instr.ifCond .eq 7, 3) := by decide +kernel
theorem dX10_force_22 : decode cX10_force 22 = Except.ok (Instr.iconst 0, 1) := by decide +kernel
theorem dX10_force_23 : decode cX10_force 23 = Except.ok (Instr.goto 16, 3) := by decide +kernel
theorem dX10_force_26 : decode cX10_force 26 = Except.ok (Instr.aload_n 0, 1) := by decide +kernel
theorem dX10_force_27 : decode cX10_force 27 = Except.ok (Instr.getfield 92, 3) := by decide +kernel
theorem dX10_force_30 : decode cX10_force 30 = Except.ok (Instr.iload_n 2, 1) := by decide +kernel
theorem dX10_force_31 : decode cX10_force 31 = Except.ok (Instr.iaload, 1) := by decide +kernel
theorem dX10_force_32 : decode cX10_force 32 = Except.ok (Instr.aload_n 0, 1) := by decide +kernel
theorem dX10_force_33 : decode cX10_force 33 = Except.ok (Instr.getfield 95, 3) := by decide +kernel
theorem dX10_force_36 : decode cX10_force 36 = Except.ok (Instr.iload_n 2, 1) := by decide +kernel
theorem dX10_force_37 : decode cX10_force 37 = Except.ok (Instr.iaload, 1) := by decide +kernel
theorem dX10_force_38 : decode cX10_force 38 = Except.ok (Instr.imul, 1) := by decide +kernel
theorem dX10_force_39 : decode cX10_force 39 = Except.ok (Instr.iadd, 1) := by decide +kernel
theorem dX10_force_40 : decode cX10_force 40 = Except.ok (Instr.istore_n 1, 1) := by decide +kernel
theorem dX10_force_41 : decode cX10_force 41 = Except.ok (Instr.iinc 2 1, 3) := by decide +kernel
theorem dX10_force_44 : decode cX10_force 44 = Except.ok (Instr.goto (-40), 3) := by decide +kernel
theorem dX10_force_47 : decode cX10_force 47 = Except.ok (Instr.iload_n 1, 1) := by decide +kernel
theorem dX10_force_48 : decode cX10_force 48 = Except.ok (Instr.ireturn, 1) := by decide +kernel
theorem dX10_check_0 : decode cX10_check 0 = Except.ok (Instr.iload_n 1, 1) := by decide +kernel
theorem dX10_check_1 : decode cX10_check 1 = Except.ok (Instr.invokestatic 150, 3) := by decide +kernel
theorem dX10_check_4 : decode cX10_check 4 = Except.ok (Instr.ifCond .eq 15, 3) := by decide +kernel
theorem dX10_check_7 : decode cX10_check 7 = Except.ok (Instr.iload_n 2, 1) := by decide +kernel
theorem dX10_check_8 : decode cX10_check 8 = Except.ok (Instr.i2l, 1) := by decide +kernel
theorem dX10_check_9 : decode cX10_check 9 = Except.ok (Instr.lconst 0, 1) := by decide +kernel
theorem dX10_check_10 : decode cX10_check 10 = Except.ok (Instr.ldc2_w 262, 3) := by decide +kernel
theorem dX10_check_13 : decode cX10_check 13 = Except.ok (Instr.invokestatic 114, 3) := by decide +kernel
theorem dX10_check_16 : decode cX10_check 16 = Except.ok (Instr.ifCond .ne 5, 3) := by decide +kernel
theorem dX10_check_19 : decode cX10_check 19 = Except.ok (Instr.iconst (-1), 1) := by decide +kernel
theorem dX10_check_20 : decode cX10_check 20 = Except.ok (Instr.ireturn, 1) := by decide +kernel
theorem dX10_check_21 : decode cX10_check 21 = Except.ok (Instr.aload_n 0, 1) := by decide +kernel
theorem dX10_check_22 : decode cX10_check 22 = Except.ok (Instr.invokevirtual 278, 3) := by decide +kernel
theorem dX10_check_25 : decode cX10_check 25 = Except.ok (Instr.ifCond .le 6, 3) := by decide +kernel
theorem dX10_check_28 : decode cX10_check 28 = Except.ok (Instr.bipush (-2), 2) := by decide +kernel
theorem dX10_check_30 : decode cX10_check 30 = Except.ok (Instr.ireturn, 1) := by decide +kernel
theorem dX10_check_31 : decode cX10_check 31 = Except.ok (Instr.aload_n 0, 1) := by decide +kernel
theorem dX10_check_32 : decode cX10_check 32 = Except.ok (Instr.invokevirtual 281, 3) := by decide +kernel
theorem dX10_check_35 : decode cX10_check 35 = Except.ok (Instr.istore_n 3, 1) := by decide +kernel
theorem dX10_check_36 : decode cX10_check 36 = Except.ok (Instr.iload_n 3, 1) := by decide +kernel
theorem dX10_check_37 : decode cX10_check 37 = Except.ok (Instr.i2l, 1) := by decide +kernel
theorem dX10_check_38 : decode cX10_check 38 = Except.ok (Instr.iload_n 1, 1) := by decide +kernel
theorem dX10_check_39 : decode cX10_check 39 = Except.ok (Instr.iload_n 2, 1) := by decide +kernel
theorem dX10_check_40 : decode cX10_check 40 = Except.ok (Instr.isub, 1) := by decide +kernel
theorem dX10_check_41 : decode cX10_check 41 = Except.ok (Instr.i2l, 1) := by decide +kernel
theorem dX10_check_42 : decode cX10_check 42 = Except.ok (Instr.iload_n 1, 1) := by decide +kernel
theorem dX10_check_43 : decode cX10_check 43 = Except.ok (Instr.iload_n 2, 1) := by decide +kernel
theorem dX10_check_44 : decode cX10_check 44 = Except.ok (Instr.iadd, 1) := by decide +kernel
theorem dX10_check_45 : decode cX10_check 45 = Except.ok (Instr.i2l, 1) := by decide +kernel
theorem dX10_check_46 : decode cX10_check 46 = Except.ok (Instr.invokestatic 114, 3) := by decide +kernel
theorem dX10_check_49 : decode cX10_check 49 = Except.ok (Instr.ifCond .eq 5, 3) := by decide +kernel
theorem dX10_check_52 : decode cX10_check 52 = Except.ok (Instr.iconst 0, 1) := by decide +kernel
theorem dX10_check_53 : decode cX10_check 53 = Except.ok (Instr.ireturn, 1) := by decide +kernel
theorem dX10_check_54 : decode cX10_check 54 = Except.ok (Instr.iconst 0, 1) := by decide +kernel
theorem dX10_check_55 : decode cX10_check 55 = Except.ok (Instr.istore 4, 2) := by decide +kernel
theorem dX10_check_57 : decode cX10_check 57 = Except.ok (Instr.bipush (-4), 2) := by decide +kernel
theorem dX10_check_59 : decode cX10_check 59 = Except.ok (Instr.istore 5, 2) := by decide +kernel
theorem dX10_check_61 : decode cX10_check 61 = Except.ok (Instr.iconst 0, 1) := by decide +kernel
theorem dX10_check_62 : decode cX10_check 62 = Except.ok (Instr.istore 6, 2) := by decide +kernel
theorem dX10_check_64 : decode cX10_check 64 = Except.ok (Instr.iload 6, 2) := by decide +kernel
theorem dX10_check_66 : decode cX10_check 66 = Except.ok (Instr.aload_n 0, 1) := by decide +kernel
theorem dX10_check_67 : decode cX10_check 67 = Except.ok (Instr.getfield 273, 3) := by decide +kernel
theorem dX10_check_70 : decode cX10_check 70 = Except.ok (Instr.if_icmp .ge 106, 3) := by decide +kernel
theorem dX10_check_73 : decode cX10_check 73 = Except.ok (Instr.iload_n 3, 1) := by decide +kernel
theorem dX10_check_74 : decode cX10_check 74 = Except.ok (Instr.aload_n 0, 1) := by decide +kernel
theorem dX10_check_75 : decode cX10_check 75 = Except.ok (Instr.getfield 92, 3) := by decide +kernel
theorem dX10_check_78 : decode cX10_check 78 = Except.ok (Instr.iload 6, 2) := by decide +kernel
theorem dX10_check_80 : decode cX10_check 80 = Except.ok (Instr.iaload, 1) := by decide +kernel
theorem dX10_check_81 : decode cX10_check 81 = Except.ok (Instr.aload_n 0, 1) := by decide +kernel
theorem dX10_check_82 : decode cX10_check 82 = Except.ok (Instr.getfield 95, 3) := by decide +kernel
theorem dX10_check_85 : decode cX10_check 85 = Except.ok (Instr.iload 6, 2) := by decide +kernel
theorem dX10_check_87 : decode cX10_check 87 = Except.ok (Instr.iaload, 1) := by decide +kernel
theorem dX10_check_88 : decode cX10_check 88 = Except.ok (Instr.imul, 1) := by decide +kernel
theorem dX10_check_89 : decode cX10_check 89 = Except.ok (Instr.isub, 1) := by decide +kernel
theorem dX10_check_90 : decode cX10_check 90 = Except.ok (Instr.istore 7, 2) := by decide +kernel
theorem dX10_check_92 : decode cX10_check 92 = Except.ok (Instr.iload_n 1, 1) := by decide +kernel
theorem dX10_check_93 : decode cX10_check 93 = Except.ok (Instr.iload_n 2, 1) := by decide +kernel
theorem dX10_check_94 : decode cX10_check 94 = Except.ok (Instr.iadd, 1) := by decide +kernel
theorem dX10_check_95 : decode cX10_check 95 = Except.ok (Instr.iload 7, 2) := by decide +kernel
theorem dX10_check_97 : decode cX10_check 97 = Except.ok (Instr.isub, 1) := by decide +kernel
theorem dX10_check_98 : decode cX10_check 98 = Except.ok (Instr.i2l, 1) := by decide +kernel
theorem dX10_check_99 : decode cX10_check 99 = Except.ok (Instr.aload_n 0, 1) := by decide +kernel
theorem dX10_check_100 : decode cX10_check 100 = Except.ok (Instr.getfield 92, 3) := by decide +kernel
theorem dX10_check_103 : decode cX10_check 103 = Except.ok (Instr.iload 6, 2) := by decide +kernel
theorem dX10_check_105 : decode cX10_check 105 = Except.ok (Instr.iaload, 1) := by decide +kernel
theorem dX10_check_106 : decode cX10_check 106 = Except.ok (Instr.i2l, 1) := by decide +kernel
theorem dX10_check_107 : decode cX10_check 107 = Except.ok (Instr.invokestatic 167, 3) := by decide +kernel
theorem dX10_check_110 : decode cX10_check 110 = Except.ok (Instr.lstore 8, 2) := by decide +kernel
theorem dX10_check_112 : decode cX10_check 112 = Except.ok (Instr.lload 8, 2) := by decide +kernel
theorem dX10_check_114 : decode cX10_check 114 = Except.ok (Instr.ldc2_w 194, 3) := by decide +kernel
theorem dX10_check_117 : decode cX10_check 117 = Except.ok (Instr.lcmp, 1) := by decide +kernel
theorem dX10_check_118 : decode cX10_check 118 = Except.ok (Instr.ifCond .le 9, 3) := by decide +kernel
theorem dX10_check_121 : decode cX10_check 121 = Except.ok (Instr.ldc2_w 194, 3) := by decide +kernel
theorem dX10_check_124 : decode cX10_check 124 = Except.ok (Instr.goto 5, 3) := by decide +kernel
theorem dX10_check_127 : decode cX10_check 127 = Except.ok (Instr.lload 8, 2) := by decide +kernel
theorem dX10_check_129 : decode cX10_check 129 = Except.ok (Instr.lstore 8, 2) := by decide +kernel
theorem dX10_check_131 : decode cX10_check 131 = Except.ok (Instr.lload 8, 2) := by decide +kernel
theorem dX10_check_133 : decode cX10_check 133 = Except.ok (Instr.ldc2_w 276, 3) := by decide +kernel
theorem dX10_check_136 : decode cX10_check 136 = Except.ok (Instr.lcmp, 1) := by decide +kernel
theorem dX10_check_137 : decode cX10_check 137 = Except.ok (Instr.ifCond .lt 33, 3) := by decide +kernel
theorem dX10_check_140 : decode cX10_check 140 = Except.ok (Instr.lload 8, 2) := by decide +kernel
theorem dX10_check_142 : decode cX10_check 142 = Except.ok (Instr.aload_n 0, 1) := by decide +kernel
theorem dX10_check_143 : decode cX10_check 143 = Except.ok (Instr.getfield 92, 3) := by decide +kernel
theorem dX10_check_146 : decode cX10_check 146 = Except.ok (Instr.iload 6, 2) := by decide +kernel
theorem dX10_check_148 : decode cX10_check 148 = Except.ok (Instr.iaload, 1) := by decide +kernel
theorem dX10_check_149 : decode cX10_check 149 = Except.ok (Instr.i2l, 1) := by decide +kernel
theorem dX10_check_150 : decode cX10_check 150 = Except.ok (Instr.lmul, 1) := by decide +kernel
theorem dX10_check_151 : decode cX10_check 151 = Except.ok (Instr.iload 7, 2) := by decide +kernel
theorem dX10_check_153 : decode cX10_check 153 = Except.ok (Instr.i2l, 1) := by decide +kernel
theorem dX10_check_154 : decode cX10_check 154 = Except.ok (Instr.ladd, 1) := by decide +kernel
theorem dX10_check_155 : decode cX10_check 155 = Except.ok (Instr.iload_n 1, 1) := by decide +kernel
theorem dX10_check_156 : decode cX10_check 156 = Except.ok (Instr.iload_n 2, 1) := by decide +kernel
theorem dX10_check_157 : decode cX10_check 157 = Except.ok (Instr.isub, 1) := by decide +kernel
theorem dX10_check_158 : decode cX10_check 158 = Except.ok (Instr.i2l, 1) := by decide +kernel
theorem dX10_check_159 : decode cX10_check 159 = Except.ok (Instr.lcmp, 1) := by decide +kernel
theorem dX10_check_160 : decode cX10_check 160 = Except.ok (Instr.ifCond .lt 10, 3) := by decide +kernel
theorem dX10_check_163 : decode cX10_check 163 = Except.ok (Instr.iinc 4 1, 3) := by decide +kernel
theorem dX10_check_166 : decode cX10_check 166 = Except.ok (Instr.iload 6, 2) := by decide +kernel
theorem dX10_check_168 : decode cX10_check 168 = Except.ok (Instr.istore 5, 2) := by decide +kernel
theorem dX10_check_170 : decode cX10_check 170 = Except.ok (Instr.iinc 6 1, 3) := by decide +kernel
theorem dX10_check_173 : decode cX10_check 173 = Except.ok (Instr.goto (-109), 3) := by decide +kernel
theorem dX10_check_176 : decode cX10_check 176 = Except.ok (Instr.iload 4, 2) := by decide +kernel
theorem dX10_check_178 : decode cX10_check 178 = Except.ok (Instr.ifCond .ne 7, 3) := by decide +kernel
theorem dX10_check_181 : decode cX10_check 181 = Except.ok (Instr.iconst 1, 1) := by decide +kernel
theorem dX10_check_182 : decode cX10_check 182 = Except.ok (Instr.goto 18, 3) := by decide +kernel
theorem dX10_check_185 : decode cX10_check 185 = Except.ok (Instr.iload 4, 2) := by decide +kernel
theorem dX10_check_187 : decode cX10_check 187 = Except.ok (Instr.iconst 1, 1) := by decide +kernel
theorem dX10_check_188 : decode cX10_check 188 = Except.ok (Instr.if_icmp .le 7, 3) := by decide +kernel
theorem dX10_check_191 : decode cX10_check 191 = Except.ok (Instr.iconst 2, 1) := by decide +kernel
theorem dX10_check_192 : decode cX10_check 192 = Except.ok (Instr.goto 8, 3) := by decide +kernel
theorem dX10_check_195 : decode cX10_check 195 = Except.ok (Instr.bipush 10, 2) := by decide +kernel
theorem dX10_check_197 : decode cX10_check 197 = Except.ok (Instr.iload 5, 2) := by decide +kernel
theorem dX10_check_199 : decode cX10_check 199 = Except.ok (Instr.iadd, 1) := by decide +kernel
theorem dX10_check_200 : decode cX10_check 200 = Except.ok (Instr.ireturn, 1) := by decide +kernel
theorem dX10_fill_0 : decode cX10_fill 0 = Except.ok (Instr.iload_n 1, 1) := by decide +kernel
theorem dX10_fill_1 : decode cX10_fill 1 = Except.ok (Instr.invokestatic 150, 3) := by decide +kernel
theorem dX10_fill_4 : decode cX10_fill 4 = Except.ok (Instr.ifCond .ne 5, 3) := by decide +kernel
theorem dX10_fill_7 : decode cX10_fill 7 = Except.ok (Instr.iconst (-1), 1) := by decide +kernel
theorem dX10_fill_8 : decode cX10_fill 8 = Except.ok (Instr.ireturn, 1) := by decide +kernel
theorem dX10_fill_9 : decode cX10_fill 9 = Except.ok (Instr.aload_n 0, 1) := by decide +kernel
theorem dX10_fill_10 : decode cX10_fill 10 = Except.ok (Instr.invokevirtual 278, 3) := by decide +kernel
theorem dX10_fill_13 : decode cX10_fill 13 = Except.ok (Instr.iconst 1, 1) := by decide +kernel
theorem dX10_fill_14 : decode cX10_fill 14 = Except.ok (Instr.if_icmp .eq 6, 3) := by decide +kernel
theorem dX10_fill_17 : decode cX10_fill 17 = Except.ok (Instr.bipush (-2), 2) := by decide +kernel
theorem dX10_fill_19 : decode cX10_fill 19 = Except.ok (Instr.ireturn, 1) := by decide +kernel
theorem dX10_fill_20 : decode cX10_fill 20 = Except.ok (Instr.iconst 0, 1) := by decide +kernel
theorem dX10_fill_21 : decode cX10_fill 21 = Except.ok (Instr.istore_n 2, 1) := by decide +kernel
theorem dX10_fill_22 : decode cX10_fill 22 = Except.ok (Instr.aload_n 0, 1) := by decide +kernel
theorem dX10_fill_23 : decode cX10_fill 23 = Except.ok (Instr.getfield 98, 3) := by decide +kernel
theorem dX10_fill_26 : decode cX10_fill 26 = Except.ok (Instr.iload_n 2, 1) := by decide +kernel
theorem dX10_fill_27 : decode cX10_fill 27 = Except.ok (Instr.baload, 1) := by decide +kernel
theorem dX10_fill_28 : decode cX10_fill 28 = Except.ok (Instr.ifCond .ne 9, 3) := by decide +kernel
theorem dX10_fill_31 : decode cX10_fill 31 = Except.ok (Instr.iinc 2 1, 3) := by decide +kernel
theorem dX10_fill_34 : decode cX10_fill 34 = Except.ok (Instr.goto (-12), 3) := by decide +kernel
theorem dX10_fill_37 : decode cX10_fill 37 = Except.ok (Instr.iload_n 1, 1) := by decide +kernel
theorem dX10_fill_38 : decode cX10_fill 38 = Except.ok (Instr.aload_n 0, 1) := by decide +kernel
theorem dX10_fill_39 : decode cX10_fill 39 = Except.ok (Instr.invokevirtual 281, 3) := by decide +kernel
theorem dX10_fill_42 : decode cX10_fill 42 = Except.ok (Instr.isub, 1) := by decide +kernel
theorem dX10_fill_43 : decode cX10_fill 43 = Except.ok (Instr.i2l, 1) := by decide +kernel
theorem dX10_fill_44 : decode cX10_fill 44 = Except.ok (Instr.lstore_n 3, 1) := by decide +kernel
theorem dX10_fill_45 : decode cX10_fill 45 = Except.ok (Instr.aload_n 0, 1) := by decide +kernel
theorem dX10_fill_46 : decode cX10_fill 46 = Except.ok (Instr.getfield 92, 3) := by decide +kernel
theorem dX10_fill_49 : decode cX10_fill 49 = Except.ok (Instr.iload_n 2, 1) := by decide +kernel
theorem dX10_fill_50 : decode cX10_fill 50 = Except.ok (Instr.iaload, 1) := by decide +kernel
theorem dX10_fill_51 : decode cX10_fill 51 = Except.ok (Instr.i2l, 1) := by decide +kernel
theorem dX10_fill_52 : decode cX10_fill 52 = Except.ok (Instr.ldc2_w 122, 3) := by decide +kernel
theorem dX10_fill_55 : decode cX10_fill 55 = Except.ok (Instr.lload_n 3, 1) := by decide +kernel
theorem dX10_fill_56 : decode cX10_fill 56 = Except.ok (Instr.lmul, 1) := by decide +kernel
theorem dX10_fill_57 : decode cX10_fill 57 = Except.ok (Instr.lsub, 1) := by decide +kernel
theorem dX10_fill_58 : decode cX10_fill 58 = Except.ok (Instr.ldc2_w 122, 3) := by decide +kernel
theorem dX10_fill_61 : decode cX10_fill 61 = Except.ok (Instr.aload_n 0, 1) := by decide +kernel
theorem dX10_fill_62 : decode cX10_fill 62 = Except.ok (Instr.getfield 92, 3) := by decide +kernel
theorem dX10_fill_65 : decode cX10_fill 65 = Except.ok (Instr.iload_n 2, 1) := by decide +kernel
theorem dX10_fill_66 : decode cX10_fill 66 = Except.ok (Instr.iaload, 1) := by decide +kernel
theorem dX10_fill_67 : decode cX10_fill 67 = Except.ok (Instr.i2l, 1) := by decide +kernel
theorem dX10_fill_68 : decode cX10_fill 68 = Except.ok (Instr.lmul, 1) := by decide +kernel
theorem dX10_fill_69 : decode cX10_fill 69 = Except.ok (Instr.invokestatic 167, 3) := by decide +kernel
theorem dX10_fill_72 : decode cX10_fill 72 = Except.ok (Instr.lneg, 1) := by decide +kernel
theorem dX10_fill_73 : decode cX10_fill 73 = Except.ok (Instr.lstore 5, 2) := by decide +kernel
theorem dX10_fill_75 : decode cX10_fill 75 = Except.ok (Instr.lload 5, 2) := by decide +kernel
theorem dX10_fill_77 : decode cX10_fill 77 = Except.ok (Instr.ldc2_w 276, 3) := by decide +kernel
theorem dX10_fill_80 : decode cX10_fill 80 = Except.ok (Instr.ldc2_w 194, 3) := by decide +kernel
theorem dX10_fill_83 : decode cX10_fill 83 = Except.ok (Instr.invokestatic 114, 3) := by decide +kernel
theorem dX10_fill_86 : decode cX10_fill 86 = Except.ok (Instr.ifCond .eq 9, 3) := by decide +kernel
theorem dX10_fill_89 : decode cX10_fill 89 = Except.ok (Instr.lload 5, 2) := by decide +kernel
theorem dX10_fill_91 : decode cX10_fill 91 = Except.ok (Instr.l2i, 1) := by decide +kernel
theorem dX10_fill_92 : decode cX10_fill 92 = Except.ok (Instr.goto 5, 3) := by decide +kernel
theorem dX10_fill_95 : decode cX10_fill 95 = Except.ok (Instr.bipush (-4), 2) := by decide +kernel
theorem dX10_fill_97 : decode cX10_fill 97 = Except.ok (Instr.ireturn, 1) := by decide +kernel
theorem dX10_count_0 : decode cX10_count 0 = Except.ok (Instr.iconst 0, 1) := by decide +kernel
theorem dX10_count_1 : decode cX10_count 1 = Except.ok (Instr.istore_n 2, 1) := by decide +kernel
theorem dX10_count_2 : decode cX10_count 2 = Except.ok (Instr.iconst 0, 1) := by decide +kernel
theorem dX10_count_3 : decode cX10_count 3 = Except.ok (Instr.istore_n 3, 1) := by decide +kernel
theorem dX10_count_4 : decode cX10_count 4 = Except.ok (Instr.iload_n 3, 1) := by decide +kernel
theorem dX10_count_5 : decode cX10_count 5 = Except.ok (Instr.aload_n 0, 1) := by decide +kernel
theorem dX10_count_6 : decode cX10_count 6 = Except.ok (Instr.getfield 228, 3) := by decide +kernel
theorem dX10_count_9 : decode cX10_count 9 = Except.ok (Instr.if_icmp .ge 26, 3) := by decide +kernel
theorem dX10_count_12 : decode cX10_count 12 = Except.ok (Instr.iload_n 2, 1) := by decide +kernel
theorem dX10_count_13 : decode cX10_count 13 = Except.ok (Instr.aload_n 0, 1) := by decide +kernel
theorem dX10_count_14 : decode cX10_count 14 = Except.ok (Instr.getfield 66, 3) := by decide +kernel
theorem dX10_count_17 : decode cX10_count 17 = Except.ok (Instr.iload_n 3, 1) := by decide +kernel
theorem dX10_count_18 : decode cX10_count 18 = Except.ok (Instr.baload, 1) := by decide +kernel
theorem dX10_count_19 : decode cX10_count 19 = Except.ok (Instr.ifCond .eq 7, 3) := by decide +kernel
theorem dX10_count_22 : decode cX10_count 22 = Except.ok (Instr.iconst 1, 1) := by decide +kernel
theorem dX10_count_23 : decode cX10_count 23 = Except.ok (Instr.goto 4, 3) := by decide +kernel
theorem dX10_count_26 : decode cX10_count 26 = Except.ok (Instr.iconst 0, 1) := by decide +kernel
theorem dX10_count_27 : decode cX10_count 27 = Except.ok (Instr.iadd, 1) := by decide +kernel
theorem dX10_count_28 : decode cX10_count 28 = Except.ok (Instr.istore_n 2, 1) := by decide +kernel
theorem dX10_count_29 : decode cX10_count 29 = Except.ok (Instr.iinc 3 1, 3) := by decide +kernel
theorem dX10_count_32 : decode cX10_count 32 = Except.ok (Instr.goto (-28), 3) := by decide +kernel
theorem dX10_count_35 : decode cX10_count 35 = Except.ok (Instr.iload_n 1, 1) := by decide +kernel
theorem dX10_count_36 : decode cX10_count 36 = Except.ok (Instr.ifCond .ne 10, 3) := by decide +kernel
theorem dX10_count_39 : decode cX10_count 39 = Except.ok (Instr.aload_n 0, 1) := by decide +kernel
theorem dX10_count_40 : decode cX10_count 40 = Except.ok (Instr.getfield 170, 3) := by decide +kernel
theorem dX10_count_43 : decode cX10_count 43 = Except.ok (Instr.goto 61, 3) := by decide +kernel
theorem dX10_count_46 : decode cX10_count 46 = Except.ok (Instr.iload_n 1, 1) := by decide +kernel
theorem dX10_count_47 : decode cX10_count 47 = Except.ok (Instr.iconst 1, 1) := by decide +kernel
theorem dX10_count_48 : decode cX10_count 48 = Except.ok (Instr.if_icmp .ne 10, 3) := by decide +kernel
theorem dX10_count_51 : decode cX10_count 51 = Except.ok (Instr.aload_n 0, 1) := by decide +kernel
theorem dX10_count_52 : decode cX10_count 52 = Except.ok (Instr.getfield 178, 3) := by decide +kernel
theorem dX10_count_55 : decode cX10_count 55 = Except.ok (Instr.goto 49, 3) := by decide +kernel
theorem dX10_count_58 : decode cX10_count 58 = Except.ok (Instr.iload_n 1, 1) := by decide +kernel
theorem dX10_count_59 : decode cX10_count 59 = Except.ok (Instr.iconst 2, 1) := by decide +kernel
theorem dX10_count_60 : decode cX10_count 60 = Except.ok (Instr.if_icmp .ne 10, 3) := by decide +kernel
theorem dX10_count_63 : decode cX10_count 63 = Except.ok (Instr.aload_n 0, 1) := by decide +kernel
theorem dX10_count_64 : decode cX10_count 64 = Except.ok (Instr.getfield 228, 3) := by decide +kernel
theorem dX10_count_67 : decode cX10_count 67 = Except.ok (Instr.goto 37, 3) := by decide +kernel
theorem dX10_count_70 : decode cX10_count 70 = Except.ok (Instr.iload_n 1, 1) := by decide +kernel
theorem dX10_count_71 : decode cX10_count 71 = Except.ok (Instr.iconst 3, 1) := by decide +kernel
theorem dX10_count_72 : decode cX10_count 72 = Except.ok (Instr.if_icmp .ne 7, 3) := by decide +kernel
theorem dX10_count_75 : decode cX10_count 75 = Except.ok (Instr.iload_n 2, 1) := by decide +kernel
theorem dX10_count_76 : decode cX10_count 76 = Except.ok (Instr.goto 28, 3) := by decide +kernel
theorem dX10_count_79 : decode cX10_count 79 = Except.ok (Instr.iload_n 1, 1) := by decide +kernel
theorem dX10_count_80 : decode cX10_count 80 = Except.ok (Instr.iconst 4, 1) := by decide +kernel
theorem dX10_count_81 : decode cX10_count 81 = Except.ok (Instr.if_icmp .ne 10, 3) := by decide +kernel
theorem dX10_count_84 : decode cX10_count 84 = Except.ok (Instr.aload_n 0, 1) := by decide +kernel
theorem dX10_count_85 : decode cX10_count 85 = Except.ok (Instr.getfield 273, 3) := by decide +kernel
theorem dX10_count_88 : decode cX10_count 88 = Except.ok (Instr.goto 16, 3) := by decide +kernel
theorem dX10_count_91 : decode cX10_count 91 = Except.ok (Instr.iload_n 1, 1) := by decide +kernel
theorem dX10_count_92 : decode cX10_count 92 = Except.ok (Instr.iconst 5, 1) := by decide +kernel
theorem dX10_count_93 : decode cX10_count 93 = Except.ok (Instr.if_icmp .ne 10, 3) := by decide +kernel
theorem dX10_count_96 : decode cX10_count 96 = Except.ok (Instr.aload_n 0, 1) := by decide +kernel
theorem dX10_count_97 : decode cX10_count 97 = Except.ok (Instr.invokevirtual 278, 3) := by decide +kernel
theorem dX10_count_100 : decode cX10_count 100 = Except.ok (Instr.goto 4, 3) := by decide +kernel
theorem dX10_count_103 : decode cX10_count 103 = Except.ok (Instr.iconst (-1), 1) := by decide +kernel
theorem dX10_count_104 : decode cX10_count 104 = Except.ok (Instr.ireturn, 1) := by decide +kernel
