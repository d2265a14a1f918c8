/-! What each instruction is. Laid by wip/whole/gen/names.py. -/
theorem dX3_init_0 : decode jX3_init.2.1 0 = .ok (.aload_n 0, 1) := by decide +kernel
theorem dX3_init_1 : decode jX3_init.2.1 1 = .ok (.invokespecial 1, 3) := by decide +kernel
theorem dX3_init_4 : decode jX3_init.2.1 4 = .ok (.aload_n 0, 1) := by decide +kernel
theorem dX3_init_5 : decode jX3_init.2.1 5 = .ok (.sipush 3000, 3) := by decide +kernel
theorem dX3_init_8 : decode jX3_init.2.1 8 = .ok (.newarray .int, 2) := by decide +kernel
theorem dX3_init_10 : decode jX3_init.2.1 10 = .ok (.putfield 7, 3) := by decide +kernel
theorem dX3_init_13 : decode jX3_init.2.1 13 = .ok (.aload_n 0, 1) := by decide +kernel
theorem dX3_init_14 : decode jX3_init.2.1 14 = .ok (.sipush 3000, 3) := by decide +kernel
theorem dX3_init_17 : decode jX3_init.2.1 17 = .ok (.newarray .long, 2) := by decide +kernel
theorem dX3_init_19 : decode jX3_init.2.1 19 = .ok (.putfield 13, 3) := by decide +kernel
theorem dX3_init_22 : decode jX3_init.2.1 22 = .ok (.aload_n 0, 1) := by decide +kernel
theorem dX3_init_23 : decode jX3_init.2.1 23 = .ok (.iconst 5, 1) := by decide +kernel
theorem dX3_init_24 : decode jX3_init.2.1 24 = .ok (.newarray .int, 2) := by decide +kernel
theorem dX3_init_26 : decode jX3_init.2.1 26 = .ok (.putfield 17, 3) := by decide +kernel
theorem dX3_init_29 : decode jX3_init.2.1 29 = .ok (.aload_n 0, 1) := by decide +kernel
theorem dX3_init_30 : decode jX3_init.2.1 30 = .ok (.iconst 4, 1) := by decide +kernel
theorem dX3_init_31 : decode jX3_init.2.1 31 = .ok (.newarray .boolean, 2) := by decide +kernel
theorem dX3_init_33 : decode jX3_init.2.1 33 = .ok (.putfield 20, 3) := by decide +kernel
theorem dX3_init_36 : decode jX3_init.2.1 36 = .ok (.aload_n 0, 1) := by decide +kernel
theorem dX3_init_37 : decode jX3_init.2.1 37 = .ok (.sipush 2500, 3) := by decide +kernel
theorem dX3_init_40 : decode jX3_init.2.1 40 = .ok (.newarray .byte, 2) := by decide +kernel
theorem dX3_init_42 : decode jX3_init.2.1 42 = .ok (.putfield 24, 3) := by decide +kernel
theorem dX3_init_45 : decode jX3_init.2.1 45 = .ok (.aload_n 0, 1) := by decide +kernel
theorem dX3_init_46 : decode jX3_init.2.1 46 = .ok (.sipush 2500, 3) := by decide +kernel
theorem dX3_init_49 : decode jX3_init.2.1 49 = .ok (.newarray .int, 2) := by decide +kernel
theorem dX3_init_51 : decode jX3_init.2.1 51 = .ok (.putfield 28, 3) := by decide +kernel
theorem dX3_init_54 : decode jX3_init.2.1 54 = .ok (.aload_n 0, 1) := by decide +kernel
theorem dX3_init_55 : decode jX3_init.2.1 55 = .ok (.sipush 2500, 3) := by decide +kernel
theorem dX3_init_58 : decode jX3_init.2.1 58 = .ok (.newarray .int, 2) := by decide +kernel
theorem dX3_init_60 : decode jX3_init.2.1 60 = .ok (.putfield 31, 3) := by decide +kernel
theorem dX3_init_63 : decode jX3_init.2.1 63 = .ok (.aload_n 0, 1) := by decide +kernel
theorem dX3_init_64 : decode jX3_init.2.1 64 = .ok (.sipush 2500, 3) := by decide +kernel
theorem dX3_init_67 : decode jX3_init.2.1 67 = .ok (.newarray .long, 2) := by decide +kernel
theorem dX3_init_69 : decode jX3_init.2.1 69 = .ok (.putfield 34, 3) := by decide +kernel
theorem dX3_init_72 : decode jX3_init.2.1 72 = .ok (.return_, 1) := by decide +kernel
theorem dX3_thrown_0 : decode jX3_thrown.2.1 0 = .ok (.aload_n 0, 1) := by decide +kernel
theorem dX3_thrown_1 : decode jX3_thrown.2.1 1 = .ok (.getfield 37, 3) := by decide +kernel
theorem dX3_thrown_4 : decode jX3_thrown.2.1 4 = .ok (.ireturn, 1) := by decide +kernel
theorem dX3_below_0 : decode jX3_below.2.1 0 = .ok (.iconst 0, 1) := by decide +kernel
theorem dX3_below_1 : decode jX3_below.2.1 1 = .ok (.istore 4, 2) := by decide +kernel
theorem dX3_below_3 : decode jX3_below.2.1 3 = .ok (.iload 4, 2) := by decide +kernel
theorem dX3_below_5 : decode jX3_below.2.1 5 = .ok (.aload_n 0, 1) := by decide +kernel
theorem dX3_below_6 : decode jX3_below.2.1 6 = .ok (.getfield 17, 3) := by decide +kernel
theorem dX3_below_9 : decode jX3_below.2.1 9 = .ok (.iload_n 1, 1) := by decide +kernel
theorem dX3_below_10 : decode jX3_below.2.1 10 = .ok (.iaload, 1) := by decide +kernel
theorem dX3_below_11 : decode jX3_below.2.1 11 = .ok (.if_icmp .ge 28, 3) := by decide +kernel
theorem dX3_below_14 : decode jX3_below.2.1 14 = .ok (.aload_n 0, 1) := by decide +kernel
theorem dX3_below_15 : decode jX3_below.2.1 15 = .ok (.getfield 7, 3) := by decide +kernel
theorem dX3_below_18 : decode jX3_below.2.1 18 = .ok (.sipush 600, 3) := by decide +kernel
theorem dX3_below_21 : decode jX3_below.2.1 21 = .ok (.iload_n 1, 1) := by decide +kernel
theorem dX3_below_22 : decode jX3_below.2.1 22 = .ok (.imul, 1) := by decide +kernel
theorem dX3_below_23 : decode jX3_below.2.1 23 = .ok (.iload 4, 2) := by decide +kernel
theorem dX3_below_25 : decode jX3_below.2.1 25 = .ok (.iadd, 1) := by decide +kernel
theorem dX3_below_26 : decode jX3_below.2.1 26 = .ok (.iaload, 1) := by decide +kernel
theorem dX3_below_27 : decode jX3_below.2.1 27 = .ok (.i2l, 1) := by decide +kernel
theorem dX3_below_28 : decode jX3_below.2.1 28 = .ok (.lload_n 2, 1) := by decide +kernel
theorem dX3_below_29 : decode jX3_below.2.1 29 = .ok (.lcmp, 1) := by decide +kernel
theorem dX3_below_30 : decode jX3_below.2.1 30 = .ok (.ifCond .ge 9, 3) := by decide +kernel
theorem dX3_below_33 : decode jX3_below.2.1 33 = .ok (.iinc 4 1, 3) := by decide +kernel
theorem dX3_below_36 : decode jX3_below.2.1 36 = .ok (.goto (-33), 3) := by decide +kernel
theorem dX3_below_39 : decode jX3_below.2.1 39 = .ok (.iload 4, 2) := by decide +kernel
theorem dX3_below_41 : decode jX3_below.2.1 41 = .ok (.ireturn, 1) := by decide +kernel
theorem dX3_isIn_0 : decode jX3_isIn.2.1 0 = .ok (.aload_n 0, 1) := by decide +kernel
theorem dX3_isIn_1 : decode jX3_isIn.2.1 1 = .ok (.iload_n 1, 1) := by decide +kernel
theorem dX3_isIn_2 : decode jX3_isIn.2.1 2 = .ok (.iload_n 2, 1) := by decide +kernel
theorem dX3_isIn_3 : decode jX3_isIn.2.1 3 = .ok (.i2l, 1) := by decide +kernel
theorem dX3_isIn_4 : decode jX3_isIn.2.1 4 = .ok (.invokevirtual 41, 3) := by decide +kernel
theorem dX3_isIn_7 : decode jX3_isIn.2.1 7 = .ok (.istore_n 3, 1) := by decide +kernel
theorem dX3_isIn_8 : decode jX3_isIn.2.1 8 = .ok (.iload_n 3, 1) := by decide +kernel
theorem dX3_isIn_9 : decode jX3_isIn.2.1 9 = .ok (.aload_n 0, 1) := by decide +kernel
theorem dX3_isIn_10 : decode jX3_isIn.2.1 10 = .ok (.getfield 17, 3) := by decide +kernel
theorem dX3_isIn_13 : decode jX3_isIn.2.1 13 = .ok (.iload_n 1, 1) := by decide +kernel
theorem dX3_isIn_14 : decode jX3_isIn.2.1 14 = .ok (.iaload, 1) := by decide +kernel
theorem dX3_isIn_15 : decode jX3_isIn.2.1 15 = .ok (.if_icmp .ge 23, 3) := by decide +kernel
theorem dX3_isIn_18 : decode jX3_isIn.2.1 18 = .ok (.aload_n 0, 1) := by decide +kernel
theorem dX3_isIn_19 : decode jX3_isIn.2.1 19 = .ok (.getfield 7, 3) := by decide +kernel
theorem dX3_isIn_22 : decode jX3_isIn.2.1 22 = .ok (.sipush 600, 3) := by decide +kernel
theorem dX3_isIn_25 : decode jX3_isIn.2.1 25 = .ok (.iload_n 1, 1) := by decide +kernel
theorem dX3_isIn_26 : decode jX3_isIn.2.1 26 = .ok (.imul, 1) := by decide +kernel
theorem dX3_isIn_27 : decode jX3_isIn.2.1 27 = .ok (.iload_n 3, 1) := by decide +kernel
theorem dX3_isIn_28 : decode jX3_isIn.2.1 28 = .ok (.iadd, 1) := by decide +kernel
theorem dX3_isIn_29 : decode jX3_isIn.2.1 29 = .ok (.iaload, 1) := by decide +kernel
theorem dX3_isIn_30 : decode jX3_isIn.2.1 30 = .ok (.iload_n 2, 1) := by decide +kernel
theorem dX3_isIn_31 : decode jX3_isIn.2.1 31 = .ok (.if_icmp .ne 7, 3) := by decide +kernel
theorem dX3_isIn_34 : decode jX3_isIn.2.1 34 = .ok (.iconst 1, 1) := by decide +kernel
theorem dX3_isIn_35 : decode jX3_isIn.2.1 35 = .ok (.goto 4, 3) := by decide +kernel
theorem dX3_isIn_38 : decode jX3_isIn.2.1 38 = .ok (.iconst 0, 1) := by decide +kernel
theorem dX3_isIn_39 : decode jX3_isIn.2.1 39 = .ok (.ireturn, 1) := by decide +kernel
theorem dX3_valueIn_0 : decode jX3_valueIn.2.1 0 = .ok (.aload_n 0, 1) := by decide +kernel
theorem dX3_valueIn_1 : decode jX3_valueIn.2.1 1 = .ok (.iload_n 1, 1) := by decide +kernel
theorem dX3_valueIn_2 : decode jX3_valueIn.2.1 2 = .ok (.iload_n 2, 1) := by decide +kernel
theorem dX3_valueIn_3 : decode jX3_valueIn.2.1 3 = .ok (.invokevirtual 45, 3) := by decide +kernel
theorem dX3_valueIn_6 : decode jX3_valueIn.2.1 6 = .ok (.ifCond .eq 24, 3) := by decide +kernel
theorem dX3_valueIn_9 : decode jX3_valueIn.2.1 9 = .ok (.aload_n 0, 1) := by decide +kernel
theorem dX3_valueIn_10 : decode jX3_valueIn.2.1 10 = .ok (.getfield 13, 3) := by decide +kernel
theorem dX3_valueIn_13 : decode jX3_valueIn.2.1 13 = .ok (.sipush 600, 3) := by decide +kernel
theorem dX3_valueIn_16 : decode jX3_valueIn.2.1 16 = .ok (.iload_n 1, 1) := by decide +kernel
theorem dX3_valueIn_17 : decode jX3_valueIn.2.1 17 = .ok (.imul, 1) := by decide +kernel
theorem dX3_valueIn_18 : decode jX3_valueIn.2.1 18 = .ok (.aload_n 0, 1) := by decide +kernel
theorem dX3_valueIn_19 : decode jX3_valueIn.2.1 19 = .ok (.iload_n 1, 1) := by decide +kernel
theorem dX3_valueIn_20 : decode jX3_valueIn.2.1 20 = .ok (.iload_n 2, 1) := by decide +kernel
theorem dX3_valueIn_21 : decode jX3_valueIn.2.1 21 = .ok (.i2l, 1) := by decide +kernel
theorem dX3_valueIn_22 : decode jX3_valueIn.2.1 22 = .ok (.invokevirtual 41, 3) := by decide +kernel
theorem dX3_valueIn_25 : decode jX3_valueIn.2.1 25 = .ok (.iadd, 1) := by decide +kernel
theorem dX3_valueIn_26 : decode jX3_valueIn.2.1 26 = .ok (.laload, 1) := by decide +kernel
theorem dX3_valueIn_27 : decode jX3_valueIn.2.1 27 = .ok (.goto 4, 3) := by decide +kernel
theorem dX3_valueIn_30 : decode jX3_valueIn.2.1 30 = .ok (.lconst 0, 1) := by decide +kernel
theorem dX3_valueIn_31 : decode jX3_valueIn.2.1 31 = .ok (.lreturn, 1) := by decide +kernel
theorem dX3_enter_0 : decode jX3_enter.2.1 0 = .ok (.sipush 2400, 3) := by decide +kernel
theorem dX3_enter_3 : decode jX3_enter.2.1 3 = .ok (.aload_n 0, 1) := by decide +kernel
theorem dX3_enter_4 : decode jX3_enter.2.1 4 = .ok (.iconst 4, 1) := by decide +kernel
theorem dX3_enter_5 : decode jX3_enter.2.1 5 = .ok (.iload_n 1, 1) := by decide +kernel
theorem dX3_enter_6 : decode jX3_enter.2.1 6 = .ok (.i2l, 1) := by decide +kernel
theorem dX3_enter_7 : decode jX3_enter.2.1 7 = .ok (.invokevirtual 41, 3) := by decide +kernel
theorem dX3_enter_10 : decode jX3_enter.2.1 10 = .ok (.iadd, 1) := by decide +kernel
theorem dX3_enter_11 : decode jX3_enter.2.1 11 = .ok (.istore 4, 2) := by decide +kernel
theorem dX3_enter_13 : decode jX3_enter.2.1 13 = .ok (.aload_n 0, 1) := by decide +kernel
theorem dX3_enter_14 : decode jX3_enter.2.1 14 = .ok (.iconst 4, 1) := by decide +kernel
theorem dX3_enter_15 : decode jX3_enter.2.1 15 = .ok (.iload_n 1, 1) := by decide +kernel
theorem dX3_enter_16 : decode jX3_enter.2.1 16 = .ok (.invokevirtual 45, 3) := by decide +kernel
theorem dX3_enter_19 : decode jX3_enter.2.1 19 = .ok (.ifCond .ne 70, 3) := by decide +kernel
theorem dX3_enter_22 : decode jX3_enter.2.1 22 = .ok (.sipush 2400, 3) := by decide +kernel
theorem dX3_enter_25 : decode jX3_enter.2.1 25 = .ok (.aload_n 0, 1) := by decide +kernel
theorem dX3_enter_26 : decode jX3_enter.2.1 26 = .ok (.getfield 17, 3) := by decide +kernel
theorem dX3_enter_29 : decode jX3_enter.2.1 29 = .ok (.iconst 4, 1) := by decide +kernel
theorem dX3_enter_30 : decode jX3_enter.2.1 30 = .ok (.iaload, 1) := by decide +kernel
theorem dX3_enter_31 : decode jX3_enter.2.1 31 = .ok (.iadd, 1) := by decide +kernel
theorem dX3_enter_32 : decode jX3_enter.2.1 32 = .ok (.istore 5, 2) := by decide +kernel
theorem dX3_enter_34 : decode jX3_enter.2.1 34 = .ok (.iload 5, 2) := by decide +kernel
theorem dX3_enter_36 : decode jX3_enter.2.1 36 = .ok (.iload 4, 2) := by decide +kernel
theorem dX3_enter_38 : decode jX3_enter.2.1 38 = .ok (.if_icmp .le 41, 3) := by decide +kernel
theorem dX3_enter_41 : decode jX3_enter.2.1 41 = .ok (.aload_n 0, 1) := by decide +kernel
theorem dX3_enter_42 : decode jX3_enter.2.1 42 = .ok (.getfield 7, 3) := by decide +kernel
theorem dX3_enter_45 : decode jX3_enter.2.1 45 = .ok (.iload 5, 2) := by decide +kernel
theorem dX3_enter_47 : decode jX3_enter.2.1 47 = .ok (.aload_n 0, 1) := by decide +kernel
theorem dX3_enter_48 : decode jX3_enter.2.1 48 = .ok (.getfield 7, 3) := by decide +kernel
theorem dX3_enter_51 : decode jX3_enter.2.1 51 = .ok (.iload 5, 2) := by decide +kernel
theorem dX3_enter_53 : decode jX3_enter.2.1 53 = .ok (.iconst 1, 1) := by decide +kernel
theorem dX3_enter_54 : decode jX3_enter.2.1 54 = .ok (.isub, 1) := by decide +kernel
theorem dX3_enter_55 : decode jX3_enter.2.1 55 = .ok (.iaload, 1) := by decide +kernel
theorem dX3_enter_56 : decode jX3_enter.2.1 56 = .ok (.iastore, 1) := by decide +kernel
theorem dX3_enter_57 : decode jX3_enter.2.1 57 = .ok (.aload_n 0, 1) := by decide +kernel
theorem dX3_enter_58 : decode jX3_enter.2.1 58 = .ok (.getfield 13, 3) := by decide +kernel
theorem dX3_enter_61 : decode jX3_enter.2.1 61 = .ok (.iload 5, 2) := by decide +kernel
theorem dX3_enter_63 : decode jX3_enter.2.1 63 = .ok (.aload_n 0, 1) := by decide +kernel
theorem dX3_enter_64 : decode jX3_enter.2.1 64 = .ok (.getfield 13, 3) := by decide +kernel
theorem dX3_enter_67 : decode jX3_enter.2.1 67 = .ok (.iload 5, 2) := by decide +kernel
theorem dX3_enter_69 : decode jX3_enter.2.1 69 = .ok (.iconst 1, 1) := by decide +kernel
theorem dX3_enter_70 : decode jX3_enter.2.1 70 = .ok (.isub, 1) := by decide +kernel
theorem dX3_enter_71 : decode jX3_enter.2.1 71 = .ok (.laload, 1) := by decide +kernel
theorem dX3_enter_72 : decode jX3_enter.2.1 72 = .ok (.lastore, 1) := by decide +kernel
theorem dX3_enter_73 : decode jX3_enter.2.1 73 = .ok (.iinc 5 (-1), 3) := by decide +kernel
theorem dX3_enter_76 : decode jX3_enter.2.1 76 = .ok (.goto (-42), 3) := by decide +kernel
theorem dX3_enter_79 : decode jX3_enter.2.1 79 = .ok (.aload_n 0, 1) := by decide +kernel
theorem dX3_enter_80 : decode jX3_enter.2.1 80 = .ok (.getfield 17, 3) := by decide +kernel
theorem dX3_enter_83 : decode jX3_enter.2.1 83 = .ok (.iconst 4, 1) := by decide +kernel
theorem dX3_enter_84 : decode jX3_enter.2.1 84 = .ok (.dup2, 1) := by decide +kernel
theorem dX3_enter_85 : decode jX3_enter.2.1 85 = .ok (.iaload, 1) := by decide +kernel
theorem dX3_enter_86 : decode jX3_enter.2.1 86 = .ok (.iconst 1, 1) := by decide +kernel
theorem dX3_enter_87 : decode jX3_enter.2.1 87 = .ok (.iadd, 1) := by decide +kernel
theorem dX3_enter_88 : decode jX3_enter.2.1 88 = .ok (.iastore, 1) := by decide +kernel
theorem dX3_enter_89 : decode jX3_enter.2.1 89 = .ok (.aload_n 0, 1) := by decide +kernel
theorem dX3_enter_90 : decode jX3_enter.2.1 90 = .ok (.getfield 7, 3) := by decide +kernel
theorem dX3_enter_93 : decode jX3_enter.2.1 93 = .ok (.iload 4, 2) := by decide +kernel
theorem dX3_enter_95 : decode jX3_enter.2.1 95 = .ok (.iload_n 1, 1) := by decide +kernel
theorem dX3_enter_96 : decode jX3_enter.2.1 96 = .ok (.iastore, 1) := by decide +kernel
theorem dX3_enter_97 : decode jX3_enter.2.1 97 = .ok (.aload_n 0, 1) := by decide +kernel
theorem dX3_enter_98 : decode jX3_enter.2.1 98 = .ok (.getfield 13, 3) := by decide +kernel
theorem dX3_enter_101 : decode jX3_enter.2.1 101 = .ok (.iload 4, 2) := by decide +kernel
theorem dX3_enter_103 : decode jX3_enter.2.1 103 = .ok (.lload_n 2, 1) := by decide +kernel
theorem dX3_enter_104 : decode jX3_enter.2.1 104 = .ok (.lastore, 1) := by decide +kernel
theorem dX3_enter_105 : decode jX3_enter.2.1 105 = .ok (.return_, 1) := by decide +kernel
theorem dX3_doDelete_0 : decode jX3_doDelete.2.1 0 = .ok (.aload_n 0, 1) := by decide +kernel
theorem dX3_doDelete_1 : decode jX3_doDelete.2.1 1 = .ok (.iconst 4, 1) := by decide +kernel
theorem dX3_doDelete_2 : decode jX3_doDelete.2.1 2 = .ok (.iload_n 1, 1) := by decide +kernel
theorem dX3_doDelete_3 : decode jX3_doDelete.2.1 3 = .ok (.i2l, 1) := by decide +kernel
theorem dX3_doDelete_4 : decode jX3_doDelete.2.1 4 = .ok (.invokevirtual 41, 3) := by decide +kernel
theorem dX3_doDelete_7 : decode jX3_doDelete.2.1 7 = .ok (.istore_n 3, 1) := by decide +kernel
theorem dX3_doDelete_8 : decode jX3_doDelete.2.1 8 = .ok (.aload_n 0, 1) := by decide +kernel
theorem dX3_doDelete_9 : decode jX3_doDelete.2.1 9 = .ok (.iconst 4, 1) := by decide +kernel
theorem dX3_doDelete_10 : decode jX3_doDelete.2.1 10 = .ok (.iload_n 2, 1) := by decide +kernel
theorem dX3_doDelete_11 : decode jX3_doDelete.2.1 11 = .ok (.i2l, 1) := by decide +kernel
theorem dX3_doDelete_12 : decode jX3_doDelete.2.1 12 = .ok (.lconst 1, 1) := by decide +kernel
theorem dX3_doDelete_13 : decode jX3_doDelete.2.1 13 = .ok (.ladd, 1) := by decide +kernel
theorem dX3_doDelete_14 : decode jX3_doDelete.2.1 14 = .ok (.invokevirtual 41, 3) := by decide +kernel
theorem dX3_doDelete_17 : decode jX3_doDelete.2.1 17 = .ok (.istore 4, 2) := by decide +kernel
theorem dX3_doDelete_19 : decode jX3_doDelete.2.1 19 = .ok (.iload 4, 2) := by decide +kernel
theorem dX3_doDelete_21 : decode jX3_doDelete.2.1 21 = .ok (.istore 5, 2) := by decide +kernel
theorem dX3_doDelete_23 : decode jX3_doDelete.2.1 23 = .ok (.iload 5, 2) := by decide +kernel
theorem dX3_doDelete_25 : decode jX3_doDelete.2.1 25 = .ok (.aload_n 0, 1) := by decide +kernel
theorem dX3_doDelete_26 : decode jX3_doDelete.2.1 26 = .ok (.getfield 17, 3) := by decide +kernel
theorem dX3_doDelete_29 : decode jX3_doDelete.2.1 29 = .ok (.iconst 4, 1) := by decide +kernel
theorem dX3_doDelete_30 : decode jX3_doDelete.2.1 30 = .ok (.iaload, 1) := by decide +kernel
theorem dX3_doDelete_31 : decode jX3_doDelete.2.1 31 = .ok (.if_icmp .ge 63, 3) := by decide +kernel
theorem dX3_doDelete_34 : decode jX3_doDelete.2.1 34 = .ok (.aload_n 0, 1) := by decide +kernel
theorem dX3_doDelete_35 : decode jX3_doDelete.2.1 35 = .ok (.getfield 7, 3) := by decide +kernel
theorem dX3_doDelete_38 : decode jX3_doDelete.2.1 38 = .ok (.sipush 2400, 3) := by decide +kernel
theorem dX3_doDelete_41 : decode jX3_doDelete.2.1 41 = .ok (.iload_n 3, 1) := by decide +kernel
theorem dX3_doDelete_42 : decode jX3_doDelete.2.1 42 = .ok (.iadd, 1) := by decide +kernel
theorem dX3_doDelete_43 : decode jX3_doDelete.2.1 43 = .ok (.iload 5, 2) := by decide +kernel
theorem dX3_doDelete_45 : decode jX3_doDelete.2.1 45 = .ok (.iadd, 1) := by decide +kernel
theorem dX3_doDelete_46 : decode jX3_doDelete.2.1 46 = .ok (.iload 4, 2) := by decide +kernel
theorem dX3_doDelete_48 : decode jX3_doDelete.2.1 48 = .ok (.isub, 1) := by decide +kernel
theorem dX3_doDelete_49 : decode jX3_doDelete.2.1 49 = .ok (.aload_n 0, 1) := by decide +kernel
theorem dX3_doDelete_50 : decode jX3_doDelete.2.1 50 = .ok (.getfield 7, 3) := by decide +kernel
theorem dX3_doDelete_53 : decode jX3_doDelete.2.1 53 = .ok (.sipush 2400, 3) := by decide +kernel
theorem dX3_doDelete_56 : decode jX3_doDelete.2.1 56 = .ok (.iload 5, 2) := by decide +kernel
theorem dX3_doDelete_58 : decode jX3_doDelete.2.1 58 = .ok (.iadd, 1) := by decide +kernel
theorem dX3_doDelete_59 : decode jX3_doDelete.2.1 59 = .ok (.iaload, 1) := by decide +kernel
theorem dX3_doDelete_60 : decode jX3_doDelete.2.1 60 = .ok (.iastore, 1) := by decide +kernel
theorem dX3_doDelete_61 : decode jX3_doDelete.2.1 61 = .ok (.aload_n 0, 1) := by decide +kernel
theorem dX3_doDelete_62 : decode jX3_doDelete.2.1 62 = .ok (.getfield 13, 3) := by decide +kernel
theorem dX3_doDelete_65 : decode jX3_doDelete.2.1 65 = .ok (.sipush 2400, 3) := by decide +kernel
theorem dX3_doDelete_68 : decode jX3_doDelete.2.1 68 = .ok (.iload_n 3, 1) := by decide +kernel
theorem dX3_doDelete_69 : decode jX3_doDelete.2.1 69 = .ok (.iadd, 1) := by decide +kernel
theorem dX3_doDelete_70 : decode jX3_doDelete.2.1 70 = .ok (.iload 5, 2) := by decide +kernel
theorem dX3_doDelete_72 : decode jX3_doDelete.2.1 72 = .ok (.iadd, 1) := by decide +kernel
theorem dX3_doDelete_73 : decode jX3_doDelete.2.1 73 = .ok (.iload 4, 2) := by decide +kernel
theorem dX3_doDelete_75 : decode jX3_doDelete.2.1 75 = .ok (.isub, 1) := by decide +kernel
theorem dX3_doDelete_76 : decode jX3_doDelete.2.1 76 = .ok (.aload_n 0, 1) := by decide +kernel
theorem dX3_doDelete_77 : decode jX3_doDelete.2.1 77 = .ok (.getfield 13, 3) := by decide +kernel
theorem dX3_doDelete_80 : decode jX3_doDelete.2.1 80 = .ok (.sipush 2400, 3) := by decide +kernel
theorem dX3_doDelete_83 : decode jX3_doDelete.2.1 83 = .ok (.iload 5, 2) := by decide +kernel
theorem dX3_doDelete_85 : decode jX3_doDelete.2.1 85 = .ok (.iadd, 1) := by decide +kernel
theorem dX3_doDelete_86 : decode jX3_doDelete.2.1 86 = .ok (.laload, 1) := by decide +kernel
theorem dX3_doDelete_87 : decode jX3_doDelete.2.1 87 = .ok (.lastore, 1) := by decide +kernel
theorem dX3_doDelete_88 : decode jX3_doDelete.2.1 88 = .ok (.iinc 5 1, 3) := by decide +kernel
theorem dX3_doDelete_91 : decode jX3_doDelete.2.1 91 = .ok (.goto (-68), 3) := by decide +kernel
theorem dX3_doDelete_94 : decode jX3_doDelete.2.1 94 = .ok (.aload_n 0, 1) := by decide +kernel
theorem dX3_doDelete_95 : decode jX3_doDelete.2.1 95 = .ok (.getfield 17, 3) := by decide +kernel
theorem dX3_doDelete_98 : decode jX3_doDelete.2.1 98 = .ok (.iconst 4, 1) := by decide +kernel
theorem dX3_doDelete_99 : decode jX3_doDelete.2.1 99 = .ok (.aload_n 0, 1) := by decide +kernel
theorem dX3_doDelete_100 : decode jX3_doDelete.2.1 100 = .ok (.getfield 17, 3) := by decide +kernel
theorem dX3_doDelete_103 : decode jX3_doDelete.2.1 103 = .ok (.iconst 4, 1) := by decide +kernel
theorem dX3_doDelete_104 : decode jX3_doDelete.2.1 104 = .ok (.iaload, 1) := by decide +kernel
theorem dX3_doDelete_105 : decode jX3_doDelete.2.1 105 = .ok (.iload 4, 2) := by decide +kernel
theorem dX3_doDelete_107 : decode jX3_doDelete.2.1 107 = .ok (.iload_n 3, 1) := by decide +kernel
theorem dX3_doDelete_108 : decode jX3_doDelete.2.1 108 = .ok (.isub, 1) := by decide +kernel
theorem dX3_doDelete_109 : decode jX3_doDelete.2.1 109 = .ok (.isub, 1) := by decide +kernel
theorem dX3_doDelete_110 : decode jX3_doDelete.2.1 110 = .ok (.iastore, 1) := by decide +kernel
theorem dX3_doDelete_111 : decode jX3_doDelete.2.1 111 = .ok (.iload 4, 2) := by decide +kernel
theorem dX3_doDelete_113 : decode jX3_doDelete.2.1 113 = .ok (.iload_n 3, 1) := by decide +kernel
theorem dX3_doDelete_114 : decode jX3_doDelete.2.1 114 = .ok (.isub, 1) := by decide +kernel
theorem dX3_doDelete_115 : decode jX3_doDelete.2.1 115 = .ok (.ireturn, 1) := by decide +kernel
theorem dX3_doRaise_0 : decode jX3_doRaise.2.1 0 = .ok (.aload_n 0, 1) := by decide +kernel
theorem dX3_doRaise_1 : decode jX3_doRaise.2.1 1 = .ok (.iconst 4, 1) := by decide +kernel
theorem dX3_doRaise_2 : decode jX3_doRaise.2.1 2 = .ok (.iload_n 1, 1) := by decide +kernel
theorem dX3_doRaise_3 : decode jX3_doRaise.2.1 3 = .ok (.i2l, 1) := by decide +kernel
theorem dX3_doRaise_4 : decode jX3_doRaise.2.1 4 = .ok (.invokevirtual 41, 3) := by decide +kernel
theorem dX3_doRaise_7 : decode jX3_doRaise.2.1 7 = .ok (.istore 5, 2) := by decide +kernel
theorem dX3_doRaise_9 : decode jX3_doRaise.2.1 9 = .ok (.aload_n 0, 1) := by decide +kernel
theorem dX3_doRaise_10 : decode jX3_doRaise.2.1 10 = .ok (.iconst 4, 1) := by decide +kernel
theorem dX3_doRaise_11 : decode jX3_doRaise.2.1 11 = .ok (.iload_n 2, 1) := by decide +kernel
theorem dX3_doRaise_12 : decode jX3_doRaise.2.1 12 = .ok (.i2l, 1) := by decide +kernel
theorem dX3_doRaise_13 : decode jX3_doRaise.2.1 13 = .ok (.lconst 1, 1) := by decide +kernel
theorem dX3_doRaise_14 : decode jX3_doRaise.2.1 14 = .ok (.ladd, 1) := by decide +kernel
theorem dX3_doRaise_15 : decode jX3_doRaise.2.1 15 = .ok (.invokevirtual 41, 3) := by decide +kernel
theorem dX3_doRaise_18 : decode jX3_doRaise.2.1 18 = .ok (.istore 6, 2) := by decide +kernel
theorem dX3_doRaise_20 : decode jX3_doRaise.2.1 20 = .ok (.iload 5, 2) := by decide +kernel
theorem dX3_doRaise_22 : decode jX3_doRaise.2.1 22 = .ok (.istore 7, 2) := by decide +kernel
theorem dX3_doRaise_24 : decode jX3_doRaise.2.1 24 = .ok (.iload 7, 2) := by decide +kernel
theorem dX3_doRaise_26 : decode jX3_doRaise.2.1 26 = .ok (.iload 6, 2) := by decide +kernel
theorem dX3_doRaise_28 : decode jX3_doRaise.2.1 28 = .ok (.if_icmp .ge 24, 3) := by decide +kernel
theorem dX3_doRaise_31 : decode jX3_doRaise.2.1 31 = .ok (.aload_n 0, 1) := by decide +kernel
theorem dX3_doRaise_32 : decode jX3_doRaise.2.1 32 = .ok (.getfield 13, 3) := by decide +kernel
theorem dX3_doRaise_35 : decode jX3_doRaise.2.1 35 = .ok (.sipush 2400, 3) := by decide +kernel
theorem dX3_doRaise_38 : decode jX3_doRaise.2.1 38 = .ok (.iload 7, 2) := by decide +kernel
theorem dX3_doRaise_40 : decode jX3_doRaise.2.1 40 = .ok (.iadd, 1) := by decide +kernel
theorem dX3_doRaise_41 : decode jX3_doRaise.2.1 41 = .ok (.dup2, 1) := by decide +kernel
theorem dX3_doRaise_42 : decode jX3_doRaise.2.1 42 = .ok (.laload, 1) := by decide +kernel
theorem dX3_doRaise_43 : decode jX3_doRaise.2.1 43 = .ok (.lload_n 3, 1) := by decide +kernel
theorem dX3_doRaise_44 : decode jX3_doRaise.2.1 44 = .ok (.ladd, 1) := by decide +kernel
theorem dX3_doRaise_45 : decode jX3_doRaise.2.1 45 = .ok (.lastore, 1) := by decide +kernel
theorem dX3_doRaise_46 : decode jX3_doRaise.2.1 46 = .ok (.iinc 7 1, 3) := by decide +kernel
theorem dX3_doRaise_49 : decode jX3_doRaise.2.1 49 = .ok (.goto (-25), 3) := by decide +kernel
theorem dX3_doRaise_52 : decode jX3_doRaise.2.1 52 = .ok (.iload 6, 2) := by decide +kernel
theorem dX3_doRaise_54 : decode jX3_doRaise.2.1 54 = .ok (.iload 5, 2) := by decide +kernel
theorem dX3_doRaise_56 : decode jX3_doRaise.2.1 56 = .ok (.isub, 1) := by decide +kernel
theorem dX3_doRaise_57 : decode jX3_doRaise.2.1 57 = .ok (.ireturn, 1) := by decide +kernel
theorem dX3_done_0 : decode jX3_done.2.1 0 = .ok (.iload_n 1, 1) := by decide +kernel
theorem dX3_done_1 : decode jX3_done.2.1 1 = .ok (.iconst 3, 1) := by decide +kernel
theorem dX3_done_2 : decode jX3_done.2.1 2 = .ok (.if_icmp .ne 11, 3) := by decide +kernel
theorem dX3_done_5 : decode jX3_done.2.1 5 = .ok (.aload_n 0, 1) := by decide +kernel
theorem dX3_done_6 : decode jX3_done.2.1 6 = .ok (.iload_n 2, 1) := by decide +kernel
theorem dX3_done_7 : decode jX3_done.2.1 7 = .ok (.iload_n 3, 1) := by decide +kernel
theorem dX3_done_8 : decode jX3_done.2.1 8 = .ok (.invokevirtual 49, 3) := by decide +kernel
theorem dX3_done_11 : decode jX3_done.2.1 11 = .ok (.i2l, 1) := by decide +kernel
theorem dX3_done_12 : decode jX3_done.2.1 12 = .ok (.lreturn, 1) := by decide +kernel
theorem dX3_done_13 : decode jX3_done.2.1 13 = .ok (.iload_n 1, 1) := by decide +kernel
theorem dX3_done_14 : decode jX3_done.2.1 14 = .ok (.iconst 4, 1) := by decide +kernel
theorem dX3_done_15 : decode jX3_done.2.1 15 = .ok (.if_icmp .ne 13, 3) := by decide +kernel
theorem dX3_done_18 : decode jX3_done.2.1 18 = .ok (.aload_n 0, 1) := by decide +kernel
theorem dX3_done_19 : decode jX3_done.2.1 19 = .ok (.iload_n 2, 1) := by decide +kernel
theorem dX3_done_20 : decode jX3_done.2.1 20 = .ok (.iload_n 3, 1) := by decide +kernel
theorem dX3_done_21 : decode jX3_done.2.1 21 = .ok (.lload 4, 2) := by decide +kernel
theorem dX3_done_23 : decode jX3_done.2.1 23 = .ok (.invokevirtual 53, 3) := by decide +kernel
theorem dX3_done_26 : decode jX3_done.2.1 26 = .ok (.i2l, 1) := by decide +kernel
theorem dX3_done_27 : decode jX3_done.2.1 27 = .ok (.lreturn, 1) := by decide +kernel
theorem dX3_done_28 : decode jX3_done.2.1 28 = .ok (.aload_n 0, 1) := by decide +kernel
theorem dX3_done_29 : decode jX3_done.2.1 29 = .ok (.iconst 4, 1) := by decide +kernel
theorem dX3_done_30 : decode jX3_done.2.1 30 = .ok (.iload_n 2, 1) := by decide +kernel
theorem dX3_done_31 : decode jX3_done.2.1 31 = .ok (.invokevirtual 57, 3) := by decide +kernel
theorem dX3_done_34 : decode jX3_done.2.1 34 = .ok (.lstore 6, 2) := by decide +kernel
theorem dX3_done_36 : decode jX3_done.2.1 36 = .ok (.iload_n 1, 1) := by decide +kernel
theorem dX3_done_37 : decode jX3_done.2.1 37 = .ok (.ifCond .ne 8, 3) := by decide +kernel
theorem dX3_done_40 : decode jX3_done.2.1 40 = .ok (.lload 4, 2) := by decide +kernel
theorem dX3_done_42 : decode jX3_done.2.1 42 = .ok (.goto 40, 3) := by decide +kernel
theorem dX3_done_45 : decode jX3_done.2.1 45 = .ok (.iload_n 1, 1) := by decide +kernel
theorem dX3_done_46 : decode jX3_done.2.1 46 = .ok (.iconst 1, 1) := by decide +kernel
theorem dX3_done_47 : decode jX3_done.2.1 47 = .ok (.if_icmp .ne 11, 3) := by decide +kernel
theorem dX3_done_50 : decode jX3_done.2.1 50 = .ok (.lload 6, 2) := by decide +kernel
theorem dX3_done_52 : decode jX3_done.2.1 52 = .ok (.lload 4, 2) := by decide +kernel
theorem dX3_done_54 : decode jX3_done.2.1 54 = .ok (.ladd, 1) := by decide +kernel
theorem dX3_done_55 : decode jX3_done.2.1 55 = .ok (.goto 27, 3) := by decide +kernel
theorem dX3_done_58 : decode jX3_done.2.1 58 = .ok (.aload_n 0, 1) := by decide +kernel
theorem dX3_done_59 : decode jX3_done.2.1 59 = .ok (.iconst 4, 1) := by decide +kernel
theorem dX3_done_60 : decode jX3_done.2.1 60 = .ok (.iload_n 2, 1) := by decide +kernel
theorem dX3_done_61 : decode jX3_done.2.1 61 = .ok (.invokevirtual 45, 3) := by decide +kernel
theorem dX3_done_64 : decode jX3_done.2.1 64 = .ok (.ifCond .eq 16, 3) := by decide +kernel
theorem dX3_done_67 : decode jX3_done.2.1 67 = .ok (.lload 6, 2) := by decide +kernel
theorem dX3_done_69 : decode jX3_done.2.1 69 = .ok (.lload 4, 2) := by decide +kernel
theorem dX3_done_71 : decode jX3_done.2.1 71 = .ok (.lcmp, 1) := by decide +kernel
theorem dX3_done_72 : decode jX3_done.2.1 72 = .ok (.ifCond .le 8, 3) := by decide +kernel
theorem dX3_done_75 : decode jX3_done.2.1 75 = .ok (.lload 6, 2) := by decide +kernel
theorem dX3_done_77 : decode jX3_done.2.1 77 = .ok (.goto 5, 3) := by decide +kernel
theorem dX3_done_80 : decode jX3_done.2.1 80 = .ok (.lload 4, 2) := by decide +kernel
theorem dX3_done_82 : decode jX3_done.2.1 82 = .ok (.lstore 8, 2) := by decide +kernel
theorem dX3_done_84 : decode jX3_done.2.1 84 = .ok (.aload_n 0, 1) := by decide +kernel
theorem dX3_done_85 : decode jX3_done.2.1 85 = .ok (.iload_n 2, 1) := by decide +kernel
theorem dX3_done_86 : decode jX3_done.2.1 86 = .ok (.lload 8, 2) := by decide +kernel
theorem dX3_done_88 : decode jX3_done.2.1 88 = .ok (.invokevirtual 61, 3) := by decide +kernel
theorem dX3_done_91 : decode jX3_done.2.1 91 = .ok (.lload 8, 2) := by decide +kernel
theorem dX3_done_93 : decode jX3_done.2.1 93 = .ok (.lreturn, 1) := by decide +kernel
theorem dX3_message_0 : decode jX3_message.2.1 0 = .ok (.aload_n 0, 1) := by decide +kernel
theorem dX3_message_1 : decode jX3_message.2.1 1 = .ok (.getfield 24, 3) := by decide +kernel
theorem dX3_message_4 : decode jX3_message.2.1 4 = .ok (.aload_n 0, 1) := by decide +kernel
theorem dX3_message_5 : decode jX3_message.2.1 5 = .ok (.getfield 65, 3) := by decide +kernel
theorem dX3_message_8 : decode jX3_message.2.1 8 = .ok (.iload_n 1, 1) := by decide +kernel
theorem dX3_message_9 : decode jX3_message.2.1 9 = .ok (.i2b, 1) := by decide +kernel
theorem dX3_message_10 : decode jX3_message.2.1 10 = .ok (.bastore, 1) := by decide +kernel
theorem dX3_message_11 : decode jX3_message.2.1 11 = .ok (.aload_n 0, 1) := by decide +kernel
theorem dX3_message_12 : decode jX3_message.2.1 12 = .ok (.getfield 28, 3) := by decide +kernel
theorem dX3_message_15 : decode jX3_message.2.1 15 = .ok (.aload_n 0, 1) := by decide +kernel
theorem dX3_message_16 : decode jX3_message.2.1 16 = .ok (.getfield 65, 3) := by decide +kernel
theorem dX3_message_19 : decode jX3_message.2.1 19 = .ok (.iload_n 2, 1) := by decide +kernel
theorem dX3_message_20 : decode jX3_message.2.1 20 = .ok (.iastore, 1) := by decide +kernel
theorem dX3_message_21 : decode jX3_message.2.1 21 = .ok (.aload_n 0, 1) := by decide +kernel
theorem dX3_message_22 : decode jX3_message.2.1 22 = .ok (.getfield 31, 3) := by decide +kernel
theorem dX3_message_25 : decode jX3_message.2.1 25 = .ok (.aload_n 0, 1) := by decide +kernel
theorem dX3_message_26 : decode jX3_message.2.1 26 = .ok (.getfield 65, 3) := by decide +kernel
theorem dX3_message_29 : decode jX3_message.2.1 29 = .ok (.iload_n 3, 1) := by decide +kernel
theorem dX3_message_30 : decode jX3_message.2.1 30 = .ok (.iastore, 1) := by decide +kernel
theorem dX3_message_31 : decode jX3_message.2.1 31 = .ok (.aload_n 0, 1) := by decide +kernel
theorem dX3_message_32 : decode jX3_message.2.1 32 = .ok (.getfield 34, 3) := by decide +kernel
theorem dX3_message_35 : decode jX3_message.2.1 35 = .ok (.aload_n 0, 1) := by decide +kernel
theorem dX3_message_36 : decode jX3_message.2.1 36 = .ok (.getfield 65, 3) := by decide +kernel
theorem dX3_message_39 : decode jX3_message.2.1 39 = .ok (.lload 4, 2) := by decide +kernel
theorem dX3_message_41 : decode jX3_message.2.1 41 = .ok (.lastore, 1) := by decide +kernel
theorem dX3_message_42 : decode jX3_message.2.1 42 = .ok (.aload_n 0, 1) := by decide +kernel
theorem dX3_message_43 : decode jX3_message.2.1 43 = .ok (.dup, 1) := by decide +kernel
theorem dX3_message_44 : decode jX3_message.2.1 44 = .ok (.getfield 65, 3) := by decide +kernel
theorem dX3_message_47 : decode jX3_message.2.1 47 = .ok (.iconst 1, 1) := by decide +kernel
theorem dX3_message_48 : decode jX3_message.2.1 48 = .ok (.iadd, 1) := by decide +kernel
theorem dX3_message_49 : decode jX3_message.2.1 49 = .ok (.putfield 65, 3) := by decide +kernel
theorem dX3_message_52 : decode jX3_message.2.1 52 = .ok (.aload_n 0, 1) := by decide +kernel
theorem dX3_message_53 : decode jX3_message.2.1 53 = .ok (.iload_n 1, 1) := by decide +kernel
theorem dX3_message_54 : decode jX3_message.2.1 54 = .ok (.iload_n 2, 1) := by decide +kernel
theorem dX3_message_55 : decode jX3_message.2.1 55 = .ok (.iload_n 3, 1) := by decide +kernel
theorem dX3_message_56 : decode jX3_message.2.1 56 = .ok (.lload 4, 2) := by decide +kernel
theorem dX3_message_58 : decode jX3_message.2.1 58 = .ok (.invokevirtual 68, 3) := by decide +kernel
theorem dX3_message_61 : decode jX3_message.2.1 61 = .ok (.lreturn, 1) := by decide +kernel
theorem dX3_isRefused_0 : decode jX3_isRefused.2.1 0 = .ok (.aload_n 0, 1) := by decide +kernel
theorem dX3_isRefused_1 : decode jX3_isRefused.2.1 1 = .ok (.getfield 65, 3) := by decide +kernel
theorem dX3_isRefused_4 : decode jX3_isRefused.2.1 4 = .ok (.sipush 2500, 3) := by decide +kernel
theorem dX3_isRefused_7 : decode jX3_isRefused.2.1 7 = .ok (.if_icmp .eq 24, 3) := by decide +kernel
theorem dX3_isRefused_10 : decode jX3_isRefused.2.1 10 = .ok (.aload_n 0, 1) := by decide +kernel
theorem dX3_isRefused_11 : decode jX3_isRefused.2.1 11 = .ok (.iconst 4, 1) := by decide +kernel
theorem dX3_isRefused_12 : decode jX3_isRefused.2.1 12 = .ok (.iload_n 1, 1) := by decide +kernel
theorem dX3_isRefused_13 : decode jX3_isRefused.2.1 13 = .ok (.invokevirtual 45, 3) := by decide +kernel
theorem dX3_isRefused_16 : decode jX3_isRefused.2.1 16 = .ok (.ifCond .ne 19, 3) := by decide +kernel
theorem dX3_isRefused_19 : decode jX3_isRefused.2.1 19 = .ok (.aload_n 0, 1) := by decide +kernel
theorem dX3_isRefused_20 : decode jX3_isRefused.2.1 20 = .ok (.getfield 17, 3) := by decide +kernel
theorem dX3_isRefused_23 : decode jX3_isRefused.2.1 23 = .ok (.iconst 4, 1) := by decide +kernel
theorem dX3_isRefused_24 : decode jX3_isRefused.2.1 24 = .ok (.iaload, 1) := by decide +kernel
theorem dX3_isRefused_25 : decode jX3_isRefused.2.1 25 = .ok (.sipush 600, 3) := by decide +kernel
theorem dX3_isRefused_28 : decode jX3_isRefused.2.1 28 = .ok (.if_icmp .ne 7, 3) := by decide +kernel
theorem dX3_isRefused_31 : decode jX3_isRefused.2.1 31 = .ok (.iconst 1, 1) := by decide +kernel
theorem dX3_isRefused_32 : decode jX3_isRefused.2.1 32 = .ok (.goto 4, 3) := by decide +kernel
theorem dX3_isRefused_35 : decode jX3_isRefused.2.1 35 = .ok (.iconst 0, 1) := by decide +kernel
theorem dX3_isRefused_36 : decode jX3_isRefused.2.1 36 = .ok (.ireturn, 1) := by decide +kernel
theorem dX3_put_0 : decode jX3_put.2.1 0 = .ok (.aload_n 0, 1) := by decide +kernel
theorem dX3_put_1 : decode jX3_put.2.1 1 = .ok (.aload_n 0, 1) := by decide +kernel
theorem dX3_put_2 : decode jX3_put.2.1 2 = .ok (.iload_n 1, 1) := by decide +kernel
theorem dX3_put_3 : decode jX3_put.2.1 3 = .ok (.invokevirtual 72, 3) := by decide +kernel
theorem dX3_put_6 : decode jX3_put.2.1 6 = .ok (.ifCond .eq 7, 3) := by decide +kernel
theorem dX3_put_9 : decode jX3_put.2.1 9 = .ok (.iconst 1, 1) := by decide +kernel
theorem dX3_put_10 : decode jX3_put.2.1 10 = .ok (.goto 4, 3) := by decide +kernel
theorem dX3_put_13 : decode jX3_put.2.1 13 = .ok (.iconst 0, 1) := by decide +kernel
theorem dX3_put_14 : decode jX3_put.2.1 14 = .ok (.putfield 37, 3) := by decide +kernel
theorem dX3_put_17 : decode jX3_put.2.1 17 = .ok (.aload_n 0, 1) := by decide +kernel
theorem dX3_put_18 : decode jX3_put.2.1 18 = .ok (.getfield 37, 3) := by decide +kernel
theorem dX3_put_21 : decode jX3_put.2.1 21 = .ok (.ifCond .le 5, 3) := by decide +kernel
theorem dX3_put_24 : decode jX3_put.2.1 24 = .ok (.iconst 0, 1) := by decide +kernel
theorem dX3_put_25 : decode jX3_put.2.1 25 = .ok (.ireturn, 1) := by decide +kernel
theorem dX3_put_26 : decode jX3_put.2.1 26 = .ok (.aload_n 0, 1) := by decide +kernel
theorem dX3_put_27 : decode jX3_put.2.1 27 = .ok (.iconst 0, 1) := by decide +kernel
theorem dX3_put_28 : decode jX3_put.2.1 28 = .ok (.iload_n 1, 1) := by decide +kernel
theorem dX3_put_29 : decode jX3_put.2.1 29 = .ok (.iload_n 1, 1) := by decide +kernel
theorem dX3_put_30 : decode jX3_put.2.1 30 = .ok (.lload_n 2, 1) := by decide +kernel
theorem dX3_put_31 : decode jX3_put.2.1 31 = .ok (.invokevirtual 76, 3) := by decide +kernel
theorem dX3_put_34 : decode jX3_put.2.1 34 = .ok (.pop2, 1) := by decide +kernel
theorem dX3_put_35 : decode jX3_put.2.1 35 = .ok (.aload_n 0, 1) := by decide +kernel
theorem dX3_put_36 : decode jX3_put.2.1 36 = .ok (.getfield 65, 3) := by decide +kernel
theorem dX3_put_39 : decode jX3_put.2.1 39 = .ok (.ireturn, 1) := by decide +kernel
theorem dX3_add_0 : decode jX3_add.2.1 0 = .ok (.aload_n 0, 1) := by decide +kernel
theorem dX3_add_1 : decode jX3_add.2.1 1 = .ok (.aload_n 0, 1) := by decide +kernel
theorem dX3_add_2 : decode jX3_add.2.1 2 = .ok (.iload_n 1, 1) := by decide +kernel
theorem dX3_add_3 : decode jX3_add.2.1 3 = .ok (.invokevirtual 72, 3) := by decide +kernel
theorem dX3_add_6 : decode jX3_add.2.1 6 = .ok (.ifCond .eq 7, 3) := by decide +kernel
theorem dX3_add_9 : decode jX3_add.2.1 9 = .ok (.iconst 1, 1) := by decide +kernel
theorem dX3_add_10 : decode jX3_add.2.1 10 = .ok (.goto 4, 3) := by decide +kernel
theorem dX3_add_13 : decode jX3_add.2.1 13 = .ok (.iconst 0, 1) := by decide +kernel
theorem dX3_add_14 : decode jX3_add.2.1 14 = .ok (.putfield 37, 3) := by decide +kernel
theorem dX3_add_17 : decode jX3_add.2.1 17 = .ok (.aload_n 0, 1) := by decide +kernel
theorem dX3_add_18 : decode jX3_add.2.1 18 = .ok (.getfield 37, 3) := by decide +kernel
theorem dX3_add_21 : decode jX3_add.2.1 21 = .ok (.ifCond .le 7, 3) := by decide +kernel
theorem dX3_add_24 : decode jX3_add.2.1 24 = .ok (.lconst 0, 1) := by decide +kernel
theorem dX3_add_25 : decode jX3_add.2.1 25 = .ok (.goto 11, 3) := by decide +kernel
theorem dX3_add_28 : decode jX3_add.2.1 28 = .ok (.aload_n 0, 1) := by decide +kernel
theorem dX3_add_29 : decode jX3_add.2.1 29 = .ok (.iconst 1, 1) := by decide +kernel
theorem dX3_add_30 : decode jX3_add.2.1 30 = .ok (.iload_n 1, 1) := by decide +kernel
theorem dX3_add_31 : decode jX3_add.2.1 31 = .ok (.iload_n 1, 1) := by decide +kernel
theorem dX3_add_32 : decode jX3_add.2.1 32 = .ok (.lload_n 2, 1) := by decide +kernel
theorem dX3_add_33 : decode jX3_add.2.1 33 = .ok (.invokevirtual 76, 3) := by decide +kernel
theorem dX3_add_36 : decode jX3_add.2.1 36 = .ok (.lreturn, 1) := by decide +kernel
theorem dX3_most_0 : decode jX3_most.2.1 0 = .ok (.aload_n 0, 1) := by decide +kernel
theorem dX3_most_1 : decode jX3_most.2.1 1 = .ok (.aload_n 0, 1) := by decide +kernel
theorem dX3_most_2 : decode jX3_most.2.1 2 = .ok (.iload_n 1, 1) := by decide +kernel
theorem dX3_most_3 : decode jX3_most.2.1 3 = .ok (.invokevirtual 72, 3) := by decide +kernel
theorem dX3_most_6 : decode jX3_most.2.1 6 = .ok (.ifCond .eq 7, 3) := by decide +kernel
theorem dX3_most_9 : decode jX3_most.2.1 9 = .ok (.iconst 1, 1) := by decide +kernel
theorem dX3_most_10 : decode jX3_most.2.1 10 = .ok (.goto 4, 3) := by decide +kernel
theorem dX3_most_13 : decode jX3_most.2.1 13 = .ok (.iconst 0, 1) := by decide +kernel
theorem dX3_most_14 : decode jX3_most.2.1 14 = .ok (.putfield 37, 3) := by decide +kernel
theorem dX3_most_17 : decode jX3_most.2.1 17 = .ok (.aload_n 0, 1) := by decide +kernel
theorem dX3_most_18 : decode jX3_most.2.1 18 = .ok (.getfield 37, 3) := by decide +kernel
theorem dX3_most_21 : decode jX3_most.2.1 21 = .ok (.ifCond .le 7, 3) := by decide +kernel
theorem dX3_most_24 : decode jX3_most.2.1 24 = .ok (.lconst 0, 1) := by decide +kernel
theorem dX3_most_25 : decode jX3_most.2.1 25 = .ok (.goto 11, 3) := by decide +kernel
theorem dX3_most_28 : decode jX3_most.2.1 28 = .ok (.aload_n 0, 1) := by decide +kernel
theorem dX3_most_29 : decode jX3_most.2.1 29 = .ok (.iconst 2, 1) := by decide +kernel
theorem dX3_most_30 : decode jX3_most.2.1 30 = .ok (.iload_n 1, 1) := by decide +kernel
theorem dX3_most_31 : decode jX3_most.2.1 31 = .ok (.iload_n 1, 1) := by decide +kernel
theorem dX3_most_32 : decode jX3_most.2.1 32 = .ok (.lload_n 2, 1) := by decide +kernel
theorem dX3_most_33 : decode jX3_most.2.1 33 = .ok (.invokevirtual 76, 3) := by decide +kernel
theorem dX3_most_36 : decode jX3_most.2.1 36 = .ok (.lreturn, 1) := by decide +kernel
theorem dX3_delete_0 : decode jX3_delete.2.1 0 = .ok (.aload_n 0, 1) := by decide +kernel
theorem dX3_delete_1 : decode jX3_delete.2.1 1 = .ok (.iload_n 1, 1) := by decide +kernel
theorem dX3_delete_2 : decode jX3_delete.2.1 2 = .ok (.iload_n 2, 1) := by decide +kernel
theorem dX3_delete_3 : decode jX3_delete.2.1 3 = .ok (.if_icmp .le 7, 3) := by decide +kernel
theorem dX3_delete_6 : decode jX3_delete.2.1 6 = .ok (.iconst 1, 1) := by decide +kernel
theorem dX3_delete_7 : decode jX3_delete.2.1 7 = .ok (.goto 18, 3) := by decide +kernel
theorem dX3_delete_10 : decode jX3_delete.2.1 10 = .ok (.aload_n 0, 1) := by decide +kernel
theorem dX3_delete_11 : decode jX3_delete.2.1 11 = .ok (.getfield 65, 3) := by decide +kernel
theorem dX3_delete_14 : decode jX3_delete.2.1 14 = .ok (.sipush 2500, 3) := by decide +kernel
theorem dX3_delete_17 : decode jX3_delete.2.1 17 = .ok (.if_icmp .ne 7, 3) := by decide +kernel
theorem dX3_delete_20 : decode jX3_delete.2.1 20 = .ok (.iconst 2, 1) := by decide +kernel
theorem dX3_delete_21 : decode jX3_delete.2.1 21 = .ok (.goto 4, 3) := by decide +kernel
theorem dX3_delete_24 : decode jX3_delete.2.1 24 = .ok (.iconst 0, 1) := by decide +kernel
theorem dX3_delete_25 : decode jX3_delete.2.1 25 = .ok (.putfield 37, 3) := by decide +kernel
theorem dX3_delete_28 : decode jX3_delete.2.1 28 = .ok (.aload_n 0, 1) := by decide +kernel
theorem dX3_delete_29 : decode jX3_delete.2.1 29 = .ok (.getfield 37, 3) := by decide +kernel
theorem dX3_delete_32 : decode jX3_delete.2.1 32 = .ok (.ifCond .le 7, 3) := by decide +kernel
theorem dX3_delete_35 : decode jX3_delete.2.1 35 = .ok (.iconst 0, 1) := by decide +kernel
theorem dX3_delete_36 : decode jX3_delete.2.1 36 = .ok (.goto 12, 3) := by decide +kernel
theorem dX3_delete_39 : decode jX3_delete.2.1 39 = .ok (.aload_n 0, 1) := by decide +kernel
theorem dX3_delete_40 : decode jX3_delete.2.1 40 = .ok (.iconst 3, 1) := by decide +kernel
theorem dX3_delete_41 : decode jX3_delete.2.1 41 = .ok (.iload_n 1, 1) := by decide +kernel
theorem dX3_delete_42 : decode jX3_delete.2.1 42 = .ok (.iload_n 2, 1) := by decide +kernel
theorem dX3_delete_43 : decode jX3_delete.2.1 43 = .ok (.lconst 0, 1) := by decide +kernel
theorem dX3_delete_44 : decode jX3_delete.2.1 44 = .ok (.invokevirtual 76, 3) := by decide +kernel
theorem dX3_delete_47 : decode jX3_delete.2.1 47 = .ok (.l2i, 1) := by decide +kernel
theorem dX3_delete_48 : decode jX3_delete.2.1 48 = .ok (.ireturn, 1) := by decide +kernel
theorem dX3_raise_0 : decode jX3_raise.2.1 0 = .ok (.aload_n 0, 1) := by decide +kernel
theorem dX3_raise_1 : decode jX3_raise.2.1 1 = .ok (.iload_n 1, 1) := by decide +kernel
theorem dX3_raise_2 : decode jX3_raise.2.1 2 = .ok (.iload_n 2, 1) := by decide +kernel
theorem dX3_raise_3 : decode jX3_raise.2.1 3 = .ok (.if_icmp .le 7, 3) := by decide +kernel
theorem dX3_raise_6 : decode jX3_raise.2.1 6 = .ok (.iconst 1, 1) := by decide +kernel
theorem dX3_raise_7 : decode jX3_raise.2.1 7 = .ok (.goto 18, 3) := by decide +kernel
theorem dX3_raise_10 : decode jX3_raise.2.1 10 = .ok (.aload_n 0, 1) := by decide +kernel
theorem dX3_raise_11 : decode jX3_raise.2.1 11 = .ok (.getfield 65, 3) := by decide +kernel
theorem dX3_raise_14 : decode jX3_raise.2.1 14 = .ok (.sipush 2500, 3) := by decide +kernel
theorem dX3_raise_17 : decode jX3_raise.2.1 17 = .ok (.if_icmp .ne 7, 3) := by decide +kernel
theorem dX3_raise_20 : decode jX3_raise.2.1 20 = .ok (.iconst 2, 1) := by decide +kernel
theorem dX3_raise_21 : decode jX3_raise.2.1 21 = .ok (.goto 4, 3) := by decide +kernel
theorem dX3_raise_24 : decode jX3_raise.2.1 24 = .ok (.iconst 0, 1) := by decide +kernel
theorem dX3_raise_25 : decode jX3_raise.2.1 25 = .ok (.putfield 37, 3) := by decide +kernel
theorem dX3_raise_28 : decode jX3_raise.2.1 28 = .ok (.aload_n 0, 1) := by decide +kernel
theorem dX3_raise_29 : decode jX3_raise.2.1 29 = .ok (.getfield 37, 3) := by decide +kernel
theorem dX3_raise_32 : decode jX3_raise.2.1 32 = .ok (.ifCond .le 7, 3) := by decide +kernel
theorem dX3_raise_35 : decode jX3_raise.2.1 35 = .ok (.iconst 0, 1) := by decide +kernel
theorem dX3_raise_36 : decode jX3_raise.2.1 36 = .ok (.goto 12, 3) := by decide +kernel
theorem dX3_raise_39 : decode jX3_raise.2.1 39 = .ok (.aload_n 0, 1) := by decide +kernel
theorem dX3_raise_40 : decode jX3_raise.2.1 40 = .ok (.iconst 4, 1) := by decide +kernel
theorem dX3_raise_41 : decode jX3_raise.2.1 41 = .ok (.iload_n 1, 1) := by decide +kernel
theorem dX3_raise_42 : decode jX3_raise.2.1 42 = .ok (.iload_n 2, 1) := by decide +kernel
theorem dX3_raise_43 : decode jX3_raise.2.1 43 = .ok (.lload_n 3, 1) := by decide +kernel
theorem dX3_raise_44 : decode jX3_raise.2.1 44 = .ok (.invokevirtual 76, 3) := by decide +kernel
theorem dX3_raise_47 : decode jX3_raise.2.1 47 = .ok (.l2i, 1) := by decide +kernel
theorem dX3_raise_48 : decode jX3_raise.2.1 48 = .ok (.ireturn, 1) := by decide +kernel
theorem dX3_putAll_0 : decode jX3_putAll.2.1 0 = .ok (.aload_n 0, 1) := by decide +kernel
theorem dX3_putAll_1 : decode jX3_putAll.2.1 1 = .ok (.iload 7, 2) := by decide +kernel
theorem dX3_putAll_3 : decode jX3_putAll.2.1 3 = .ok (.ifCond .lt 11, 3) := by decide +kernel
theorem dX3_putAll_6 : decode jX3_putAll.2.1 6 = .ok (.iload 7, 2) := by decide +kernel
theorem dX3_putAll_8 : decode jX3_putAll.2.1 8 = .ok (.sipush 300, 3) := by decide +kernel
theorem dX3_putAll_11 : decode jX3_putAll.2.1 11 = .ok (.if_icmp .le 7, 3) := by decide +kernel
theorem dX3_putAll_14 : decode jX3_putAll.2.1 14 = .ok (.iconst 1, 1) := by decide +kernel
theorem dX3_putAll_15 : decode jX3_putAll.2.1 15 = .ok (.goto 4, 3) := by decide +kernel
theorem dX3_putAll_18 : decode jX3_putAll.2.1 18 = .ok (.iconst 0, 1) := by decide +kernel
theorem dX3_putAll_19 : decode jX3_putAll.2.1 19 = .ok (.putfield 37, 3) := by decide +kernel
theorem dX3_putAll_22 : decode jX3_putAll.2.1 22 = .ok (.aload_n 0, 1) := by decide +kernel
theorem dX3_putAll_23 : decode jX3_putAll.2.1 23 = .ok (.getfield 37, 3) := by decide +kernel
theorem dX3_putAll_26 : decode jX3_putAll.2.1 26 = .ok (.ifCond .le 5, 3) := by decide +kernel
theorem dX3_putAll_29 : decode jX3_putAll.2.1 29 = .ok (.iconst 0, 1) := by decide +kernel
theorem dX3_putAll_30 : decode jX3_putAll.2.1 30 = .ok (.ireturn, 1) := by decide +kernel
theorem dX3_putAll_31 : decode jX3_putAll.2.1 31 = .ok (.iconst 0, 1) := by decide +kernel
theorem dX3_putAll_32 : decode jX3_putAll.2.1 32 = .ok (.istore 8, 2) := by decide +kernel
theorem dX3_putAll_34 : decode jX3_putAll.2.1 34 = .ok (.iload_n 1, 1) := by decide +kernel
theorem dX3_putAll_35 : decode jX3_putAll.2.1 35 = .ok (.istore 9, 2) := by decide +kernel
theorem dX3_putAll_37 : decode jX3_putAll.2.1 37 = .ok (.lload_n 3, 1) := by decide +kernel
theorem dX3_putAll_38 : decode jX3_putAll.2.1 38 = .ok (.lstore 10, 2) := by decide +kernel
theorem dX3_putAll_40 : decode jX3_putAll.2.1 40 = .ok (.iload 8, 2) := by decide +kernel
theorem dX3_putAll_42 : decode jX3_putAll.2.1 42 = .ok (.iload 7, 2) := by decide +kernel
theorem dX3_putAll_44 : decode jX3_putAll.2.1 44 = .ok (.if_icmp .ge 43, 3) := by decide +kernel
theorem dX3_putAll_47 : decode jX3_putAll.2.1 47 = .ok (.aload_n 0, 1) := by decide +kernel
theorem dX3_putAll_48 : decode jX3_putAll.2.1 48 = .ok (.iload 9, 2) := by decide +kernel
theorem dX3_putAll_50 : decode jX3_putAll.2.1 50 = .ok (.invokevirtual 72, 3) := by decide +kernel
theorem dX3_putAll_53 : decode jX3_putAll.2.1 53 = .ok (.ifCond .ne 34, 3) := by decide +kernel
theorem dX3_putAll_56 : decode jX3_putAll.2.1 56 = .ok (.aload_n 0, 1) := by decide +kernel
theorem dX3_putAll_57 : decode jX3_putAll.2.1 57 = .ok (.iconst 0, 1) := by decide +kernel
theorem dX3_putAll_58 : decode jX3_putAll.2.1 58 = .ok (.iload 9, 2) := by decide +kernel
theorem dX3_putAll_60 : decode jX3_putAll.2.1 60 = .ok (.iload 9, 2) := by decide +kernel
theorem dX3_putAll_62 : decode jX3_putAll.2.1 62 = .ok (.lload 10, 2) := by decide +kernel
theorem dX3_putAll_64 : decode jX3_putAll.2.1 64 = .ok (.invokevirtual 76, 3) := by decide +kernel
theorem dX3_putAll_67 : decode jX3_putAll.2.1 67 = .ok (.pop2, 1) := by decide +kernel
theorem dX3_putAll_68 : decode jX3_putAll.2.1 68 = .ok (.iload 9, 2) := by decide +kernel
theorem dX3_putAll_70 : decode jX3_putAll.2.1 70 = .ok (.iload_n 2, 1) := by decide +kernel
theorem dX3_putAll_71 : decode jX3_putAll.2.1 71 = .ok (.iadd, 1) := by decide +kernel
theorem dX3_putAll_72 : decode jX3_putAll.2.1 72 = .ok (.istore 9, 2) := by decide +kernel
theorem dX3_putAll_74 : decode jX3_putAll.2.1 74 = .ok (.lload 10, 2) := by decide +kernel
theorem dX3_putAll_76 : decode jX3_putAll.2.1 76 = .ok (.lload 5, 2) := by decide +kernel
theorem dX3_putAll_78 : decode jX3_putAll.2.1 78 = .ok (.ladd, 1) := by decide +kernel
theorem dX3_putAll_79 : decode jX3_putAll.2.1 79 = .ok (.lstore 10, 2) := by decide +kernel
theorem dX3_putAll_81 : decode jX3_putAll.2.1 81 = .ok (.iinc 8 1, 3) := by decide +kernel
theorem dX3_putAll_84 : decode jX3_putAll.2.1 84 = .ok (.goto (-44), 3) := by decide +kernel
theorem dX3_putAll_87 : decode jX3_putAll.2.1 87 = .ok (.iload 8, 2) := by decide +kernel
theorem dX3_putAll_89 : decode jX3_putAll.2.1 89 = .ok (.ireturn, 1) := by decide +kernel
theorem dX3_rowOf_0 : decode jX3_rowOf.2.1 0 = .ok (.iload_n 1, 1) := by decide +kernel
theorem dX3_rowOf_1 : decode jX3_rowOf.2.1 1 = .ok (.iconst (-1), 1) := by decide +kernel
theorem dX3_rowOf_2 : decode jX3_rowOf.2.1 2 = .ok (.if_icmp .ne 7, 3) := by decide +kernel
theorem dX3_rowOf_5 : decode jX3_rowOf.2.1 5 = .ok (.iconst 4, 1) := by decide +kernel
theorem dX3_rowOf_6 : decode jX3_rowOf.2.1 6 = .ok (.goto 26, 3) := by decide +kernel
theorem dX3_rowOf_9 : decode jX3_rowOf.2.1 9 = .ok (.iload_n 1, 1) := by decide +kernel
theorem dX3_rowOf_10 : decode jX3_rowOf.2.1 10 = .ok (.ifCond .lt 21, 3) := by decide +kernel
theorem dX3_rowOf_13 : decode jX3_rowOf.2.1 13 = .ok (.iload_n 1, 1) := by decide +kernel
theorem dX3_rowOf_14 : decode jX3_rowOf.2.1 14 = .ok (.iconst 4, 1) := by decide +kernel
theorem dX3_rowOf_15 : decode jX3_rowOf.2.1 15 = .ok (.if_icmp .ge 16, 3) := by decide +kernel
theorem dX3_rowOf_18 : decode jX3_rowOf.2.1 18 = .ok (.aload_n 0, 1) := by decide +kernel
theorem dX3_rowOf_19 : decode jX3_rowOf.2.1 19 = .ok (.getfield 20, 3) := by decide +kernel
theorem dX3_rowOf_22 : decode jX3_rowOf.2.1 22 = .ok (.iload_n 1, 1) := by decide +kernel
theorem dX3_rowOf_23 : decode jX3_rowOf.2.1 23 = .ok (.baload, 1) := by decide +kernel
theorem dX3_rowOf_24 : decode jX3_rowOf.2.1 24 = .ok (.ifCond .eq 7, 3) := by decide +kernel
theorem dX3_rowOf_27 : decode jX3_rowOf.2.1 27 = .ok (.iload_n 1, 1) := by decide +kernel
theorem dX3_rowOf_28 : decode jX3_rowOf.2.1 28 = .ok (.goto 4, 3) := by decide +kernel
theorem dX3_rowOf_31 : decode jX3_rowOf.2.1 31 = .ok (.iconst (-1), 1) := by decide +kernel
theorem dX3_rowOf_32 : decode jX3_rowOf.2.1 32 = .ok (.ireturn, 1) := by decide +kernel
theorem dX3_has_0 : decode jX3_has.2.1 0 = .ok (.aload_n 0, 1) := by decide +kernel
theorem dX3_has_1 : decode jX3_has.2.1 1 = .ok (.iload_n 1, 1) := by decide +kernel
theorem dX3_has_2 : decode jX3_has.2.1 2 = .ok (.invokevirtual 79, 3) := by decide +kernel
theorem dX3_has_5 : decode jX3_has.2.1 5 = .ok (.istore_n 3, 1) := by decide +kernel
theorem dX3_has_6 : decode jX3_has.2.1 6 = .ok (.aload_n 0, 1) := by decide +kernel
theorem dX3_has_7 : decode jX3_has.2.1 7 = .ok (.iload_n 3, 1) := by decide +kernel
theorem dX3_has_8 : decode jX3_has.2.1 8 = .ok (.ifCond .ge 7, 3) := by decide +kernel
theorem dX3_has_11 : decode jX3_has.2.1 11 = .ok (.iconst 1, 1) := by decide +kernel
theorem dX3_has_12 : decode jX3_has.2.1 12 = .ok (.goto 4, 3) := by decide +kernel
theorem dX3_has_15 : decode jX3_has.2.1 15 = .ok (.iconst 0, 1) := by decide +kernel
theorem dX3_has_16 : decode jX3_has.2.1 16 = .ok (.putfield 37, 3) := by decide +kernel
theorem dX3_has_19 : decode jX3_has.2.1 19 = .ok (.aload_n 0, 1) := by decide +kernel
theorem dX3_has_20 : decode jX3_has.2.1 20 = .ok (.getfield 37, 3) := by decide +kernel
theorem dX3_has_23 : decode jX3_has.2.1 23 = .ok (.ifCond .ne 16, 3) := by decide +kernel
theorem dX3_has_26 : decode jX3_has.2.1 26 = .ok (.aload_n 0, 1) := by decide +kernel
theorem dX3_has_27 : decode jX3_has.2.1 27 = .ok (.iload_n 3, 1) := by decide +kernel
theorem dX3_has_28 : decode jX3_has.2.1 28 = .ok (.iload_n 2, 1) := by decide +kernel
theorem dX3_has_29 : decode jX3_has.2.1 29 = .ok (.invokevirtual 45, 3) := by decide +kernel
theorem dX3_has_32 : decode jX3_has.2.1 32 = .ok (.ifCond .eq 7, 3) := by decide +kernel
theorem dX3_has_35 : decode jX3_has.2.1 35 = .ok (.iconst 1, 1) := by decide +kernel
theorem dX3_has_36 : decode jX3_has.2.1 36 = .ok (.goto 4, 3) := by decide +kernel
theorem dX3_has_39 : decode jX3_has.2.1 39 = .ok (.iconst 0, 1) := by decide +kernel
theorem dX3_has_40 : decode jX3_has.2.1 40 = .ok (.ireturn, 1) := by decide +kernel
theorem dX3_get_0 : decode jX3_get.2.1 0 = .ok (.aload_n 0, 1) := by decide +kernel
theorem dX3_get_1 : decode jX3_get.2.1 1 = .ok (.iload_n 1, 1) := by decide +kernel
theorem dX3_get_2 : decode jX3_get.2.1 2 = .ok (.invokevirtual 79, 3) := by decide +kernel
theorem dX3_get_5 : decode jX3_get.2.1 5 = .ok (.istore_n 3, 1) := by decide +kernel
theorem dX3_get_6 : decode jX3_get.2.1 6 = .ok (.aload_n 0, 1) := by decide +kernel
theorem dX3_get_7 : decode jX3_get.2.1 7 = .ok (.iload_n 3, 1) := by decide +kernel
theorem dX3_get_8 : decode jX3_get.2.1 8 = .ok (.ifCond .ge 7, 3) := by decide +kernel
theorem dX3_get_11 : decode jX3_get.2.1 11 = .ok (.iconst 1, 1) := by decide +kernel
theorem dX3_get_12 : decode jX3_get.2.1 12 = .ok (.goto 4, 3) := by decide +kernel
theorem dX3_get_15 : decode jX3_get.2.1 15 = .ok (.iconst 0, 1) := by decide +kernel
theorem dX3_get_16 : decode jX3_get.2.1 16 = .ok (.putfield 37, 3) := by decide +kernel
theorem dX3_get_19 : decode jX3_get.2.1 19 = .ok (.aload_n 0, 1) := by decide +kernel
theorem dX3_get_20 : decode jX3_get.2.1 20 = .ok (.getfield 37, 3) := by decide +kernel
theorem dX3_get_23 : decode jX3_get.2.1 23 = .ok (.ifCond .le 7, 3) := by decide +kernel
theorem dX3_get_26 : decode jX3_get.2.1 26 = .ok (.lconst 0, 1) := by decide +kernel
theorem dX3_get_27 : decode jX3_get.2.1 27 = .ok (.goto 9, 3) := by decide +kernel
theorem dX3_get_30 : decode jX3_get.2.1 30 = .ok (.aload_n 0, 1) := by decide +kernel
theorem dX3_get_31 : decode jX3_get.2.1 31 = .ok (.iload_n 3, 1) := by decide +kernel
theorem dX3_get_32 : decode jX3_get.2.1 32 = .ok (.iload_n 2, 1) := by decide +kernel
theorem dX3_get_33 : decode jX3_get.2.1 33 = .ok (.invokevirtual 57, 3) := by decide +kernel
theorem dX3_get_36 : decode jX3_get.2.1 36 = .ok (.lreturn, 1) := by decide +kernel
theorem dX3_count_0 : decode jX3_count.2.1 0 = .ok (.aload_n 0, 1) := by decide +kernel
theorem dX3_count_1 : decode jX3_count.2.1 1 = .ok (.iload_n 1, 1) := by decide +kernel
theorem dX3_count_2 : decode jX3_count.2.1 2 = .ok (.invokevirtual 79, 3) := by decide +kernel
theorem dX3_count_5 : decode jX3_count.2.1 5 = .ok (.istore 4, 2) := by decide +kernel
theorem dX3_count_7 : decode jX3_count.2.1 7 = .ok (.aload_n 0, 1) := by decide +kernel
theorem dX3_count_8 : decode jX3_count.2.1 8 = .ok (.iload 4, 2) := by decide +kernel
theorem dX3_count_10 : decode jX3_count.2.1 10 = .ok (.ifCond .ge 7, 3) := by decide +kernel
theorem dX3_count_13 : decode jX3_count.2.1 13 = .ok (.iconst 1, 1) := by decide +kernel
theorem dX3_count_14 : decode jX3_count.2.1 14 = .ok (.goto 13, 3) := by decide +kernel
theorem dX3_count_17 : decode jX3_count.2.1 17 = .ok (.iload_n 2, 1) := by decide +kernel
theorem dX3_count_18 : decode jX3_count.2.1 18 = .ok (.iload_n 3, 1) := by decide +kernel
theorem dX3_count_19 : decode jX3_count.2.1 19 = .ok (.if_icmp .le 7, 3) := by decide +kernel
theorem dX3_count_22 : decode jX3_count.2.1 22 = .ok (.iconst 2, 1) := by decide +kernel
theorem dX3_count_23 : decode jX3_count.2.1 23 = .ok (.goto 4, 3) := by decide +kernel
theorem dX3_count_26 : decode jX3_count.2.1 26 = .ok (.iconst 0, 1) := by decide +kernel
theorem dX3_count_27 : decode jX3_count.2.1 27 = .ok (.putfield 37, 3) := by decide +kernel
theorem dX3_count_30 : decode jX3_count.2.1 30 = .ok (.aload_n 0, 1) := by decide +kernel
theorem dX3_count_31 : decode jX3_count.2.1 31 = .ok (.getfield 37, 3) := by decide +kernel
theorem dX3_count_34 : decode jX3_count.2.1 34 = .ok (.ifCond .le 7, 3) := by decide +kernel
theorem dX3_count_37 : decode jX3_count.2.1 37 = .ok (.iconst 0, 1) := by decide +kernel
theorem dX3_count_38 : decode jX3_count.2.1 38 = .ok (.goto 22, 3) := by decide +kernel
theorem dX3_count_41 : decode jX3_count.2.1 41 = .ok (.aload_n 0, 1) := by decide +kernel
theorem dX3_count_42 : decode jX3_count.2.1 42 = .ok (.iload 4, 2) := by decide +kernel
theorem dX3_count_44 : decode jX3_count.2.1 44 = .ok (.iload_n 3, 1) := by decide +kernel
theorem dX3_count_45 : decode jX3_count.2.1 45 = .ok (.i2l, 1) := by decide +kernel
theorem dX3_count_46 : decode jX3_count.2.1 46 = .ok (.lconst 1, 1) := by decide +kernel
theorem dX3_count_47 : decode jX3_count.2.1 47 = .ok (.ladd, 1) := by decide +kernel
theorem dX3_count_48 : decode jX3_count.2.1 48 = .ok (.invokevirtual 41, 3) := by decide +kernel
theorem dX3_count_51 : decode jX3_count.2.1 51 = .ok (.aload_n 0, 1) := by decide +kernel
theorem dX3_count_52 : decode jX3_count.2.1 52 = .ok (.iload 4, 2) := by decide +kernel
theorem dX3_count_54 : decode jX3_count.2.1 54 = .ok (.iload_n 2, 1) := by decide +kernel
theorem dX3_count_55 : decode jX3_count.2.1 55 = .ok (.i2l, 1) := by decide +kernel
theorem dX3_count_56 : decode jX3_count.2.1 56 = .ok (.invokevirtual 41, 3) := by decide +kernel
theorem dX3_count_59 : decode jX3_count.2.1 59 = .ok (.isub, 1) := by decide +kernel
theorem dX3_count_60 : decode jX3_count.2.1 60 = .ok (.ireturn, 1) := by decide +kernel
theorem dX3_sum_0 : decode jX3_sum.2.1 0 = .ok (.aload_n 0, 1) := by decide +kernel
theorem dX3_sum_1 : decode jX3_sum.2.1 1 = .ok (.iload_n 1, 1) := by decide +kernel
theorem dX3_sum_2 : decode jX3_sum.2.1 2 = .ok (.invokevirtual 79, 3) := by decide +kernel
theorem dX3_sum_5 : decode jX3_sum.2.1 5 = .ok (.istore 4, 2) := by decide +kernel
theorem dX3_sum_7 : decode jX3_sum.2.1 7 = .ok (.aload_n 0, 1) := by decide +kernel
theorem dX3_sum_8 : decode jX3_sum.2.1 8 = .ok (.iload 4, 2) := by decide +kernel
theorem dX3_sum_10 : decode jX3_sum.2.1 10 = .ok (.ifCond .ge 7, 3) := by decide +kernel
theorem dX3_sum_13 : decode jX3_sum.2.1 13 = .ok (.iconst 1, 1) := by decide +kernel
theorem dX3_sum_14 : decode jX3_sum.2.1 14 = .ok (.goto 13, 3) := by decide +kernel
theorem dX3_sum_17 : decode jX3_sum.2.1 17 = .ok (.iload_n 2, 1) := by decide +kernel
theorem dX3_sum_18 : decode jX3_sum.2.1 18 = .ok (.iload_n 3, 1) := by decide +kernel
theorem dX3_sum_19 : decode jX3_sum.2.1 19 = .ok (.if_icmp .le 7, 3) := by decide +kernel
theorem dX3_sum_22 : decode jX3_sum.2.1 22 = .ok (.iconst 2, 1) := by decide +kernel
theorem dX3_sum_23 : decode jX3_sum.2.1 23 = .ok (.goto 4, 3) := by decide +kernel
theorem dX3_sum_26 : decode jX3_sum.2.1 26 = .ok (.iconst 0, 1) := by decide +kernel
theorem dX3_sum_27 : decode jX3_sum.2.1 27 = .ok (.putfield 37, 3) := by decide +kernel
theorem dX3_sum_30 : decode jX3_sum.2.1 30 = .ok (.lconst 0, 1) := by decide +kernel
theorem dX3_sum_31 : decode jX3_sum.2.1 31 = .ok (.lstore 5, 2) := by decide +kernel
theorem dX3_sum_33 : decode jX3_sum.2.1 33 = .ok (.iconst 0, 1) := by decide +kernel
theorem dX3_sum_34 : decode jX3_sum.2.1 34 = .ok (.istore 7, 2) := by decide +kernel
theorem dX3_sum_36 : decode jX3_sum.2.1 36 = .ok (.aload_n 0, 1) := by decide +kernel
theorem dX3_sum_37 : decode jX3_sum.2.1 37 = .ok (.getfield 37, 3) := by decide +kernel
theorem dX3_sum_40 : decode jX3_sum.2.1 40 = .ok (.ifCond .ne 73, 3) := by decide +kernel
theorem dX3_sum_43 : decode jX3_sum.2.1 43 = .ok (.iload 7, 2) := by decide +kernel
theorem dX3_sum_45 : decode jX3_sum.2.1 45 = .ok (.aload_n 0, 1) := by decide +kernel
theorem dX3_sum_46 : decode jX3_sum.2.1 46 = .ok (.getfield 17, 3) := by decide +kernel
theorem dX3_sum_49 : decode jX3_sum.2.1 49 = .ok (.iload 4, 2) := by decide +kernel
theorem dX3_sum_51 : decode jX3_sum.2.1 51 = .ok (.iaload, 1) := by decide +kernel
theorem dX3_sum_52 : decode jX3_sum.2.1 52 = .ok (.if_icmp .ge 61, 3) := by decide +kernel
theorem dX3_sum_55 : decode jX3_sum.2.1 55 = .ok (.aload_n 0, 1) := by decide +kernel
theorem dX3_sum_56 : decode jX3_sum.2.1 56 = .ok (.getfield 7, 3) := by decide +kernel
theorem dX3_sum_59 : decode jX3_sum.2.1 59 = .ok (.sipush 600, 3) := by decide +kernel
theorem dX3_sum_62 : decode jX3_sum.2.1 62 = .ok (.iload 4, 2) := by decide +kernel
theorem dX3_sum_64 : decode jX3_sum.2.1 64 = .ok (.imul, 1) := by decide +kernel
theorem dX3_sum_65 : decode jX3_sum.2.1 65 = .ok (.iload 7, 2) := by decide +kernel
theorem dX3_sum_67 : decode jX3_sum.2.1 67 = .ok (.iadd, 1) := by decide +kernel
theorem dX3_sum_68 : decode jX3_sum.2.1 68 = .ok (.iaload, 1) := by decide +kernel
theorem dX3_sum_69 : decode jX3_sum.2.1 69 = .ok (.istore 8, 2) := by decide +kernel
theorem dX3_sum_71 : decode jX3_sum.2.1 71 = .ok (.iload 8, 2) := by decide +kernel
theorem dX3_sum_73 : decode jX3_sum.2.1 73 = .ok (.iload_n 2, 1) := by decide +kernel
theorem dX3_sum_74 : decode jX3_sum.2.1 74 = .ok (.if_icmp .lt 29, 3) := by decide +kernel
theorem dX3_sum_77 : decode jX3_sum.2.1 77 = .ok (.iload 8, 2) := by decide +kernel
theorem dX3_sum_79 : decode jX3_sum.2.1 79 = .ok (.iload_n 3, 1) := by decide +kernel
theorem dX3_sum_80 : decode jX3_sum.2.1 80 = .ok (.if_icmp .gt 23, 3) := by decide +kernel
theorem dX3_sum_83 : decode jX3_sum.2.1 83 = .ok (.lload 5, 2) := by decide +kernel
theorem dX3_sum_85 : decode jX3_sum.2.1 85 = .ok (.aload_n 0, 1) := by decide +kernel
theorem dX3_sum_86 : decode jX3_sum.2.1 86 = .ok (.getfield 13, 3) := by decide +kernel
theorem dX3_sum_89 : decode jX3_sum.2.1 89 = .ok (.sipush 600, 3) := by decide +kernel
theorem dX3_sum_92 : decode jX3_sum.2.1 92 = .ok (.iload 4, 2) := by decide +kernel
theorem dX3_sum_94 : decode jX3_sum.2.1 94 = .ok (.imul, 1) := by decide +kernel
theorem dX3_sum_95 : decode jX3_sum.2.1 95 = .ok (.iload 7, 2) := by decide +kernel
theorem dX3_sum_97 : decode jX3_sum.2.1 97 = .ok (.iadd, 1) := by decide +kernel
theorem dX3_sum_98 : decode jX3_sum.2.1 98 = .ok (.laload, 1) := by decide +kernel
theorem dX3_sum_99 : decode jX3_sum.2.1 99 = .ok (.ladd, 1) := by decide +kernel
theorem dX3_sum_100 : decode jX3_sum.2.1 100 = .ok (.goto 5, 3) := by decide +kernel
theorem dX3_sum_103 : decode jX3_sum.2.1 103 = .ok (.lload 5, 2) := by decide +kernel
theorem dX3_sum_105 : decode jX3_sum.2.1 105 = .ok (.lstore 5, 2) := by decide +kernel
theorem dX3_sum_107 : decode jX3_sum.2.1 107 = .ok (.iinc 7 1, 3) := by decide +kernel
theorem dX3_sum_110 : decode jX3_sum.2.1 110 = .ok (.goto (-74), 3) := by decide +kernel
theorem dX3_sum_113 : decode jX3_sum.2.1 113 = .ok (.lload 5, 2) := by decide +kernel
theorem dX3_sum_115 : decode jX3_sum.2.1 115 = .ok (.lreturn, 1) := by decide +kernel
theorem dX3_key_0 : decode jX3_key.2.1 0 = .ok (.aload_n 0, 1) := by decide +kernel
theorem dX3_key_1 : decode jX3_key.2.1 1 = .ok (.iload_n 1, 1) := by decide +kernel
theorem dX3_key_2 : decode jX3_key.2.1 2 = .ok (.invokevirtual 79, 3) := by decide +kernel
theorem dX3_key_5 : decode jX3_key.2.1 5 = .ok (.istore 4, 2) := by decide +kernel
theorem dX3_key_7 : decode jX3_key.2.1 7 = .ok (.aload_n 0, 1) := by decide +kernel
theorem dX3_key_8 : decode jX3_key.2.1 8 = .ok (.iload 4, 2) := by decide +kernel
theorem dX3_key_10 : decode jX3_key.2.1 10 = .ok (.ifCond .ge 7, 3) := by decide +kernel
theorem dX3_key_13 : decode jX3_key.2.1 13 = .ok (.iconst 1, 1) := by decide +kernel
theorem dX3_key_14 : decode jX3_key.2.1 14 = .ok (.goto 32, 3) := by decide +kernel
theorem dX3_key_17 : decode jX3_key.2.1 17 = .ok (.iload_n 3, 1) := by decide +kernel
theorem dX3_key_18 : decode jX3_key.2.1 18 = .ok (.ifCond .lt 23, 3) := by decide +kernel
theorem dX3_key_21 : decode jX3_key.2.1 21 = .ok (.iload_n 3, 1) := by decide +kernel
theorem dX3_key_22 : decode jX3_key.2.1 22 = .ok (.aload_n 0, 1) := by decide +kernel
theorem dX3_key_23 : decode jX3_key.2.1 23 = .ok (.getfield 17, 3) := by decide +kernel
theorem dX3_key_26 : decode jX3_key.2.1 26 = .ok (.iload 4, 2) := by decide +kernel
theorem dX3_key_28 : decode jX3_key.2.1 28 = .ok (.iaload, 1) := by decide +kernel
theorem dX3_key_29 : decode jX3_key.2.1 29 = .ok (.aload_n 0, 1) := by decide +kernel
theorem dX3_key_30 : decode jX3_key.2.1 30 = .ok (.iload 4, 2) := by decide +kernel
theorem dX3_key_32 : decode jX3_key.2.1 32 = .ok (.iload_n 2, 1) := by decide +kernel
theorem dX3_key_33 : decode jX3_key.2.1 33 = .ok (.i2l, 1) := by decide +kernel
theorem dX3_key_34 : decode jX3_key.2.1 34 = .ok (.invokevirtual 41, 3) := by decide +kernel
theorem dX3_key_37 : decode jX3_key.2.1 37 = .ok (.isub, 1) := by decide +kernel
theorem dX3_key_38 : decode jX3_key.2.1 38 = .ok (.if_icmp .lt 7, 3) := by decide +kernel
theorem dX3_key_41 : decode jX3_key.2.1 41 = .ok (.iconst 2, 1) := by decide +kernel
theorem dX3_key_42 : decode jX3_key.2.1 42 = .ok (.goto 4, 3) := by decide +kernel
theorem dX3_key_45 : decode jX3_key.2.1 45 = .ok (.iconst 0, 1) := by decide +kernel
theorem dX3_key_46 : decode jX3_key.2.1 46 = .ok (.putfield 37, 3) := by decide +kernel
theorem dX3_key_49 : decode jX3_key.2.1 49 = .ok (.aload_n 0, 1) := by decide +kernel
theorem dX3_key_50 : decode jX3_key.2.1 50 = .ok (.getfield 37, 3) := by decide +kernel
theorem dX3_key_53 : decode jX3_key.2.1 53 = .ok (.ifCond .le 7, 3) := by decide +kernel
theorem dX3_key_56 : decode jX3_key.2.1 56 = .ok (.iconst 0, 1) := by decide +kernel
theorem dX3_key_57 : decode jX3_key.2.1 57 = .ok (.goto 25, 3) := by decide +kernel
theorem dX3_key_60 : decode jX3_key.2.1 60 = .ok (.aload_n 0, 1) := by decide +kernel
theorem dX3_key_61 : decode jX3_key.2.1 61 = .ok (.getfield 7, 3) := by decide +kernel
theorem dX3_key_64 : decode jX3_key.2.1 64 = .ok (.sipush 600, 3) := by decide +kernel
theorem dX3_key_67 : decode jX3_key.2.1 67 = .ok (.iload 4, 2) := by decide +kernel
theorem dX3_key_69 : decode jX3_key.2.1 69 = .ok (.imul, 1) := by decide +kernel
theorem dX3_key_70 : decode jX3_key.2.1 70 = .ok (.aload_n 0, 1) := by decide +kernel
theorem dX3_key_71 : decode jX3_key.2.1 71 = .ok (.iload 4, 2) := by decide +kernel
theorem dX3_key_73 : decode jX3_key.2.1 73 = .ok (.iload_n 2, 1) := by decide +kernel
theorem dX3_key_74 : decode jX3_key.2.1 74 = .ok (.i2l, 1) := by decide +kernel
theorem dX3_key_75 : decode jX3_key.2.1 75 = .ok (.invokevirtual 41, 3) := by decide +kernel
theorem dX3_key_78 : decode jX3_key.2.1 78 = .ok (.iadd, 1) := by decide +kernel
theorem dX3_key_79 : decode jX3_key.2.1 79 = .ok (.iload_n 3, 1) := by decide +kernel
theorem dX3_key_80 : decode jX3_key.2.1 80 = .ok (.iadd, 1) := by decide +kernel
theorem dX3_key_81 : decode jX3_key.2.1 81 = .ok (.iaload, 1) := by decide +kernel
theorem dX3_key_82 : decode jX3_key.2.1 82 = .ok (.ireturn, 1) := by decide +kernel
theorem dX3_isView_0 : decode jX3_isView.2.1 0 = .ok (.iload_n 0, 1) := by decide +kernel
theorem dX3_isView_1 : decode jX3_isView.2.1 1 = .ok (.ifCond .lt 12, 3) := by decide +kernel
theorem dX3_isView_4 : decode jX3_isView.2.1 4 = .ok (.iload_n 0, 1) := by decide +kernel
theorem dX3_isView_5 : decode jX3_isView.2.1 5 = .ok (.iconst 4, 1) := by decide +kernel
theorem dX3_isView_6 : decode jX3_isView.2.1 6 = .ok (.if_icmp .ge 7, 3) := by decide +kernel
theorem dX3_isView_9 : decode jX3_isView.2.1 9 = .ok (.iconst 1, 1) := by decide +kernel
theorem dX3_isView_10 : decode jX3_isView.2.1 10 = .ok (.goto 4, 3) := by decide +kernel
theorem dX3_isView_13 : decode jX3_isView.2.1 13 = .ok (.iconst 0, 1) := by decide +kernel
theorem dX3_isView_14 : decode jX3_isView.2.1 14 = .ok (.ireturn, 1) := by decide +kernel
theorem dX3_save_0 : decode jX3_save.2.1 0 = .ok (.aload_n 0, 1) := by decide +kernel
theorem dX3_save_1 : decode jX3_save.2.1 1 = .ok (.iload_n 1, 1) := by decide +kernel
theorem dX3_save_2 : decode jX3_save.2.1 2 = .ok (.invokestatic 83, 3) := by decide +kernel
theorem dX3_save_5 : decode jX3_save.2.1 5 = .ok (.ifCond .eq 7, 3) := by decide +kernel
theorem dX3_save_8 : decode jX3_save.2.1 8 = .ok (.iconst 0, 1) := by decide +kernel
theorem dX3_save_9 : decode jX3_save.2.1 9 = .ok (.goto 4, 3) := by decide +kernel
theorem dX3_save_12 : decode jX3_save.2.1 12 = .ok (.iconst 1, 1) := by decide +kernel
theorem dX3_save_13 : decode jX3_save.2.1 13 = .ok (.putfield 37, 3) := by decide +kernel
theorem dX3_save_16 : decode jX3_save.2.1 16 = .ok (.aload_n 0, 1) := by decide +kernel
theorem dX3_save_17 : decode jX3_save.2.1 17 = .ok (.getfield 37, 3) := by decide +kernel
theorem dX3_save_20 : decode jX3_save.2.1 20 = .ok (.ifCond .le 4, 3) := by decide +kernel
theorem dX3_save_23 : decode jX3_save.2.1 23 = .ok (.return_, 1) := by decide +kernel
theorem dX3_save_24 : decode jX3_save.2.1 24 = .ok (.aload_n 0, 1) := by decide +kernel
theorem dX3_save_25 : decode jX3_save.2.1 25 = .ok (.getfield 20, 3) := by decide +kernel
theorem dX3_save_28 : decode jX3_save.2.1 28 = .ok (.iload_n 1, 1) := by decide +kernel
theorem dX3_save_29 : decode jX3_save.2.1 29 = .ok (.iconst 1, 1) := by decide +kernel
theorem dX3_save_30 : decode jX3_save.2.1 30 = .ok (.bastore, 1) := by decide +kernel
theorem dX3_save_31 : decode jX3_save.2.1 31 = .ok (.aload_n 0, 1) := by decide +kernel
theorem dX3_save_32 : decode jX3_save.2.1 32 = .ok (.getfield 17, 3) := by decide +kernel
theorem dX3_save_35 : decode jX3_save.2.1 35 = .ok (.iload_n 1, 1) := by decide +kernel
theorem dX3_save_36 : decode jX3_save.2.1 36 = .ok (.aload_n 0, 1) := by decide +kernel
theorem dX3_save_37 : decode jX3_save.2.1 37 = .ok (.getfield 17, 3) := by decide +kernel
theorem dX3_save_40 : decode jX3_save.2.1 40 = .ok (.iconst 4, 1) := by decide +kernel
theorem dX3_save_41 : decode jX3_save.2.1 41 = .ok (.iaload, 1) := by decide +kernel
theorem dX3_save_42 : decode jX3_save.2.1 42 = .ok (.iastore, 1) := by decide +kernel
theorem dX3_save_43 : decode jX3_save.2.1 43 = .ok (.iconst 0, 1) := by decide +kernel
theorem dX3_save_44 : decode jX3_save.2.1 44 = .ok (.istore_n 2, 1) := by decide +kernel
theorem dX3_save_45 : decode jX3_save.2.1 45 = .ok (.iload_n 2, 1) := by decide +kernel
theorem dX3_save_46 : decode jX3_save.2.1 46 = .ok (.aload_n 0, 1) := by decide +kernel
theorem dX3_save_47 : decode jX3_save.2.1 47 = .ok (.getfield 17, 3) := by decide +kernel
theorem dX3_save_50 : decode jX3_save.2.1 50 = .ok (.iconst 4, 1) := by decide +kernel
theorem dX3_save_51 : decode jX3_save.2.1 51 = .ok (.iaload, 1) := by decide +kernel
theorem dX3_save_52 : decode jX3_save.2.1 52 = .ok (.if_icmp .ge 53, 3) := by decide +kernel
theorem dX3_save_55 : decode jX3_save.2.1 55 = .ok (.aload_n 0, 1) := by decide +kernel
theorem dX3_save_56 : decode jX3_save.2.1 56 = .ok (.getfield 7, 3) := by decide +kernel
theorem dX3_save_59 : decode jX3_save.2.1 59 = .ok (.sipush 600, 3) := by decide +kernel
theorem dX3_save_62 : decode jX3_save.2.1 62 = .ok (.iload_n 1, 1) := by decide +kernel
theorem dX3_save_63 : decode jX3_save.2.1 63 = .ok (.imul, 1) := by decide +kernel
theorem dX3_save_64 : decode jX3_save.2.1 64 = .ok (.iload_n 2, 1) := by decide +kernel
theorem dX3_save_65 : decode jX3_save.2.1 65 = .ok (.iadd, 1) := by decide +kernel
theorem dX3_save_66 : decode jX3_save.2.1 66 = .ok (.aload_n 0, 1) := by decide +kernel
theorem dX3_save_67 : decode jX3_save.2.1 67 = .ok (.getfield 7, 3) := by decide +kernel
theorem dX3_save_70 : decode jX3_save.2.1 70 = .ok (.sipush 2400, 3) := by decide +kernel
theorem dX3_save_73 : decode jX3_save.2.1 73 = .ok (.iload_n 2, 1) := by decide +kernel
theorem dX3_save_74 : decode jX3_save.2.1 74 = .ok (.iadd, 1) := by decide +kernel
theorem dX3_save_75 : decode jX3_save.2.1 75 = .ok (.iaload, 1) := by decide +kernel
theorem dX3_save_76 : decode jX3_save.2.1 76 = .ok (.iastore, 1) := by decide +kernel
theorem dX3_save_77 : decode jX3_save.2.1 77 = .ok (.aload_n 0, 1) := by decide +kernel
theorem dX3_save_78 : decode jX3_save.2.1 78 = .ok (.getfield 13, 3) := by decide +kernel
theorem dX3_save_81 : decode jX3_save.2.1 81 = .ok (.sipush 600, 3) := by decide +kernel
theorem dX3_save_84 : decode jX3_save.2.1 84 = .ok (.iload_n 1, 1) := by decide +kernel
theorem dX3_save_85 : decode jX3_save.2.1 85 = .ok (.imul, 1) := by decide +kernel
theorem dX3_save_86 : decode jX3_save.2.1 86 = .ok (.iload_n 2, 1) := by decide +kernel
theorem dX3_save_87 : decode jX3_save.2.1 87 = .ok (.iadd, 1) := by decide +kernel
theorem dX3_save_88 : decode jX3_save.2.1 88 = .ok (.aload_n 0, 1) := by decide +kernel
theorem dX3_save_89 : decode jX3_save.2.1 89 = .ok (.getfield 13, 3) := by decide +kernel
theorem dX3_save_92 : decode jX3_save.2.1 92 = .ok (.sipush 2400, 3) := by decide +kernel
theorem dX3_save_95 : decode jX3_save.2.1 95 = .ok (.iload_n 2, 1) := by decide +kernel
theorem dX3_save_96 : decode jX3_save.2.1 96 = .ok (.iadd, 1) := by decide +kernel
theorem dX3_save_97 : decode jX3_save.2.1 97 = .ok (.laload, 1) := by decide +kernel
theorem dX3_save_98 : decode jX3_save.2.1 98 = .ok (.lastore, 1) := by decide +kernel
theorem dX3_save_99 : decode jX3_save.2.1 99 = .ok (.iinc 2 1, 3) := by decide +kernel
theorem dX3_save_102 : decode jX3_save.2.1 102 = .ok (.goto (-57), 3) := by decide +kernel
theorem dX3_save_105 : decode jX3_save.2.1 105 = .ok (.return_, 1) := by decide +kernel
theorem dX3_drop_0 : decode jX3_drop.2.1 0 = .ok (.aload_n 0, 1) := by decide +kernel
theorem dX3_drop_1 : decode jX3_drop.2.1 1 = .ok (.iload_n 1, 1) := by decide +kernel
theorem dX3_drop_2 : decode jX3_drop.2.1 2 = .ok (.invokestatic 83, 3) := by decide +kernel
theorem dX3_drop_5 : decode jX3_drop.2.1 5 = .ok (.ifCond .eq 7, 3) := by decide +kernel
theorem dX3_drop_8 : decode jX3_drop.2.1 8 = .ok (.iconst 0, 1) := by decide +kernel
theorem dX3_drop_9 : decode jX3_drop.2.1 9 = .ok (.goto 4, 3) := by decide +kernel
theorem dX3_drop_12 : decode jX3_drop.2.1 12 = .ok (.iconst 1, 1) := by decide +kernel
theorem dX3_drop_13 : decode jX3_drop.2.1 13 = .ok (.putfield 37, 3) := by decide +kernel
theorem dX3_drop_16 : decode jX3_drop.2.1 16 = .ok (.aload_n 0, 1) := by decide +kernel
theorem dX3_drop_17 : decode jX3_drop.2.1 17 = .ok (.getfield 37, 3) := by decide +kernel
theorem dX3_drop_20 : decode jX3_drop.2.1 20 = .ok (.ifCond .le 5, 3) := by decide +kernel
theorem dX3_drop_23 : decode jX3_drop.2.1 23 = .ok (.iconst 0, 1) := by decide +kernel
theorem dX3_drop_24 : decode jX3_drop.2.1 24 = .ok (.ireturn, 1) := by decide +kernel
theorem dX3_drop_25 : decode jX3_drop.2.1 25 = .ok (.aload_n 0, 1) := by decide +kernel
theorem dX3_drop_26 : decode jX3_drop.2.1 26 = .ok (.getfield 20, 3) := by decide +kernel
theorem dX3_drop_29 : decode jX3_drop.2.1 29 = .ok (.iload_n 1, 1) := by decide +kernel
theorem dX3_drop_30 : decode jX3_drop.2.1 30 = .ok (.baload, 1) := by decide +kernel
theorem dX3_drop_31 : decode jX3_drop.2.1 31 = .ok (.istore_n 2, 1) := by decide +kernel
theorem dX3_drop_32 : decode jX3_drop.2.1 32 = .ok (.aload_n 0, 1) := by decide +kernel
theorem dX3_drop_33 : decode jX3_drop.2.1 33 = .ok (.getfield 20, 3) := by decide +kernel
theorem dX3_drop_36 : decode jX3_drop.2.1 36 = .ok (.iload_n 1, 1) := by decide +kernel
theorem dX3_drop_37 : decode jX3_drop.2.1 37 = .ok (.iconst 0, 1) := by decide +kernel
theorem dX3_drop_38 : decode jX3_drop.2.1 38 = .ok (.bastore, 1) := by decide +kernel
theorem dX3_drop_39 : decode jX3_drop.2.1 39 = .ok (.iload_n 2, 1) := by decide +kernel
theorem dX3_drop_40 : decode jX3_drop.2.1 40 = .ok (.ireturn, 1) := by decide +kernel
theorem dX3_restore_0 : decode jX3_restore.2.1 0 = .ok (.iload_n 1, 1) := by decide +kernel
theorem dX3_restore_1 : decode jX3_restore.2.1 1 = .ok (.invokestatic 83, 3) := by decide +kernel
theorem dX3_restore_4 : decode jX3_restore.2.1 4 = .ok (.ifCond .eq 16, 3) := by decide +kernel
theorem dX3_restore_7 : decode jX3_restore.2.1 7 = .ok (.aload_n 0, 1) := by decide +kernel
theorem dX3_restore_8 : decode jX3_restore.2.1 8 = .ok (.getfield 20, 3) := by decide +kernel
theorem dX3_restore_11 : decode jX3_restore.2.1 11 = .ok (.iload_n 1, 1) := by decide +kernel
theorem dX3_restore_12 : decode jX3_restore.2.1 12 = .ok (.baload, 1) := by decide +kernel
theorem dX3_restore_13 : decode jX3_restore.2.1 13 = .ok (.ifCond .eq 7, 3) := by decide +kernel
theorem dX3_restore_16 : decode jX3_restore.2.1 16 = .ok (.iconst 1, 1) := by decide +kernel
theorem dX3_restore_17 : decode jX3_restore.2.1 17 = .ok (.goto 4, 3) := by decide +kernel
theorem dX3_restore_20 : decode jX3_restore.2.1 20 = .ok (.iconst 0, 1) := by decide +kernel
theorem dX3_restore_21 : decode jX3_restore.2.1 21 = .ok (.istore_n 2, 1) := by decide +kernel
theorem dX3_restore_22 : decode jX3_restore.2.1 22 = .ok (.aload_n 0, 1) := by decide +kernel
theorem dX3_restore_23 : decode jX3_restore.2.1 23 = .ok (.iload_n 2, 1) := by decide +kernel
theorem dX3_restore_24 : decode jX3_restore.2.1 24 = .ok (.ifCond .ne 7, 3) := by decide +kernel
theorem dX3_restore_27 : decode jX3_restore.2.1 27 = .ok (.iconst 1, 1) := by decide +kernel
theorem dX3_restore_28 : decode jX3_restore.2.1 28 = .ok (.goto 27, 3) := by decide +kernel
theorem dX3_restore_31 : decode jX3_restore.2.1 31 = .ok (.aload_n 0, 1) := by decide +kernel
theorem dX3_restore_32 : decode jX3_restore.2.1 32 = .ok (.getfield 65, 3) := by decide +kernel
theorem dX3_restore_35 : decode jX3_restore.2.1 35 = .ok (.iconst 1, 1) := by decide +kernel
theorem dX3_restore_36 : decode jX3_restore.2.1 36 = .ok (.iadd, 1) := by decide +kernel
theorem dX3_restore_37 : decode jX3_restore.2.1 37 = .ok (.aload_n 0, 1) := by decide +kernel
theorem dX3_restore_38 : decode jX3_restore.2.1 38 = .ok (.getfield 17, 3) := by decide +kernel
theorem dX3_restore_41 : decode jX3_restore.2.1 41 = .ok (.iload_n 1, 1) := by decide +kernel
theorem dX3_restore_42 : decode jX3_restore.2.1 42 = .ok (.iaload, 1) := by decide +kernel
theorem dX3_restore_43 : decode jX3_restore.2.1 43 = .ok (.iadd, 1) := by decide +kernel
theorem dX3_restore_44 : decode jX3_restore.2.1 44 = .ok (.sipush 2500, 3) := by decide +kernel
theorem dX3_restore_47 : decode jX3_restore.2.1 47 = .ok (.if_icmp .le 7, 3) := by decide +kernel
theorem dX3_restore_50 : decode jX3_restore.2.1 50 = .ok (.iconst 2, 1) := by decide +kernel
theorem dX3_restore_51 : decode jX3_restore.2.1 51 = .ok (.goto 4, 3) := by decide +kernel
theorem dX3_restore_54 : decode jX3_restore.2.1 54 = .ok (.iconst 0, 1) := by decide +kernel
theorem dX3_restore_55 : decode jX3_restore.2.1 55 = .ok (.putfield 37, 3) := by decide +kernel
theorem dX3_restore_58 : decode jX3_restore.2.1 58 = .ok (.aload_n 0, 1) := by decide +kernel
theorem dX3_restore_59 : decode jX3_restore.2.1 59 = .ok (.getfield 37, 3) := by decide +kernel
theorem dX3_restore_62 : decode jX3_restore.2.1 62 = .ok (.ifCond .le 5, 3) := by decide +kernel
theorem dX3_restore_65 : decode jX3_restore.2.1 65 = .ok (.iconst 0, 1) := by decide +kernel
theorem dX3_restore_66 : decode jX3_restore.2.1 66 = .ok (.ireturn, 1) := by decide +kernel
theorem dX3_restore_67 : decode jX3_restore.2.1 67 = .ok (.aload_n 0, 1) := by decide +kernel
theorem dX3_restore_68 : decode jX3_restore.2.1 68 = .ok (.iconst 3, 1) := by decide +kernel
theorem dX3_restore_69 : decode jX3_restore.2.1 69 = .ok (.ldc 86, 2) := by decide +kernel
theorem dX3_restore_71 : decode jX3_restore.2.1 71 = .ok (.ldc 87, 2) := by decide +kernel
theorem dX3_restore_73 : decode jX3_restore.2.1 73 = .ok (.lconst 0, 1) := by decide +kernel
theorem dX3_restore_74 : decode jX3_restore.2.1 74 = .ok (.invokevirtual 76, 3) := by decide +kernel
theorem dX3_restore_77 : decode jX3_restore.2.1 77 = .ok (.pop2, 1) := by decide +kernel
theorem dX3_restore_78 : decode jX3_restore.2.1 78 = .ok (.iconst 0, 1) := by decide +kernel
theorem dX3_restore_79 : decode jX3_restore.2.1 79 = .ok (.istore_n 3, 1) := by decide +kernel
theorem dX3_restore_80 : decode jX3_restore.2.1 80 = .ok (.iload_n 3, 1) := by decide +kernel
theorem dX3_restore_81 : decode jX3_restore.2.1 81 = .ok (.aload_n 0, 1) := by decide +kernel
theorem dX3_restore_82 : decode jX3_restore.2.1 82 = .ok (.getfield 17, 3) := by decide +kernel
theorem dX3_restore_85 : decode jX3_restore.2.1 85 = .ok (.iload_n 1, 1) := by decide +kernel
theorem dX3_restore_86 : decode jX3_restore.2.1 86 = .ok (.iaload, 1) := by decide +kernel
theorem dX3_restore_87 : decode jX3_restore.2.1 87 = .ok (.if_icmp .ge 51, 3) := by decide +kernel
theorem dX3_restore_90 : decode jX3_restore.2.1 90 = .ok (.aload_n 0, 1) := by decide +kernel
theorem dX3_restore_91 : decode jX3_restore.2.1 91 = .ok (.iconst 0, 1) := by decide +kernel
theorem dX3_restore_92 : decode jX3_restore.2.1 92 = .ok (.aload_n 0, 1) := by decide +kernel
theorem dX3_restore_93 : decode jX3_restore.2.1 93 = .ok (.getfield 7, 3) := by decide +kernel
theorem dX3_restore_96 : decode jX3_restore.2.1 96 = .ok (.sipush 600, 3) := by decide +kernel
theorem dX3_restore_99 : decode jX3_restore.2.1 99 = .ok (.iload_n 1, 1) := by decide +kernel
theorem dX3_restore_100 : decode jX3_restore.2.1 100 = .ok (.imul, 1) := by decide +kernel
theorem dX3_restore_101 : decode jX3_restore.2.1 101 = .ok (.iload_n 3, 1) := by decide +kernel
theorem dX3_restore_102 : decode jX3_restore.2.1 102 = .ok (.iadd, 1) := by decide +kernel
theorem dX3_restore_103 : decode jX3_restore.2.1 103 = .ok (.iaload, 1) := by decide +kernel
theorem dX3_restore_104 : decode jX3_restore.2.1 104 = .ok (.aload_n 0, 1) := by decide +kernel
theorem dX3_restore_105 : decode jX3_restore.2.1 105 = .ok (.getfield 7, 3) := by decide +kernel
theorem dX3_restore_108 : decode jX3_restore.2.1 108 = .ok (.sipush 600, 3) := by decide +kernel
theorem dX3_restore_111 : decode jX3_restore.2.1 111 = .ok (.iload_n 1, 1) := by decide +kernel
theorem dX3_restore_112 : decode jX3_restore.2.1 112 = .ok (.imul, 1) := by decide +kernel
theorem dX3_restore_113 : decode jX3_restore.2.1 113 = .ok (.iload_n 3, 1) := by decide +kernel
theorem dX3_restore_114 : decode jX3_restore.2.1 114 = .ok (.iadd, 1) := by decide +kernel
theorem dX3_restore_115 : decode jX3_restore.2.1 115 = .ok (.iaload, 1) := by decide +kernel
theorem dX3_restore_116 : decode jX3_restore.2.1 116 = .ok (.aload_n 0, 1) := by decide +kernel
theorem dX3_restore_117 : decode jX3_restore.2.1 117 = .ok (.getfield 13, 3) := by decide +kernel
theorem dX3_restore_120 : decode jX3_restore.2.1 120 = .ok (.sipush 600, 3) := by decide +kernel
theorem dX3_restore_123 : decode jX3_restore.2.1 123 = .ok (.iload_n 1, 1) := by decide +kernel
theorem dX3_restore_124 : decode jX3_restore.2.1 124 = .ok (.imul, 1) := by decide +kernel
theorem dX3_restore_125 : decode jX3_restore.2.1 125 = .ok (.iload_n 3, 1) := by decide +kernel
theorem dX3_restore_126 : decode jX3_restore.2.1 126 = .ok (.iadd, 1) := by decide +kernel
theorem dX3_restore_127 : decode jX3_restore.2.1 127 = .ok (.laload, 1) := by decide +kernel
theorem dX3_restore_128 : decode jX3_restore.2.1 128 = .ok (.invokevirtual 76, 3) := by decide +kernel
theorem dX3_restore_131 : decode jX3_restore.2.1 131 = .ok (.pop2, 1) := by decide +kernel
theorem dX3_restore_132 : decode jX3_restore.2.1 132 = .ok (.iinc 3 1, 3) := by decide +kernel
theorem dX3_restore_135 : decode jX3_restore.2.1 135 = .ok (.goto (-55), 3) := by decide +kernel
theorem dX3_restore_138 : decode jX3_restore.2.1 138 = .ok (.aload_n 0, 1) := by decide +kernel
theorem dX3_restore_139 : decode jX3_restore.2.1 139 = .ok (.getfield 65, 3) := by decide +kernel
theorem dX3_restore_142 : decode jX3_restore.2.1 142 = .ok (.ireturn, 1) := by decide +kernel
theorem dX3_differ_0 : decode jX3_differ.2.1 0 = .ok (.aload_n 0, 1) := by decide +kernel
theorem dX3_differ_1 : decode jX3_differ.2.1 1 = .ok (.iload_n 1, 1) := by decide +kernel
theorem dX3_differ_2 : decode jX3_differ.2.1 2 = .ok (.invokevirtual 79, 3) := by decide +kernel
theorem dX3_differ_5 : decode jX3_differ.2.1 5 = .ok (.istore_n 3, 1) := by decide +kernel
theorem dX3_differ_6 : decode jX3_differ.2.1 6 = .ok (.aload_n 0, 1) := by decide +kernel
theorem dX3_differ_7 : decode jX3_differ.2.1 7 = .ok (.iload_n 2, 1) := by decide +kernel
theorem dX3_differ_8 : decode jX3_differ.2.1 8 = .ok (.invokevirtual 79, 3) := by decide +kernel
theorem dX3_differ_11 : decode jX3_differ.2.1 11 = .ok (.istore 4, 2) := by decide +kernel
theorem dX3_differ_13 : decode jX3_differ.2.1 13 = .ok (.aload_n 0, 1) := by decide +kernel
theorem dX3_differ_14 : decode jX3_differ.2.1 14 = .ok (.iload_n 3, 1) := by decide +kernel
theorem dX3_differ_15 : decode jX3_differ.2.1 15 = .ok (.ifCond .lt 8, 3) := by decide +kernel
theorem dX3_differ_18 : decode jX3_differ.2.1 18 = .ok (.iload 4, 2) := by decide +kernel
theorem dX3_differ_20 : decode jX3_differ.2.1 20 = .ok (.ifCond .ge 7, 3) := by decide +kernel
theorem dX3_differ_23 : decode jX3_differ.2.1 23 = .ok (.iconst 1, 1) := by decide +kernel
theorem dX3_differ_24 : decode jX3_differ.2.1 24 = .ok (.goto 4, 3) := by decide +kernel
theorem dX3_differ_27 : decode jX3_differ.2.1 27 = .ok (.iconst 0, 1) := by decide +kernel
theorem dX3_differ_28 : decode jX3_differ.2.1 28 = .ok (.putfield 37, 3) := by decide +kernel
theorem dX3_differ_31 : decode jX3_differ.2.1 31 = .ok (.aload_n 0, 1) := by decide +kernel
theorem dX3_differ_32 : decode jX3_differ.2.1 32 = .ok (.getfield 37, 3) := by decide +kernel
theorem dX3_differ_35 : decode jX3_differ.2.1 35 = .ok (.ifCond .le 5, 3) := by decide +kernel
theorem dX3_differ_38 : decode jX3_differ.2.1 38 = .ok (.iconst 0, 1) := by decide +kernel
theorem dX3_differ_39 : decode jX3_differ.2.1 39 = .ok (.ireturn, 1) := by decide +kernel
theorem dX3_differ_40 : decode jX3_differ.2.1 40 = .ok (.iconst 0, 1) := by decide +kernel
theorem dX3_differ_41 : decode jX3_differ.2.1 41 = .ok (.istore 5, 2) := by decide +kernel
theorem dX3_differ_43 : decode jX3_differ.2.1 43 = .ok (.iconst 0, 1) := by decide +kernel
theorem dX3_differ_44 : decode jX3_differ.2.1 44 = .ok (.istore 6, 2) := by decide +kernel
theorem dX3_differ_46 : decode jX3_differ.2.1 46 = .ok (.iload 6, 2) := by decide +kernel
theorem dX3_differ_48 : decode jX3_differ.2.1 48 = .ok (.aload_n 0, 1) := by decide +kernel
theorem dX3_differ_49 : decode jX3_differ.2.1 49 = .ok (.getfield 17, 3) := by decide +kernel
theorem dX3_differ_52 : decode jX3_differ.2.1 52 = .ok (.iload_n 3, 1) := by decide +kernel
theorem dX3_differ_53 : decode jX3_differ.2.1 53 = .ok (.iaload, 1) := by decide +kernel
theorem dX3_differ_54 : decode jX3_differ.2.1 54 = .ok (.if_icmp .ge 71, 3) := by decide +kernel
theorem dX3_differ_57 : decode jX3_differ.2.1 57 = .ok (.aload_n 0, 1) := by decide +kernel
theorem dX3_differ_58 : decode jX3_differ.2.1 58 = .ok (.getfield 7, 3) := by decide +kernel
theorem dX3_differ_61 : decode jX3_differ.2.1 61 = .ok (.sipush 600, 3) := by decide +kernel
theorem dX3_differ_64 : decode jX3_differ.2.1 64 = .ok (.iload_n 3, 1) := by decide +kernel
theorem dX3_differ_65 : decode jX3_differ.2.1 65 = .ok (.imul, 1) := by decide +kernel
theorem dX3_differ_66 : decode jX3_differ.2.1 66 = .ok (.iload 6, 2) := by decide +kernel
theorem dX3_differ_68 : decode jX3_differ.2.1 68 = .ok (.iadd, 1) := by decide +kernel
theorem dX3_differ_69 : decode jX3_differ.2.1 69 = .ok (.iaload, 1) := by decide +kernel
theorem dX3_differ_70 : decode jX3_differ.2.1 70 = .ok (.istore 7, 2) := by decide +kernel
theorem dX3_differ_72 : decode jX3_differ.2.1 72 = .ok (.aload_n 0, 1) := by decide +kernel
theorem dX3_differ_73 : decode jX3_differ.2.1 73 = .ok (.iload 4, 2) := by decide +kernel
theorem dX3_differ_75 : decode jX3_differ.2.1 75 = .ok (.iload 7, 2) := by decide +kernel
theorem dX3_differ_77 : decode jX3_differ.2.1 77 = .ok (.invokevirtual 45, 3) := by decide +kernel
theorem dX3_differ_80 : decode jX3_differ.2.1 80 = .ok (.ifCond .eq 28, 3) := by decide +kernel
theorem dX3_differ_83 : decode jX3_differ.2.1 83 = .ok (.aload_n 0, 1) := by decide +kernel
theorem dX3_differ_84 : decode jX3_differ.2.1 84 = .ok (.iload 4, 2) := by decide +kernel
theorem dX3_differ_86 : decode jX3_differ.2.1 86 = .ok (.iload 7, 2) := by decide +kernel
theorem dX3_differ_88 : decode jX3_differ.2.1 88 = .ok (.invokevirtual 57, 3) := by decide +kernel
theorem dX3_differ_91 : decode jX3_differ.2.1 91 = .ok (.aload_n 0, 1) := by decide +kernel
theorem dX3_differ_92 : decode jX3_differ.2.1 92 = .ok (.getfield 13, 3) := by decide +kernel
theorem dX3_differ_95 : decode jX3_differ.2.1 95 = .ok (.sipush 600, 3) := by decide +kernel
theorem dX3_differ_98 : decode jX3_differ.2.1 98 = .ok (.iload_n 3, 1) := by decide +kernel
theorem dX3_differ_99 : decode jX3_differ.2.1 99 = .ok (.imul, 1) := by decide +kernel
theorem dX3_differ_100 : decode jX3_differ.2.1 100 = .ok (.iload 6, 2) := by decide +kernel
theorem dX3_differ_102 : decode jX3_differ.2.1 102 = .ok (.iadd, 1) := by decide +kernel
theorem dX3_differ_103 : decode jX3_differ.2.1 103 = .ok (.laload, 1) := by decide +kernel
theorem dX3_differ_104 : decode jX3_differ.2.1 104 = .ok (.lcmp, 1) := by decide +kernel
theorem dX3_differ_105 : decode jX3_differ.2.1 105 = .ok (.ifCond .eq 10, 3) := by decide +kernel
theorem dX3_differ_108 : decode jX3_differ.2.1 108 = .ok (.iload 5, 2) := by decide +kernel
theorem dX3_differ_110 : decode jX3_differ.2.1 110 = .ok (.iconst 1, 1) := by decide +kernel
theorem dX3_differ_111 : decode jX3_differ.2.1 111 = .ok (.iadd, 1) := by decide +kernel
theorem dX3_differ_112 : decode jX3_differ.2.1 112 = .ok (.goto 5, 3) := by decide +kernel
theorem dX3_differ_115 : decode jX3_differ.2.1 115 = .ok (.iload 5, 2) := by decide +kernel
theorem dX3_differ_117 : decode jX3_differ.2.1 117 = .ok (.istore 5, 2) := by decide +kernel
theorem dX3_differ_119 : decode jX3_differ.2.1 119 = .ok (.iinc 6 1, 3) := by decide +kernel
theorem dX3_differ_122 : decode jX3_differ.2.1 122 = .ok (.goto (-76), 3) := by decide +kernel
theorem dX3_differ_125 : decode jX3_differ.2.1 125 = .ok (.iconst 0, 1) := by decide +kernel
theorem dX3_differ_126 : decode jX3_differ.2.1 126 = .ok (.istore 6, 2) := by decide +kernel
theorem dX3_differ_128 : decode jX3_differ.2.1 128 = .ok (.iload 6, 2) := by decide +kernel
theorem dX3_differ_130 : decode jX3_differ.2.1 130 = .ok (.aload_n 0, 1) := by decide +kernel
theorem dX3_differ_131 : decode jX3_differ.2.1 131 = .ok (.getfield 17, 3) := by decide +kernel
theorem dX3_differ_134 : decode jX3_differ.2.1 134 = .ok (.iload 4, 2) := by decide +kernel
theorem dX3_differ_136 : decode jX3_differ.2.1 136 = .ok (.iaload, 1) := by decide +kernel
theorem dX3_differ_137 : decode jX3_differ.2.1 137 = .ok (.if_icmp .ge 42, 3) := by decide +kernel
theorem dX3_differ_140 : decode jX3_differ.2.1 140 = .ok (.aload_n 0, 1) := by decide +kernel
theorem dX3_differ_141 : decode jX3_differ.2.1 141 = .ok (.iload_n 3, 1) := by decide +kernel
theorem dX3_differ_142 : decode jX3_differ.2.1 142 = .ok (.aload_n 0, 1) := by decide +kernel
theorem dX3_differ_143 : decode jX3_differ.2.1 143 = .ok (.getfield 7, 3) := by decide +kernel
theorem dX3_differ_146 : decode jX3_differ.2.1 146 = .ok (.sipush 600, 3) := by decide +kernel
theorem dX3_differ_149 : decode jX3_differ.2.1 149 = .ok (.iload 4, 2) := by decide +kernel
theorem dX3_differ_151 : decode jX3_differ.2.1 151 = .ok (.imul, 1) := by decide +kernel
theorem dX3_differ_152 : decode jX3_differ.2.1 152 = .ok (.iload 6, 2) := by decide +kernel
theorem dX3_differ_154 : decode jX3_differ.2.1 154 = .ok (.iadd, 1) := by decide +kernel
theorem dX3_differ_155 : decode jX3_differ.2.1 155 = .ok (.iaload, 1) := by decide +kernel
theorem dX3_differ_156 : decode jX3_differ.2.1 156 = .ok (.invokevirtual 45, 3) := by decide +kernel
theorem dX3_differ_159 : decode jX3_differ.2.1 159 = .ok (.ifCond .eq 8, 3) := by decide +kernel
theorem dX3_differ_162 : decode jX3_differ.2.1 162 = .ok (.iload 5, 2) := by decide +kernel
theorem dX3_differ_164 : decode jX3_differ.2.1 164 = .ok (.goto 7, 3) := by decide +kernel
theorem dX3_differ_167 : decode jX3_differ.2.1 167 = .ok (.iload 5, 2) := by decide +kernel
theorem dX3_differ_169 : decode jX3_differ.2.1 169 = .ok (.iconst 1, 1) := by decide +kernel
theorem dX3_differ_170 : decode jX3_differ.2.1 170 = .ok (.iadd, 1) := by decide +kernel
theorem dX3_differ_171 : decode jX3_differ.2.1 171 = .ok (.istore 5, 2) := by decide +kernel
theorem dX3_differ_173 : decode jX3_differ.2.1 173 = .ok (.iinc 6 1, 3) := by decide +kernel
theorem dX3_differ_176 : decode jX3_differ.2.1 176 = .ok (.goto (-48), 3) := by decide +kernel
theorem dX3_differ_179 : decode jX3_differ.2.1 179 = .ok (.iload 5, 2) := by decide +kernel
theorem dX3_differ_181 : decode jX3_differ.2.1 181 = .ok (.ireturn, 1) := by decide +kernel
theorem dX3_settle_0 : decode jX3_settle.2.1 0 = .ok (.aload_n 0, 1) := by decide +kernel
theorem dX3_settle_1 : decode jX3_settle.2.1 1 = .ok (.iconst 0, 1) := by decide +kernel
theorem dX3_settle_2 : decode jX3_settle.2.1 2 = .ok (.putfield 37, 3) := by decide +kernel
theorem dX3_settle_5 : decode jX3_settle.2.1 5 = .ok (.return_, 1) := by decide +kernel
theorem dX3_sync_0 : decode jX3_sync.2.1 0 = .ok (.aload_n 0, 1) := by decide +kernel
theorem dX3_sync_1 : decode jX3_sync.2.1 1 = .ok (.iconst 0, 1) := by decide +kernel
theorem dX3_sync_2 : decode jX3_sync.2.1 2 = .ok (.putfield 37, 3) := by decide +kernel
theorem dX3_sync_5 : decode jX3_sync.2.1 5 = .ok (.aload_n 0, 1) := by decide +kernel
theorem dX3_sync_6 : decode jX3_sync.2.1 6 = .ok (.getfield 65, 3) := by decide +kernel
theorem dX3_sync_9 : decode jX3_sync.2.1 9 = .ok (.aload_n 0, 1) := by decide +kernel
theorem dX3_sync_10 : decode jX3_sync.2.1 10 = .ok (.getfield 88, 3) := by decide +kernel
theorem dX3_sync_13 : decode jX3_sync.2.1 13 = .ok (.isub, 1) := by decide +kernel
theorem dX3_sync_14 : decode jX3_sync.2.1 14 = .ok (.istore_n 1, 1) := by decide +kernel
theorem dX3_sync_15 : decode jX3_sync.2.1 15 = .ok (.aload_n 0, 1) := by decide +kernel
theorem dX3_sync_16 : decode jX3_sync.2.1 16 = .ok (.aload_n 0, 1) := by decide +kernel
theorem dX3_sync_17 : decode jX3_sync.2.1 17 = .ok (.getfield 65, 3) := by decide +kernel
theorem dX3_sync_20 : decode jX3_sync.2.1 20 = .ok (.putfield 88, 3) := by decide +kernel
theorem dX3_sync_23 : decode jX3_sync.2.1 23 = .ok (.iload_n 1, 1) := by decide +kernel
theorem dX3_sync_24 : decode jX3_sync.2.1 24 = .ok (.ireturn, 1) := by decide +kernel
theorem dX3_checkpoint_0 : decode jX3_checkpoint.2.1 0 = .ok (.aload_n 0, 1) := by decide +kernel
theorem dX3_checkpoint_1 : decode jX3_checkpoint.2.1 1 = .ok (.invokevirtual 91, 3) := by decide +kernel
theorem dX3_checkpoint_4 : decode jX3_checkpoint.2.1 4 = .ok (.ireturn, 1) := by decide +kernel
theorem dX3_crash_0 : decode jX3_crash.2.1 0 = .ok (.aload_n 0, 1) := by decide +kernel
theorem dX3_crash_1 : decode jX3_crash.2.1 1 = .ok (.iconst 0, 1) := by decide +kernel
theorem dX3_crash_2 : decode jX3_crash.2.1 2 = .ok (.putfield 37, 3) := by decide +kernel
theorem dX3_crash_5 : decode jX3_crash.2.1 5 = .ok (.aload_n 0, 1) := by decide +kernel
theorem dX3_crash_6 : decode jX3_crash.2.1 6 = .ok (.getfield 65, 3) := by decide +kernel
theorem dX3_crash_9 : decode jX3_crash.2.1 9 = .ok (.aload_n 0, 1) := by decide +kernel
theorem dX3_crash_10 : decode jX3_crash.2.1 10 = .ok (.getfield 88, 3) := by decide +kernel
theorem dX3_crash_13 : decode jX3_crash.2.1 13 = .ok (.isub, 1) := by decide +kernel
theorem dX3_crash_14 : decode jX3_crash.2.1 14 = .ok (.istore_n 1, 1) := by decide +kernel
theorem dX3_crash_15 : decode jX3_crash.2.1 15 = .ok (.aload_n 0, 1) := by decide +kernel
theorem dX3_crash_16 : decode jX3_crash.2.1 16 = .ok (.aload_n 0, 1) := by decide +kernel
theorem dX3_crash_17 : decode jX3_crash.2.1 17 = .ok (.getfield 88, 3) := by decide +kernel
theorem dX3_crash_20 : decode jX3_crash.2.1 20 = .ok (.putfield 65, 3) := by decide +kernel
theorem dX3_crash_23 : decode jX3_crash.2.1 23 = .ok (.aload_n 0, 1) := by decide +kernel
theorem dX3_crash_24 : decode jX3_crash.2.1 24 = .ok (.getfield 17, 3) := by decide +kernel
theorem dX3_crash_27 : decode jX3_crash.2.1 27 = .ok (.iconst 4, 1) := by decide +kernel
theorem dX3_crash_28 : decode jX3_crash.2.1 28 = .ok (.iconst 0, 1) := by decide +kernel
theorem dX3_crash_29 : decode jX3_crash.2.1 29 = .ok (.iastore, 1) := by decide +kernel
theorem dX3_crash_30 : decode jX3_crash.2.1 30 = .ok (.iconst 0, 1) := by decide +kernel
theorem dX3_crash_31 : decode jX3_crash.2.1 31 = .ok (.istore_n 2, 1) := by decide +kernel
theorem dX3_crash_32 : decode jX3_crash.2.1 32 = .ok (.iload_n 2, 1) := by decide +kernel
theorem dX3_crash_33 : decode jX3_crash.2.1 33 = .ok (.aload_n 0, 1) := by decide +kernel
theorem dX3_crash_34 : decode jX3_crash.2.1 34 = .ok (.getfield 88, 3) := by decide +kernel
theorem dX3_crash_37 : decode jX3_crash.2.1 37 = .ok (.if_icmp .ge 38, 3) := by decide +kernel
theorem dX3_crash_40 : decode jX3_crash.2.1 40 = .ok (.aload_n 0, 1) := by decide +kernel
theorem dX3_crash_41 : decode jX3_crash.2.1 41 = .ok (.aload_n 0, 1) := by decide +kernel
theorem dX3_crash_42 : decode jX3_crash.2.1 42 = .ok (.getfield 24, 3) := by decide +kernel
theorem dX3_crash_45 : decode jX3_crash.2.1 45 = .ok (.iload_n 2, 1) := by decide +kernel
theorem dX3_crash_46 : decode jX3_crash.2.1 46 = .ok (.baload, 1) := by decide +kernel
theorem dX3_crash_47 : decode jX3_crash.2.1 47 = .ok (.aload_n 0, 1) := by decide +kernel
theorem dX3_crash_48 : decode jX3_crash.2.1 48 = .ok (.getfield 28, 3) := by decide +kernel
theorem dX3_crash_51 : decode jX3_crash.2.1 51 = .ok (.iload_n 2, 1) := by decide +kernel
theorem dX3_crash_52 : decode jX3_crash.2.1 52 = .ok (.iaload, 1) := by decide +kernel
theorem dX3_crash_53 : decode jX3_crash.2.1 53 = .ok (.aload_n 0, 1) := by decide +kernel
theorem dX3_crash_54 : decode jX3_crash.2.1 54 = .ok (.getfield 31, 3) := by decide +kernel
theorem dX3_crash_57 : decode jX3_crash.2.1 57 = .ok (.iload_n 2, 1) := by decide +kernel
theorem dX3_crash_58 : decode jX3_crash.2.1 58 = .ok (.iaload, 1) := by decide +kernel
theorem dX3_crash_59 : decode jX3_crash.2.1 59 = .ok (.aload_n 0, 1) := by decide +kernel
theorem dX3_crash_60 : decode jX3_crash.2.1 60 = .ok (.getfield 34, 3) := by decide +kernel
theorem dX3_crash_63 : decode jX3_crash.2.1 63 = .ok (.iload_n 2, 1) := by decide +kernel
theorem dX3_crash_64 : decode jX3_crash.2.1 64 = .ok (.laload, 1) := by decide +kernel
theorem dX3_crash_65 : decode jX3_crash.2.1 65 = .ok (.invokevirtual 68, 3) := by decide +kernel
theorem dX3_crash_68 : decode jX3_crash.2.1 68 = .ok (.pop2, 1) := by decide +kernel
theorem dX3_crash_69 : decode jX3_crash.2.1 69 = .ok (.iinc 2 1, 3) := by decide +kernel
theorem dX3_crash_72 : decode jX3_crash.2.1 72 = .ok (.goto (-40), 3) := by decide +kernel
theorem dX3_crash_75 : decode jX3_crash.2.1 75 = .ok (.iconst 0, 1) := by decide +kernel
theorem dX3_crash_76 : decode jX3_crash.2.1 76 = .ok (.istore_n 2, 1) := by decide +kernel
theorem dX3_crash_77 : decode jX3_crash.2.1 77 = .ok (.iload_n 2, 1) := by decide +kernel
theorem dX3_crash_78 : decode jX3_crash.2.1 78 = .ok (.iconst 4, 1) := by decide +kernel
theorem dX3_crash_79 : decode jX3_crash.2.1 79 = .ok (.if_icmp .ge 16, 3) := by decide +kernel
theorem dX3_crash_82 : decode jX3_crash.2.1 82 = .ok (.aload_n 0, 1) := by decide +kernel
theorem dX3_crash_83 : decode jX3_crash.2.1 83 = .ok (.getfield 20, 3) := by decide +kernel
theorem dX3_crash_86 : decode jX3_crash.2.1 86 = .ok (.iload_n 2, 1) := by decide +kernel
theorem dX3_crash_87 : decode jX3_crash.2.1 87 = .ok (.iconst 0, 1) := by decide +kernel
theorem dX3_crash_88 : decode jX3_crash.2.1 88 = .ok (.bastore, 1) := by decide +kernel
theorem dX3_crash_89 : decode jX3_crash.2.1 89 = .ok (.iinc 2 1, 3) := by decide +kernel
theorem dX3_crash_92 : decode jX3_crash.2.1 92 = .ok (.goto (-15), 3) := by decide +kernel
theorem dX3_crash_95 : decode jX3_crash.2.1 95 = .ok (.iload_n 1, 1) := by decide +kernel
theorem dX3_crash_96 : decode jX3_crash.2.1 96 = .ok (.ireturn, 1) := by decide +kernel
theorem dX3_total_0 : decode jX3_total.2.1 0 = .ok (.aload_n 0, 1) := by decide +kernel
theorem dX3_total_1 : decode jX3_total.2.1 1 = .ok (.iload_n 1, 1) := by decide +kernel
theorem dX3_total_2 : decode jX3_total.2.1 2 = .ok (.ifCond .lt 12, 3) := by decide +kernel
theorem dX3_total_5 : decode jX3_total.2.1 5 = .ok (.iload_n 1, 1) := by decide +kernel
theorem dX3_total_6 : decode jX3_total.2.1 6 = .ok (.iconst 2, 1) := by decide +kernel
theorem dX3_total_7 : decode jX3_total.2.1 7 = .ok (.if_icmp .gt 7, 3) := by decide +kernel
theorem dX3_total_10 : decode jX3_total.2.1 10 = .ok (.iconst 0, 1) := by decide +kernel
theorem dX3_total_11 : decode jX3_total.2.1 11 = .ok (.goto 4, 3) := by decide +kernel
theorem dX3_total_14 : decode jX3_total.2.1 14 = .ok (.iconst 1, 1) := by decide +kernel
theorem dX3_total_15 : decode jX3_total.2.1 15 = .ok (.putfield 37, 3) := by decide +kernel
theorem dX3_total_18 : decode jX3_total.2.1 18 = .ok (.aload_n 0, 1) := by decide +kernel
theorem dX3_total_19 : decode jX3_total.2.1 19 = .ok (.getfield 37, 3) := by decide +kernel
theorem dX3_total_22 : decode jX3_total.2.1 22 = .ok (.ifCond .le 5, 3) := by decide +kernel
theorem dX3_total_25 : decode jX3_total.2.1 25 = .ok (.iconst 0, 1) := by decide +kernel
theorem dX3_total_26 : decode jX3_total.2.1 26 = .ok (.ireturn, 1) := by decide +kernel
theorem dX3_total_27 : decode jX3_total.2.1 27 = .ok (.iconst 0, 1) := by decide +kernel
theorem dX3_total_28 : decode jX3_total.2.1 28 = .ok (.istore_n 2, 1) := by decide +kernel
theorem dX3_total_29 : decode jX3_total.2.1 29 = .ok (.iconst 0, 1) := by decide +kernel
theorem dX3_total_30 : decode jX3_total.2.1 30 = .ok (.istore_n 3, 1) := by decide +kernel
theorem dX3_total_31 : decode jX3_total.2.1 31 = .ok (.iload_n 3, 1) := by decide +kernel
theorem dX3_total_32 : decode jX3_total.2.1 32 = .ok (.iconst 4, 1) := by decide +kernel
theorem dX3_total_33 : decode jX3_total.2.1 33 = .ok (.if_icmp .ge 26, 3) := by decide +kernel
theorem dX3_total_36 : decode jX3_total.2.1 36 = .ok (.aload_n 0, 1) := by decide +kernel
theorem dX3_total_37 : decode jX3_total.2.1 37 = .ok (.getfield 20, 3) := by decide +kernel
theorem dX3_total_40 : decode jX3_total.2.1 40 = .ok (.iload_n 3, 1) := by decide +kernel
theorem dX3_total_41 : decode jX3_total.2.1 41 = .ok (.baload, 1) := by decide +kernel
theorem dX3_total_42 : decode jX3_total.2.1 42 = .ok (.ifCond .eq 9, 3) := by decide +kernel
theorem dX3_total_45 : decode jX3_total.2.1 45 = .ok (.iload_n 2, 1) := by decide +kernel
theorem dX3_total_46 : decode jX3_total.2.1 46 = .ok (.iconst 1, 1) := by decide +kernel
theorem dX3_total_47 : decode jX3_total.2.1 47 = .ok (.iadd, 1) := by decide +kernel
theorem dX3_total_48 : decode jX3_total.2.1 48 = .ok (.goto 4, 3) := by decide +kernel
theorem dX3_total_51 : decode jX3_total.2.1 51 = .ok (.iload_n 2, 1) := by decide +kernel
theorem dX3_total_52 : decode jX3_total.2.1 52 = .ok (.istore_n 2, 1) := by decide +kernel
theorem dX3_total_53 : decode jX3_total.2.1 53 = .ok (.iinc 3 1, 3) := by decide +kernel
theorem dX3_total_56 : decode jX3_total.2.1 56 = .ok (.goto (-25), 3) := by decide +kernel
theorem dX3_total_59 : decode jX3_total.2.1 59 = .ok (.iload_n 1, 1) := by decide +kernel
theorem dX3_total_60 : decode jX3_total.2.1 60 = .ok (.ifCond .ne 10, 3) := by decide +kernel
theorem dX3_total_63 : decode jX3_total.2.1 63 = .ok (.aload_n 0, 1) := by decide +kernel
theorem dX3_total_64 : decode jX3_total.2.1 64 = .ok (.getfield 65, 3) := by decide +kernel
theorem dX3_total_67 : decode jX3_total.2.1 67 = .ok (.goto 16, 3) := by decide +kernel
theorem dX3_total_70 : decode jX3_total.2.1 70 = .ok (.iload_n 1, 1) := by decide +kernel
theorem dX3_total_71 : decode jX3_total.2.1 71 = .ok (.iconst 1, 1) := by decide +kernel
theorem dX3_total_72 : decode jX3_total.2.1 72 = .ok (.if_icmp .ne 10, 3) := by decide +kernel
theorem dX3_total_75 : decode jX3_total.2.1 75 = .ok (.aload_n 0, 1) := by decide +kernel
theorem dX3_total_76 : decode jX3_total.2.1 76 = .ok (.getfield 88, 3) := by decide +kernel
theorem dX3_total_79 : decode jX3_total.2.1 79 = .ok (.goto 4, 3) := by decide +kernel
theorem dX3_total_82 : decode jX3_total.2.1 82 = .ok (.iload_n 2, 1) := by decide +kernel
theorem dX3_total_83 : decode jX3_total.2.1 83 = .ok (.ireturn, 1) := by decide +kernel
theorem dX3_isSound_0 : decode jX3_isSound.2.1 0 = .ok (.aload_n 0, 1) := by decide +kernel
theorem dX3_isSound_1 : decode jX3_isSound.2.1 1 = .ok (.iconst 0, 1) := by decide +kernel
theorem dX3_isSound_2 : decode jX3_isSound.2.1 2 = .ok (.putfield 37, 3) := by decide +kernel
theorem dX3_isSound_5 : decode jX3_isSound.2.1 5 = .ok (.iconst 1, 1) := by decide +kernel
theorem dX3_isSound_6 : decode jX3_isSound.2.1 6 = .ok (.ireturn, 1) := by decide +kernel
