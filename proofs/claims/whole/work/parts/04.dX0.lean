/-! What each instruction is. Laid by wip/whole/gen/names.py. -/
theorem dX0_init_0 : decode jX0_init.2.1 0 = .ok (.aload_n 0, 1) := by decide +kernel
theorem dX0_init_1 : decode jX0_init.2.1 1 = .ok (.invokespecial 3, 3) := by decide +kernel
theorem dX0_init_4 : decode jX0_init.2.1 4 = .ok (.aload_n 0, 1) := by decide +kernel
theorem dX0_init_5 : decode jX0_init.2.1 5 = .ok (.bipush 32, 2) := by decide +kernel
theorem dX0_init_7 : decode jX0_init.2.1 7 = .ok (.newarray .int, 2) := by decide +kernel
theorem dX0_init_9 : decode jX0_init.2.1 9 = .ok (.putfield 9, 3) := by decide +kernel
theorem dX0_init_12 : decode jX0_init.2.1 12 = .ok (.aload_n 0, 1) := by decide +kernel
theorem dX0_init_13 : decode jX0_init.2.1 13 = .ok (.bipush 32, 2) := by decide +kernel
theorem dX0_init_15 : decode jX0_init.2.1 15 = .ok (.newarray .long, 2) := by decide +kernel
theorem dX0_init_17 : decode jX0_init.2.1 17 = .ok (.putfield 15, 3) := by decide +kernel
theorem dX0_init_20 : decode jX0_init.2.1 20 = .ok (.aload_n 0, 1) := by decide +kernel
theorem dX0_init_21 : decode jX0_init.2.1 21 = .ok (.iconst 0, 1) := by decide +kernel
theorem dX0_init_22 : decode jX0_init.2.1 22 = .ok (.putfield 19, 3) := by decide +kernel
theorem dX0_init_25 : decode jX0_init.2.1 25 = .ok (.aload_n 0, 1) := by decide +kernel
theorem dX0_init_26 : decode jX0_init.2.1 26 = .ok (.ldc 25, 2) := by decide +kernel
theorem dX0_init_28 : decode jX0_init.2.1 28 = .ok (.putfield 26, 3) := by decide +kernel
theorem dX0_init_31 : decode jX0_init.2.1 31 = .ok (.aload_n 0, 1) := by decide +kernel
theorem dX0_init_32 : decode jX0_init.2.1 32 = .ok (.ldc 29, 2) := by decide +kernel
theorem dX0_init_34 : decode jX0_init.2.1 34 = .ok (.putfield 30, 3) := by decide +kernel
theorem dX0_init_37 : decode jX0_init.2.1 37 = .ok (.aload_n 0, 1) := by decide +kernel
theorem dX0_init_38 : decode jX0_init.2.1 38 = .ok (.lconst 0, 1) := by decide +kernel
theorem dX0_init_39 : decode jX0_init.2.1 39 = .ok (.putfield 33, 3) := by decide +kernel
theorem dX0_init_42 : decode jX0_init.2.1 42 = .ok (.return_, 1) := by decide +kernel
theorem dX0_below_0 : decode jX0_below.2.1 0 = .ok (.iconst 0, 1) := by decide +kernel
theorem dX0_below_1 : decode jX0_below.2.1 1 = .ok (.istore_n 2, 1) := by decide +kernel
theorem dX0_below_2 : decode jX0_below.2.1 2 = .ok (.iload_n 2, 1) := by decide +kernel
theorem dX0_below_3 : decode jX0_below.2.1 3 = .ok (.aload_n 0, 1) := by decide +kernel
theorem dX0_below_4 : decode jX0_below.2.1 4 = .ok (.getfield 19, 3) := by decide +kernel
theorem dX0_below_7 : decode jX0_below.2.1 7 = .ok (.if_icmp .ge 19, 3) := by decide +kernel
theorem dX0_below_10 : decode jX0_below.2.1 10 = .ok (.aload_n 0, 1) := by decide +kernel
theorem dX0_below_11 : decode jX0_below.2.1 11 = .ok (.getfield 9, 3) := by decide +kernel
theorem dX0_below_14 : decode jX0_below.2.1 14 = .ok (.iload_n 2, 1) := by decide +kernel
theorem dX0_below_15 : decode jX0_below.2.1 15 = .ok (.iaload, 1) := by decide +kernel
theorem dX0_below_16 : decode jX0_below.2.1 16 = .ok (.iload_n 1, 1) := by decide +kernel
theorem dX0_below_17 : decode jX0_below.2.1 17 = .ok (.if_icmp .ge 9, 3) := by decide +kernel
theorem dX0_below_20 : decode jX0_below.2.1 20 = .ok (.iinc 2 1, 3) := by decide +kernel
theorem dX0_below_23 : decode jX0_below.2.1 23 = .ok (.goto (-21), 3) := by decide +kernel
theorem dX0_below_26 : decode jX0_below.2.1 26 = .ok (.iload_n 2, 1) := by decide +kernel
theorem dX0_below_27 : decode jX0_below.2.1 27 = .ok (.ireturn, 1) := by decide +kernel
theorem dX0_notAbove_0 : decode jX0_notAbove.2.1 0 = .ok (.aload_n 0, 1) := by decide +kernel
theorem dX0_notAbove_1 : decode jX0_notAbove.2.1 1 = .ok (.iload_n 1, 1) := by decide +kernel
theorem dX0_notAbove_2 : decode jX0_notAbove.2.1 2 = .ok (.invokevirtual 37, 3) := by decide +kernel
theorem dX0_notAbove_5 : decode jX0_notAbove.2.1 5 = .ok (.istore_n 2, 1) := by decide +kernel
theorem dX0_notAbove_6 : decode jX0_notAbove.2.1 6 = .ok (.aload_n 0, 1) := by decide +kernel
theorem dX0_notAbove_7 : decode jX0_notAbove.2.1 7 = .ok (.iload_n 2, 1) := by decide +kernel
theorem dX0_notAbove_8 : decode jX0_notAbove.2.1 8 = .ok (.iload_n 1, 1) := by decide +kernel
theorem dX0_notAbove_9 : decode jX0_notAbove.2.1 9 = .ok (.invokevirtual 41, 3) := by decide +kernel
theorem dX0_notAbove_12 : decode jX0_notAbove.2.1 12 = .ok (.ifCond .eq 9, 3) := by decide +kernel
theorem dX0_notAbove_15 : decode jX0_notAbove.2.1 15 = .ok (.iload_n 2, 1) := by decide +kernel
theorem dX0_notAbove_16 : decode jX0_notAbove.2.1 16 = .ok (.iconst 1, 1) := by decide +kernel
theorem dX0_notAbove_17 : decode jX0_notAbove.2.1 17 = .ok (.iadd, 1) := by decide +kernel
theorem dX0_notAbove_18 : decode jX0_notAbove.2.1 18 = .ok (.goto 4, 3) := by decide +kernel
theorem dX0_notAbove_21 : decode jX0_notAbove.2.1 21 = .ok (.iload_n 2, 1) := by decide +kernel
theorem dX0_notAbove_22 : decode jX0_notAbove.2.1 22 = .ok (.ireturn, 1) := by decide +kernel
theorem dX0_countIn_0 : decode jX0_countIn.2.1 0 = .ok (.aload_n 0, 1) := by decide +kernel
theorem dX0_countIn_1 : decode jX0_countIn.2.1 1 = .ok (.iload_n 2, 1) := by decide +kernel
theorem dX0_countIn_2 : decode jX0_countIn.2.1 2 = .ok (.invokevirtual 45, 3) := by decide +kernel
theorem dX0_countIn_5 : decode jX0_countIn.2.1 5 = .ok (.aload_n 0, 1) := by decide +kernel
theorem dX0_countIn_6 : decode jX0_countIn.2.1 6 = .ok (.iload_n 1, 1) := by decide +kernel
theorem dX0_countIn_7 : decode jX0_countIn.2.1 7 = .ok (.invokevirtual 37, 3) := by decide +kernel
theorem dX0_countIn_10 : decode jX0_countIn.2.1 10 = .ok (.isub, 1) := by decide +kernel
theorem dX0_countIn_11 : decode jX0_countIn.2.1 11 = .ok (.ireturn, 1) := by decide +kernel
theorem dX0_holdsAt_0 : decode jX0_holdsAt.2.1 0 = .ok (.iload_n 1, 1) := by decide +kernel
theorem dX0_holdsAt_1 : decode jX0_holdsAt.2.1 1 = .ok (.aload_n 0, 1) := by decide +kernel
theorem dX0_holdsAt_2 : decode jX0_holdsAt.2.1 2 = .ok (.getfield 19, 3) := by decide +kernel
theorem dX0_holdsAt_5 : decode jX0_holdsAt.2.1 5 = .ok (.if_icmp .ge 17, 3) := by decide +kernel
theorem dX0_holdsAt_8 : decode jX0_holdsAt.2.1 8 = .ok (.aload_n 0, 1) := by decide +kernel
theorem dX0_holdsAt_9 : decode jX0_holdsAt.2.1 9 = .ok (.getfield 9, 3) := by decide +kernel
theorem dX0_holdsAt_12 : decode jX0_holdsAt.2.1 12 = .ok (.iload_n 1, 1) := by decide +kernel
theorem dX0_holdsAt_13 : decode jX0_holdsAt.2.1 13 = .ok (.iaload, 1) := by decide +kernel
theorem dX0_holdsAt_14 : decode jX0_holdsAt.2.1 14 = .ok (.iload_n 2, 1) := by decide +kernel
theorem dX0_holdsAt_15 : decode jX0_holdsAt.2.1 15 = .ok (.if_icmp .ne 7, 3) := by decide +kernel
theorem dX0_holdsAt_18 : decode jX0_holdsAt.2.1 18 = .ok (.iconst 1, 1) := by decide +kernel
theorem dX0_holdsAt_19 : decode jX0_holdsAt.2.1 19 = .ok (.goto 4, 3) := by decide +kernel
theorem dX0_holdsAt_22 : decode jX0_holdsAt.2.1 22 = .ok (.iconst 0, 1) := by decide +kernel
theorem dX0_holdsAt_23 : decode jX0_holdsAt.2.1 23 = .ok (.ireturn, 1) := by decide +kernel
theorem dX0_valueAt_0 : decode jX0_valueAt.2.1 0 = .ok (.aload_n 0, 1) := by decide +kernel
theorem dX0_valueAt_1 : decode jX0_valueAt.2.1 1 = .ok (.getfield 15, 3) := by decide +kernel
theorem dX0_valueAt_4 : decode jX0_valueAt.2.1 4 = .ok (.iload_n 1, 1) := by decide +kernel
theorem dX0_valueAt_5 : decode jX0_valueAt.2.1 5 = .ok (.laload, 1) := by decide +kernel
theorem dX0_valueAt_6 : decode jX0_valueAt.2.1 6 = .ok (.aload_n 0, 1) := by decide +kernel
theorem dX0_valueAt_7 : decode jX0_valueAt.2.1 7 = .ok (.getfield 33, 3) := by decide +kernel
theorem dX0_valueAt_10 : decode jX0_valueAt.2.1 10 = .ok (.ladd, 1) := by decide +kernel
theorem dX0_valueAt_11 : decode jX0_valueAt.2.1 11 = .ok (.lreturn, 1) := by decide +kernel
theorem dX0_setValueAt_0 : decode jX0_setValueAt.2.1 0 = .ok (.aload_n 0, 1) := by decide +kernel
theorem dX0_setValueAt_1 : decode jX0_setValueAt.2.1 1 = .ok (.getfield 15, 3) := by decide +kernel
theorem dX0_setValueAt_4 : decode jX0_setValueAt.2.1 4 = .ok (.iload_n 1, 1) := by decide +kernel
theorem dX0_setValueAt_5 : decode jX0_setValueAt.2.1 5 = .ok (.lload_n 2, 1) := by decide +kernel
theorem dX0_setValueAt_6 : decode jX0_setValueAt.2.1 6 = .ok (.aload_n 0, 1) := by decide +kernel
theorem dX0_setValueAt_7 : decode jX0_setValueAt.2.1 7 = .ok (.getfield 33, 3) := by decide +kernel
theorem dX0_setValueAt_10 : decode jX0_setValueAt.2.1 10 = .ok (.lsub, 1) := by decide +kernel
theorem dX0_setValueAt_11 : decode jX0_setValueAt.2.1 11 = .ok (.lastore, 1) := by decide +kernel
theorem dX0_setValueAt_12 : decode jX0_setValueAt.2.1 12 = .ok (.return_, 1) := by decide +kernel
theorem dX0_insertAt_0 : decode jX0_insertAt.2.1 0 = .ok (.aload_n 0, 1) := by decide +kernel
theorem dX0_insertAt_1 : decode jX0_insertAt.2.1 1 = .ok (.getfield 9, 3) := by decide +kernel
theorem dX0_insertAt_4 : decode jX0_insertAt.2.1 4 = .ok (.iload_n 1, 1) := by decide +kernel
theorem dX0_insertAt_5 : decode jX0_insertAt.2.1 5 = .ok (.aload_n 0, 1) := by decide +kernel
theorem dX0_insertAt_6 : decode jX0_insertAt.2.1 6 = .ok (.getfield 9, 3) := by decide +kernel
theorem dX0_insertAt_9 : decode jX0_insertAt.2.1 9 = .ok (.iload_n 1, 1) := by decide +kernel
theorem dX0_insertAt_10 : decode jX0_insertAt.2.1 10 = .ok (.iconst 1, 1) := by decide +kernel
theorem dX0_insertAt_11 : decode jX0_insertAt.2.1 11 = .ok (.iadd, 1) := by decide +kernel
theorem dX0_insertAt_12 : decode jX0_insertAt.2.1 12 = .ok (.aload_n 0, 1) := by decide +kernel
theorem dX0_insertAt_13 : decode jX0_insertAt.2.1 13 = .ok (.getfield 19, 3) := by decide +kernel
theorem dX0_insertAt_16 : decode jX0_insertAt.2.1 16 = .ok (.iload_n 1, 1) := by decide +kernel
theorem dX0_insertAt_17 : decode jX0_insertAt.2.1 17 = .ok (.isub, 1) := by decide +kernel
theorem dX0_insertAt_18 : decode jX0_insertAt.2.1 18 = .ok (.invokestatic 48, 3) := by decide +kernel
theorem dX0_insertAt_21 : decode jX0_insertAt.2.1 21 = .ok (.aload_n 0, 1) := by decide +kernel
theorem dX0_insertAt_22 : decode jX0_insertAt.2.1 22 = .ok (.getfield 15, 3) := by decide +kernel
theorem dX0_insertAt_25 : decode jX0_insertAt.2.1 25 = .ok (.iload_n 1, 1) := by decide +kernel
theorem dX0_insertAt_26 : decode jX0_insertAt.2.1 26 = .ok (.aload_n 0, 1) := by decide +kernel
theorem dX0_insertAt_27 : decode jX0_insertAt.2.1 27 = .ok (.getfield 15, 3) := by decide +kernel
theorem dX0_insertAt_30 : decode jX0_insertAt.2.1 30 = .ok (.iload_n 1, 1) := by decide +kernel
theorem dX0_insertAt_31 : decode jX0_insertAt.2.1 31 = .ok (.iconst 1, 1) := by decide +kernel
theorem dX0_insertAt_32 : decode jX0_insertAt.2.1 32 = .ok (.iadd, 1) := by decide +kernel
theorem dX0_insertAt_33 : decode jX0_insertAt.2.1 33 = .ok (.aload_n 0, 1) := by decide +kernel
theorem dX0_insertAt_34 : decode jX0_insertAt.2.1 34 = .ok (.getfield 19, 3) := by decide +kernel
theorem dX0_insertAt_37 : decode jX0_insertAt.2.1 37 = .ok (.iload_n 1, 1) := by decide +kernel
theorem dX0_insertAt_38 : decode jX0_insertAt.2.1 38 = .ok (.isub, 1) := by decide +kernel
theorem dX0_insertAt_39 : decode jX0_insertAt.2.1 39 = .ok (.invokestatic 48, 3) := by decide +kernel
theorem dX0_insertAt_42 : decode jX0_insertAt.2.1 42 = .ok (.aload_n 0, 1) := by decide +kernel
theorem dX0_insertAt_43 : decode jX0_insertAt.2.1 43 = .ok (.dup, 1) := by decide +kernel
theorem dX0_insertAt_44 : decode jX0_insertAt.2.1 44 = .ok (.getfield 19, 3) := by decide +kernel
theorem dX0_insertAt_47 : decode jX0_insertAt.2.1 47 = .ok (.iconst 1, 1) := by decide +kernel
theorem dX0_insertAt_48 : decode jX0_insertAt.2.1 48 = .ok (.iadd, 1) := by decide +kernel
theorem dX0_insertAt_49 : decode jX0_insertAt.2.1 49 = .ok (.putfield 19, 3) := by decide +kernel
theorem dX0_insertAt_52 : decode jX0_insertAt.2.1 52 = .ok (.aload_n 0, 1) := by decide +kernel
theorem dX0_insertAt_53 : decode jX0_insertAt.2.1 53 = .ok (.getfield 9, 3) := by decide +kernel
theorem dX0_insertAt_56 : decode jX0_insertAt.2.1 56 = .ok (.iload_n 1, 1) := by decide +kernel
theorem dX0_insertAt_57 : decode jX0_insertAt.2.1 57 = .ok (.iload_n 2, 1) := by decide +kernel
theorem dX0_insertAt_58 : decode jX0_insertAt.2.1 58 = .ok (.iastore, 1) := by decide +kernel
theorem dX0_insertAt_59 : decode jX0_insertAt.2.1 59 = .ok (.aload_n 0, 1) := by decide +kernel
theorem dX0_insertAt_60 : decode jX0_insertAt.2.1 60 = .ok (.iload_n 1, 1) := by decide +kernel
theorem dX0_insertAt_61 : decode jX0_insertAt.2.1 61 = .ok (.lload_n 3, 1) := by decide +kernel
theorem dX0_insertAt_62 : decode jX0_insertAt.2.1 62 = .ok (.invokevirtual 54, 3) := by decide +kernel
theorem dX0_insertAt_65 : decode jX0_insertAt.2.1 65 = .ok (.return_, 1) := by decide +kernel
theorem dX0_removeIn_0 : decode jX0_removeIn.2.1 0 = .ok (.aload_n 0, 1) := by decide +kernel
theorem dX0_removeIn_1 : decode jX0_removeIn.2.1 1 = .ok (.iload_n 1, 1) := by decide +kernel
theorem dX0_removeIn_2 : decode jX0_removeIn.2.1 2 = .ok (.invokevirtual 37, 3) := by decide +kernel
theorem dX0_removeIn_5 : decode jX0_removeIn.2.1 5 = .ok (.istore_n 3, 1) := by decide +kernel
theorem dX0_removeIn_6 : decode jX0_removeIn.2.1 6 = .ok (.aload_n 0, 1) := by decide +kernel
theorem dX0_removeIn_7 : decode jX0_removeIn.2.1 7 = .ok (.iload_n 2, 1) := by decide +kernel
theorem dX0_removeIn_8 : decode jX0_removeIn.2.1 8 = .ok (.invokevirtual 45, 3) := by decide +kernel
theorem dX0_removeIn_11 : decode jX0_removeIn.2.1 11 = .ok (.istore 4, 2) := by decide +kernel
theorem dX0_removeIn_13 : decode jX0_removeIn.2.1 13 = .ok (.aload_n 0, 1) := by decide +kernel
theorem dX0_removeIn_14 : decode jX0_removeIn.2.1 14 = .ok (.getfield 9, 3) := by decide +kernel
theorem dX0_removeIn_17 : decode jX0_removeIn.2.1 17 = .ok (.iload 4, 2) := by decide +kernel
theorem dX0_removeIn_19 : decode jX0_removeIn.2.1 19 = .ok (.aload_n 0, 1) := by decide +kernel
theorem dX0_removeIn_20 : decode jX0_removeIn.2.1 20 = .ok (.getfield 9, 3) := by decide +kernel
theorem dX0_removeIn_23 : decode jX0_removeIn.2.1 23 = .ok (.iload_n 3, 1) := by decide +kernel
theorem dX0_removeIn_24 : decode jX0_removeIn.2.1 24 = .ok (.aload_n 0, 1) := by decide +kernel
theorem dX0_removeIn_25 : decode jX0_removeIn.2.1 25 = .ok (.getfield 19, 3) := by decide +kernel
theorem dX0_removeIn_28 : decode jX0_removeIn.2.1 28 = .ok (.iload 4, 2) := by decide +kernel
theorem dX0_removeIn_30 : decode jX0_removeIn.2.1 30 = .ok (.isub, 1) := by decide +kernel
theorem dX0_removeIn_31 : decode jX0_removeIn.2.1 31 = .ok (.invokestatic 48, 3) := by decide +kernel
theorem dX0_removeIn_34 : decode jX0_removeIn.2.1 34 = .ok (.aload_n 0, 1) := by decide +kernel
theorem dX0_removeIn_35 : decode jX0_removeIn.2.1 35 = .ok (.getfield 15, 3) := by decide +kernel
theorem dX0_removeIn_38 : decode jX0_removeIn.2.1 38 = .ok (.iload 4, 2) := by decide +kernel
theorem dX0_removeIn_40 : decode jX0_removeIn.2.1 40 = .ok (.aload_n 0, 1) := by decide +kernel
theorem dX0_removeIn_41 : decode jX0_removeIn.2.1 41 = .ok (.getfield 15, 3) := by decide +kernel
theorem dX0_removeIn_44 : decode jX0_removeIn.2.1 44 = .ok (.iload_n 3, 1) := by decide +kernel
theorem dX0_removeIn_45 : decode jX0_removeIn.2.1 45 = .ok (.aload_n 0, 1) := by decide +kernel
theorem dX0_removeIn_46 : decode jX0_removeIn.2.1 46 = .ok (.getfield 19, 3) := by decide +kernel
theorem dX0_removeIn_49 : decode jX0_removeIn.2.1 49 = .ok (.iload 4, 2) := by decide +kernel
theorem dX0_removeIn_51 : decode jX0_removeIn.2.1 51 = .ok (.isub, 1) := by decide +kernel
theorem dX0_removeIn_52 : decode jX0_removeIn.2.1 52 = .ok (.invokestatic 48, 3) := by decide +kernel
theorem dX0_removeIn_55 : decode jX0_removeIn.2.1 55 = .ok (.aload_n 0, 1) := by decide +kernel
theorem dX0_removeIn_56 : decode jX0_removeIn.2.1 56 = .ok (.dup, 1) := by decide +kernel
theorem dX0_removeIn_57 : decode jX0_removeIn.2.1 57 = .ok (.getfield 19, 3) := by decide +kernel
theorem dX0_removeIn_60 : decode jX0_removeIn.2.1 60 = .ok (.iload 4, 2) := by decide +kernel
theorem dX0_removeIn_62 : decode jX0_removeIn.2.1 62 = .ok (.iload_n 3, 1) := by decide +kernel
theorem dX0_removeIn_63 : decode jX0_removeIn.2.1 63 = .ok (.isub, 1) := by decide +kernel
theorem dX0_removeIn_64 : decode jX0_removeIn.2.1 64 = .ok (.isub, 1) := by decide +kernel
theorem dX0_removeIn_65 : decode jX0_removeIn.2.1 65 = .ok (.putfield 19, 3) := by decide +kernel
theorem dX0_removeIn_68 : decode jX0_removeIn.2.1 68 = .ok (.return_, 1) := by decide +kernel
theorem dX0_raiseIn_0 : decode jX0_raiseIn.2.1 0 = .ok (.aload_n 0, 1) := by decide +kernel
theorem dX0_raiseIn_1 : decode jX0_raiseIn.2.1 1 = .ok (.iload_n 1, 1) := by decide +kernel
theorem dX0_raiseIn_2 : decode jX0_raiseIn.2.1 2 = .ok (.invokevirtual 37, 3) := by decide +kernel
theorem dX0_raiseIn_5 : decode jX0_raiseIn.2.1 5 = .ok (.istore 5, 2) := by decide +kernel
theorem dX0_raiseIn_7 : decode jX0_raiseIn.2.1 7 = .ok (.aload_n 0, 1) := by decide +kernel
theorem dX0_raiseIn_8 : decode jX0_raiseIn.2.1 8 = .ok (.iload_n 2, 1) := by decide +kernel
theorem dX0_raiseIn_9 : decode jX0_raiseIn.2.1 9 = .ok (.invokevirtual 45, 3) := by decide +kernel
theorem dX0_raiseIn_12 : decode jX0_raiseIn.2.1 12 = .ok (.istore 6, 2) := by decide +kernel
theorem dX0_raiseIn_14 : decode jX0_raiseIn.2.1 14 = .ok (.iload 5, 2) := by decide +kernel
theorem dX0_raiseIn_16 : decode jX0_raiseIn.2.1 16 = .ok (.ifCond .ne 23, 3) := by decide +kernel
theorem dX0_raiseIn_19 : decode jX0_raiseIn.2.1 19 = .ok (.iload 6, 2) := by decide +kernel
theorem dX0_raiseIn_21 : decode jX0_raiseIn.2.1 21 = .ok (.aload_n 0, 1) := by decide +kernel
theorem dX0_raiseIn_22 : decode jX0_raiseIn.2.1 22 = .ok (.getfield 19, 3) := by decide +kernel
theorem dX0_raiseIn_25 : decode jX0_raiseIn.2.1 25 = .ok (.if_icmp .ne 14, 3) := by decide +kernel
theorem dX0_raiseIn_28 : decode jX0_raiseIn.2.1 28 = .ok (.aload_n 0, 1) := by decide +kernel
theorem dX0_raiseIn_29 : decode jX0_raiseIn.2.1 29 = .ok (.dup, 1) := by decide +kernel
theorem dX0_raiseIn_30 : decode jX0_raiseIn.2.1 30 = .ok (.getfield 33, 3) := by decide +kernel
theorem dX0_raiseIn_33 : decode jX0_raiseIn.2.1 33 = .ok (.lload_n 3, 1) := by decide +kernel
theorem dX0_raiseIn_34 : decode jX0_raiseIn.2.1 34 = .ok (.ladd, 1) := by decide +kernel
theorem dX0_raiseIn_35 : decode jX0_raiseIn.2.1 35 = .ok (.putfield 33, 3) := by decide +kernel
theorem dX0_raiseIn_38 : decode jX0_raiseIn.2.1 38 = .ok (.return_, 1) := by decide +kernel
theorem dX0_raiseIn_39 : decode jX0_raiseIn.2.1 39 = .ok (.iload 5, 2) := by decide +kernel
theorem dX0_raiseIn_41 : decode jX0_raiseIn.2.1 41 = .ok (.istore 7, 2) := by decide +kernel
theorem dX0_raiseIn_43 : decode jX0_raiseIn.2.1 43 = .ok (.iload 7, 2) := by decide +kernel
theorem dX0_raiseIn_45 : decode jX0_raiseIn.2.1 45 = .ok (.iload 6, 2) := by decide +kernel
theorem dX0_raiseIn_47 : decode jX0_raiseIn.2.1 47 = .ok (.if_icmp .ge 20, 3) := by decide +kernel
theorem dX0_raiseIn_50 : decode jX0_raiseIn.2.1 50 = .ok (.aload_n 0, 1) := by decide +kernel
theorem dX0_raiseIn_51 : decode jX0_raiseIn.2.1 51 = .ok (.getfield 15, 3) := by decide +kernel
theorem dX0_raiseIn_54 : decode jX0_raiseIn.2.1 54 = .ok (.iload 7, 2) := by decide +kernel
theorem dX0_raiseIn_56 : decode jX0_raiseIn.2.1 56 = .ok (.dup2, 1) := by decide +kernel
theorem dX0_raiseIn_57 : decode jX0_raiseIn.2.1 57 = .ok (.laload, 1) := by decide +kernel
theorem dX0_raiseIn_58 : decode jX0_raiseIn.2.1 58 = .ok (.lload_n 3, 1) := by decide +kernel
theorem dX0_raiseIn_59 : decode jX0_raiseIn.2.1 59 = .ok (.ladd, 1) := by decide +kernel
theorem dX0_raiseIn_60 : decode jX0_raiseIn.2.1 60 = .ok (.lastore, 1) := by decide +kernel
theorem dX0_raiseIn_61 : decode jX0_raiseIn.2.1 61 = .ok (.iinc 7 1, 3) := by decide +kernel
theorem dX0_raiseIn_64 : decode jX0_raiseIn.2.1 64 = .ok (.goto (-21), 3) := by decide +kernel
theorem dX0_raiseIn_67 : decode jX0_raiseIn.2.1 67 = .ok (.return_, 1) := by decide +kernel
theorem dX0_sumIn_0 : decode jX0_sumIn.2.1 0 = .ok (.aload_n 0, 1) := by decide +kernel
theorem dX0_sumIn_1 : decode jX0_sumIn.2.1 1 = .ok (.iload_n 2, 1) := by decide +kernel
theorem dX0_sumIn_2 : decode jX0_sumIn.2.1 2 = .ok (.invokevirtual 45, 3) := by decide +kernel
theorem dX0_sumIn_5 : decode jX0_sumIn.2.1 5 = .ok (.istore_n 3, 1) := by decide +kernel
theorem dX0_sumIn_6 : decode jX0_sumIn.2.1 6 = .ok (.lconst 0, 1) := by decide +kernel
theorem dX0_sumIn_7 : decode jX0_sumIn.2.1 7 = .ok (.lstore 4, 2) := by decide +kernel
theorem dX0_sumIn_9 : decode jX0_sumIn.2.1 9 = .ok (.aload_n 0, 1) := by decide +kernel
theorem dX0_sumIn_10 : decode jX0_sumIn.2.1 10 = .ok (.iload_n 1, 1) := by decide +kernel
theorem dX0_sumIn_11 : decode jX0_sumIn.2.1 11 = .ok (.invokevirtual 37, 3) := by decide +kernel
theorem dX0_sumIn_14 : decode jX0_sumIn.2.1 14 = .ok (.istore 6, 2) := by decide +kernel
theorem dX0_sumIn_16 : decode jX0_sumIn.2.1 16 = .ok (.iload 6, 2) := by decide +kernel
theorem dX0_sumIn_18 : decode jX0_sumIn.2.1 18 = .ok (.iload_n 3, 1) := by decide +kernel
theorem dX0_sumIn_19 : decode jX0_sumIn.2.1 19 = .ok (.if_icmp .ge 20, 3) := by decide +kernel
theorem dX0_sumIn_22 : decode jX0_sumIn.2.1 22 = .ok (.lload 4, 2) := by decide +kernel
theorem dX0_sumIn_24 : decode jX0_sumIn.2.1 24 = .ok (.aload_n 0, 1) := by decide +kernel
theorem dX0_sumIn_25 : decode jX0_sumIn.2.1 25 = .ok (.iload 6, 2) := by decide +kernel
theorem dX0_sumIn_27 : decode jX0_sumIn.2.1 27 = .ok (.invokevirtual 58, 3) := by decide +kernel
theorem dX0_sumIn_30 : decode jX0_sumIn.2.1 30 = .ok (.ladd, 1) := by decide +kernel
theorem dX0_sumIn_31 : decode jX0_sumIn.2.1 31 = .ok (.lstore 4, 2) := by decide +kernel
theorem dX0_sumIn_33 : decode jX0_sumIn.2.1 33 = .ok (.iinc 6 1, 3) := by decide +kernel
theorem dX0_sumIn_36 : decode jX0_sumIn.2.1 36 = .ok (.goto (-20), 3) := by decide +kernel
theorem dX0_sumIn_39 : decode jX0_sumIn.2.1 39 = .ok (.lload 4, 2) := by decide +kernel
theorem dX0_sumIn_41 : decode jX0_sumIn.2.1 41 = .ok (.lreturn, 1) := by decide +kernel
theorem dX0_pushDown_0 : decode jX0_pushDown.2.1 0 = .ok (.iconst 0, 1) := by decide +kernel
theorem dX0_pushDown_1 : decode jX0_pushDown.2.1 1 = .ok (.istore_n 1, 1) := by decide +kernel
theorem dX0_pushDown_2 : decode jX0_pushDown.2.1 2 = .ok (.iload_n 1, 1) := by decide +kernel
theorem dX0_pushDown_3 : decode jX0_pushDown.2.1 3 = .ok (.aload_n 0, 1) := by decide +kernel
theorem dX0_pushDown_4 : decode jX0_pushDown.2.1 4 = .ok (.getfield 19, 3) := by decide +kernel
theorem dX0_pushDown_7 : decode jX0_pushDown.2.1 7 = .ok (.if_icmp .ge 22, 3) := by decide +kernel
theorem dX0_pushDown_10 : decode jX0_pushDown.2.1 10 = .ok (.aload_n 0, 1) := by decide +kernel
theorem dX0_pushDown_11 : decode jX0_pushDown.2.1 11 = .ok (.getfield 15, 3) := by decide +kernel
theorem dX0_pushDown_14 : decode jX0_pushDown.2.1 14 = .ok (.iload_n 1, 1) := by decide +kernel
theorem dX0_pushDown_15 : decode jX0_pushDown.2.1 15 = .ok (.dup2, 1) := by decide +kernel
theorem dX0_pushDown_16 : decode jX0_pushDown.2.1 16 = .ok (.laload, 1) := by decide +kernel
theorem dX0_pushDown_17 : decode jX0_pushDown.2.1 17 = .ok (.aload_n 0, 1) := by decide +kernel
theorem dX0_pushDown_18 : decode jX0_pushDown.2.1 18 = .ok (.getfield 33, 3) := by decide +kernel
theorem dX0_pushDown_21 : decode jX0_pushDown.2.1 21 = .ok (.ladd, 1) := by decide +kernel
theorem dX0_pushDown_22 : decode jX0_pushDown.2.1 22 = .ok (.lastore, 1) := by decide +kernel
theorem dX0_pushDown_23 : decode jX0_pushDown.2.1 23 = .ok (.iinc 1 1, 3) := by decide +kernel
theorem dX0_pushDown_26 : decode jX0_pushDown.2.1 26 = .ok (.goto (-24), 3) := by decide +kernel
theorem dX0_pushDown_29 : decode jX0_pushDown.2.1 29 = .ok (.aload_n 0, 1) := by decide +kernel
theorem dX0_pushDown_30 : decode jX0_pushDown.2.1 30 = .ok (.lconst 0, 1) := by decide +kernel
theorem dX0_pushDown_31 : decode jX0_pushDown.2.1 31 = .ok (.putfield 33, 3) := by decide +kernel
theorem dX0_pushDown_34 : decode jX0_pushDown.2.1 34 = .ok (.return_, 1) := by decide +kernel
theorem dX0_giveUpperHalfTo_0 : decode jX0_giveUpperHalfTo.2.1 0 = .ok (.aload_n 0, 1) := by decide +kernel
theorem dX0_giveUpperHalfTo_1 : decode jX0_giveUpperHalfTo.2.1 1 = .ok (.getfield 19, 3) := by decide +kernel
theorem dX0_giveUpperHalfTo_4 : decode jX0_giveUpperHalfTo.2.1 4 = .ok (.iconst 2, 1) := by decide +kernel
theorem dX0_giveUpperHalfTo_5 : decode jX0_giveUpperHalfTo.2.1 5 = .ok (.idiv, 1) := by decide +kernel
theorem dX0_giveUpperHalfTo_6 : decode jX0_giveUpperHalfTo.2.1 6 = .ok (.istore_n 2, 1) := by decide +kernel
theorem dX0_giveUpperHalfTo_7 : decode jX0_giveUpperHalfTo.2.1 7 = .ok (.aload_n 1, 1) := by decide +kernel
theorem dX0_giveUpperHalfTo_8 : decode jX0_giveUpperHalfTo.2.1 8 = .ok (.aload_n 0, 1) := by decide +kernel
theorem dX0_giveUpperHalfTo_9 : decode jX0_giveUpperHalfTo.2.1 9 = .ok (.getfield 19, 3) := by decide +kernel
theorem dX0_giveUpperHalfTo_12 : decode jX0_giveUpperHalfTo.2.1 12 = .ok (.iload_n 2, 1) := by decide +kernel
theorem dX0_giveUpperHalfTo_13 : decode jX0_giveUpperHalfTo.2.1 13 = .ok (.isub, 1) := by decide +kernel
theorem dX0_giveUpperHalfTo_14 : decode jX0_giveUpperHalfTo.2.1 14 = .ok (.putfield 19, 3) := by decide +kernel
theorem dX0_giveUpperHalfTo_17 : decode jX0_giveUpperHalfTo.2.1 17 = .ok (.aload_n 0, 1) := by decide +kernel
theorem dX0_giveUpperHalfTo_18 : decode jX0_giveUpperHalfTo.2.1 18 = .ok (.getfield 9, 3) := by decide +kernel
theorem dX0_giveUpperHalfTo_21 : decode jX0_giveUpperHalfTo.2.1 21 = .ok (.iload_n 2, 1) := by decide +kernel
theorem dX0_giveUpperHalfTo_22 : decode jX0_giveUpperHalfTo.2.1 22 = .ok (.aload_n 1, 1) := by decide +kernel
theorem dX0_giveUpperHalfTo_23 : decode jX0_giveUpperHalfTo.2.1 23 = .ok (.getfield 9, 3) := by decide +kernel
theorem dX0_giveUpperHalfTo_26 : decode jX0_giveUpperHalfTo.2.1 26 = .ok (.iconst 0, 1) := by decide +kernel
theorem dX0_giveUpperHalfTo_27 : decode jX0_giveUpperHalfTo.2.1 27 = .ok (.aload_n 1, 1) := by decide +kernel
theorem dX0_giveUpperHalfTo_28 : decode jX0_giveUpperHalfTo.2.1 28 = .ok (.getfield 19, 3) := by decide +kernel
theorem dX0_giveUpperHalfTo_31 : decode jX0_giveUpperHalfTo.2.1 31 = .ok (.invokestatic 48, 3) := by decide +kernel
theorem dX0_giveUpperHalfTo_34 : decode jX0_giveUpperHalfTo.2.1 34 = .ok (.aload_n 0, 1) := by decide +kernel
theorem dX0_giveUpperHalfTo_35 : decode jX0_giveUpperHalfTo.2.1 35 = .ok (.getfield 15, 3) := by decide +kernel
theorem dX0_giveUpperHalfTo_38 : decode jX0_giveUpperHalfTo.2.1 38 = .ok (.iload_n 2, 1) := by decide +kernel
theorem dX0_giveUpperHalfTo_39 : decode jX0_giveUpperHalfTo.2.1 39 = .ok (.aload_n 1, 1) := by decide +kernel
theorem dX0_giveUpperHalfTo_40 : decode jX0_giveUpperHalfTo.2.1 40 = .ok (.getfield 15, 3) := by decide +kernel
theorem dX0_giveUpperHalfTo_43 : decode jX0_giveUpperHalfTo.2.1 43 = .ok (.iconst 0, 1) := by decide +kernel
theorem dX0_giveUpperHalfTo_44 : decode jX0_giveUpperHalfTo.2.1 44 = .ok (.aload_n 1, 1) := by decide +kernel
theorem dX0_giveUpperHalfTo_45 : decode jX0_giveUpperHalfTo.2.1 45 = .ok (.getfield 19, 3) := by decide +kernel
theorem dX0_giveUpperHalfTo_48 : decode jX0_giveUpperHalfTo.2.1 48 = .ok (.invokestatic 48, 3) := by decide +kernel
theorem dX0_giveUpperHalfTo_51 : decode jX0_giveUpperHalfTo.2.1 51 = .ok (.aload_n 1, 1) := by decide +kernel
theorem dX0_giveUpperHalfTo_52 : decode jX0_giveUpperHalfTo.2.1 52 = .ok (.aload_n 0, 1) := by decide +kernel
theorem dX0_giveUpperHalfTo_53 : decode jX0_giveUpperHalfTo.2.1 53 = .ok (.getfield 33, 3) := by decide +kernel
theorem dX0_giveUpperHalfTo_56 : decode jX0_giveUpperHalfTo.2.1 56 = .ok (.putfield 33, 3) := by decide +kernel
theorem dX0_giveUpperHalfTo_59 : decode jX0_giveUpperHalfTo.2.1 59 = .ok (.aload_n 1, 1) := by decide +kernel
theorem dX0_giveUpperHalfTo_60 : decode jX0_giveUpperHalfTo.2.1 60 = .ok (.aload_n 0, 1) := by decide +kernel
theorem dX0_giveUpperHalfTo_61 : decode jX0_giveUpperHalfTo.2.1 61 = .ok (.getfield 9, 3) := by decide +kernel
theorem dX0_giveUpperHalfTo_64 : decode jX0_giveUpperHalfTo.2.1 64 = .ok (.iload_n 2, 1) := by decide +kernel
theorem dX0_giveUpperHalfTo_65 : decode jX0_giveUpperHalfTo.2.1 65 = .ok (.iaload, 1) := by decide +kernel
theorem dX0_giveUpperHalfTo_66 : decode jX0_giveUpperHalfTo.2.1 66 = .ok (.putfield 26, 3) := by decide +kernel
theorem dX0_giveUpperHalfTo_69 : decode jX0_giveUpperHalfTo.2.1 69 = .ok (.aload_n 1, 1) := by decide +kernel
theorem dX0_giveUpperHalfTo_70 : decode jX0_giveUpperHalfTo.2.1 70 = .ok (.aload_n 0, 1) := by decide +kernel
theorem dX0_giveUpperHalfTo_71 : decode jX0_giveUpperHalfTo.2.1 71 = .ok (.getfield 30, 3) := by decide +kernel
theorem dX0_giveUpperHalfTo_74 : decode jX0_giveUpperHalfTo.2.1 74 = .ok (.putfield 30, 3) := by decide +kernel
theorem dX0_giveUpperHalfTo_77 : decode jX0_giveUpperHalfTo.2.1 77 = .ok (.aload_n 0, 1) := by decide +kernel
theorem dX0_giveUpperHalfTo_78 : decode jX0_giveUpperHalfTo.2.1 78 = .ok (.aload_n 0, 1) := by decide +kernel
theorem dX0_giveUpperHalfTo_79 : decode jX0_giveUpperHalfTo.2.1 79 = .ok (.getfield 9, 3) := by decide +kernel
theorem dX0_giveUpperHalfTo_82 : decode jX0_giveUpperHalfTo.2.1 82 = .ok (.iload_n 2, 1) := by decide +kernel
theorem dX0_giveUpperHalfTo_83 : decode jX0_giveUpperHalfTo.2.1 83 = .ok (.iaload, 1) := by decide +kernel
theorem dX0_giveUpperHalfTo_84 : decode jX0_giveUpperHalfTo.2.1 84 = .ok (.iconst 1, 1) := by decide +kernel
theorem dX0_giveUpperHalfTo_85 : decode jX0_giveUpperHalfTo.2.1 85 = .ok (.isub, 1) := by decide +kernel
theorem dX0_giveUpperHalfTo_86 : decode jX0_giveUpperHalfTo.2.1 86 = .ok (.putfield 30, 3) := by decide +kernel
theorem dX0_giveUpperHalfTo_89 : decode jX0_giveUpperHalfTo.2.1 89 = .ok (.aload_n 0, 1) := by decide +kernel
theorem dX0_giveUpperHalfTo_90 : decode jX0_giveUpperHalfTo.2.1 90 = .ok (.iload_n 2, 1) := by decide +kernel
theorem dX0_giveUpperHalfTo_91 : decode jX0_giveUpperHalfTo.2.1 91 = .ok (.putfield 19, 3) := by decide +kernel
theorem dX0_giveUpperHalfTo_94 : decode jX0_giveUpperHalfTo.2.1 94 = .ok (.return_, 1) := by decide +kernel
theorem dX0_takeAllOf_0 : decode jX0_takeAllOf.2.1 0 = .ok (.aload_n 1, 1) := by decide +kernel
theorem dX0_takeAllOf_1 : decode jX0_takeAllOf.2.1 1 = .ok (.getfield 9, 3) := by decide +kernel
theorem dX0_takeAllOf_4 : decode jX0_takeAllOf.2.1 4 = .ok (.iconst 0, 1) := by decide +kernel
theorem dX0_takeAllOf_5 : decode jX0_takeAllOf.2.1 5 = .ok (.aload_n 0, 1) := by decide +kernel
theorem dX0_takeAllOf_6 : decode jX0_takeAllOf.2.1 6 = .ok (.getfield 9, 3) := by decide +kernel
theorem dX0_takeAllOf_9 : decode jX0_takeAllOf.2.1 9 = .ok (.aload_n 0, 1) := by decide +kernel
theorem dX0_takeAllOf_10 : decode jX0_takeAllOf.2.1 10 = .ok (.getfield 19, 3) := by decide +kernel
theorem dX0_takeAllOf_13 : decode jX0_takeAllOf.2.1 13 = .ok (.aload_n 1, 1) := by decide +kernel
theorem dX0_takeAllOf_14 : decode jX0_takeAllOf.2.1 14 = .ok (.getfield 19, 3) := by decide +kernel
theorem dX0_takeAllOf_17 : decode jX0_takeAllOf.2.1 17 = .ok (.invokestatic 48, 3) := by decide +kernel
theorem dX0_takeAllOf_20 : decode jX0_takeAllOf.2.1 20 = .ok (.iconst 0, 1) := by decide +kernel
theorem dX0_takeAllOf_21 : decode jX0_takeAllOf.2.1 21 = .ok (.istore_n 2, 1) := by decide +kernel
theorem dX0_takeAllOf_22 : decode jX0_takeAllOf.2.1 22 = .ok (.iload_n 2, 1) := by decide +kernel
theorem dX0_takeAllOf_23 : decode jX0_takeAllOf.2.1 23 = .ok (.aload_n 1, 1) := by decide +kernel
theorem dX0_takeAllOf_24 : decode jX0_takeAllOf.2.1 24 = .ok (.getfield 19, 3) := by decide +kernel
theorem dX0_takeAllOf_27 : decode jX0_takeAllOf.2.1 27 = .ok (.if_icmp .ge 24, 3) := by decide +kernel
theorem dX0_takeAllOf_30 : decode jX0_takeAllOf.2.1 30 = .ok (.aload_n 0, 1) := by decide +kernel
theorem dX0_takeAllOf_31 : decode jX0_takeAllOf.2.1 31 = .ok (.aload_n 0, 1) := by decide +kernel
theorem dX0_takeAllOf_32 : decode jX0_takeAllOf.2.1 32 = .ok (.getfield 19, 3) := by decide +kernel
theorem dX0_takeAllOf_35 : decode jX0_takeAllOf.2.1 35 = .ok (.iload_n 2, 1) := by decide +kernel
theorem dX0_takeAllOf_36 : decode jX0_takeAllOf.2.1 36 = .ok (.iadd, 1) := by decide +kernel
theorem dX0_takeAllOf_37 : decode jX0_takeAllOf.2.1 37 = .ok (.aload_n 1, 1) := by decide +kernel
theorem dX0_takeAllOf_38 : decode jX0_takeAllOf.2.1 38 = .ok (.iload_n 2, 1) := by decide +kernel
theorem dX0_takeAllOf_39 : decode jX0_takeAllOf.2.1 39 = .ok (.invokevirtual 58, 3) := by decide +kernel
theorem dX0_takeAllOf_42 : decode jX0_takeAllOf.2.1 42 = .ok (.invokevirtual 54, 3) := by decide +kernel
theorem dX0_takeAllOf_45 : decode jX0_takeAllOf.2.1 45 = .ok (.iinc 2 1, 3) := by decide +kernel
theorem dX0_takeAllOf_48 : decode jX0_takeAllOf.2.1 48 = .ok (.goto (-26), 3) := by decide +kernel
theorem dX0_takeAllOf_51 : decode jX0_takeAllOf.2.1 51 = .ok (.aload_n 0, 1) := by decide +kernel
theorem dX0_takeAllOf_52 : decode jX0_takeAllOf.2.1 52 = .ok (.dup, 1) := by decide +kernel
theorem dX0_takeAllOf_53 : decode jX0_takeAllOf.2.1 53 = .ok (.getfield 19, 3) := by decide +kernel
theorem dX0_takeAllOf_56 : decode jX0_takeAllOf.2.1 56 = .ok (.aload_n 1, 1) := by decide +kernel
theorem dX0_takeAllOf_57 : decode jX0_takeAllOf.2.1 57 = .ok (.getfield 19, 3) := by decide +kernel
theorem dX0_takeAllOf_60 : decode jX0_takeAllOf.2.1 60 = .ok (.iadd, 1) := by decide +kernel
theorem dX0_takeAllOf_61 : decode jX0_takeAllOf.2.1 61 = .ok (.putfield 19, 3) := by decide +kernel
theorem dX0_takeAllOf_64 : decode jX0_takeAllOf.2.1 64 = .ok (.aload_n 0, 1) := by decide +kernel
theorem dX0_takeAllOf_65 : decode jX0_takeAllOf.2.1 65 = .ok (.aload_n 1, 1) := by decide +kernel
theorem dX0_takeAllOf_66 : decode jX0_takeAllOf.2.1 66 = .ok (.getfield 30, 3) := by decide +kernel
theorem dX0_takeAllOf_69 : decode jX0_takeAllOf.2.1 69 = .ok (.putfield 30, 3) := by decide +kernel
theorem dX0_takeAllOf_72 : decode jX0_takeAllOf.2.1 72 = .ok (.return_, 1) := by decide +kernel
theorem dX0_copyFrom_0 : decode jX0_copyFrom.2.1 0 = .ok (.aload_n 0, 1) := by decide +kernel
theorem dX0_copyFrom_1 : decode jX0_copyFrom.2.1 1 = .ok (.aload_n 1, 1) := by decide +kernel
theorem dX0_copyFrom_2 : decode jX0_copyFrom.2.1 2 = .ok (.getfield 19, 3) := by decide +kernel
theorem dX0_copyFrom_5 : decode jX0_copyFrom.2.1 5 = .ok (.putfield 19, 3) := by decide +kernel
theorem dX0_copyFrom_8 : decode jX0_copyFrom.2.1 8 = .ok (.aload_n 0, 1) := by decide +kernel
theorem dX0_copyFrom_9 : decode jX0_copyFrom.2.1 9 = .ok (.aload_n 1, 1) := by decide +kernel
theorem dX0_copyFrom_10 : decode jX0_copyFrom.2.1 10 = .ok (.getfield 26, 3) := by decide +kernel
theorem dX0_copyFrom_13 : decode jX0_copyFrom.2.1 13 = .ok (.putfield 26, 3) := by decide +kernel
theorem dX0_copyFrom_16 : decode jX0_copyFrom.2.1 16 = .ok (.aload_n 0, 1) := by decide +kernel
theorem dX0_copyFrom_17 : decode jX0_copyFrom.2.1 17 = .ok (.aload_n 1, 1) := by decide +kernel
theorem dX0_copyFrom_18 : decode jX0_copyFrom.2.1 18 = .ok (.getfield 30, 3) := by decide +kernel
theorem dX0_copyFrom_21 : decode jX0_copyFrom.2.1 21 = .ok (.putfield 30, 3) := by decide +kernel
theorem dX0_copyFrom_24 : decode jX0_copyFrom.2.1 24 = .ok (.aload_n 1, 1) := by decide +kernel
theorem dX0_copyFrom_25 : decode jX0_copyFrom.2.1 25 = .ok (.getfield 9, 3) := by decide +kernel
theorem dX0_copyFrom_28 : decode jX0_copyFrom.2.1 28 = .ok (.iconst 0, 1) := by decide +kernel
theorem dX0_copyFrom_29 : decode jX0_copyFrom.2.1 29 = .ok (.aload_n 0, 1) := by decide +kernel
theorem dX0_copyFrom_30 : decode jX0_copyFrom.2.1 30 = .ok (.getfield 9, 3) := by decide +kernel
theorem dX0_copyFrom_33 : decode jX0_copyFrom.2.1 33 = .ok (.iconst 0, 1) := by decide +kernel
theorem dX0_copyFrom_34 : decode jX0_copyFrom.2.1 34 = .ok (.aload_n 0, 1) := by decide +kernel
theorem dX0_copyFrom_35 : decode jX0_copyFrom.2.1 35 = .ok (.getfield 19, 3) := by decide +kernel
theorem dX0_copyFrom_38 : decode jX0_copyFrom.2.1 38 = .ok (.invokestatic 48, 3) := by decide +kernel
theorem dX0_copyFrom_41 : decode jX0_copyFrom.2.1 41 = .ok (.aload_n 1, 1) := by decide +kernel
theorem dX0_copyFrom_42 : decode jX0_copyFrom.2.1 42 = .ok (.getfield 15, 3) := by decide +kernel
theorem dX0_copyFrom_45 : decode jX0_copyFrom.2.1 45 = .ok (.iconst 0, 1) := by decide +kernel
theorem dX0_copyFrom_46 : decode jX0_copyFrom.2.1 46 = .ok (.aload_n 0, 1) := by decide +kernel
theorem dX0_copyFrom_47 : decode jX0_copyFrom.2.1 47 = .ok (.getfield 15, 3) := by decide +kernel
theorem dX0_copyFrom_50 : decode jX0_copyFrom.2.1 50 = .ok (.iconst 0, 1) := by decide +kernel
theorem dX0_copyFrom_51 : decode jX0_copyFrom.2.1 51 = .ok (.aload_n 0, 1) := by decide +kernel
theorem dX0_copyFrom_52 : decode jX0_copyFrom.2.1 52 = .ok (.getfield 19, 3) := by decide +kernel
theorem dX0_copyFrom_55 : decode jX0_copyFrom.2.1 55 = .ok (.invokestatic 48, 3) := by decide +kernel
theorem dX0_copyFrom_58 : decode jX0_copyFrom.2.1 58 = .ok (.aload_n 0, 1) := by decide +kernel
theorem dX0_copyFrom_59 : decode jX0_copyFrom.2.1 59 = .ok (.aload_n 1, 1) := by decide +kernel
theorem dX0_copyFrom_60 : decode jX0_copyFrom.2.1 60 = .ok (.getfield 33, 3) := by decide +kernel
theorem dX0_copyFrom_63 : decode jX0_copyFrom.2.1 63 = .ok (.putfield 33, 3) := by decide +kernel
theorem dX0_copyFrom_66 : decode jX0_copyFrom.2.1 66 = .ok (.aload_n 0, 1) := by decide +kernel
theorem dX0_copyFrom_67 : decode jX0_copyFrom.2.1 67 = .ok (.invokevirtual 62, 3) := by decide +kernel
theorem dX0_copyFrom_70 : decode jX0_copyFrom.2.1 70 = .ok (.return_, 1) := by decide +kernel
theorem dX0_isInOrder_0 : decode jX0_isInOrder.2.1 0 = .ok (.aload_n 0, 1) := by decide +kernel
theorem dX0_isInOrder_1 : decode jX0_isInOrder.2.1 1 = .ok (.getfield 19, 3) := by decide +kernel
theorem dX0_isInOrder_4 : decode jX0_isInOrder.2.1 4 = .ok (.ifCond .lt 23, 3) := by decide +kernel
theorem dX0_isInOrder_7 : decode jX0_isInOrder.2.1 7 = .ok (.aload_n 0, 1) := by decide +kernel
theorem dX0_isInOrder_8 : decode jX0_isInOrder.2.1 8 = .ok (.getfield 19, 3) := by decide +kernel
theorem dX0_isInOrder_11 : decode jX0_isInOrder.2.1 11 = .ok (.bipush 32, 2) := by decide +kernel
theorem dX0_isInOrder_13 : decode jX0_isInOrder.2.1 13 = .ok (.if_icmp .gt 14, 3) := by decide +kernel
theorem dX0_isInOrder_16 : decode jX0_isInOrder.2.1 16 = .ok (.aload_n 0, 1) := by decide +kernel
theorem dX0_isInOrder_17 : decode jX0_isInOrder.2.1 17 = .ok (.getfield 26, 3) := by decide +kernel
theorem dX0_isInOrder_20 : decode jX0_isInOrder.2.1 20 = .ok (.aload_n 0, 1) := by decide +kernel
theorem dX0_isInOrder_21 : decode jX0_isInOrder.2.1 21 = .ok (.getfield 30, 3) := by decide +kernel
theorem dX0_isInOrder_24 : decode jX0_isInOrder.2.1 24 = .ok (.if_icmp .le 5, 3) := by decide +kernel
theorem dX0_isInOrder_27 : decode jX0_isInOrder.2.1 27 = .ok (.iconst 0, 1) := by decide +kernel
theorem dX0_isInOrder_28 : decode jX0_isInOrder.2.1 28 = .ok (.ireturn, 1) := by decide +kernel
theorem dX0_isInOrder_29 : decode jX0_isInOrder.2.1 29 = .ok (.iconst 0, 1) := by decide +kernel
theorem dX0_isInOrder_30 : decode jX0_isInOrder.2.1 30 = .ok (.istore_n 1, 1) := by decide +kernel
theorem dX0_isInOrder_31 : decode jX0_isInOrder.2.1 31 = .ok (.iload_n 1, 1) := by decide +kernel
theorem dX0_isInOrder_32 : decode jX0_isInOrder.2.1 32 = .ok (.aload_n 0, 1) := by decide +kernel
theorem dX0_isInOrder_33 : decode jX0_isInOrder.2.1 33 = .ok (.getfield 19, 3) := by decide +kernel
theorem dX0_isInOrder_36 : decode jX0_isInOrder.2.1 36 = .ok (.if_icmp .ge 60, 3) := by decide +kernel
theorem dX0_isInOrder_39 : decode jX0_isInOrder.2.1 39 = .ok (.aload_n 0, 1) := by decide +kernel
theorem dX0_isInOrder_40 : decode jX0_isInOrder.2.1 40 = .ok (.getfield 9, 3) := by decide +kernel
theorem dX0_isInOrder_43 : decode jX0_isInOrder.2.1 43 = .ok (.iload_n 1, 1) := by decide +kernel
theorem dX0_isInOrder_44 : decode jX0_isInOrder.2.1 44 = .ok (.iaload, 1) := by decide +kernel
theorem dX0_isInOrder_45 : decode jX0_isInOrder.2.1 45 = .ok (.aload_n 0, 1) := by decide +kernel
theorem dX0_isInOrder_46 : decode jX0_isInOrder.2.1 46 = .ok (.getfield 26, 3) := by decide +kernel
theorem dX0_isInOrder_49 : decode jX0_isInOrder.2.1 49 = .ok (.if_icmp .lt 16, 3) := by decide +kernel
theorem dX0_isInOrder_52 : decode jX0_isInOrder.2.1 52 = .ok (.aload_n 0, 1) := by decide +kernel
theorem dX0_isInOrder_53 : decode jX0_isInOrder.2.1 53 = .ok (.getfield 9, 3) := by decide +kernel
theorem dX0_isInOrder_56 : decode jX0_isInOrder.2.1 56 = .ok (.iload_n 1, 1) := by decide +kernel
theorem dX0_isInOrder_57 : decode jX0_isInOrder.2.1 57 = .ok (.iaload, 1) := by decide +kernel
theorem dX0_isInOrder_58 : decode jX0_isInOrder.2.1 58 = .ok (.aload_n 0, 1) := by decide +kernel
theorem dX0_isInOrder_59 : decode jX0_isInOrder.2.1 59 = .ok (.getfield 30, 3) := by decide +kernel
theorem dX0_isInOrder_62 : decode jX0_isInOrder.2.1 62 = .ok (.if_icmp .le 5, 3) := by decide +kernel
theorem dX0_isInOrder_65 : decode jX0_isInOrder.2.1 65 = .ok (.iconst 0, 1) := by decide +kernel
theorem dX0_isInOrder_66 : decode jX0_isInOrder.2.1 66 = .ok (.ireturn, 1) := by decide +kernel
theorem dX0_isInOrder_67 : decode jX0_isInOrder.2.1 67 = .ok (.iload_n 1, 1) := by decide +kernel
theorem dX0_isInOrder_68 : decode jX0_isInOrder.2.1 68 = .ok (.ifCond .le 22, 3) := by decide +kernel
theorem dX0_isInOrder_71 : decode jX0_isInOrder.2.1 71 = .ok (.aload_n 0, 1) := by decide +kernel
theorem dX0_isInOrder_72 : decode jX0_isInOrder.2.1 72 = .ok (.getfield 9, 3) := by decide +kernel
theorem dX0_isInOrder_75 : decode jX0_isInOrder.2.1 75 = .ok (.iload_n 1, 1) := by decide +kernel
theorem dX0_isInOrder_76 : decode jX0_isInOrder.2.1 76 = .ok (.iconst 1, 1) := by decide +kernel
theorem dX0_isInOrder_77 : decode jX0_isInOrder.2.1 77 = .ok (.isub, 1) := by decide +kernel
theorem dX0_isInOrder_78 : decode jX0_isInOrder.2.1 78 = .ok (.iaload, 1) := by decide +kernel
theorem dX0_isInOrder_79 : decode jX0_isInOrder.2.1 79 = .ok (.aload_n 0, 1) := by decide +kernel
theorem dX0_isInOrder_80 : decode jX0_isInOrder.2.1 80 = .ok (.getfield 9, 3) := by decide +kernel
theorem dX0_isInOrder_83 : decode jX0_isInOrder.2.1 83 = .ok (.iload_n 1, 1) := by decide +kernel
theorem dX0_isInOrder_84 : decode jX0_isInOrder.2.1 84 = .ok (.iaload, 1) := by decide +kernel
theorem dX0_isInOrder_85 : decode jX0_isInOrder.2.1 85 = .ok (.if_icmp .lt 5, 3) := by decide +kernel
theorem dX0_isInOrder_88 : decode jX0_isInOrder.2.1 88 = .ok (.iconst 0, 1) := by decide +kernel
theorem dX0_isInOrder_89 : decode jX0_isInOrder.2.1 89 = .ok (.ireturn, 1) := by decide +kernel
theorem dX0_isInOrder_90 : decode jX0_isInOrder.2.1 90 = .ok (.iinc 1 1, 3) := by decide +kernel
theorem dX0_isInOrder_93 : decode jX0_isInOrder.2.1 93 = .ok (.goto (-62), 3) := by decide +kernel
theorem dX0_isInOrder_96 : decode jX0_isInOrder.2.1 96 = .ok (.iconst 1, 1) := by decide +kernel
theorem dX0_isInOrder_97 : decode jX0_isInOrder.2.1 97 = .ok (.ireturn, 1) := by decide +kernel
