/-! What each instruction is. Laid by wip/whole/gen/names.py. -/
theorem dX2_init_0 : decode jX2_init.2.1 0 = .ok (.aload_n 0, 1) := by decide +kernel
theorem dX2_init_1 : decode jX2_init.2.1 1 = .ok (.invokespecial 1, 3) := by decide +kernel
theorem dX2_init_4 : decode jX2_init.2.1 4 = .ok (.aload_n 0, 1) := by decide +kernel
theorem dX2_init_5 : decode jX2_init.2.1 5 = .ok (.new 7, 3) := by decide +kernel
theorem dX2_init_8 : decode jX2_init.2.1 8 = .ok (.dup, 1) := by decide +kernel
theorem dX2_init_9 : decode jX2_init.2.1 9 = .ok (.invokespecial 9, 3) := by decide +kernel
theorem dX2_init_12 : decode jX2_init.2.1 12 = .ok (.putfield 10, 3) := by decide +kernel
theorem dX2_init_15 : decode jX2_init.2.1 15 = .ok (.aload_n 0, 1) := by decide +kernel
theorem dX2_init_16 : decode jX2_init.2.1 16 = .ok (.new 7, 3) := by decide +kernel
theorem dX2_init_19 : decode jX2_init.2.1 19 = .ok (.dup, 1) := by decide +kernel
theorem dX2_init_20 : decode jX2_init.2.1 20 = .ok (.invokespecial 9, 3) := by decide +kernel
theorem dX2_init_23 : decode jX2_init.2.1 23 = .ok (.putfield 16, 3) := by decide +kernel
theorem dX2_init_26 : decode jX2_init.2.1 26 = .ok (.aload_n 0, 1) := by decide +kernel
theorem dX2_init_27 : decode jX2_init.2.1 27 = .ok (.iconst 4, 1) := by decide +kernel
theorem dX2_init_28 : decode jX2_init.2.1 28 = .ok (.anewarray 7, 3) := by decide +kernel
theorem dX2_init_31 : decode jX2_init.2.1 31 = .ok (.putfield 19, 3) := by decide +kernel
theorem dX2_init_34 : decode jX2_init.2.1 34 = .ok (.iconst 0, 1) := by decide +kernel
theorem dX2_init_35 : decode jX2_init.2.1 35 = .ok (.istore_n 1, 1) := by decide +kernel
theorem dX2_init_36 : decode jX2_init.2.1 36 = .ok (.iload_n 1, 1) := by decide +kernel
theorem dX2_init_37 : decode jX2_init.2.1 37 = .ok (.iconst 4, 1) := by decide +kernel
theorem dX2_init_38 : decode jX2_init.2.1 38 = .ok (.if_icmp .ge 22, 3) := by decide +kernel
theorem dX2_init_41 : decode jX2_init.2.1 41 = .ok (.aload_n 0, 1) := by decide +kernel
theorem dX2_init_42 : decode jX2_init.2.1 42 = .ok (.getfield 19, 3) := by decide +kernel
theorem dX2_init_45 : decode jX2_init.2.1 45 = .ok (.iload_n 1, 1) := by decide +kernel
theorem dX2_init_46 : decode jX2_init.2.1 46 = .ok (.new 7, 3) := by decide +kernel
theorem dX2_init_49 : decode jX2_init.2.1 49 = .ok (.dup, 1) := by decide +kernel
theorem dX2_init_50 : decode jX2_init.2.1 50 = .ok (.invokespecial 9, 3) := by decide +kernel
theorem dX2_init_53 : decode jX2_init.2.1 53 = .ok (.aastore, 1) := by decide +kernel
theorem dX2_init_54 : decode jX2_init.2.1 54 = .ok (.iinc 1 1, 3) := by decide +kernel
theorem dX2_init_57 : decode jX2_init.2.1 57 = .ok (.goto (-21), 3) := by decide +kernel
theorem dX2_init_60 : decode jX2_init.2.1 60 = .ok (.aload_n 0, 1) := by decide +kernel
theorem dX2_init_61 : decode jX2_init.2.1 61 = .ok (.iconst 4, 1) := by decide +kernel
theorem dX2_init_62 : decode jX2_init.2.1 62 = .ok (.newarray .boolean, 2) := by decide +kernel
theorem dX2_init_64 : decode jX2_init.2.1 64 = .ok (.putfield 23, 3) := by decide +kernel
theorem dX2_init_67 : decode jX2_init.2.1 67 = .ok (.aload_n 0, 1) := by decide +kernel
theorem dX2_init_68 : decode jX2_init.2.1 68 = .ok (.iconst 0, 1) := by decide +kernel
theorem dX2_init_69 : decode jX2_init.2.1 69 = .ok (.putfield 27, 3) := by decide +kernel
theorem dX2_init_72 : decode jX2_init.2.1 72 = .ok (.aload_n 0, 1) := by decide +kernel
theorem dX2_init_73 : decode jX2_init.2.1 73 = .ok (.iconst 0, 1) := by decide +kernel
theorem dX2_init_74 : decode jX2_init.2.1 74 = .ok (.putfield 31, 3) := by decide +kernel
theorem dX2_init_77 : decode jX2_init.2.1 77 = .ok (.return_, 1) := by decide +kernel
theorem dX2_put_0 : decode jX2_put.2.1 0 = .ok (.aload_n 0, 1) := by decide +kernel
theorem dX2_put_1 : decode jX2_put.2.1 1 = .ok (.iload_n 1, 1) := by decide +kernel
theorem dX2_put_2 : decode jX2_put.2.1 2 = .ok (.invokevirtual 34, 3) := by decide +kernel
theorem dX2_put_5 : decode jX2_put.2.1 5 = .ok (.aload_n 0, 1) := by decide +kernel
theorem dX2_put_6 : decode jX2_put.2.1 6 = .ok (.iload_n 1, 1) := by decide +kernel
theorem dX2_put_7 : decode jX2_put.2.1 7 = .ok (.lload_n 2, 1) := by decide +kernel
theorem dX2_put_8 : decode jX2_put.2.1 8 = .ok (.invokevirtual 38, 3) := by decide +kernel
theorem dX2_put_11 : decode jX2_put.2.1 11 = .ok (.aload_n 0, 1) := by decide +kernel
theorem dX2_put_12 : decode jX2_put.2.1 12 = .ok (.getfield 27, 3) := by decide +kernel
theorem dX2_put_15 : decode jX2_put.2.1 15 = .ok (.ireturn, 1) := by decide +kernel
theorem dX2_add_0 : decode jX2_add.2.1 0 = .ok (.aload_n 0, 1) := by decide +kernel
theorem dX2_add_1 : decode jX2_add.2.1 1 = .ok (.iload_n 1, 1) := by decide +kernel
theorem dX2_add_2 : decode jX2_add.2.1 2 = .ok (.invokevirtual 34, 3) := by decide +kernel
theorem dX2_add_5 : decode jX2_add.2.1 5 = .ok (.aload_n 0, 1) := by decide +kernel
theorem dX2_add_6 : decode jX2_add.2.1 6 = .ok (.getfield 10, 3) := by decide +kernel
theorem dX2_add_9 : decode jX2_add.2.1 9 = .ok (.iload_n 1, 1) := by decide +kernel
theorem dX2_add_10 : decode jX2_add.2.1 10 = .ok (.invokevirtual 42, 3) := by decide +kernel
theorem dX2_add_13 : decode jX2_add.2.1 13 = .ok (.lload_n 2, 1) := by decide +kernel
theorem dX2_add_14 : decode jX2_add.2.1 14 = .ok (.ladd, 1) := by decide +kernel
theorem dX2_add_15 : decode jX2_add.2.1 15 = .ok (.lstore 4, 2) := by decide +kernel
theorem dX2_add_17 : decode jX2_add.2.1 17 = .ok (.aload_n 0, 1) := by decide +kernel
theorem dX2_add_18 : decode jX2_add.2.1 18 = .ok (.iload_n 1, 1) := by decide +kernel
theorem dX2_add_19 : decode jX2_add.2.1 19 = .ok (.lload 4, 2) := by decide +kernel
theorem dX2_add_21 : decode jX2_add.2.1 21 = .ok (.invokevirtual 38, 3) := by decide +kernel
theorem dX2_add_24 : decode jX2_add.2.1 24 = .ok (.lload 4, 2) := by decide +kernel
theorem dX2_add_26 : decode jX2_add.2.1 26 = .ok (.lreturn, 1) := by decide +kernel
theorem dX2_most_0 : decode jX2_most.2.1 0 = .ok (.aload_n 0, 1) := by decide +kernel
theorem dX2_most_1 : decode jX2_most.2.1 1 = .ok (.iload_n 1, 1) := by decide +kernel
theorem dX2_most_2 : decode jX2_most.2.1 2 = .ok (.invokevirtual 34, 3) := by decide +kernel
theorem dX2_most_5 : decode jX2_most.2.1 5 = .ok (.aload_n 0, 1) := by decide +kernel
theorem dX2_most_6 : decode jX2_most.2.1 6 = .ok (.getfield 10, 3) := by decide +kernel
theorem dX2_most_9 : decode jX2_most.2.1 9 = .ok (.iload_n 1, 1) := by decide +kernel
theorem dX2_most_10 : decode jX2_most.2.1 10 = .ok (.invokevirtual 46, 3) := by decide +kernel
theorem dX2_most_13 : decode jX2_most.2.1 13 = .ok (.ifCond .eq 18, 3) := by decide +kernel
theorem dX2_most_16 : decode jX2_most.2.1 16 = .ok (.aload_n 0, 1) := by decide +kernel
theorem dX2_most_17 : decode jX2_most.2.1 17 = .ok (.getfield 10, 3) := by decide +kernel
theorem dX2_most_20 : decode jX2_most.2.1 20 = .ok (.iload_n 1, 1) := by decide +kernel
theorem dX2_most_21 : decode jX2_most.2.1 21 = .ok (.invokevirtual 42, 3) := by decide +kernel
theorem dX2_most_24 : decode jX2_most.2.1 24 = .ok (.lload_n 2, 1) := by decide +kernel
theorem dX2_most_25 : decode jX2_most.2.1 25 = .ok (.invokestatic 50, 3) := by decide +kernel
theorem dX2_most_28 : decode jX2_most.2.1 28 = .ok (.goto 4, 3) := by decide +kernel
theorem dX2_most_31 : decode jX2_most.2.1 31 = .ok (.lload_n 2, 1) := by decide +kernel
theorem dX2_most_32 : decode jX2_most.2.1 32 = .ok (.lstore 4, 2) := by decide +kernel
theorem dX2_most_34 : decode jX2_most.2.1 34 = .ok (.aload_n 0, 1) := by decide +kernel
theorem dX2_most_35 : decode jX2_most.2.1 35 = .ok (.iload_n 1, 1) := by decide +kernel
theorem dX2_most_36 : decode jX2_most.2.1 36 = .ok (.lload 4, 2) := by decide +kernel
theorem dX2_most_38 : decode jX2_most.2.1 38 = .ok (.invokevirtual 38, 3) := by decide +kernel
theorem dX2_most_41 : decode jX2_most.2.1 41 = .ok (.lload 4, 2) := by decide +kernel
theorem dX2_most_43 : decode jX2_most.2.1 43 = .ok (.lreturn, 1) := by decide +kernel
theorem dX2_delete_0 : decode jX2_delete.2.1 0 = .ok (.iload_n 1, 1) := by decide +kernel
theorem dX2_delete_1 : decode jX2_delete.2.1 1 = .ok (.iload_n 2, 1) := by decide +kernel
theorem dX2_delete_2 : decode jX2_delete.2.1 2 = .ok (.invokestatic 56, 3) := by decide +kernel
theorem dX2_delete_5 : decode jX2_delete.2.1 5 = .ok (.aload_n 0, 1) := by decide +kernel
theorem dX2_delete_6 : decode jX2_delete.2.1 6 = .ok (.iconst 1, 1) := by decide +kernel
theorem dX2_delete_7 : decode jX2_delete.2.1 7 = .ok (.invokevirtual 60, 3) := by decide +kernel
theorem dX2_delete_10 : decode jX2_delete.2.1 10 = .ok (.aload_n 0, 1) := by decide +kernel
theorem dX2_delete_11 : decode jX2_delete.2.1 11 = .ok (.getfield 10, 3) := by decide +kernel
theorem dX2_delete_14 : decode jX2_delete.2.1 14 = .ok (.getfield 63, 3) := by decide +kernel
theorem dX2_delete_17 : decode jX2_delete.2.1 17 = .ok (.istore_n 3, 1) := by decide +kernel
theorem dX2_delete_18 : decode jX2_delete.2.1 18 = .ok (.aload_n 0, 1) := by decide +kernel
theorem dX2_delete_19 : decode jX2_delete.2.1 19 = .ok (.getfield 10, 3) := by decide +kernel
theorem dX2_delete_22 : decode jX2_delete.2.1 22 = .ok (.iload_n 1, 1) := by decide +kernel
theorem dX2_delete_23 : decode jX2_delete.2.1 23 = .ok (.iload_n 2, 1) := by decide +kernel
theorem dX2_delete_24 : decode jX2_delete.2.1 24 = .ok (.invokevirtual 66, 3) := by decide +kernel
theorem dX2_delete_27 : decode jX2_delete.2.1 27 = .ok (.aload_n 0, 1) := by decide +kernel
theorem dX2_delete_28 : decode jX2_delete.2.1 28 = .ok (.dup, 1) := by decide +kernel
theorem dX2_delete_29 : decode jX2_delete.2.1 29 = .ok (.getfield 27, 3) := by decide +kernel
theorem dX2_delete_32 : decode jX2_delete.2.1 32 = .ok (.iconst 1, 1) := by decide +kernel
theorem dX2_delete_33 : decode jX2_delete.2.1 33 = .ok (.iadd, 1) := by decide +kernel
theorem dX2_delete_34 : decode jX2_delete.2.1 34 = .ok (.putfield 27, 3) := by decide +kernel
theorem dX2_delete_37 : decode jX2_delete.2.1 37 = .ok (.iload_n 3, 1) := by decide +kernel
theorem dX2_delete_38 : decode jX2_delete.2.1 38 = .ok (.aload_n 0, 1) := by decide +kernel
theorem dX2_delete_39 : decode jX2_delete.2.1 39 = .ok (.getfield 10, 3) := by decide +kernel
theorem dX2_delete_42 : decode jX2_delete.2.1 42 = .ok (.getfield 63, 3) := by decide +kernel
theorem dX2_delete_45 : decode jX2_delete.2.1 45 = .ok (.isub, 1) := by decide +kernel
theorem dX2_delete_46 : decode jX2_delete.2.1 46 = .ok (.ireturn, 1) := by decide +kernel
theorem dX2_raise_0 : decode jX2_raise.2.1 0 = .ok (.iload_n 1, 1) := by decide +kernel
theorem dX2_raise_1 : decode jX2_raise.2.1 1 = .ok (.iload_n 2, 1) := by decide +kernel
theorem dX2_raise_2 : decode jX2_raise.2.1 2 = .ok (.invokestatic 56, 3) := by decide +kernel
theorem dX2_raise_5 : decode jX2_raise.2.1 5 = .ok (.aload_n 0, 1) := by decide +kernel
theorem dX2_raise_6 : decode jX2_raise.2.1 6 = .ok (.iconst 1, 1) := by decide +kernel
theorem dX2_raise_7 : decode jX2_raise.2.1 7 = .ok (.invokevirtual 60, 3) := by decide +kernel
theorem dX2_raise_10 : decode jX2_raise.2.1 10 = .ok (.aload_n 0, 1) := by decide +kernel
theorem dX2_raise_11 : decode jX2_raise.2.1 11 = .ok (.getfield 10, 3) := by decide +kernel
theorem dX2_raise_14 : decode jX2_raise.2.1 14 = .ok (.iload_n 1, 1) := by decide +kernel
theorem dX2_raise_15 : decode jX2_raise.2.1 15 = .ok (.iload_n 2, 1) := by decide +kernel
theorem dX2_raise_16 : decode jX2_raise.2.1 16 = .ok (.lload_n 3, 1) := by decide +kernel
theorem dX2_raise_17 : decode jX2_raise.2.1 17 = .ok (.invokevirtual 69, 3) := by decide +kernel
theorem dX2_raise_20 : decode jX2_raise.2.1 20 = .ok (.aload_n 0, 1) := by decide +kernel
theorem dX2_raise_21 : decode jX2_raise.2.1 21 = .ok (.dup, 1) := by decide +kernel
theorem dX2_raise_22 : decode jX2_raise.2.1 22 = .ok (.getfield 27, 3) := by decide +kernel
theorem dX2_raise_25 : decode jX2_raise.2.1 25 = .ok (.iconst 1, 1) := by decide +kernel
theorem dX2_raise_26 : decode jX2_raise.2.1 26 = .ok (.iadd, 1) := by decide +kernel
theorem dX2_raise_27 : decode jX2_raise.2.1 27 = .ok (.putfield 27, 3) := by decide +kernel
theorem dX2_raise_30 : decode jX2_raise.2.1 30 = .ok (.aload_n 0, 1) := by decide +kernel
theorem dX2_raise_31 : decode jX2_raise.2.1 31 = .ok (.getfield 10, 3) := by decide +kernel
theorem dX2_raise_34 : decode jX2_raise.2.1 34 = .ok (.iload_n 1, 1) := by decide +kernel
theorem dX2_raise_35 : decode jX2_raise.2.1 35 = .ok (.iload_n 2, 1) := by decide +kernel
theorem dX2_raise_36 : decode jX2_raise.2.1 36 = .ok (.invokevirtual 73, 3) := by decide +kernel
theorem dX2_raise_39 : decode jX2_raise.2.1 39 = .ok (.ireturn, 1) := by decide +kernel
theorem dX2_putAll_0 : decode jX2_putAll.2.1 0 = .ok (.iload 7, 2) := by decide +kernel
theorem dX2_putAll_2 : decode jX2_putAll.2.1 2 = .ok (.ifCond .lt 11, 3) := by decide +kernel
theorem dX2_putAll_5 : decode jX2_putAll.2.1 5 = .ok (.iload 7, 2) := by decide +kernel
theorem dX2_putAll_7 : decode jX2_putAll.2.1 7 = .ok (.sipush 300, 3) := by decide +kernel
theorem dX2_putAll_10 : decode jX2_putAll.2.1 10 = .ok (.if_icmp .le 13, 3) := by decide +kernel
theorem dX2_putAll_13 : decode jX2_putAll.2.1 13 = .ok (.new 77, 3) := by decide +kernel
theorem dX2_putAll_16 : decode jX2_putAll.2.1 16 = .ok (.dup, 1) := by decide +kernel
theorem dX2_putAll_17 : decode jX2_putAll.2.1 17 = .ok (.ldc 79, 2) := by decide +kernel
theorem dX2_putAll_19 : decode jX2_putAll.2.1 19 = .ok (.invokespecial 81, 3) := by decide +kernel
theorem dX2_putAll_22 : decode jX2_putAll.2.1 22 = .ok (.athrow, 1) := by decide +kernel
theorem dX2_putAll_23 : decode jX2_putAll.2.1 23 = .ok (.iconst 0, 1) := by decide +kernel
theorem dX2_putAll_24 : decode jX2_putAll.2.1 24 = .ok (.istore 8, 2) := by decide +kernel
theorem dX2_putAll_26 : decode jX2_putAll.2.1 26 = .ok (.iload 8, 2) := by decide +kernel
theorem dX2_putAll_28 : decode jX2_putAll.2.1 28 = .ok (.iload 7, 2) := by decide +kernel
theorem dX2_putAll_30 : decode jX2_putAll.2.1 30 = .ok (.if_icmp .ge 43, 3) := by decide +kernel
theorem dX2_putAll_33 : decode jX2_putAll.2.1 33 = .ok (.iload_n 1, 1) := by decide +kernel
theorem dX2_putAll_34 : decode jX2_putAll.2.1 34 = .ok (.iload 8, 2) := by decide +kernel
theorem dX2_putAll_36 : decode jX2_putAll.2.1 36 = .ok (.iload_n 2, 1) := by decide +kernel
theorem dX2_putAll_37 : decode jX2_putAll.2.1 37 = .ok (.imul, 1) := by decide +kernel
theorem dX2_putAll_38 : decode jX2_putAll.2.1 38 = .ok (.iadd, 1) := by decide +kernel
theorem dX2_putAll_39 : decode jX2_putAll.2.1 39 = .ok (.istore 9, 2) := by decide +kernel
theorem dX2_putAll_41 : decode jX2_putAll.2.1 41 = .ok (.aload_n 0, 1) := by decide +kernel
theorem dX2_putAll_42 : decode jX2_putAll.2.1 42 = .ok (.iload 9, 2) := by decide +kernel
theorem dX2_putAll_44 : decode jX2_putAll.2.1 44 = .ok (.invokevirtual 84, 3) := by decide +kernel
theorem dX2_putAll_47 : decode jX2_putAll.2.1 47 = .ok (.ifCond .ne 6, 3) := by decide +kernel
theorem dX2_putAll_50 : decode jX2_putAll.2.1 50 = .ok (.iload 8, 2) := by decide +kernel
theorem dX2_putAll_52 : decode jX2_putAll.2.1 52 = .ok (.ireturn, 1) := by decide +kernel
theorem dX2_putAll_53 : decode jX2_putAll.2.1 53 = .ok (.aload_n 0, 1) := by decide +kernel
theorem dX2_putAll_54 : decode jX2_putAll.2.1 54 = .ok (.iload 9, 2) := by decide +kernel
theorem dX2_putAll_56 : decode jX2_putAll.2.1 56 = .ok (.lload_n 3, 1) := by decide +kernel
theorem dX2_putAll_57 : decode jX2_putAll.2.1 57 = .ok (.iload 8, 2) := by decide +kernel
theorem dX2_putAll_59 : decode jX2_putAll.2.1 59 = .ok (.i2l, 1) := by decide +kernel
theorem dX2_putAll_60 : decode jX2_putAll.2.1 60 = .ok (.lload 5, 2) := by decide +kernel
theorem dX2_putAll_62 : decode jX2_putAll.2.1 62 = .ok (.lmul, 1) := by decide +kernel
theorem dX2_putAll_63 : decode jX2_putAll.2.1 63 = .ok (.ladd, 1) := by decide +kernel
theorem dX2_putAll_64 : decode jX2_putAll.2.1 64 = .ok (.invokevirtual 38, 3) := by decide +kernel
theorem dX2_putAll_67 : decode jX2_putAll.2.1 67 = .ok (.iinc 8 1, 3) := by decide +kernel
theorem dX2_putAll_70 : decode jX2_putAll.2.1 70 = .ok (.goto (-44), 3) := by decide +kernel
theorem dX2_putAll_73 : decode jX2_putAll.2.1 73 = .ok (.iload 7, 2) := by decide +kernel
theorem dX2_putAll_75 : decode jX2_putAll.2.1 75 = .ok (.ireturn, 1) := by decide +kernel
theorem dX2_has_0 : decode jX2_has.2.1 0 = .ok (.aload_n 0, 1) := by decide +kernel
theorem dX2_has_1 : decode jX2_has.2.1 1 = .ok (.iload_n 1, 1) := by decide +kernel
theorem dX2_has_2 : decode jX2_has.2.1 2 = .ok (.invokevirtual 87, 3) := by decide +kernel
theorem dX2_has_5 : decode jX2_has.2.1 5 = .ok (.iload_n 2, 1) := by decide +kernel
theorem dX2_has_6 : decode jX2_has.2.1 6 = .ok (.invokevirtual 46, 3) := by decide +kernel
theorem dX2_has_9 : decode jX2_has.2.1 9 = .ok (.ireturn, 1) := by decide +kernel
theorem dX2_get_0 : decode jX2_get.2.1 0 = .ok (.aload_n 0, 1) := by decide +kernel
theorem dX2_get_1 : decode jX2_get.2.1 1 = .ok (.iload_n 1, 1) := by decide +kernel
theorem dX2_get_2 : decode jX2_get.2.1 2 = .ok (.invokevirtual 87, 3) := by decide +kernel
theorem dX2_get_5 : decode jX2_get.2.1 5 = .ok (.iload_n 2, 1) := by decide +kernel
theorem dX2_get_6 : decode jX2_get.2.1 6 = .ok (.invokevirtual 42, 3) := by decide +kernel
theorem dX2_get_9 : decode jX2_get.2.1 9 = .ok (.lreturn, 1) := by decide +kernel
theorem dX2_count_0 : decode jX2_count.2.1 0 = .ok (.aload_n 0, 1) := by decide +kernel
theorem dX2_count_1 : decode jX2_count.2.1 1 = .ok (.iload_n 1, 1) := by decide +kernel
theorem dX2_count_2 : decode jX2_count.2.1 2 = .ok (.invokevirtual 87, 3) := by decide +kernel
theorem dX2_count_5 : decode jX2_count.2.1 5 = .ok (.astore 4, 2) := by decide +kernel
theorem dX2_count_7 : decode jX2_count.2.1 7 = .ok (.iload_n 2, 1) := by decide +kernel
theorem dX2_count_8 : decode jX2_count.2.1 8 = .ok (.iload_n 3, 1) := by decide +kernel
theorem dX2_count_9 : decode jX2_count.2.1 9 = .ok (.invokestatic 56, 3) := by decide +kernel
theorem dX2_count_12 : decode jX2_count.2.1 12 = .ok (.aload 4, 2) := by decide +kernel
theorem dX2_count_14 : decode jX2_count.2.1 14 = .ok (.iload_n 2, 1) := by decide +kernel
theorem dX2_count_15 : decode jX2_count.2.1 15 = .ok (.iload_n 3, 1) := by decide +kernel
theorem dX2_count_16 : decode jX2_count.2.1 16 = .ok (.invokevirtual 73, 3) := by decide +kernel
theorem dX2_count_19 : decode jX2_count.2.1 19 = .ok (.ireturn, 1) := by decide +kernel
theorem dX2_sum_0 : decode jX2_sum.2.1 0 = .ok (.aload_n 0, 1) := by decide +kernel
theorem dX2_sum_1 : decode jX2_sum.2.1 1 = .ok (.iload_n 1, 1) := by decide +kernel
theorem dX2_sum_2 : decode jX2_sum.2.1 2 = .ok (.invokevirtual 87, 3) := by decide +kernel
theorem dX2_sum_5 : decode jX2_sum.2.1 5 = .ok (.astore 4, 2) := by decide +kernel
theorem dX2_sum_7 : decode jX2_sum.2.1 7 = .ok (.iload_n 2, 1) := by decide +kernel
theorem dX2_sum_8 : decode jX2_sum.2.1 8 = .ok (.iload_n 3, 1) := by decide +kernel
theorem dX2_sum_9 : decode jX2_sum.2.1 9 = .ok (.invokestatic 56, 3) := by decide +kernel
theorem dX2_sum_12 : decode jX2_sum.2.1 12 = .ok (.aload 4, 2) := by decide +kernel
theorem dX2_sum_14 : decode jX2_sum.2.1 14 = .ok (.iload_n 2, 1) := by decide +kernel
theorem dX2_sum_15 : decode jX2_sum.2.1 15 = .ok (.iload_n 3, 1) := by decide +kernel
theorem dX2_sum_16 : decode jX2_sum.2.1 16 = .ok (.invokevirtual 91, 3) := by decide +kernel
theorem dX2_sum_19 : decode jX2_sum.2.1 19 = .ok (.lreturn, 1) := by decide +kernel
theorem dX2_key_0 : decode jX2_key.2.1 0 = .ok (.aload_n 0, 1) := by decide +kernel
theorem dX2_key_1 : decode jX2_key.2.1 1 = .ok (.iload_n 1, 1) := by decide +kernel
theorem dX2_key_2 : decode jX2_key.2.1 2 = .ok (.invokevirtual 87, 3) := by decide +kernel
theorem dX2_key_5 : decode jX2_key.2.1 5 = .ok (.astore 4, 2) := by decide +kernel
theorem dX2_key_7 : decode jX2_key.2.1 7 = .ok (.aload 4, 2) := by decide +kernel
theorem dX2_key_9 : decode jX2_key.2.1 9 = .ok (.iload_n 2, 1) := by decide +kernel
theorem dX2_key_10 : decode jX2_key.2.1 10 = .ok (.ldc 97, 2) := by decide +kernel
theorem dX2_key_12 : decode jX2_key.2.1 12 = .ok (.invokevirtual 73, 3) := by decide +kernel
theorem dX2_key_15 : decode jX2_key.2.1 15 = .ok (.istore 5, 2) := by decide +kernel
theorem dX2_key_17 : decode jX2_key.2.1 17 = .ok (.iload_n 3, 1) := by decide +kernel
theorem dX2_key_18 : decode jX2_key.2.1 18 = .ok (.ifCond .lt 9, 3) := by decide +kernel
theorem dX2_key_21 : decode jX2_key.2.1 21 = .ok (.iload_n 3, 1) := by decide +kernel
theorem dX2_key_22 : decode jX2_key.2.1 22 = .ok (.iload 5, 2) := by decide +kernel
theorem dX2_key_24 : decode jX2_key.2.1 24 = .ok (.if_icmp .lt 13, 3) := by decide +kernel
theorem dX2_key_27 : decode jX2_key.2.1 27 = .ok (.new 77, 3) := by decide +kernel
theorem dX2_key_30 : decode jX2_key.2.1 30 = .ok (.dup, 1) := by decide +kernel
theorem dX2_key_31 : decode jX2_key.2.1 31 = .ok (.ldc 98, 2) := by decide +kernel
theorem dX2_key_33 : decode jX2_key.2.1 33 = .ok (.invokespecial 81, 3) := by decide +kernel
theorem dX2_key_36 : decode jX2_key.2.1 36 = .ok (.athrow, 1) := by decide +kernel
theorem dX2_key_37 : decode jX2_key.2.1 37 = .ok (.aload 4, 2) := by decide +kernel
theorem dX2_key_39 : decode jX2_key.2.1 39 = .ok (.aload 4, 2) := by decide +kernel
theorem dX2_key_41 : decode jX2_key.2.1 41 = .ok (.getfield 63, 3) := by decide +kernel
theorem dX2_key_44 : decode jX2_key.2.1 44 = .ok (.iload 5, 2) := by decide +kernel
theorem dX2_key_46 : decode jX2_key.2.1 46 = .ok (.isub, 1) := by decide +kernel
theorem dX2_key_47 : decode jX2_key.2.1 47 = .ok (.iload_n 3, 1) := by decide +kernel
theorem dX2_key_48 : decode jX2_key.2.1 48 = .ok (.iadd, 1) := by decide +kernel
theorem dX2_key_49 : decode jX2_key.2.1 49 = .ok (.invokevirtual 100, 3) := by decide +kernel
theorem dX2_key_52 : decode jX2_key.2.1 52 = .ok (.ireturn, 1) := by decide +kernel
theorem dX2_save_0 : decode jX2_save.2.1 0 = .ok (.iload_n 1, 1) := by decide +kernel
theorem dX2_save_1 : decode jX2_save.2.1 1 = .ok (.invokestatic 104, 3) := by decide +kernel
theorem dX2_save_4 : decode jX2_save.2.1 4 = .ok (.aload_n 0, 1) := by decide +kernel
theorem dX2_save_5 : decode jX2_save.2.1 5 = .ok (.getfield 19, 3) := by decide +kernel
theorem dX2_save_8 : decode jX2_save.2.1 8 = .ok (.iload_n 1, 1) := by decide +kernel
theorem dX2_save_9 : decode jX2_save.2.1 9 = .ok (.aaload, 1) := by decide +kernel
theorem dX2_save_10 : decode jX2_save.2.1 10 = .ok (.aload_n 0, 1) := by decide +kernel
theorem dX2_save_11 : decode jX2_save.2.1 11 = .ok (.getfield 10, 3) := by decide +kernel
theorem dX2_save_14 : decode jX2_save.2.1 14 = .ok (.invokevirtual 107, 3) := by decide +kernel
theorem dX2_save_17 : decode jX2_save.2.1 17 = .ok (.aload_n 0, 1) := by decide +kernel
theorem dX2_save_18 : decode jX2_save.2.1 18 = .ok (.getfield 23, 3) := by decide +kernel
theorem dX2_save_21 : decode jX2_save.2.1 21 = .ok (.iload_n 1, 1) := by decide +kernel
theorem dX2_save_22 : decode jX2_save.2.1 22 = .ok (.iconst 1, 1) := by decide +kernel
theorem dX2_save_23 : decode jX2_save.2.1 23 = .ok (.bastore, 1) := by decide +kernel
theorem dX2_save_24 : decode jX2_save.2.1 24 = .ok (.return_, 1) := by decide +kernel
theorem dX2_drop_0 : decode jX2_drop.2.1 0 = .ok (.iload_n 1, 1) := by decide +kernel
theorem dX2_drop_1 : decode jX2_drop.2.1 1 = .ok (.invokestatic 104, 3) := by decide +kernel
theorem dX2_drop_4 : decode jX2_drop.2.1 4 = .ok (.aload_n 0, 1) := by decide +kernel
theorem dX2_drop_5 : decode jX2_drop.2.1 5 = .ok (.getfield 23, 3) := by decide +kernel
theorem dX2_drop_8 : decode jX2_drop.2.1 8 = .ok (.iload_n 1, 1) := by decide +kernel
theorem dX2_drop_9 : decode jX2_drop.2.1 9 = .ok (.baload, 1) := by decide +kernel
theorem dX2_drop_10 : decode jX2_drop.2.1 10 = .ok (.istore_n 2, 1) := by decide +kernel
theorem dX2_drop_11 : decode jX2_drop.2.1 11 = .ok (.aload_n 0, 1) := by decide +kernel
theorem dX2_drop_12 : decode jX2_drop.2.1 12 = .ok (.getfield 23, 3) := by decide +kernel
theorem dX2_drop_15 : decode jX2_drop.2.1 15 = .ok (.iload_n 1, 1) := by decide +kernel
theorem dX2_drop_16 : decode jX2_drop.2.1 16 = .ok (.iconst 0, 1) := by decide +kernel
theorem dX2_drop_17 : decode jX2_drop.2.1 17 = .ok (.bastore, 1) := by decide +kernel
theorem dX2_drop_18 : decode jX2_drop.2.1 18 = .ok (.iload_n 2, 1) := by decide +kernel
theorem dX2_drop_19 : decode jX2_drop.2.1 19 = .ok (.ireturn, 1) := by decide +kernel
theorem dX2_restore_0 : decode jX2_restore.2.1 0 = .ok (.aload_n 0, 1) := by decide +kernel
theorem dX2_restore_1 : decode jX2_restore.2.1 1 = .ok (.iload_n 1, 1) := by decide +kernel
theorem dX2_restore_2 : decode jX2_restore.2.1 2 = .ok (.invokevirtual 111, 3) := by decide +kernel
theorem dX2_restore_5 : decode jX2_restore.2.1 5 = .ok (.astore_n 2, 1) := by decide +kernel
theorem dX2_restore_6 : decode jX2_restore.2.1 6 = .ok (.iconst 1, 1) := by decide +kernel
theorem dX2_restore_7 : decode jX2_restore.2.1 7 = .ok (.aload_n 2, 1) := by decide +kernel
theorem dX2_restore_8 : decode jX2_restore.2.1 8 = .ok (.getfield 63, 3) := by decide +kernel
theorem dX2_restore_11 : decode jX2_restore.2.1 11 = .ok (.iadd, 1) := by decide +kernel
theorem dX2_restore_12 : decode jX2_restore.2.1 12 = .ok (.istore_n 3, 1) := by decide +kernel
theorem dX2_restore_13 : decode jX2_restore.2.1 13 = .ok (.aload_n 0, 1) := by decide +kernel
theorem dX2_restore_14 : decode jX2_restore.2.1 14 = .ok (.iload_n 3, 1) := by decide +kernel
theorem dX2_restore_15 : decode jX2_restore.2.1 15 = .ok (.invokevirtual 60, 3) := by decide +kernel
theorem dX2_restore_18 : decode jX2_restore.2.1 18 = .ok (.aload_n 0, 1) := by decide +kernel
theorem dX2_restore_19 : decode jX2_restore.2.1 19 = .ok (.getfield 10, 3) := by decide +kernel
theorem dX2_restore_22 : decode jX2_restore.2.1 22 = .ok (.aload_n 2, 1) := by decide +kernel
theorem dX2_restore_23 : decode jX2_restore.2.1 23 = .ok (.invokevirtual 107, 3) := by decide +kernel
theorem dX2_restore_26 : decode jX2_restore.2.1 26 = .ok (.aload_n 0, 1) := by decide +kernel
theorem dX2_restore_27 : decode jX2_restore.2.1 27 = .ok (.dup, 1) := by decide +kernel
theorem dX2_restore_28 : decode jX2_restore.2.1 28 = .ok (.getfield 27, 3) := by decide +kernel
theorem dX2_restore_31 : decode jX2_restore.2.1 31 = .ok (.iload_n 3, 1) := by decide +kernel
theorem dX2_restore_32 : decode jX2_restore.2.1 32 = .ok (.iadd, 1) := by decide +kernel
theorem dX2_restore_33 : decode jX2_restore.2.1 33 = .ok (.putfield 27, 3) := by decide +kernel
theorem dX2_restore_36 : decode jX2_restore.2.1 36 = .ok (.aload_n 0, 1) := by decide +kernel
theorem dX2_restore_37 : decode jX2_restore.2.1 37 = .ok (.getfield 27, 3) := by decide +kernel
theorem dX2_restore_40 : decode jX2_restore.2.1 40 = .ok (.ireturn, 1) := by decide +kernel
theorem dX2_differ_0 : decode jX2_differ.2.1 0 = .ok (.aload_n 0, 1) := by decide +kernel
theorem dX2_differ_1 : decode jX2_differ.2.1 1 = .ok (.iload_n 1, 1) := by decide +kernel
theorem dX2_differ_2 : decode jX2_differ.2.1 2 = .ok (.invokevirtual 87, 3) := by decide +kernel
theorem dX2_differ_5 : decode jX2_differ.2.1 5 = .ok (.astore_n 3, 1) := by decide +kernel
theorem dX2_differ_6 : decode jX2_differ.2.1 6 = .ok (.aload_n 0, 1) := by decide +kernel
theorem dX2_differ_7 : decode jX2_differ.2.1 7 = .ok (.iload_n 2, 1) := by decide +kernel
theorem dX2_differ_8 : decode jX2_differ.2.1 8 = .ok (.invokevirtual 87, 3) := by decide +kernel
theorem dX2_differ_11 : decode jX2_differ.2.1 11 = .ok (.astore 4, 2) := by decide +kernel
theorem dX2_differ_13 : decode jX2_differ.2.1 13 = .ok (.aload_n 3, 1) := by decide +kernel
theorem dX2_differ_14 : decode jX2_differ.2.1 14 = .ok (.aload 4, 2) := by decide +kernel
theorem dX2_differ_16 : decode jX2_differ.2.1 16 = .ok (.invokevirtual 114, 3) := by decide +kernel
theorem dX2_differ_19 : decode jX2_differ.2.1 19 = .ok (.ireturn, 1) := by decide +kernel
theorem dX2_settle_0 : decode jX2_settle.2.1 0 = .ok (.aload_n 0, 1) := by decide +kernel
theorem dX2_settle_1 : decode jX2_settle.2.1 1 = .ok (.getfield 10, 3) := by decide +kernel
theorem dX2_settle_4 : decode jX2_settle.2.1 4 = .ok (.invokevirtual 118, 3) := by decide +kernel
theorem dX2_settle_7 : decode jX2_settle.2.1 7 = .ok (.return_, 1) := by decide +kernel
theorem dX2_sync_0 : decode jX2_sync.2.1 0 = .ok (.aload_n 0, 1) := by decide +kernel
theorem dX2_sync_1 : decode jX2_sync.2.1 1 = .ok (.invokevirtual 121, 3) := by decide +kernel
theorem dX2_sync_4 : decode jX2_sync.2.1 4 = .ok (.ireturn, 1) := by decide +kernel
theorem dX2_checkpoint_0 : decode jX2_checkpoint.2.1 0 = .ok (.aload_n 0, 1) := by decide +kernel
theorem dX2_checkpoint_1 : decode jX2_checkpoint.2.1 1 = .ok (.invokevirtual 121, 3) := by decide +kernel
theorem dX2_checkpoint_4 : decode jX2_checkpoint.2.1 4 = .ok (.ireturn, 1) := by decide +kernel
theorem dX2_crash_0 : decode jX2_crash.2.1 0 = .ok (.aload_n 0, 1) := by decide +kernel
theorem dX2_crash_1 : decode jX2_crash.2.1 1 = .ok (.getfield 27, 3) := by decide +kernel
theorem dX2_crash_4 : decode jX2_crash.2.1 4 = .ok (.aload_n 0, 1) := by decide +kernel
theorem dX2_crash_5 : decode jX2_crash.2.1 5 = .ok (.getfield 31, 3) := by decide +kernel
theorem dX2_crash_8 : decode jX2_crash.2.1 8 = .ok (.isub, 1) := by decide +kernel
theorem dX2_crash_9 : decode jX2_crash.2.1 9 = .ok (.istore_n 1, 1) := by decide +kernel
theorem dX2_crash_10 : decode jX2_crash.2.1 10 = .ok (.aload_n 0, 1) := by decide +kernel
theorem dX2_crash_11 : decode jX2_crash.2.1 11 = .ok (.getfield 10, 3) := by decide +kernel
theorem dX2_crash_14 : decode jX2_crash.2.1 14 = .ok (.aload_n 0, 1) := by decide +kernel
theorem dX2_crash_15 : decode jX2_crash.2.1 15 = .ok (.getfield 16, 3) := by decide +kernel
theorem dX2_crash_18 : decode jX2_crash.2.1 18 = .ok (.invokevirtual 107, 3) := by decide +kernel
theorem dX2_crash_21 : decode jX2_crash.2.1 21 = .ok (.aload_n 0, 1) := by decide +kernel
theorem dX2_crash_22 : decode jX2_crash.2.1 22 = .ok (.aload_n 0, 1) := by decide +kernel
theorem dX2_crash_23 : decode jX2_crash.2.1 23 = .ok (.getfield 31, 3) := by decide +kernel
theorem dX2_crash_26 : decode jX2_crash.2.1 26 = .ok (.putfield 27, 3) := by decide +kernel
theorem dX2_crash_29 : decode jX2_crash.2.1 29 = .ok (.iconst 0, 1) := by decide +kernel
theorem dX2_crash_30 : decode jX2_crash.2.1 30 = .ok (.istore_n 2, 1) := by decide +kernel
theorem dX2_crash_31 : decode jX2_crash.2.1 31 = .ok (.iload_n 2, 1) := by decide +kernel
theorem dX2_crash_32 : decode jX2_crash.2.1 32 = .ok (.iconst 4, 1) := by decide +kernel
theorem dX2_crash_33 : decode jX2_crash.2.1 33 = .ok (.if_icmp .ge 16, 3) := by decide +kernel
theorem dX2_crash_36 : decode jX2_crash.2.1 36 = .ok (.aload_n 0, 1) := by decide +kernel
theorem dX2_crash_37 : decode jX2_crash.2.1 37 = .ok (.getfield 23, 3) := by decide +kernel
theorem dX2_crash_40 : decode jX2_crash.2.1 40 = .ok (.iload_n 2, 1) := by decide +kernel
theorem dX2_crash_41 : decode jX2_crash.2.1 41 = .ok (.iconst 0, 1) := by decide +kernel
theorem dX2_crash_42 : decode jX2_crash.2.1 42 = .ok (.bastore, 1) := by decide +kernel
theorem dX2_crash_43 : decode jX2_crash.2.1 43 = .ok (.iinc 2 1, 3) := by decide +kernel
theorem dX2_crash_46 : decode jX2_crash.2.1 46 = .ok (.goto (-15), 3) := by decide +kernel
theorem dX2_crash_49 : decode jX2_crash.2.1 49 = .ok (.iload_n 1, 1) := by decide +kernel
theorem dX2_crash_50 : decode jX2_crash.2.1 50 = .ok (.ireturn, 1) := by decide +kernel
theorem dX2_total_0 : decode jX2_total.2.1 0 = .ok (.iload_n 1, 1) := by decide +kernel
theorem dX2_total_1 : decode jX2_total.2.1 1 = .ok (.tableswitch 42 0 2 #[27, 32, 37], 27) := by decide +kernel
theorem dX2_total_28 : decode jX2_total.2.1 28 = .ok (.aload_n 0, 1) := by decide +kernel
theorem dX2_total_29 : decode jX2_total.2.1 29 = .ok (.getfield 27, 3) := by decide +kernel
theorem dX2_total_32 : decode jX2_total.2.1 32 = .ok (.ireturn, 1) := by decide +kernel
theorem dX2_total_33 : decode jX2_total.2.1 33 = .ok (.aload_n 0, 1) := by decide +kernel
theorem dX2_total_34 : decode jX2_total.2.1 34 = .ok (.getfield 31, 3) := by decide +kernel
theorem dX2_total_37 : decode jX2_total.2.1 37 = .ok (.ireturn, 1) := by decide +kernel
theorem dX2_total_38 : decode jX2_total.2.1 38 = .ok (.aload_n 0, 1) := by decide +kernel
theorem dX2_total_39 : decode jX2_total.2.1 39 = .ok (.invokevirtual 125, 3) := by decide +kernel
theorem dX2_total_42 : decode jX2_total.2.1 42 = .ok (.ireturn, 1) := by decide +kernel
theorem dX2_total_43 : decode jX2_total.2.1 43 = .ok (.new 77, 3) := by decide +kernel
theorem dX2_total_46 : decode jX2_total.2.1 46 = .ok (.dup, 1) := by decide +kernel
theorem dX2_total_47 : decode jX2_total.2.1 47 = .ok (.ldc 128, 2) := by decide +kernel
theorem dX2_total_49 : decode jX2_total.2.1 49 = .ok (.invokespecial 81, 3) := by decide +kernel
theorem dX2_total_52 : decode jX2_total.2.1 52 = .ok (.athrow, 1) := by decide +kernel
theorem dX2_isSound_0 : decode jX2_isSound.2.1 0 = .ok (.aload_n 0, 1) := by decide +kernel
theorem dX2_isSound_1 : decode jX2_isSound.2.1 1 = .ok (.getfield 10, 3) := by decide +kernel
theorem dX2_isSound_4 : decode jX2_isSound.2.1 4 = .ok (.invokevirtual 130, 3) := by decide +kernel
theorem dX2_isSound_7 : decode jX2_isSound.2.1 7 = .ok (.ifCond .eq 17, 3) := by decide +kernel
theorem dX2_isSound_10 : decode jX2_isSound.2.1 10 = .ok (.aload_n 0, 1) := by decide +kernel
theorem dX2_isSound_11 : decode jX2_isSound.2.1 11 = .ok (.getfield 16, 3) := by decide +kernel
theorem dX2_isSound_14 : decode jX2_isSound.2.1 14 = .ok (.invokevirtual 130, 3) := by decide +kernel
theorem dX2_isSound_17 : decode jX2_isSound.2.1 17 = .ok (.ifCond .eq 7, 3) := by decide +kernel
theorem dX2_isSound_20 : decode jX2_isSound.2.1 20 = .ok (.iconst 1, 1) := by decide +kernel
theorem dX2_isSound_21 : decode jX2_isSound.2.1 21 = .ok (.goto 4, 3) := by decide +kernel
theorem dX2_isSound_24 : decode jX2_isSound.2.1 24 = .ok (.iconst 0, 1) := by decide +kernel
theorem dX2_isSound_25 : decode jX2_isSound.2.1 25 = .ok (.istore_n 1, 1) := by decide +kernel
theorem dX2_isSound_26 : decode jX2_isSound.2.1 26 = .ok (.iconst 0, 1) := by decide +kernel
theorem dX2_isSound_27 : decode jX2_isSound.2.1 27 = .ok (.istore_n 2, 1) := by decide +kernel
theorem dX2_isSound_28 : decode jX2_isSound.2.1 28 = .ok (.iload_n 2, 1) := by decide +kernel
theorem dX2_isSound_29 : decode jX2_isSound.2.1 29 = .ok (.iconst 4, 1) := by decide +kernel
theorem dX2_isSound_30 : decode jX2_isSound.2.1 30 = .ok (.if_icmp .ge 40, 3) := by decide +kernel
theorem dX2_isSound_33 : decode jX2_isSound.2.1 33 = .ok (.iload_n 1, 1) := by decide +kernel
theorem dX2_isSound_34 : decode jX2_isSound.2.1 34 = .ok (.ifCond .eq 28, 3) := by decide +kernel
theorem dX2_isSound_37 : decode jX2_isSound.2.1 37 = .ok (.aload_n 0, 1) := by decide +kernel
theorem dX2_isSound_38 : decode jX2_isSound.2.1 38 = .ok (.getfield 23, 3) := by decide +kernel
theorem dX2_isSound_41 : decode jX2_isSound.2.1 41 = .ok (.iload_n 2, 1) := by decide +kernel
theorem dX2_isSound_42 : decode jX2_isSound.2.1 42 = .ok (.baload, 1) := by decide +kernel
theorem dX2_isSound_43 : decode jX2_isSound.2.1 43 = .ok (.ifCond .eq 15, 3) := by decide +kernel
theorem dX2_isSound_46 : decode jX2_isSound.2.1 46 = .ok (.aload_n 0, 1) := by decide +kernel
theorem dX2_isSound_47 : decode jX2_isSound.2.1 47 = .ok (.getfield 19, 3) := by decide +kernel
theorem dX2_isSound_50 : decode jX2_isSound.2.1 50 = .ok (.iload_n 2, 1) := by decide +kernel
theorem dX2_isSound_51 : decode jX2_isSound.2.1 51 = .ok (.aaload, 1) := by decide +kernel
theorem dX2_isSound_52 : decode jX2_isSound.2.1 52 = .ok (.invokevirtual 130, 3) := by decide +kernel
theorem dX2_isSound_55 : decode jX2_isSound.2.1 55 = .ok (.ifCond .eq 7, 3) := by decide +kernel
theorem dX2_isSound_58 : decode jX2_isSound.2.1 58 = .ok (.iconst 1, 1) := by decide +kernel
theorem dX2_isSound_59 : decode jX2_isSound.2.1 59 = .ok (.goto 4, 3) := by decide +kernel
theorem dX2_isSound_62 : decode jX2_isSound.2.1 62 = .ok (.iconst 0, 1) := by decide +kernel
theorem dX2_isSound_63 : decode jX2_isSound.2.1 63 = .ok (.istore_n 1, 1) := by decide +kernel
theorem dX2_isSound_64 : decode jX2_isSound.2.1 64 = .ok (.iinc 2 1, 3) := by decide +kernel
theorem dX2_isSound_67 : decode jX2_isSound.2.1 67 = .ok (.goto (-39), 3) := by decide +kernel
theorem dX2_isSound_70 : decode jX2_isSound.2.1 70 = .ok (.iload_n 1, 1) := by decide +kernel
theorem dX2_isSound_71 : decode jX2_isSound.2.1 71 = .ok (.ireturn, 1) := by decide +kernel
theorem dX2_accepts_0 : decode jX2_accepts.2.1 0 = .ok (.aload_n 0, 1) := by decide +kernel
theorem dX2_accepts_1 : decode jX2_accepts.2.1 1 = .ok (.getfield 27, 3) := by decide +kernel
theorem dX2_accepts_4 : decode jX2_accepts.2.1 4 = .ok (.sipush 2500, 3) := by decide +kernel
theorem dX2_accepts_7 : decode jX2_accepts.2.1 7 = .ok (.if_icmp .ge 31, 3) := by decide +kernel
theorem dX2_accepts_10 : decode jX2_accepts.2.1 10 = .ok (.aload_n 0, 1) := by decide +kernel
theorem dX2_accepts_11 : decode jX2_accepts.2.1 11 = .ok (.getfield 10, 3) := by decide +kernel
theorem dX2_accepts_14 : decode jX2_accepts.2.1 14 = .ok (.getfield 63, 3) := by decide +kernel
theorem dX2_accepts_17 : decode jX2_accepts.2.1 17 = .ok (.sipush 600, 3) := by decide +kernel
theorem dX2_accepts_20 : decode jX2_accepts.2.1 20 = .ok (.if_icmp .lt 14, 3) := by decide +kernel
theorem dX2_accepts_23 : decode jX2_accepts.2.1 23 = .ok (.aload_n 0, 1) := by decide +kernel
theorem dX2_accepts_24 : decode jX2_accepts.2.1 24 = .ok (.getfield 10, 3) := by decide +kernel
theorem dX2_accepts_27 : decode jX2_accepts.2.1 27 = .ok (.iload_n 1, 1) := by decide +kernel
theorem dX2_accepts_28 : decode jX2_accepts.2.1 28 = .ok (.invokevirtual 46, 3) := by decide +kernel
theorem dX2_accepts_31 : decode jX2_accepts.2.1 31 = .ok (.ifCond .eq 7, 3) := by decide +kernel
theorem dX2_accepts_34 : decode jX2_accepts.2.1 34 = .ok (.iconst 1, 1) := by decide +kernel
theorem dX2_accepts_35 : decode jX2_accepts.2.1 35 = .ok (.goto 4, 3) := by decide +kernel
theorem dX2_accepts_38 : decode jX2_accepts.2.1 38 = .ok (.iconst 0, 1) := by decide +kernel
theorem dX2_accepts_39 : decode jX2_accepts.2.1 39 = .ok (.ireturn, 1) := by decide +kernel
theorem dX2_requireAccepted_0 : decode jX2_requireAccepted.2.1 0 = .ok (.aload_n 0, 1) := by decide +kernel
theorem dX2_requireAccepted_1 : decode jX2_requireAccepted.2.1 1 = .ok (.iload_n 1, 1) := by decide +kernel
theorem dX2_requireAccepted_2 : decode jX2_requireAccepted.2.1 2 = .ok (.invokevirtual 84, 3) := by decide +kernel
theorem dX2_requireAccepted_5 : decode jX2_requireAccepted.2.1 5 = .ok (.ifCond .ne 13, 3) := by decide +kernel
theorem dX2_requireAccepted_8 : decode jX2_requireAccepted.2.1 8 = .ok (.new 134, 3) := by decide +kernel
theorem dX2_requireAccepted_11 : decode jX2_requireAccepted.2.1 11 = .ok (.dup, 1) := by decide +kernel
theorem dX2_requireAccepted_12 : decode jX2_requireAccepted.2.1 12 = .ok (.ldc 136, 2) := by decide +kernel
theorem dX2_requireAccepted_14 : decode jX2_requireAccepted.2.1 14 = .ok (.invokespecial 138, 3) := by decide +kernel
theorem dX2_requireAccepted_17 : decode jX2_requireAccepted.2.1 17 = .ok (.athrow, 1) := by decide +kernel
theorem dX2_requireAccepted_18 : decode jX2_requireAccepted.2.1 18 = .ok (.return_, 1) := by decide +kernel
theorem dX2_requireRoomFor_0 : decode jX2_requireRoomFor.2.1 0 = .ok (.iload_n 1, 1) := by decide +kernel
theorem dX2_requireRoomFor_1 : decode jX2_requireRoomFor.2.1 1 = .ok (.sipush 2500, 3) := by decide +kernel
theorem dX2_requireRoomFor_4 : decode jX2_requireRoomFor.2.1 4 = .ok (.aload_n 0, 1) := by decide +kernel
theorem dX2_requireRoomFor_5 : decode jX2_requireRoomFor.2.1 5 = .ok (.getfield 27, 3) := by decide +kernel
theorem dX2_requireRoomFor_8 : decode jX2_requireRoomFor.2.1 8 = .ok (.isub, 1) := by decide +kernel
theorem dX2_requireRoomFor_9 : decode jX2_requireRoomFor.2.1 9 = .ok (.if_icmp .le 13, 3) := by decide +kernel
theorem dX2_requireRoomFor_12 : decode jX2_requireRoomFor.2.1 12 = .ok (.new 134, 3) := by decide +kernel
theorem dX2_requireRoomFor_15 : decode jX2_requireRoomFor.2.1 15 = .ok (.dup, 1) := by decide +kernel
theorem dX2_requireRoomFor_16 : decode jX2_requireRoomFor.2.1 16 = .ok (.ldc 139, 2) := by decide +kernel
theorem dX2_requireRoomFor_18 : decode jX2_requireRoomFor.2.1 18 = .ok (.invokespecial 138, 3) := by decide +kernel
theorem dX2_requireRoomFor_21 : decode jX2_requireRoomFor.2.1 21 = .ok (.athrow, 1) := by decide +kernel
theorem dX2_requireRoomFor_22 : decode jX2_requireRoomFor.2.1 22 = .ok (.return_, 1) := by decide +kernel
theorem dX2_requireRange_0 : decode jX2_requireRange.2.1 0 = .ok (.iload_n 0, 1) := by decide +kernel
theorem dX2_requireRange_1 : decode jX2_requireRange.2.1 1 = .ok (.iload_n 1, 1) := by decide +kernel
theorem dX2_requireRange_2 : decode jX2_requireRange.2.1 2 = .ok (.if_icmp .le 13, 3) := by decide +kernel
theorem dX2_requireRange_5 : decode jX2_requireRange.2.1 5 = .ok (.new 77, 3) := by decide +kernel
theorem dX2_requireRange_8 : decode jX2_requireRange.2.1 8 = .ok (.dup, 1) := by decide +kernel
theorem dX2_requireRange_9 : decode jX2_requireRange.2.1 9 = .ok (.ldc 141, 2) := by decide +kernel
theorem dX2_requireRange_11 : decode jX2_requireRange.2.1 11 = .ok (.invokespecial 81, 3) := by decide +kernel
theorem dX2_requireRange_14 : decode jX2_requireRange.2.1 14 = .ok (.athrow, 1) := by decide +kernel
theorem dX2_requireRange_15 : decode jX2_requireRange.2.1 15 = .ok (.return_, 1) := by decide +kernel
theorem dX2_requireViewNumber_0 : decode jX2_requireViewNumber.2.1 0 = .ok (.iload_n 0, 1) := by decide +kernel
theorem dX2_requireViewNumber_1 : decode jX2_requireViewNumber.2.1 1 = .ok (.ifCond .lt 8, 3) := by decide +kernel
theorem dX2_requireViewNumber_4 : decode jX2_requireViewNumber.2.1 4 = .ok (.iload_n 0, 1) := by decide +kernel
theorem dX2_requireViewNumber_5 : decode jX2_requireViewNumber.2.1 5 = .ok (.iconst 4, 1) := by decide +kernel
theorem dX2_requireViewNumber_6 : decode jX2_requireViewNumber.2.1 6 = .ok (.if_icmp .lt 13, 3) := by decide +kernel
theorem dX2_requireViewNumber_9 : decode jX2_requireViewNumber.2.1 9 = .ok (.new 143, 3) := by decide +kernel
theorem dX2_requireViewNumber_12 : decode jX2_requireViewNumber.2.1 12 = .ok (.dup, 1) := by decide +kernel
theorem dX2_requireViewNumber_13 : decode jX2_requireViewNumber.2.1 13 = .ok (.ldc 145, 2) := by decide +kernel
theorem dX2_requireViewNumber_15 : decode jX2_requireViewNumber.2.1 15 = .ok (.invokespecial 147, 3) := by decide +kernel
theorem dX2_requireViewNumber_18 : decode jX2_requireViewNumber.2.1 18 = .ok (.athrow, 1) := by decide +kernel
theorem dX2_requireViewNumber_19 : decode jX2_requireViewNumber.2.1 19 = .ok (.return_, 1) := by decide +kernel
theorem dX2_acceptValue_0 : decode jX2_acceptValue.2.1 0 = .ok (.aload_n 0, 1) := by decide +kernel
theorem dX2_acceptValue_1 : decode jX2_acceptValue.2.1 1 = .ok (.getfield 10, 3) := by decide +kernel
theorem dX2_acceptValue_4 : decode jX2_acceptValue.2.1 4 = .ok (.iload_n 1, 1) := by decide +kernel
theorem dX2_acceptValue_5 : decode jX2_acceptValue.2.1 5 = .ok (.lload_n 2, 1) := by decide +kernel
theorem dX2_acceptValue_6 : decode jX2_acceptValue.2.1 6 = .ok (.invokevirtual 148, 3) := by decide +kernel
theorem dX2_acceptValue_9 : decode jX2_acceptValue.2.1 9 = .ok (.aload_n 0, 1) := by decide +kernel
theorem dX2_acceptValue_10 : decode jX2_acceptValue.2.1 10 = .ok (.dup, 1) := by decide +kernel
theorem dX2_acceptValue_11 : decode jX2_acceptValue.2.1 11 = .ok (.getfield 27, 3) := by decide +kernel
theorem dX2_acceptValue_14 : decode jX2_acceptValue.2.1 14 = .ok (.iconst 1, 1) := by decide +kernel
theorem dX2_acceptValue_15 : decode jX2_acceptValue.2.1 15 = .ok (.iadd, 1) := by decide +kernel
theorem dX2_acceptValue_16 : decode jX2_acceptValue.2.1 16 = .ok (.putfield 27, 3) := by decide +kernel
theorem dX2_acceptValue_19 : decode jX2_acceptValue.2.1 19 = .ok (.return_, 1) := by decide +kernel
theorem dX2_tableOf_0 : decode jX2_tableOf.2.1 0 = .ok (.iload_n 1, 1) := by decide +kernel
theorem dX2_tableOf_1 : decode jX2_tableOf.2.1 1 = .ok (.iconst (-1), 1) := by decide +kernel
theorem dX2_tableOf_2 : decode jX2_tableOf.2.1 2 = .ok (.if_icmp .ne 10, 3) := by decide +kernel
theorem dX2_tableOf_5 : decode jX2_tableOf.2.1 5 = .ok (.aload_n 0, 1) := by decide +kernel
theorem dX2_tableOf_6 : decode jX2_tableOf.2.1 6 = .ok (.getfield 10, 3) := by decide +kernel
theorem dX2_tableOf_9 : decode jX2_tableOf.2.1 9 = .ok (.goto 8, 3) := by decide +kernel
theorem dX2_tableOf_12 : decode jX2_tableOf.2.1 12 = .ok (.aload_n 0, 1) := by decide +kernel
theorem dX2_tableOf_13 : decode jX2_tableOf.2.1 13 = .ok (.iload_n 1, 1) := by decide +kernel
theorem dX2_tableOf_14 : decode jX2_tableOf.2.1 14 = .ok (.invokevirtual 111, 3) := by decide +kernel
theorem dX2_tableOf_17 : decode jX2_tableOf.2.1 17 = .ok (.areturn, 1) := by decide +kernel
theorem dX2_savedView_0 : decode jX2_savedView.2.1 0 = .ok (.iload_n 1, 1) := by decide +kernel
theorem dX2_savedView_1 : decode jX2_savedView.2.1 1 = .ok (.invokestatic 104, 3) := by decide +kernel
theorem dX2_savedView_4 : decode jX2_savedView.2.1 4 = .ok (.aload_n 0, 1) := by decide +kernel
theorem dX2_savedView_5 : decode jX2_savedView.2.1 5 = .ok (.getfield 23, 3) := by decide +kernel
theorem dX2_savedView_8 : decode jX2_savedView.2.1 8 = .ok (.iload_n 1, 1) := by decide +kernel
theorem dX2_savedView_9 : decode jX2_savedView.2.1 9 = .ok (.baload, 1) := by decide +kernel
theorem dX2_savedView_10 : decode jX2_savedView.2.1 10 = .ok (.ifCond .ne 13, 3) := by decide +kernel
theorem dX2_savedView_13 : decode jX2_savedView.2.1 13 = .ok (.new 143, 3) := by decide +kernel
theorem dX2_savedView_16 : decode jX2_savedView.2.1 16 = .ok (.dup, 1) := by decide +kernel
theorem dX2_savedView_17 : decode jX2_savedView.2.1 17 = .ok (.ldc 151, 2) := by decide +kernel
theorem dX2_savedView_19 : decode jX2_savedView.2.1 19 = .ok (.invokespecial 147, 3) := by decide +kernel
theorem dX2_savedView_22 : decode jX2_savedView.2.1 22 = .ok (.athrow, 1) := by decide +kernel
theorem dX2_savedView_23 : decode jX2_savedView.2.1 23 = .ok (.aload_n 0, 1) := by decide +kernel
theorem dX2_savedView_24 : decode jX2_savedView.2.1 24 = .ok (.getfield 19, 3) := by decide +kernel
theorem dX2_savedView_27 : decode jX2_savedView.2.1 27 = .ok (.iload_n 1, 1) := by decide +kernel
theorem dX2_savedView_28 : decode jX2_savedView.2.1 28 = .ok (.aaload, 1) := by decide +kernel
theorem dX2_savedView_29 : decode jX2_savedView.2.1 29 = .ok (.areturn, 1) := by decide +kernel
theorem dX2_savedViews_0 : decode jX2_savedViews.2.1 0 = .ok (.iconst 0, 1) := by decide +kernel
theorem dX2_savedViews_1 : decode jX2_savedViews.2.1 1 = .ok (.istore_n 1, 1) := by decide +kernel
theorem dX2_savedViews_2 : decode jX2_savedViews.2.1 2 = .ok (.iconst 0, 1) := by decide +kernel
theorem dX2_savedViews_3 : decode jX2_savedViews.2.1 3 = .ok (.istore_n 2, 1) := by decide +kernel
theorem dX2_savedViews_4 : decode jX2_savedViews.2.1 4 = .ok (.iload_n 2, 1) := by decide +kernel
theorem dX2_savedViews_5 : decode jX2_savedViews.2.1 5 = .ok (.iconst 4, 1) := by decide +kernel
theorem dX2_savedViews_6 : decode jX2_savedViews.2.1 6 = .ok (.if_icmp .ge 21, 3) := by decide +kernel
theorem dX2_savedViews_9 : decode jX2_savedViews.2.1 9 = .ok (.aload_n 0, 1) := by decide +kernel
theorem dX2_savedViews_10 : decode jX2_savedViews.2.1 10 = .ok (.getfield 23, 3) := by decide +kernel
theorem dX2_savedViews_13 : decode jX2_savedViews.2.1 13 = .ok (.iload_n 2, 1) := by decide +kernel
theorem dX2_savedViews_14 : decode jX2_savedViews.2.1 14 = .ok (.baload, 1) := by decide +kernel
theorem dX2_savedViews_15 : decode jX2_savedViews.2.1 15 = .ok (.ifCond .eq 6, 3) := by decide +kernel
theorem dX2_savedViews_18 : decode jX2_savedViews.2.1 18 = .ok (.iinc 1 1, 3) := by decide +kernel
theorem dX2_savedViews_21 : decode jX2_savedViews.2.1 21 = .ok (.iinc 2 1, 3) := by decide +kernel
theorem dX2_savedViews_24 : decode jX2_savedViews.2.1 24 = .ok (.goto (-20), 3) := by decide +kernel
theorem dX2_savedViews_27 : decode jX2_savedViews.2.1 27 = .ok (.iload_n 1, 1) := by decide +kernel
theorem dX2_savedViews_28 : decode jX2_savedViews.2.1 28 = .ok (.ireturn, 1) := by decide +kernel
theorem dX2_keepMessages_0 : decode jX2_keepMessages.2.1 0 = .ok (.aload_n 0, 1) := by decide +kernel
theorem dX2_keepMessages_1 : decode jX2_keepMessages.2.1 1 = .ok (.getfield 27, 3) := by decide +kernel
theorem dX2_keepMessages_4 : decode jX2_keepMessages.2.1 4 = .ok (.aload_n 0, 1) := by decide +kernel
theorem dX2_keepMessages_5 : decode jX2_keepMessages.2.1 5 = .ok (.getfield 31, 3) := by decide +kernel
theorem dX2_keepMessages_8 : decode jX2_keepMessages.2.1 8 = .ok (.isub, 1) := by decide +kernel
theorem dX2_keepMessages_9 : decode jX2_keepMessages.2.1 9 = .ok (.istore_n 1, 1) := by decide +kernel
theorem dX2_keepMessages_10 : decode jX2_keepMessages.2.1 10 = .ok (.iload_n 1, 1) := by decide +kernel
theorem dX2_keepMessages_11 : decode jX2_keepMessages.2.1 11 = .ok (.ifCond .le 22, 3) := by decide +kernel
theorem dX2_keepMessages_14 : decode jX2_keepMessages.2.1 14 = .ok (.aload_n 0, 1) := by decide +kernel
theorem dX2_keepMessages_15 : decode jX2_keepMessages.2.1 15 = .ok (.getfield 16, 3) := by decide +kernel
theorem dX2_keepMessages_18 : decode jX2_keepMessages.2.1 18 = .ok (.aload_n 0, 1) := by decide +kernel
theorem dX2_keepMessages_19 : decode jX2_keepMessages.2.1 19 = .ok (.getfield 10, 3) := by decide +kernel
theorem dX2_keepMessages_22 : decode jX2_keepMessages.2.1 22 = .ok (.invokevirtual 107, 3) := by decide +kernel
theorem dX2_keepMessages_25 : decode jX2_keepMessages.2.1 25 = .ok (.aload_n 0, 1) := by decide +kernel
theorem dX2_keepMessages_26 : decode jX2_keepMessages.2.1 26 = .ok (.aload_n 0, 1) := by decide +kernel
theorem dX2_keepMessages_27 : decode jX2_keepMessages.2.1 27 = .ok (.getfield 27, 3) := by decide +kernel
theorem dX2_keepMessages_30 : decode jX2_keepMessages.2.1 30 = .ok (.putfield 31, 3) := by decide +kernel
theorem dX2_keepMessages_33 : decode jX2_keepMessages.2.1 33 = .ok (.iload_n 1, 1) := by decide +kernel
theorem dX2_keepMessages_34 : decode jX2_keepMessages.2.1 34 = .ok (.ireturn, 1) := by decide +kernel
