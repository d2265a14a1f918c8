theorem dL_put_0 : decode jL_put.2.1 0 = .ok (.aload 4, 2) := by decide +kernel
theorem dL_put_2 : decode jL_put.2.1 2 = .ok (.iconst 0, 1) := by decide +kernel
theorem dL_put_3 : decode jL_put.2.1 3 = .ok (.aload_n 0, 1) := by decide +kernel
theorem dL_put_4 : decode jL_put.2.1 4 = .ok (.iload_n 1, 1) := by decide +kernel
theorem dL_put_5 : decode jL_put.2.1 5 = .ok (.lload_n 2, 1) := by decide +kernel
theorem dL_put_6 : decode jL_put.2.1 6 = .ok (.invokevirtual 7, 3) := by decide +kernel
theorem dL_put_9 : decode jL_put.2.1 9 = .ok (.i2l, 1) := by decide +kernel
theorem dL_put_10 : decode jL_put.2.1 10 = .ok (.lastore, 1) := by decide +kernel
theorem dL_put_11 : decode jL_put.2.1 11 = .ok (.goto 7, 3) := by decide +kernel
theorem dL_put_14 : decode jL_put.2.1 14 = .ok (.astore 5, 2) := by decide +kernel
theorem dL_put_16 : decode jL_put.2.1 16 = .ok (.iconst 1, 1) := by decide +kernel
theorem dL_put_17 : decode jL_put.2.1 17 = .ok (.ireturn, 1) := by decide +kernel
theorem dL_put_18 : decode jL_put.2.1 18 = .ok (.iconst 0, 1) := by decide +kernel
theorem dL_put_19 : decode jL_put.2.1 19 = .ok (.ireturn, 1) := by decide +kernel
theorem dL_add_0 : decode jL_add.2.1 0 = .ok (.aload 4, 2) := by decide +kernel
theorem dL_add_2 : decode jL_add.2.1 2 = .ok (.iconst 0, 1) := by decide +kernel
theorem dL_add_3 : decode jL_add.2.1 3 = .ok (.aload_n 0, 1) := by decide +kernel
theorem dL_add_4 : decode jL_add.2.1 4 = .ok (.iload_n 1, 1) := by decide +kernel
theorem dL_add_5 : decode jL_add.2.1 5 = .ok (.lload_n 2, 1) := by decide +kernel
theorem dL_add_6 : decode jL_add.2.1 6 = .ok (.invokevirtual 15, 3) := by decide +kernel
theorem dL_add_9 : decode jL_add.2.1 9 = .ok (.lastore, 1) := by decide +kernel
theorem dL_add_10 : decode jL_add.2.1 10 = .ok (.goto 7, 3) := by decide +kernel
theorem dL_add_13 : decode jL_add.2.1 13 = .ok (.astore 5, 2) := by decide +kernel
theorem dL_add_15 : decode jL_add.2.1 15 = .ok (.iconst 1, 1) := by decide +kernel
theorem dL_add_16 : decode jL_add.2.1 16 = .ok (.ireturn, 1) := by decide +kernel
theorem dL_add_17 : decode jL_add.2.1 17 = .ok (.iconst 0, 1) := by decide +kernel
theorem dL_add_18 : decode jL_add.2.1 18 = .ok (.ireturn, 1) := by decide +kernel
theorem dL_most_0 : decode jL_most.2.1 0 = .ok (.aload 4, 2) := by decide +kernel
theorem dL_most_2 : decode jL_most.2.1 2 = .ok (.iconst 0, 1) := by decide +kernel
theorem dL_most_3 : decode jL_most.2.1 3 = .ok (.aload_n 0, 1) := by decide +kernel
theorem dL_most_4 : decode jL_most.2.1 4 = .ok (.iload_n 1, 1) := by decide +kernel
theorem dL_most_5 : decode jL_most.2.1 5 = .ok (.lload_n 2, 1) := by decide +kernel
theorem dL_most_6 : decode jL_most.2.1 6 = .ok (.invokevirtual 19, 3) := by decide +kernel
theorem dL_most_9 : decode jL_most.2.1 9 = .ok (.lastore, 1) := by decide +kernel
theorem dL_most_10 : decode jL_most.2.1 10 = .ok (.goto 7, 3) := by decide +kernel
theorem dL_most_13 : decode jL_most.2.1 13 = .ok (.astore 5, 2) := by decide +kernel
theorem dL_most_15 : decode jL_most.2.1 15 = .ok (.iconst 1, 1) := by decide +kernel
theorem dL_most_16 : decode jL_most.2.1 16 = .ok (.ireturn, 1) := by decide +kernel
theorem dL_most_17 : decode jL_most.2.1 17 = .ok (.iconst 0, 1) := by decide +kernel
theorem dL_most_18 : decode jL_most.2.1 18 = .ok (.ireturn, 1) := by decide +kernel
theorem dL_delete_0 : decode jL_delete.2.1 0 = .ok (.aload_n 3, 1) := by decide +kernel
theorem dL_delete_1 : decode jL_delete.2.1 1 = .ok (.iconst 0, 1) := by decide +kernel
theorem dL_delete_2 : decode jL_delete.2.1 2 = .ok (.aload_n 0, 1) := by decide +kernel
theorem dL_delete_3 : decode jL_delete.2.1 3 = .ok (.iload_n 1, 1) := by decide +kernel
theorem dL_delete_4 : decode jL_delete.2.1 4 = .ok (.iload_n 2, 1) := by decide +kernel
theorem dL_delete_5 : decode jL_delete.2.1 5 = .ok (.invokevirtual 22, 3) := by decide +kernel
theorem dL_delete_8 : decode jL_delete.2.1 8 = .ok (.i2l, 1) := by decide +kernel
theorem dL_delete_9 : decode jL_delete.2.1 9 = .ok (.lastore, 1) := by decide +kernel
theorem dL_delete_10 : decode jL_delete.2.1 10 = .ok (.goto 11, 3) := by decide +kernel
theorem dL_delete_13 : decode jL_delete.2.1 13 = .ok (.astore 4, 2) := by decide +kernel
theorem dL_delete_15 : decode jL_delete.2.1 15 = .ok (.iconst 1, 1) := by decide +kernel
theorem dL_delete_16 : decode jL_delete.2.1 16 = .ok (.ireturn, 1) := by decide +kernel
theorem dL_delete_17 : decode jL_delete.2.1 17 = .ok (.astore 4, 2) := by decide +kernel
theorem dL_delete_19 : decode jL_delete.2.1 19 = .ok (.iconst 2, 1) := by decide +kernel
theorem dL_delete_20 : decode jL_delete.2.1 20 = .ok (.ireturn, 1) := by decide +kernel
theorem dL_delete_21 : decode jL_delete.2.1 21 = .ok (.iconst 0, 1) := by decide +kernel
theorem dL_delete_22 : decode jL_delete.2.1 22 = .ok (.ireturn, 1) := by decide +kernel
theorem dL_raise_0 : decode jL_raise.2.1 0 = .ok (.aload 5, 2) := by decide +kernel
theorem dL_raise_2 : decode jL_raise.2.1 2 = .ok (.iconst 0, 1) := by decide +kernel
theorem dL_raise_3 : decode jL_raise.2.1 3 = .ok (.aload_n 0, 1) := by decide +kernel
theorem dL_raise_4 : decode jL_raise.2.1 4 = .ok (.iload_n 1, 1) := by decide +kernel
theorem dL_raise_5 : decode jL_raise.2.1 5 = .ok (.iload_n 2, 1) := by decide +kernel
theorem dL_raise_6 : decode jL_raise.2.1 6 = .ok (.lload_n 3, 1) := by decide +kernel
theorem dL_raise_7 : decode jL_raise.2.1 7 = .ok (.invokevirtual 28, 3) := by decide +kernel
theorem dL_raise_10 : decode jL_raise.2.1 10 = .ok (.i2l, 1) := by decide +kernel
theorem dL_raise_11 : decode jL_raise.2.1 11 = .ok (.lastore, 1) := by decide +kernel
theorem dL_raise_12 : decode jL_raise.2.1 12 = .ok (.goto 11, 3) := by decide +kernel
theorem dL_raise_15 : decode jL_raise.2.1 15 = .ok (.astore 6, 2) := by decide +kernel
theorem dL_raise_17 : decode jL_raise.2.1 17 = .ok (.iconst 1, 1) := by decide +kernel
theorem dL_raise_18 : decode jL_raise.2.1 18 = .ok (.ireturn, 1) := by decide +kernel
theorem dL_raise_19 : decode jL_raise.2.1 19 = .ok (.astore 6, 2) := by decide +kernel
theorem dL_raise_21 : decode jL_raise.2.1 21 = .ok (.iconst 2, 1) := by decide +kernel
theorem dL_raise_22 : decode jL_raise.2.1 22 = .ok (.ireturn, 1) := by decide +kernel
theorem dL_raise_23 : decode jL_raise.2.1 23 = .ok (.iconst 0, 1) := by decide +kernel
theorem dL_raise_24 : decode jL_raise.2.1 24 = .ok (.ireturn, 1) := by decide +kernel
theorem dL_putAll_0 : decode jL_putAll.2.1 0 = .ok (.aload 8, 2) := by decide +kernel
theorem dL_putAll_2 : decode jL_putAll.2.1 2 = .ok (.iconst 0, 1) := by decide +kernel
theorem dL_putAll_3 : decode jL_putAll.2.1 3 = .ok (.aload_n 0, 1) := by decide +kernel
theorem dL_putAll_4 : decode jL_putAll.2.1 4 = .ok (.iload_n 1, 1) := by decide +kernel
theorem dL_putAll_5 : decode jL_putAll.2.1 5 = .ok (.iload_n 2, 1) := by decide +kernel
theorem dL_putAll_6 : decode jL_putAll.2.1 6 = .ok (.lload_n 3, 1) := by decide +kernel
theorem dL_putAll_7 : decode jL_putAll.2.1 7 = .ok (.lload 5, 2) := by decide +kernel
theorem dL_putAll_9 : decode jL_putAll.2.1 9 = .ok (.iload 7, 2) := by decide +kernel
theorem dL_putAll_11 : decode jL_putAll.2.1 11 = .ok (.invokevirtual 32, 3) := by decide +kernel
theorem dL_putAll_14 : decode jL_putAll.2.1 14 = .ok (.i2l, 1) := by decide +kernel
theorem dL_putAll_15 : decode jL_putAll.2.1 15 = .ok (.lastore, 1) := by decide +kernel
theorem dL_putAll_16 : decode jL_putAll.2.1 16 = .ok (.goto 7, 3) := by decide +kernel
theorem dL_putAll_19 : decode jL_putAll.2.1 19 = .ok (.astore 9, 2) := by decide +kernel
theorem dL_putAll_21 : decode jL_putAll.2.1 21 = .ok (.iconst 1, 1) := by decide +kernel
theorem dL_putAll_22 : decode jL_putAll.2.1 22 = .ok (.ireturn, 1) := by decide +kernel
theorem dL_putAll_23 : decode jL_putAll.2.1 23 = .ok (.iconst 0, 1) := by decide +kernel
theorem dL_putAll_24 : decode jL_putAll.2.1 24 = .ok (.ireturn, 1) := by decide +kernel
theorem dL_has_0 : decode jL_has.2.1 0 = .ok (.aload_n 3, 1) := by decide +kernel
theorem dL_has_1 : decode jL_has.2.1 1 = .ok (.iconst 0, 1) := by decide +kernel
theorem dL_has_2 : decode jL_has.2.1 2 = .ok (.aload_n 0, 1) := by decide +kernel
theorem dL_has_3 : decode jL_has.2.1 3 = .ok (.iload_n 1, 1) := by decide +kernel
theorem dL_has_4 : decode jL_has.2.1 4 = .ok (.iload_n 2, 1) := by decide +kernel
theorem dL_has_5 : decode jL_has.2.1 5 = .ok (.invokevirtual 36, 3) := by decide +kernel
theorem dL_has_8 : decode jL_has.2.1 8 = .ok (.ifCond .eq 7, 3) := by decide +kernel
theorem dL_has_11 : decode jL_has.2.1 11 = .ok (.lconst 1, 1) := by decide +kernel
theorem dL_has_12 : decode jL_has.2.1 12 = .ok (.goto 4, 3) := by decide +kernel
theorem dL_has_15 : decode jL_has.2.1 15 = .ok (.lconst 0, 1) := by decide +kernel
theorem dL_has_16 : decode jL_has.2.1 16 = .ok (.lastore, 1) := by decide +kernel
theorem dL_has_17 : decode jL_has.2.1 17 = .ok (.goto 7, 3) := by decide +kernel
theorem dL_has_20 : decode jL_has.2.1 20 = .ok (.astore 4, 2) := by decide +kernel
theorem dL_has_22 : decode jL_has.2.1 22 = .ok (.iconst 1, 1) := by decide +kernel
theorem dL_has_23 : decode jL_has.2.1 23 = .ok (.ireturn, 1) := by decide +kernel
theorem dL_has_24 : decode jL_has.2.1 24 = .ok (.iconst 0, 1) := by decide +kernel
theorem dL_has_25 : decode jL_has.2.1 25 = .ok (.ireturn, 1) := by decide +kernel
theorem dL_get_0 : decode jL_get.2.1 0 = .ok (.aload_n 3, 1) := by decide +kernel
theorem dL_get_1 : decode jL_get.2.1 1 = .ok (.iconst 0, 1) := by decide +kernel
theorem dL_get_2 : decode jL_get.2.1 2 = .ok (.aload_n 0, 1) := by decide +kernel
theorem dL_get_3 : decode jL_get.2.1 3 = .ok (.iload_n 1, 1) := by decide +kernel
theorem dL_get_4 : decode jL_get.2.1 4 = .ok (.iload_n 2, 1) := by decide +kernel
theorem dL_get_5 : decode jL_get.2.1 5 = .ok (.invokevirtual 42, 3) := by decide +kernel
theorem dL_get_8 : decode jL_get.2.1 8 = .ok (.lastore, 1) := by decide +kernel
theorem dL_get_9 : decode jL_get.2.1 9 = .ok (.goto 7, 3) := by decide +kernel
theorem dL_get_12 : decode jL_get.2.1 12 = .ok (.astore 4, 2) := by decide +kernel
theorem dL_get_14 : decode jL_get.2.1 14 = .ok (.iconst 1, 1) := by decide +kernel
theorem dL_get_15 : decode jL_get.2.1 15 = .ok (.ireturn, 1) := by decide +kernel
theorem dL_get_16 : decode jL_get.2.1 16 = .ok (.iconst 0, 1) := by decide +kernel
theorem dL_get_17 : decode jL_get.2.1 17 = .ok (.ireturn, 1) := by decide +kernel
theorem dL_count_0 : decode jL_count.2.1 0 = .ok (.aload 4, 2) := by decide +kernel
theorem dL_count_2 : decode jL_count.2.1 2 = .ok (.iconst 0, 1) := by decide +kernel
theorem dL_count_3 : decode jL_count.2.1 3 = .ok (.aload_n 0, 1) := by decide +kernel
theorem dL_count_4 : decode jL_count.2.1 4 = .ok (.iload_n 1, 1) := by decide +kernel
theorem dL_count_5 : decode jL_count.2.1 5 = .ok (.iload_n 2, 1) := by decide +kernel
theorem dL_count_6 : decode jL_count.2.1 6 = .ok (.iload_n 3, 1) := by decide +kernel
theorem dL_count_7 : decode jL_count.2.1 7 = .ok (.invokevirtual 46, 3) := by decide +kernel
theorem dL_count_10 : decode jL_count.2.1 10 = .ok (.i2l, 1) := by decide +kernel
theorem dL_count_11 : decode jL_count.2.1 11 = .ok (.lastore, 1) := by decide +kernel
theorem dL_count_12 : decode jL_count.2.1 12 = .ok (.goto 11, 3) := by decide +kernel
theorem dL_count_15 : decode jL_count.2.1 15 = .ok (.astore 5, 2) := by decide +kernel
theorem dL_count_17 : decode jL_count.2.1 17 = .ok (.iconst 1, 1) := by decide +kernel
theorem dL_count_18 : decode jL_count.2.1 18 = .ok (.ireturn, 1) := by decide +kernel
theorem dL_count_19 : decode jL_count.2.1 19 = .ok (.astore 5, 2) := by decide +kernel
theorem dL_count_21 : decode jL_count.2.1 21 = .ok (.iconst 2, 1) := by decide +kernel
theorem dL_count_22 : decode jL_count.2.1 22 = .ok (.ireturn, 1) := by decide +kernel
theorem dL_count_23 : decode jL_count.2.1 23 = .ok (.iconst 0, 1) := by decide +kernel
theorem dL_count_24 : decode jL_count.2.1 24 = .ok (.ireturn, 1) := by decide +kernel
theorem dL_sum_0 : decode jL_sum.2.1 0 = .ok (.aload 4, 2) := by decide +kernel
theorem dL_sum_2 : decode jL_sum.2.1 2 = .ok (.iconst 0, 1) := by decide +kernel
theorem dL_sum_3 : decode jL_sum.2.1 3 = .ok (.aload_n 0, 1) := by decide +kernel
theorem dL_sum_4 : decode jL_sum.2.1 4 = .ok (.iload_n 1, 1) := by decide +kernel
theorem dL_sum_5 : decode jL_sum.2.1 5 = .ok (.iload_n 2, 1) := by decide +kernel
theorem dL_sum_6 : decode jL_sum.2.1 6 = .ok (.iload_n 3, 1) := by decide +kernel
theorem dL_sum_7 : decode jL_sum.2.1 7 = .ok (.invokevirtual 50, 3) := by decide +kernel
theorem dL_sum_10 : decode jL_sum.2.1 10 = .ok (.lastore, 1) := by decide +kernel
theorem dL_sum_11 : decode jL_sum.2.1 11 = .ok (.goto 11, 3) := by decide +kernel
theorem dL_sum_14 : decode jL_sum.2.1 14 = .ok (.astore 5, 2) := by decide +kernel
theorem dL_sum_16 : decode jL_sum.2.1 16 = .ok (.iconst 1, 1) := by decide +kernel
theorem dL_sum_17 : decode jL_sum.2.1 17 = .ok (.ireturn, 1) := by decide +kernel
theorem dL_sum_18 : decode jL_sum.2.1 18 = .ok (.astore 5, 2) := by decide +kernel
theorem dL_sum_20 : decode jL_sum.2.1 20 = .ok (.iconst 2, 1) := by decide +kernel
theorem dL_sum_21 : decode jL_sum.2.1 21 = .ok (.ireturn, 1) := by decide +kernel
theorem dL_sum_22 : decode jL_sum.2.1 22 = .ok (.iconst 0, 1) := by decide +kernel
theorem dL_sum_23 : decode jL_sum.2.1 23 = .ok (.ireturn, 1) := by decide +kernel
theorem dL_key_0 : decode jL_key.2.1 0 = .ok (.aload 4, 2) := by decide +kernel
theorem dL_key_2 : decode jL_key.2.1 2 = .ok (.iconst 0, 1) := by decide +kernel
theorem dL_key_3 : decode jL_key.2.1 3 = .ok (.aload_n 0, 1) := by decide +kernel
theorem dL_key_4 : decode jL_key.2.1 4 = .ok (.iload_n 1, 1) := by decide +kernel
theorem dL_key_5 : decode jL_key.2.1 5 = .ok (.iload_n 2, 1) := by decide +kernel
theorem dL_key_6 : decode jL_key.2.1 6 = .ok (.iload_n 3, 1) := by decide +kernel
theorem dL_key_7 : decode jL_key.2.1 7 = .ok (.invokevirtual 54, 3) := by decide +kernel
theorem dL_key_10 : decode jL_key.2.1 10 = .ok (.i2l, 1) := by decide +kernel
theorem dL_key_11 : decode jL_key.2.1 11 = .ok (.lastore, 1) := by decide +kernel
theorem dL_key_12 : decode jL_key.2.1 12 = .ok (.goto 11, 3) := by decide +kernel
theorem dL_key_15 : decode jL_key.2.1 15 = .ok (.astore 5, 2) := by decide +kernel
theorem dL_key_17 : decode jL_key.2.1 17 = .ok (.iconst 1, 1) := by decide +kernel
theorem dL_key_18 : decode jL_key.2.1 18 = .ok (.ireturn, 1) := by decide +kernel
theorem dL_key_19 : decode jL_key.2.1 19 = .ok (.astore 5, 2) := by decide +kernel
theorem dL_key_21 : decode jL_key.2.1 21 = .ok (.iconst 2, 1) := by decide +kernel
theorem dL_key_22 : decode jL_key.2.1 22 = .ok (.ireturn, 1) := by decide +kernel
theorem dL_key_23 : decode jL_key.2.1 23 = .ok (.iconst 0, 1) := by decide +kernel
theorem dL_key_24 : decode jL_key.2.1 24 = .ok (.ireturn, 1) := by decide +kernel
theorem dL_save_0 : decode jL_save.2.1 0 = .ok (.aload_n 0, 1) := by decide +kernel
theorem dL_save_1 : decode jL_save.2.1 1 = .ok (.iload_n 1, 1) := by decide +kernel
theorem dL_save_2 : decode jL_save.2.1 2 = .ok (.invokevirtual 57, 3) := by decide +kernel
theorem dL_save_5 : decode jL_save.2.1 5 = .ok (.goto 6, 3) := by decide +kernel
theorem dL_save_8 : decode jL_save.2.1 8 = .ok (.astore_n 2, 1) := by decide +kernel
theorem dL_save_9 : decode jL_save.2.1 9 = .ok (.iconst 1, 1) := by decide +kernel
theorem dL_save_10 : decode jL_save.2.1 10 = .ok (.ireturn, 1) := by decide +kernel
theorem dL_save_11 : decode jL_save.2.1 11 = .ok (.iconst 0, 1) := by decide +kernel
theorem dL_save_12 : decode jL_save.2.1 12 = .ok (.ireturn, 1) := by decide +kernel
theorem dL_drop_0 : decode jL_drop.2.1 0 = .ok (.aload_n 2, 1) := by decide +kernel
theorem dL_drop_1 : decode jL_drop.2.1 1 = .ok (.iconst 0, 1) := by decide +kernel
theorem dL_drop_2 : decode jL_drop.2.1 2 = .ok (.aload_n 0, 1) := by decide +kernel
theorem dL_drop_3 : decode jL_drop.2.1 3 = .ok (.iload_n 1, 1) := by decide +kernel
theorem dL_drop_4 : decode jL_drop.2.1 4 = .ok (.invokevirtual 61, 3) := by decide +kernel
theorem dL_drop_7 : decode jL_drop.2.1 7 = .ok (.ifCond .eq 7, 3) := by decide +kernel
theorem dL_drop_10 : decode jL_drop.2.1 10 = .ok (.lconst 1, 1) := by decide +kernel
theorem dL_drop_11 : decode jL_drop.2.1 11 = .ok (.goto 4, 3) := by decide +kernel
theorem dL_drop_14 : decode jL_drop.2.1 14 = .ok (.lconst 0, 1) := by decide +kernel
theorem dL_drop_15 : decode jL_drop.2.1 15 = .ok (.lastore, 1) := by decide +kernel
theorem dL_drop_16 : decode jL_drop.2.1 16 = .ok (.goto 6, 3) := by decide +kernel
theorem dL_drop_19 : decode jL_drop.2.1 19 = .ok (.astore_n 3, 1) := by decide +kernel
theorem dL_drop_20 : decode jL_drop.2.1 20 = .ok (.iconst 1, 1) := by decide +kernel
theorem dL_drop_21 : decode jL_drop.2.1 21 = .ok (.ireturn, 1) := by decide +kernel
theorem dL_drop_22 : decode jL_drop.2.1 22 = .ok (.iconst 0, 1) := by decide +kernel
theorem dL_drop_23 : decode jL_drop.2.1 23 = .ok (.ireturn, 1) := by decide +kernel
theorem dL_restore_0 : decode jL_restore.2.1 0 = .ok (.aload_n 2, 1) := by decide +kernel
theorem dL_restore_1 : decode jL_restore.2.1 1 = .ok (.iconst 0, 1) := by decide +kernel
theorem dL_restore_2 : decode jL_restore.2.1 2 = .ok (.aload_n 0, 1) := by decide +kernel
theorem dL_restore_3 : decode jL_restore.2.1 3 = .ok (.iload_n 1, 1) := by decide +kernel
theorem dL_restore_4 : decode jL_restore.2.1 4 = .ok (.invokevirtual 65, 3) := by decide +kernel
theorem dL_restore_7 : decode jL_restore.2.1 7 = .ok (.i2l, 1) := by decide +kernel
theorem dL_restore_8 : decode jL_restore.2.1 8 = .ok (.lastore, 1) := by decide +kernel
theorem dL_restore_9 : decode jL_restore.2.1 9 = .ok (.goto 9, 3) := by decide +kernel
theorem dL_restore_12 : decode jL_restore.2.1 12 = .ok (.astore_n 3, 1) := by decide +kernel
theorem dL_restore_13 : decode jL_restore.2.1 13 = .ok (.iconst 1, 1) := by decide +kernel
theorem dL_restore_14 : decode jL_restore.2.1 14 = .ok (.ireturn, 1) := by decide +kernel
theorem dL_restore_15 : decode jL_restore.2.1 15 = .ok (.astore_n 3, 1) := by decide +kernel
theorem dL_restore_16 : decode jL_restore.2.1 16 = .ok (.iconst 2, 1) := by decide +kernel
theorem dL_restore_17 : decode jL_restore.2.1 17 = .ok (.ireturn, 1) := by decide +kernel
theorem dL_restore_18 : decode jL_restore.2.1 18 = .ok (.iconst 0, 1) := by decide +kernel
theorem dL_restore_19 : decode jL_restore.2.1 19 = .ok (.ireturn, 1) := by decide +kernel
theorem dL_differ_0 : decode jL_differ.2.1 0 = .ok (.aload_n 3, 1) := by decide +kernel
theorem dL_differ_1 : decode jL_differ.2.1 1 = .ok (.iconst 0, 1) := by decide +kernel
theorem dL_differ_2 : decode jL_differ.2.1 2 = .ok (.aload_n 0, 1) := by decide +kernel
theorem dL_differ_3 : decode jL_differ.2.1 3 = .ok (.iload_n 1, 1) := by decide +kernel
theorem dL_differ_4 : decode jL_differ.2.1 4 = .ok (.iload_n 2, 1) := by decide +kernel
theorem dL_differ_5 : decode jL_differ.2.1 5 = .ok (.invokevirtual 69, 3) := by decide +kernel
theorem dL_differ_8 : decode jL_differ.2.1 8 = .ok (.i2l, 1) := by decide +kernel
theorem dL_differ_9 : decode jL_differ.2.1 9 = .ok (.lastore, 1) := by decide +kernel
theorem dL_differ_10 : decode jL_differ.2.1 10 = .ok (.goto 7, 3) := by decide +kernel
theorem dL_differ_13 : decode jL_differ.2.1 13 = .ok (.astore 4, 2) := by decide +kernel
theorem dL_differ_15 : decode jL_differ.2.1 15 = .ok (.iconst 1, 1) := by decide +kernel
theorem dL_differ_16 : decode jL_differ.2.1 16 = .ok (.ireturn, 1) := by decide +kernel
theorem dL_differ_17 : decode jL_differ.2.1 17 = .ok (.iconst 0, 1) := by decide +kernel
theorem dL_differ_18 : decode jL_differ.2.1 18 = .ok (.ireturn, 1) := by decide +kernel
theorem dL_total_0 : decode jL_total.2.1 0 = .ok (.aload_n 2, 1) := by decide +kernel
theorem dL_total_1 : decode jL_total.2.1 1 = .ok (.iconst 0, 1) := by decide +kernel
theorem dL_total_2 : decode jL_total.2.1 2 = .ok (.aload_n 0, 1) := by decide +kernel
theorem dL_total_3 : decode jL_total.2.1 3 = .ok (.iload_n 1, 1) := by decide +kernel
theorem dL_total_4 : decode jL_total.2.1 4 = .ok (.invokevirtual 72, 3) := by decide +kernel
theorem dL_total_7 : decode jL_total.2.1 7 = .ok (.i2l, 1) := by decide +kernel
theorem dL_total_8 : decode jL_total.2.1 8 = .ok (.lastore, 1) := by decide +kernel
theorem dL_total_9 : decode jL_total.2.1 9 = .ok (.goto 6, 3) := by decide +kernel
theorem dL_total_12 : decode jL_total.2.1 12 = .ok (.astore_n 3, 1) := by decide +kernel
theorem dL_total_13 : decode jL_total.2.1 13 = .ok (.iconst 1, 1) := by decide +kernel
theorem dL_total_14 : decode jL_total.2.1 14 = .ok (.ireturn, 1) := by decide +kernel
theorem dL_total_15 : decode jL_total.2.1 15 = .ok (.iconst 0, 1) := by decide +kernel
theorem dL_total_16 : decode jL_total.2.1 16 = .ok (.ireturn, 1) := by decide +kernel
