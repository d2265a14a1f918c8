/-! What each instruction is. Laid by wip/whole/gen/names.py. -/
theorem dX1_init_0 : decode jX1_init.2.1 0 = .ok (.aload_n 0, 1) := by decide +kernel
theorem dX1_init_1 : decode jX1_init.2.1 1 = .ok (.invokespecial 3, 3) := by decide +kernel
theorem dX1_init_4 : decode jX1_init.2.1 4 = .ok (.aload_n 0, 1) := by decide +kernel
theorem dX1_init_5 : decode jX1_init.2.1 5 = .ok (.bipush 40, 2) := by decide +kernel
theorem dX1_init_7 : decode jX1_init.2.1 7 = .ok (.anewarray 9, 3) := by decide +kernel
theorem dX1_init_10 : decode jX1_init.2.1 10 = .ok (.putfield 11, 3) := by decide +kernel
theorem dX1_init_13 : decode jX1_init.2.1 13 = .ok (.iconst 0, 1) := by decide +kernel
theorem dX1_init_14 : decode jX1_init.2.1 14 = .ok (.istore_n 1, 1) := by decide +kernel
theorem dX1_init_15 : decode jX1_init.2.1 15 = .ok (.iload_n 1, 1) := by decide +kernel
theorem dX1_init_16 : decode jX1_init.2.1 16 = .ok (.bipush 40, 2) := by decide +kernel
theorem dX1_init_18 : decode jX1_init.2.1 18 = .ok (.if_icmp .ge 22, 3) := by decide +kernel
theorem dX1_init_21 : decode jX1_init.2.1 21 = .ok (.aload_n 0, 1) := by decide +kernel
theorem dX1_init_22 : decode jX1_init.2.1 22 = .ok (.getfield 11, 3) := by decide +kernel
theorem dX1_init_25 : decode jX1_init.2.1 25 = .ok (.iload_n 1, 1) := by decide +kernel
theorem dX1_init_26 : decode jX1_init.2.1 26 = .ok (.new 9, 3) := by decide +kernel
theorem dX1_init_29 : decode jX1_init.2.1 29 = .ok (.dup, 1) := by decide +kernel
theorem dX1_init_30 : decode jX1_init.2.1 30 = .ok (.invokespecial 17, 3) := by decide +kernel
theorem dX1_init_33 : decode jX1_init.2.1 33 = .ok (.aastore, 1) := by decide +kernel
theorem dX1_init_34 : decode jX1_init.2.1 34 = .ok (.iinc 1 1, 3) := by decide +kernel
theorem dX1_init_37 : decode jX1_init.2.1 37 = .ok (.goto (-22), 3) := by decide +kernel
theorem dX1_init_40 : decode jX1_init.2.1 40 = .ok (.aload_n 0, 1) := by decide +kernel
theorem dX1_init_41 : decode jX1_init.2.1 41 = .ok (.iconst 1, 1) := by decide +kernel
theorem dX1_init_42 : decode jX1_init.2.1 42 = .ok (.putfield 18, 3) := by decide +kernel
theorem dX1_init_45 : decode jX1_init.2.1 45 = .ok (.aload_n 0, 1) := by decide +kernel
theorem dX1_init_46 : decode jX1_init.2.1 46 = .ok (.iconst 0, 1) := by decide +kernel
theorem dX1_init_47 : decode jX1_init.2.1 47 = .ok (.putfield 22, 3) := by decide +kernel
theorem dX1_init_50 : decode jX1_init.2.1 50 = .ok (.return_, 1) := by decide +kernel
theorem dX1_pageOf_0 : decode jX1_pageOf.2.1 0 = .ok (.iconst 0, 1) := by decide +kernel
theorem dX1_pageOf_1 : decode jX1_pageOf.2.1 1 = .ok (.istore_n 2, 1) := by decide +kernel
theorem dX1_pageOf_2 : decode jX1_pageOf.2.1 2 = .ok (.iload_n 2, 1) := by decide +kernel
theorem dX1_pageOf_3 : decode jX1_pageOf.2.1 3 = .ok (.aload_n 0, 1) := by decide +kernel
theorem dX1_pageOf_4 : decode jX1_pageOf.2.1 4 = .ok (.getfield 18, 3) := by decide +kernel
theorem dX1_pageOf_7 : decode jX1_pageOf.2.1 7 = .ok (.iconst 1, 1) := by decide +kernel
theorem dX1_pageOf_8 : decode jX1_pageOf.2.1 8 = .ok (.isub, 1) := by decide +kernel
theorem dX1_pageOf_9 : decode jX1_pageOf.2.1 9 = .ok (.if_icmp .ge 22, 3) := by decide +kernel
theorem dX1_pageOf_12 : decode jX1_pageOf.2.1 12 = .ok (.aload_n 0, 1) := by decide +kernel
theorem dX1_pageOf_13 : decode jX1_pageOf.2.1 13 = .ok (.getfield 11, 3) := by decide +kernel
theorem dX1_pageOf_16 : decode jX1_pageOf.2.1 16 = .ok (.iload_n 2, 1) := by decide +kernel
theorem dX1_pageOf_17 : decode jX1_pageOf.2.1 17 = .ok (.aaload, 1) := by decide +kernel
theorem dX1_pageOf_18 : decode jX1_pageOf.2.1 18 = .ok (.getfield 25, 3) := by decide +kernel
theorem dX1_pageOf_21 : decode jX1_pageOf.2.1 21 = .ok (.iload_n 1, 1) := by decide +kernel
theorem dX1_pageOf_22 : decode jX1_pageOf.2.1 22 = .ok (.if_icmp .ge 9, 3) := by decide +kernel
theorem dX1_pageOf_25 : decode jX1_pageOf.2.1 25 = .ok (.iinc 2 1, 3) := by decide +kernel
theorem dX1_pageOf_28 : decode jX1_pageOf.2.1 28 = .ok (.goto (-26), 3) := by decide +kernel
theorem dX1_pageOf_31 : decode jX1_pageOf.2.1 31 = .ok (.iload_n 2, 1) := by decide +kernel
theorem dX1_pageOf_32 : decode jX1_pageOf.2.1 32 = .ok (.ireturn, 1) := by decide +kernel
theorem dX1_holds_0 : decode jX1_holds.2.1 0 = .ok (.aload_n 0, 1) := by decide +kernel
theorem dX1_holds_1 : decode jX1_holds.2.1 1 = .ok (.getfield 11, 3) := by decide +kernel
theorem dX1_holds_4 : decode jX1_holds.2.1 4 = .ok (.aload_n 0, 1) := by decide +kernel
theorem dX1_holds_5 : decode jX1_holds.2.1 5 = .ok (.iload_n 1, 1) := by decide +kernel
theorem dX1_holds_6 : decode jX1_holds.2.1 6 = .ok (.invokevirtual 28, 3) := by decide +kernel
theorem dX1_holds_9 : decode jX1_holds.2.1 9 = .ok (.aaload, 1) := by decide +kernel
theorem dX1_holds_10 : decode jX1_holds.2.1 10 = .ok (.astore_n 2, 1) := by decide +kernel
theorem dX1_holds_11 : decode jX1_holds.2.1 11 = .ok (.aload_n 2, 1) := by decide +kernel
theorem dX1_holds_12 : decode jX1_holds.2.1 12 = .ok (.aload_n 2, 1) := by decide +kernel
theorem dX1_holds_13 : decode jX1_holds.2.1 13 = .ok (.iload_n 1, 1) := by decide +kernel
theorem dX1_holds_14 : decode jX1_holds.2.1 14 = .ok (.invokevirtual 32, 3) := by decide +kernel
theorem dX1_holds_17 : decode jX1_holds.2.1 17 = .ok (.iload_n 1, 1) := by decide +kernel
theorem dX1_holds_18 : decode jX1_holds.2.1 18 = .ok (.invokevirtual 35, 3) := by decide +kernel
theorem dX1_holds_21 : decode jX1_holds.2.1 21 = .ok (.ireturn, 1) := by decide +kernel
theorem dX1_valueOf_0 : decode jX1_valueOf.2.1 0 = .ok (.aload_n 0, 1) := by decide +kernel
theorem dX1_valueOf_1 : decode jX1_valueOf.2.1 1 = .ok (.getfield 11, 3) := by decide +kernel
theorem dX1_valueOf_4 : decode jX1_valueOf.2.1 4 = .ok (.aload_n 0, 1) := by decide +kernel
theorem dX1_valueOf_5 : decode jX1_valueOf.2.1 5 = .ok (.iload_n 1, 1) := by decide +kernel
theorem dX1_valueOf_6 : decode jX1_valueOf.2.1 6 = .ok (.invokevirtual 28, 3) := by decide +kernel
theorem dX1_valueOf_9 : decode jX1_valueOf.2.1 9 = .ok (.aaload, 1) := by decide +kernel
theorem dX1_valueOf_10 : decode jX1_valueOf.2.1 10 = .ok (.astore_n 2, 1) := by decide +kernel
theorem dX1_valueOf_11 : decode jX1_valueOf.2.1 11 = .ok (.aload_n 2, 1) := by decide +kernel
theorem dX1_valueOf_12 : decode jX1_valueOf.2.1 12 = .ok (.iload_n 1, 1) := by decide +kernel
theorem dX1_valueOf_13 : decode jX1_valueOf.2.1 13 = .ok (.invokevirtual 32, 3) := by decide +kernel
theorem dX1_valueOf_16 : decode jX1_valueOf.2.1 16 = .ok (.istore_n 3, 1) := by decide +kernel
theorem dX1_valueOf_17 : decode jX1_valueOf.2.1 17 = .ok (.aload_n 2, 1) := by decide +kernel
theorem dX1_valueOf_18 : decode jX1_valueOf.2.1 18 = .ok (.iload_n 3, 1) := by decide +kernel
theorem dX1_valueOf_19 : decode jX1_valueOf.2.1 19 = .ok (.iload_n 1, 1) := by decide +kernel
theorem dX1_valueOf_20 : decode jX1_valueOf.2.1 20 = .ok (.invokevirtual 35, 3) := by decide +kernel
theorem dX1_valueOf_23 : decode jX1_valueOf.2.1 23 = .ok (.ifCond .eq 11, 3) := by decide +kernel
theorem dX1_valueOf_26 : decode jX1_valueOf.2.1 26 = .ok (.aload_n 2, 1) := by decide +kernel
theorem dX1_valueOf_27 : decode jX1_valueOf.2.1 27 = .ok (.iload_n 3, 1) := by decide +kernel
theorem dX1_valueOf_28 : decode jX1_valueOf.2.1 28 = .ok (.invokevirtual 39, 3) := by decide +kernel
theorem dX1_valueOf_31 : decode jX1_valueOf.2.1 31 = .ok (.goto 4, 3) := by decide +kernel
theorem dX1_valueOf_34 : decode jX1_valueOf.2.1 34 = .ok (.lconst 0, 1) := by decide +kernel
theorem dX1_valueOf_35 : decode jX1_valueOf.2.1 35 = .ok (.lreturn, 1) := by decide +kernel
theorem dX1_write_0 : decode jX1_write.2.1 0 = .ok (.aload_n 0, 1) := by decide +kernel
theorem dX1_write_1 : decode jX1_write.2.1 1 = .ok (.getfield 11, 3) := by decide +kernel
theorem dX1_write_4 : decode jX1_write.2.1 4 = .ok (.aload_n 0, 1) := by decide +kernel
theorem dX1_write_5 : decode jX1_write.2.1 5 = .ok (.iload_n 1, 1) := by decide +kernel
theorem dX1_write_6 : decode jX1_write.2.1 6 = .ok (.invokevirtual 28, 3) := by decide +kernel
theorem dX1_write_9 : decode jX1_write.2.1 9 = .ok (.aaload, 1) := by decide +kernel
theorem dX1_write_10 : decode jX1_write.2.1 10 = .ok (.astore 4, 2) := by decide +kernel
theorem dX1_write_12 : decode jX1_write.2.1 12 = .ok (.aload 4, 2) := by decide +kernel
theorem dX1_write_14 : decode jX1_write.2.1 14 = .ok (.aload 4, 2) := by decide +kernel
theorem dX1_write_16 : decode jX1_write.2.1 16 = .ok (.iload_n 1, 1) := by decide +kernel
theorem dX1_write_17 : decode jX1_write.2.1 17 = .ok (.invokevirtual 32, 3) := by decide +kernel
theorem dX1_write_20 : decode jX1_write.2.1 20 = .ok (.iload_n 1, 1) := by decide +kernel
theorem dX1_write_21 : decode jX1_write.2.1 21 = .ok (.invokevirtual 35, 3) := by decide +kernel
theorem dX1_write_24 : decode jX1_write.2.1 24 = .ok (.ifCond .eq 16, 3) := by decide +kernel
theorem dX1_write_27 : decode jX1_write.2.1 27 = .ok (.aload 4, 2) := by decide +kernel
theorem dX1_write_29 : decode jX1_write.2.1 29 = .ok (.aload 4, 2) := by decide +kernel
theorem dX1_write_31 : decode jX1_write.2.1 31 = .ok (.iload_n 1, 1) := by decide +kernel
theorem dX1_write_32 : decode jX1_write.2.1 32 = .ok (.invokevirtual 32, 3) := by decide +kernel
theorem dX1_write_35 : decode jX1_write.2.1 35 = .ok (.lload_n 2, 1) := by decide +kernel
theorem dX1_write_36 : decode jX1_write.2.1 36 = .ok (.invokevirtual 43, 3) := by decide +kernel
theorem dX1_write_39 : decode jX1_write.2.1 39 = .ok (.return_, 1) := by decide +kernel
theorem dX1_write_40 : decode jX1_write.2.1 40 = .ok (.aload 4, 2) := by decide +kernel
theorem dX1_write_42 : decode jX1_write.2.1 42 = .ok (.getfield 47, 3) := by decide +kernel
theorem dX1_write_45 : decode jX1_write.2.1 45 = .ok (.bipush 32, 2) := by decide +kernel
theorem dX1_write_47 : decode jX1_write.2.1 47 = .ok (.if_icmp .ne 20, 3) := by decide +kernel
theorem dX1_write_50 : decode jX1_write.2.1 50 = .ok (.aload_n 0, 1) := by decide +kernel
theorem dX1_write_51 : decode jX1_write.2.1 51 = .ok (.iload_n 1, 1) := by decide +kernel
theorem dX1_write_52 : decode jX1_write.2.1 52 = .ok (.invokevirtual 50, 3) := by decide +kernel
theorem dX1_write_55 : decode jX1_write.2.1 55 = .ok (.aload_n 0, 1) := by decide +kernel
theorem dX1_write_56 : decode jX1_write.2.1 56 = .ok (.getfield 11, 3) := by decide +kernel
theorem dX1_write_59 : decode jX1_write.2.1 59 = .ok (.aload_n 0, 1) := by decide +kernel
theorem dX1_write_60 : decode jX1_write.2.1 60 = .ok (.iload_n 1, 1) := by decide +kernel
theorem dX1_write_61 : decode jX1_write.2.1 61 = .ok (.invokevirtual 28, 3) := by decide +kernel
theorem dX1_write_64 : decode jX1_write.2.1 64 = .ok (.aaload, 1) := by decide +kernel
theorem dX1_write_65 : decode jX1_write.2.1 65 = .ok (.astore 4, 2) := by decide +kernel
theorem dX1_write_67 : decode jX1_write.2.1 67 = .ok (.aload 4, 2) := by decide +kernel
theorem dX1_write_69 : decode jX1_write.2.1 69 = .ok (.aload 4, 2) := by decide +kernel
theorem dX1_write_71 : decode jX1_write.2.1 71 = .ok (.iload_n 1, 1) := by decide +kernel
theorem dX1_write_72 : decode jX1_write.2.1 72 = .ok (.invokevirtual 32, 3) := by decide +kernel
theorem dX1_write_75 : decode jX1_write.2.1 75 = .ok (.iload_n 1, 1) := by decide +kernel
theorem dX1_write_76 : decode jX1_write.2.1 76 = .ok (.lload_n 2, 1) := by decide +kernel
theorem dX1_write_77 : decode jX1_write.2.1 77 = .ok (.invokevirtual 54, 3) := by decide +kernel
theorem dX1_write_80 : decode jX1_write.2.1 80 = .ok (.aload_n 0, 1) := by decide +kernel
theorem dX1_write_81 : decode jX1_write.2.1 81 = .ok (.dup, 1) := by decide +kernel
theorem dX1_write_82 : decode jX1_write.2.1 82 = .ok (.getfield 22, 3) := by decide +kernel
theorem dX1_write_85 : decode jX1_write.2.1 85 = .ok (.iconst 1, 1) := by decide +kernel
theorem dX1_write_86 : decode jX1_write.2.1 86 = .ok (.iadd, 1) := by decide +kernel
theorem dX1_write_87 : decode jX1_write.2.1 87 = .ok (.putfield 22, 3) := by decide +kernel
theorem dX1_write_90 : decode jX1_write.2.1 90 = .ok (.return_, 1) := by decide +kernel
theorem dX1_splitPageOf_0 : decode jX1_splitPageOf.2.1 0 = .ok (.aload_n 0, 1) := by decide +kernel
theorem dX1_splitPageOf_1 : decode jX1_splitPageOf.2.1 1 = .ok (.getfield 18, 3) := by decide +kernel
theorem dX1_splitPageOf_4 : decode jX1_splitPageOf.2.1 4 = .ok (.bipush 40, 2) := by decide +kernel
theorem dX1_splitPageOf_6 : decode jX1_splitPageOf.2.1 6 = .ok (.if_icmp .ne 7, 3) := by decide +kernel
theorem dX1_splitPageOf_9 : decode jX1_splitPageOf.2.1 9 = .ok (.aload_n 0, 1) := by decide +kernel
theorem dX1_splitPageOf_10 : decode jX1_splitPageOf.2.1 10 = .ok (.invokevirtual 58, 3) := by decide +kernel
theorem dX1_splitPageOf_13 : decode jX1_splitPageOf.2.1 13 = .ok (.aload_n 0, 1) := by decide +kernel
theorem dX1_splitPageOf_14 : decode jX1_splitPageOf.2.1 14 = .ok (.iload_n 1, 1) := by decide +kernel
theorem dX1_splitPageOf_15 : decode jX1_splitPageOf.2.1 15 = .ok (.invokevirtual 28, 3) := by decide +kernel
theorem dX1_splitPageOf_18 : decode jX1_splitPageOf.2.1 18 = .ok (.istore_n 2, 1) := by decide +kernel
theorem dX1_splitPageOf_19 : decode jX1_splitPageOf.2.1 19 = .ok (.aload_n 0, 1) := by decide +kernel
theorem dX1_splitPageOf_20 : decode jX1_splitPageOf.2.1 20 = .ok (.getfield 11, 3) := by decide +kernel
theorem dX1_splitPageOf_23 : decode jX1_splitPageOf.2.1 23 = .ok (.aload_n 0, 1) := by decide +kernel
theorem dX1_splitPageOf_24 : decode jX1_splitPageOf.2.1 24 = .ok (.getfield 18, 3) := by decide +kernel
theorem dX1_splitPageOf_27 : decode jX1_splitPageOf.2.1 27 = .ok (.aaload, 1) := by decide +kernel
theorem dX1_splitPageOf_28 : decode jX1_splitPageOf.2.1 28 = .ok (.astore_n 3, 1) := by decide +kernel
theorem dX1_splitPageOf_29 : decode jX1_splitPageOf.2.1 29 = .ok (.aload_n 0, 1) := by decide +kernel
theorem dX1_splitPageOf_30 : decode jX1_splitPageOf.2.1 30 = .ok (.getfield 18, 3) := by decide +kernel
theorem dX1_splitPageOf_33 : decode jX1_splitPageOf.2.1 33 = .ok (.istore 4, 2) := by decide +kernel
theorem dX1_splitPageOf_35 : decode jX1_splitPageOf.2.1 35 = .ok (.iload 4, 2) := by decide +kernel
theorem dX1_splitPageOf_37 : decode jX1_splitPageOf.2.1 37 = .ok (.iload_n 2, 1) := by decide +kernel
theorem dX1_splitPageOf_38 : decode jX1_splitPageOf.2.1 38 = .ok (.iconst 1, 1) := by decide +kernel
theorem dX1_splitPageOf_39 : decode jX1_splitPageOf.2.1 39 = .ok (.iadd, 1) := by decide +kernel
theorem dX1_splitPageOf_40 : decode jX1_splitPageOf.2.1 40 = .ok (.if_icmp .le 25, 3) := by decide +kernel
theorem dX1_splitPageOf_43 : decode jX1_splitPageOf.2.1 43 = .ok (.aload_n 0, 1) := by decide +kernel
theorem dX1_splitPageOf_44 : decode jX1_splitPageOf.2.1 44 = .ok (.getfield 11, 3) := by decide +kernel
theorem dX1_splitPageOf_47 : decode jX1_splitPageOf.2.1 47 = .ok (.iload 4, 2) := by decide +kernel
theorem dX1_splitPageOf_49 : decode jX1_splitPageOf.2.1 49 = .ok (.aload_n 0, 1) := by decide +kernel
theorem dX1_splitPageOf_50 : decode jX1_splitPageOf.2.1 50 = .ok (.getfield 11, 3) := by decide +kernel
theorem dX1_splitPageOf_53 : decode jX1_splitPageOf.2.1 53 = .ok (.iload 4, 2) := by decide +kernel
theorem dX1_splitPageOf_55 : decode jX1_splitPageOf.2.1 55 = .ok (.iconst 1, 1) := by decide +kernel
theorem dX1_splitPageOf_56 : decode jX1_splitPageOf.2.1 56 = .ok (.isub, 1) := by decide +kernel
theorem dX1_splitPageOf_57 : decode jX1_splitPageOf.2.1 57 = .ok (.aaload, 1) := by decide +kernel
theorem dX1_splitPageOf_58 : decode jX1_splitPageOf.2.1 58 = .ok (.aastore, 1) := by decide +kernel
theorem dX1_splitPageOf_59 : decode jX1_splitPageOf.2.1 59 = .ok (.iinc 4 (-1), 3) := by decide +kernel
theorem dX1_splitPageOf_62 : decode jX1_splitPageOf.2.1 62 = .ok (.goto (-27), 3) := by decide +kernel
theorem dX1_splitPageOf_65 : decode jX1_splitPageOf.2.1 65 = .ok (.aload_n 0, 1) := by decide +kernel
theorem dX1_splitPageOf_66 : decode jX1_splitPageOf.2.1 66 = .ok (.getfield 11, 3) := by decide +kernel
theorem dX1_splitPageOf_69 : decode jX1_splitPageOf.2.1 69 = .ok (.iload_n 2, 1) := by decide +kernel
theorem dX1_splitPageOf_70 : decode jX1_splitPageOf.2.1 70 = .ok (.iconst 1, 1) := by decide +kernel
theorem dX1_splitPageOf_71 : decode jX1_splitPageOf.2.1 71 = .ok (.iadd, 1) := by decide +kernel
theorem dX1_splitPageOf_72 : decode jX1_splitPageOf.2.1 72 = .ok (.aload_n 3, 1) := by decide +kernel
theorem dX1_splitPageOf_73 : decode jX1_splitPageOf.2.1 73 = .ok (.aastore, 1) := by decide +kernel
theorem dX1_splitPageOf_74 : decode jX1_splitPageOf.2.1 74 = .ok (.aload_n 0, 1) := by decide +kernel
theorem dX1_splitPageOf_75 : decode jX1_splitPageOf.2.1 75 = .ok (.dup, 1) := by decide +kernel
theorem dX1_splitPageOf_76 : decode jX1_splitPageOf.2.1 76 = .ok (.getfield 18, 3) := by decide +kernel
theorem dX1_splitPageOf_79 : decode jX1_splitPageOf.2.1 79 = .ok (.iconst 1, 1) := by decide +kernel
theorem dX1_splitPageOf_80 : decode jX1_splitPageOf.2.1 80 = .ok (.iadd, 1) := by decide +kernel
theorem dX1_splitPageOf_81 : decode jX1_splitPageOf.2.1 81 = .ok (.putfield 18, 3) := by decide +kernel
theorem dX1_splitPageOf_84 : decode jX1_splitPageOf.2.1 84 = .ok (.aload_n 0, 1) := by decide +kernel
theorem dX1_splitPageOf_85 : decode jX1_splitPageOf.2.1 85 = .ok (.getfield 11, 3) := by decide +kernel
theorem dX1_splitPageOf_88 : decode jX1_splitPageOf.2.1 88 = .ok (.iload_n 2, 1) := by decide +kernel
theorem dX1_splitPageOf_89 : decode jX1_splitPageOf.2.1 89 = .ok (.aaload, 1) := by decide +kernel
theorem dX1_splitPageOf_90 : decode jX1_splitPageOf.2.1 90 = .ok (.aload_n 3, 1) := by decide +kernel
theorem dX1_splitPageOf_91 : decode jX1_splitPageOf.2.1 91 = .ok (.invokevirtual 61, 3) := by decide +kernel
theorem dX1_splitPageOf_94 : decode jX1_splitPageOf.2.1 94 = .ok (.return_, 1) := by decide +kernel
theorem dX1_joinPages_0 : decode jX1_joinPages.2.1 0 = .ok (.iconst 0, 1) := by decide +kernel
theorem dX1_joinPages_1 : decode jX1_joinPages.2.1 1 = .ok (.istore_n 1, 1) := by decide +kernel
theorem dX1_joinPages_2 : decode jX1_joinPages.2.1 2 = .ok (.iconst 1, 1) := by decide +kernel
theorem dX1_joinPages_3 : decode jX1_joinPages.2.1 3 = .ok (.istore_n 2, 1) := by decide +kernel
theorem dX1_joinPages_4 : decode jX1_joinPages.2.1 4 = .ok (.iload_n 2, 1) := by decide +kernel
theorem dX1_joinPages_5 : decode jX1_joinPages.2.1 5 = .ok (.aload_n 0, 1) := by decide +kernel
theorem dX1_joinPages_6 : decode jX1_joinPages.2.1 6 = .ok (.getfield 18, 3) := by decide +kernel
theorem dX1_joinPages_9 : decode jX1_joinPages.2.1 9 = .ok (.if_icmp .ge 70, 3) := by decide +kernel
theorem dX1_joinPages_12 : decode jX1_joinPages.2.1 12 = .ok (.aload_n 0, 1) := by decide +kernel
theorem dX1_joinPages_13 : decode jX1_joinPages.2.1 13 = .ok (.getfield 11, 3) := by decide +kernel
theorem dX1_joinPages_16 : decode jX1_joinPages.2.1 16 = .ok (.iload_n 2, 1) := by decide +kernel
theorem dX1_joinPages_17 : decode jX1_joinPages.2.1 17 = .ok (.aaload, 1) := by decide +kernel
theorem dX1_joinPages_18 : decode jX1_joinPages.2.1 18 = .ok (.astore_n 3, 1) := by decide +kernel
theorem dX1_joinPages_19 : decode jX1_joinPages.2.1 19 = .ok (.aload_n 0, 1) := by decide +kernel
theorem dX1_joinPages_20 : decode jX1_joinPages.2.1 20 = .ok (.getfield 11, 3) := by decide +kernel
theorem dX1_joinPages_23 : decode jX1_joinPages.2.1 23 = .ok (.iload_n 1, 1) := by decide +kernel
theorem dX1_joinPages_24 : decode jX1_joinPages.2.1 24 = .ok (.aaload, 1) := by decide +kernel
theorem dX1_joinPages_25 : decode jX1_joinPages.2.1 25 = .ok (.getfield 47, 3) := by decide +kernel
theorem dX1_joinPages_28 : decode jX1_joinPages.2.1 28 = .ok (.aload_n 3, 1) := by decide +kernel
theorem dX1_joinPages_29 : decode jX1_joinPages.2.1 29 = .ok (.getfield 47, 3) := by decide +kernel
theorem dX1_joinPages_32 : decode jX1_joinPages.2.1 32 = .ok (.iadd, 1) := by decide +kernel
theorem dX1_joinPages_33 : decode jX1_joinPages.2.1 33 = .ok (.bipush 32, 2) := by decide +kernel
theorem dX1_joinPages_35 : decode jX1_joinPages.2.1 35 = .ok (.if_icmp .gt 16, 3) := by decide +kernel
theorem dX1_joinPages_38 : decode jX1_joinPages.2.1 38 = .ok (.aload_n 0, 1) := by decide +kernel
theorem dX1_joinPages_39 : decode jX1_joinPages.2.1 39 = .ok (.getfield 11, 3) := by decide +kernel
theorem dX1_joinPages_42 : decode jX1_joinPages.2.1 42 = .ok (.iload_n 1, 1) := by decide +kernel
theorem dX1_joinPages_43 : decode jX1_joinPages.2.1 43 = .ok (.aaload, 1) := by decide +kernel
theorem dX1_joinPages_44 : decode jX1_joinPages.2.1 44 = .ok (.aload_n 3, 1) := by decide +kernel
theorem dX1_joinPages_45 : decode jX1_joinPages.2.1 45 = .ok (.invokevirtual 65, 3) := by decide +kernel
theorem dX1_joinPages_48 : decode jX1_joinPages.2.1 48 = .ok (.goto 25, 3) := by decide +kernel
theorem dX1_joinPages_51 : decode jX1_joinPages.2.1 51 = .ok (.iinc 1 1, 3) := by decide +kernel
theorem dX1_joinPages_54 : decode jX1_joinPages.2.1 54 = .ok (.aload_n 0, 1) := by decide +kernel
theorem dX1_joinPages_55 : decode jX1_joinPages.2.1 55 = .ok (.getfield 11, 3) := by decide +kernel
theorem dX1_joinPages_58 : decode jX1_joinPages.2.1 58 = .ok (.iload_n 2, 1) := by decide +kernel
theorem dX1_joinPages_59 : decode jX1_joinPages.2.1 59 = .ok (.aload_n 0, 1) := by decide +kernel
theorem dX1_joinPages_60 : decode jX1_joinPages.2.1 60 = .ok (.getfield 11, 3) := by decide +kernel
theorem dX1_joinPages_63 : decode jX1_joinPages.2.1 63 = .ok (.iload_n 1, 1) := by decide +kernel
theorem dX1_joinPages_64 : decode jX1_joinPages.2.1 64 = .ok (.aaload, 1) := by decide +kernel
theorem dX1_joinPages_65 : decode jX1_joinPages.2.1 65 = .ok (.aastore, 1) := by decide +kernel
theorem dX1_joinPages_66 : decode jX1_joinPages.2.1 66 = .ok (.aload_n 0, 1) := by decide +kernel
theorem dX1_joinPages_67 : decode jX1_joinPages.2.1 67 = .ok (.getfield 11, 3) := by decide +kernel
theorem dX1_joinPages_70 : decode jX1_joinPages.2.1 70 = .ok (.iload_n 1, 1) := by decide +kernel
theorem dX1_joinPages_71 : decode jX1_joinPages.2.1 71 = .ok (.aload_n 3, 1) := by decide +kernel
theorem dX1_joinPages_72 : decode jX1_joinPages.2.1 72 = .ok (.aastore, 1) := by decide +kernel
theorem dX1_joinPages_73 : decode jX1_joinPages.2.1 73 = .ok (.iinc 2 1, 3) := by decide +kernel
theorem dX1_joinPages_76 : decode jX1_joinPages.2.1 76 = .ok (.goto (-72), 3) := by decide +kernel
theorem dX1_joinPages_79 : decode jX1_joinPages.2.1 79 = .ok (.aload_n 0, 1) := by decide +kernel
theorem dX1_joinPages_80 : decode jX1_joinPages.2.1 80 = .ok (.iload_n 1, 1) := by decide +kernel
theorem dX1_joinPages_81 : decode jX1_joinPages.2.1 81 = .ok (.iconst 1, 1) := by decide +kernel
theorem dX1_joinPages_82 : decode jX1_joinPages.2.1 82 = .ok (.iadd, 1) := by decide +kernel
theorem dX1_joinPages_83 : decode jX1_joinPages.2.1 83 = .ok (.putfield 18, 3) := by decide +kernel
theorem dX1_joinPages_86 : decode jX1_joinPages.2.1 86 = .ok (.return_, 1) := by decide +kernel
theorem dX1_removeIn_0 : decode jX1_removeIn.2.1 0 = .ok (.aload_n 0, 1) := by decide +kernel
theorem dX1_removeIn_1 : decode jX1_removeIn.2.1 1 = .ok (.iload_n 2, 1) := by decide +kernel
theorem dX1_removeIn_2 : decode jX1_removeIn.2.1 2 = .ok (.invokevirtual 28, 3) := by decide +kernel
theorem dX1_removeIn_5 : decode jX1_removeIn.2.1 5 = .ok (.istore_n 3, 1) := by decide +kernel
theorem dX1_removeIn_6 : decode jX1_removeIn.2.1 6 = .ok (.aload_n 0, 1) := by decide +kernel
theorem dX1_removeIn_7 : decode jX1_removeIn.2.1 7 = .ok (.iload_n 1, 1) := by decide +kernel
theorem dX1_removeIn_8 : decode jX1_removeIn.2.1 8 = .ok (.invokevirtual 28, 3) := by decide +kernel
theorem dX1_removeIn_11 : decode jX1_removeIn.2.1 11 = .ok (.istore 4, 2) := by decide +kernel
theorem dX1_removeIn_13 : decode jX1_removeIn.2.1 13 = .ok (.iload 4, 2) := by decide +kernel
theorem dX1_removeIn_15 : decode jX1_removeIn.2.1 15 = .ok (.iload_n 3, 1) := by decide +kernel
theorem dX1_removeIn_16 : decode jX1_removeIn.2.1 16 = .ok (.if_icmp .gt 42, 3) := by decide +kernel
theorem dX1_removeIn_19 : decode jX1_removeIn.2.1 19 = .ok (.aload_n 0, 1) := by decide +kernel
theorem dX1_removeIn_20 : decode jX1_removeIn.2.1 20 = .ok (.dup, 1) := by decide +kernel
theorem dX1_removeIn_21 : decode jX1_removeIn.2.1 21 = .ok (.getfield 22, 3) := by decide +kernel
theorem dX1_removeIn_24 : decode jX1_removeIn.2.1 24 = .ok (.aload_n 0, 1) := by decide +kernel
theorem dX1_removeIn_25 : decode jX1_removeIn.2.1 25 = .ok (.getfield 11, 3) := by decide +kernel
theorem dX1_removeIn_28 : decode jX1_removeIn.2.1 28 = .ok (.iload 4, 2) := by decide +kernel
theorem dX1_removeIn_30 : decode jX1_removeIn.2.1 30 = .ok (.aaload, 1) := by decide +kernel
theorem dX1_removeIn_31 : decode jX1_removeIn.2.1 31 = .ok (.iload_n 1, 1) := by decide +kernel
theorem dX1_removeIn_32 : decode jX1_removeIn.2.1 32 = .ok (.iload_n 2, 1) := by decide +kernel
theorem dX1_removeIn_33 : decode jX1_removeIn.2.1 33 = .ok (.invokevirtual 68, 3) := by decide +kernel
theorem dX1_removeIn_36 : decode jX1_removeIn.2.1 36 = .ok (.isub, 1) := by decide +kernel
theorem dX1_removeIn_37 : decode jX1_removeIn.2.1 37 = .ok (.putfield 22, 3) := by decide +kernel
theorem dX1_removeIn_40 : decode jX1_removeIn.2.1 40 = .ok (.aload_n 0, 1) := by decide +kernel
theorem dX1_removeIn_41 : decode jX1_removeIn.2.1 41 = .ok (.getfield 11, 3) := by decide +kernel
theorem dX1_removeIn_44 : decode jX1_removeIn.2.1 44 = .ok (.iload 4, 2) := by decide +kernel
theorem dX1_removeIn_46 : decode jX1_removeIn.2.1 46 = .ok (.aaload, 1) := by decide +kernel
theorem dX1_removeIn_47 : decode jX1_removeIn.2.1 47 = .ok (.iload_n 1, 1) := by decide +kernel
theorem dX1_removeIn_48 : decode jX1_removeIn.2.1 48 = .ok (.iload_n 2, 1) := by decide +kernel
theorem dX1_removeIn_49 : decode jX1_removeIn.2.1 49 = .ok (.invokevirtual 72, 3) := by decide +kernel
theorem dX1_removeIn_52 : decode jX1_removeIn.2.1 52 = .ok (.iinc 4 1, 3) := by decide +kernel
theorem dX1_removeIn_55 : decode jX1_removeIn.2.1 55 = .ok (.goto (-42), 3) := by decide +kernel
theorem dX1_removeIn_58 : decode jX1_removeIn.2.1 58 = .ok (.return_, 1) := by decide +kernel
theorem dX1_raiseIn_0 : decode jX1_raiseIn.2.1 0 = .ok (.aload_n 0, 1) := by decide +kernel
theorem dX1_raiseIn_1 : decode jX1_raiseIn.2.1 1 = .ok (.iload_n 2, 1) := by decide +kernel
theorem dX1_raiseIn_2 : decode jX1_raiseIn.2.1 2 = .ok (.invokevirtual 28, 3) := by decide +kernel
theorem dX1_raiseIn_5 : decode jX1_raiseIn.2.1 5 = .ok (.istore 5, 2) := by decide +kernel
theorem dX1_raiseIn_7 : decode jX1_raiseIn.2.1 7 = .ok (.aload_n 0, 1) := by decide +kernel
theorem dX1_raiseIn_8 : decode jX1_raiseIn.2.1 8 = .ok (.iload_n 1, 1) := by decide +kernel
theorem dX1_raiseIn_9 : decode jX1_raiseIn.2.1 9 = .ok (.invokevirtual 28, 3) := by decide +kernel
theorem dX1_raiseIn_12 : decode jX1_raiseIn.2.1 12 = .ok (.istore 6, 2) := by decide +kernel
theorem dX1_raiseIn_14 : decode jX1_raiseIn.2.1 14 = .ok (.iload 6, 2) := by decide +kernel
theorem dX1_raiseIn_16 : decode jX1_raiseIn.2.1 16 = .ok (.iload 5, 2) := by decide +kernel
theorem dX1_raiseIn_18 : decode jX1_raiseIn.2.1 18 = .ok (.if_icmp .gt 22, 3) := by decide +kernel
theorem dX1_raiseIn_21 : decode jX1_raiseIn.2.1 21 = .ok (.aload_n 0, 1) := by decide +kernel
theorem dX1_raiseIn_22 : decode jX1_raiseIn.2.1 22 = .ok (.getfield 11, 3) := by decide +kernel
theorem dX1_raiseIn_25 : decode jX1_raiseIn.2.1 25 = .ok (.iload 6, 2) := by decide +kernel
theorem dX1_raiseIn_27 : decode jX1_raiseIn.2.1 27 = .ok (.aaload, 1) := by decide +kernel
theorem dX1_raiseIn_28 : decode jX1_raiseIn.2.1 28 = .ok (.iload_n 1, 1) := by decide +kernel
theorem dX1_raiseIn_29 : decode jX1_raiseIn.2.1 29 = .ok (.iload_n 2, 1) := by decide +kernel
theorem dX1_raiseIn_30 : decode jX1_raiseIn.2.1 30 = .ok (.lload_n 3, 1) := by decide +kernel
theorem dX1_raiseIn_31 : decode jX1_raiseIn.2.1 31 = .ok (.invokevirtual 76, 3) := by decide +kernel
theorem dX1_raiseIn_34 : decode jX1_raiseIn.2.1 34 = .ok (.iinc 6 1, 3) := by decide +kernel
theorem dX1_raiseIn_37 : decode jX1_raiseIn.2.1 37 = .ok (.goto (-23), 3) := by decide +kernel
theorem dX1_raiseIn_40 : decode jX1_raiseIn.2.1 40 = .ok (.return_, 1) := by decide +kernel
theorem dX1_countIn_0 : decode jX1_countIn.2.1 0 = .ok (.aload_n 0, 1) := by decide +kernel
theorem dX1_countIn_1 : decode jX1_countIn.2.1 1 = .ok (.iload_n 2, 1) := by decide +kernel
theorem dX1_countIn_2 : decode jX1_countIn.2.1 2 = .ok (.invokevirtual 28, 3) := by decide +kernel
theorem dX1_countIn_5 : decode jX1_countIn.2.1 5 = .ok (.istore_n 3, 1) := by decide +kernel
theorem dX1_countIn_6 : decode jX1_countIn.2.1 6 = .ok (.iconst 0, 1) := by decide +kernel
theorem dX1_countIn_7 : decode jX1_countIn.2.1 7 = .ok (.istore 4, 2) := by decide +kernel
theorem dX1_countIn_9 : decode jX1_countIn.2.1 9 = .ok (.aload_n 0, 1) := by decide +kernel
theorem dX1_countIn_10 : decode jX1_countIn.2.1 10 = .ok (.iload_n 1, 1) := by decide +kernel
theorem dX1_countIn_11 : decode jX1_countIn.2.1 11 = .ok (.invokevirtual 28, 3) := by decide +kernel
theorem dX1_countIn_14 : decode jX1_countIn.2.1 14 = .ok (.istore 5, 2) := by decide +kernel
theorem dX1_countIn_16 : decode jX1_countIn.2.1 16 = .ok (.iload 5, 2) := by decide +kernel
theorem dX1_countIn_18 : decode jX1_countIn.2.1 18 = .ok (.iload_n 3, 1) := by decide +kernel
theorem dX1_countIn_19 : decode jX1_countIn.2.1 19 = .ok (.if_icmp .gt 26, 3) := by decide +kernel
theorem dX1_countIn_22 : decode jX1_countIn.2.1 22 = .ok (.iload 4, 2) := by decide +kernel
theorem dX1_countIn_24 : decode jX1_countIn.2.1 24 = .ok (.aload_n 0, 1) := by decide +kernel
theorem dX1_countIn_25 : decode jX1_countIn.2.1 25 = .ok (.getfield 11, 3) := by decide +kernel
theorem dX1_countIn_28 : decode jX1_countIn.2.1 28 = .ok (.iload 5, 2) := by decide +kernel
theorem dX1_countIn_30 : decode jX1_countIn.2.1 30 = .ok (.aaload, 1) := by decide +kernel
theorem dX1_countIn_31 : decode jX1_countIn.2.1 31 = .ok (.iload_n 1, 1) := by decide +kernel
theorem dX1_countIn_32 : decode jX1_countIn.2.1 32 = .ok (.iload_n 2, 1) := by decide +kernel
theorem dX1_countIn_33 : decode jX1_countIn.2.1 33 = .ok (.invokevirtual 68, 3) := by decide +kernel
theorem dX1_countIn_36 : decode jX1_countIn.2.1 36 = .ok (.iadd, 1) := by decide +kernel
theorem dX1_countIn_37 : decode jX1_countIn.2.1 37 = .ok (.istore 4, 2) := by decide +kernel
theorem dX1_countIn_39 : decode jX1_countIn.2.1 39 = .ok (.iinc 5 1, 3) := by decide +kernel
theorem dX1_countIn_42 : decode jX1_countIn.2.1 42 = .ok (.goto (-26), 3) := by decide +kernel
theorem dX1_countIn_45 : decode jX1_countIn.2.1 45 = .ok (.iload 4, 2) := by decide +kernel
theorem dX1_countIn_47 : decode jX1_countIn.2.1 47 = .ok (.ireturn, 1) := by decide +kernel
theorem dX1_sumIn_0 : decode jX1_sumIn.2.1 0 = .ok (.aload_n 0, 1) := by decide +kernel
theorem dX1_sumIn_1 : decode jX1_sumIn.2.1 1 = .ok (.iload_n 2, 1) := by decide +kernel
theorem dX1_sumIn_2 : decode jX1_sumIn.2.1 2 = .ok (.invokevirtual 28, 3) := by decide +kernel
theorem dX1_sumIn_5 : decode jX1_sumIn.2.1 5 = .ok (.istore_n 3, 1) := by decide +kernel
theorem dX1_sumIn_6 : decode jX1_sumIn.2.1 6 = .ok (.lconst 0, 1) := by decide +kernel
theorem dX1_sumIn_7 : decode jX1_sumIn.2.1 7 = .ok (.lstore 4, 2) := by decide +kernel
theorem dX1_sumIn_9 : decode jX1_sumIn.2.1 9 = .ok (.aload_n 0, 1) := by decide +kernel
theorem dX1_sumIn_10 : decode jX1_sumIn.2.1 10 = .ok (.iload_n 1, 1) := by decide +kernel
theorem dX1_sumIn_11 : decode jX1_sumIn.2.1 11 = .ok (.invokevirtual 28, 3) := by decide +kernel
theorem dX1_sumIn_14 : decode jX1_sumIn.2.1 14 = .ok (.istore 6, 2) := by decide +kernel
theorem dX1_sumIn_16 : decode jX1_sumIn.2.1 16 = .ok (.iload 6, 2) := by decide +kernel
theorem dX1_sumIn_18 : decode jX1_sumIn.2.1 18 = .ok (.iload_n 3, 1) := by decide +kernel
theorem dX1_sumIn_19 : decode jX1_sumIn.2.1 19 = .ok (.if_icmp .gt 26, 3) := by decide +kernel
theorem dX1_sumIn_22 : decode jX1_sumIn.2.1 22 = .ok (.lload 4, 2) := by decide +kernel
theorem dX1_sumIn_24 : decode jX1_sumIn.2.1 24 = .ok (.aload_n 0, 1) := by decide +kernel
theorem dX1_sumIn_25 : decode jX1_sumIn.2.1 25 = .ok (.getfield 11, 3) := by decide +kernel
theorem dX1_sumIn_28 : decode jX1_sumIn.2.1 28 = .ok (.iload 6, 2) := by decide +kernel
theorem dX1_sumIn_30 : decode jX1_sumIn.2.1 30 = .ok (.aaload, 1) := by decide +kernel
theorem dX1_sumIn_31 : decode jX1_sumIn.2.1 31 = .ok (.iload_n 1, 1) := by decide +kernel
theorem dX1_sumIn_32 : decode jX1_sumIn.2.1 32 = .ok (.iload_n 2, 1) := by decide +kernel
theorem dX1_sumIn_33 : decode jX1_sumIn.2.1 33 = .ok (.invokevirtual 79, 3) := by decide +kernel
theorem dX1_sumIn_36 : decode jX1_sumIn.2.1 36 = .ok (.ladd, 1) := by decide +kernel
theorem dX1_sumIn_37 : decode jX1_sumIn.2.1 37 = .ok (.lstore 4, 2) := by decide +kernel
theorem dX1_sumIn_39 : decode jX1_sumIn.2.1 39 = .ok (.iinc 6 1, 3) := by decide +kernel
theorem dX1_sumIn_42 : decode jX1_sumIn.2.1 42 = .ok (.goto (-26), 3) := by decide +kernel
theorem dX1_sumIn_45 : decode jX1_sumIn.2.1 45 = .ok (.lload 4, 2) := by decide +kernel
theorem dX1_sumIn_47 : decode jX1_sumIn.2.1 47 = .ok (.lreturn, 1) := by decide +kernel
theorem dX1_keyAt_0 : decode jX1_keyAt.2.1 0 = .ok (.iconst 0, 1) := by decide +kernel
theorem dX1_keyAt_1 : decode jX1_keyAt.2.1 1 = .ok (.istore_n 2, 1) := by decide +kernel
theorem dX1_keyAt_2 : decode jX1_keyAt.2.1 2 = .ok (.iload_n 1, 1) := by decide +kernel
theorem dX1_keyAt_3 : decode jX1_keyAt.2.1 3 = .ok (.istore_n 3, 1) := by decide +kernel
theorem dX1_keyAt_4 : decode jX1_keyAt.2.1 4 = .ok (.iload_n 2, 1) := by decide +kernel
theorem dX1_keyAt_5 : decode jX1_keyAt.2.1 5 = .ok (.aload_n 0, 1) := by decide +kernel
theorem dX1_keyAt_6 : decode jX1_keyAt.2.1 6 = .ok (.getfield 18, 3) := by decide +kernel
theorem dX1_keyAt_9 : decode jX1_keyAt.2.1 9 = .ok (.iconst 1, 1) := by decide +kernel
theorem dX1_keyAt_10 : decode jX1_keyAt.2.1 10 = .ok (.isub, 1) := by decide +kernel
theorem dX1_keyAt_11 : decode jX1_keyAt.2.1 11 = .ok (.if_icmp .ge 34, 3) := by decide +kernel
theorem dX1_keyAt_14 : decode jX1_keyAt.2.1 14 = .ok (.iload_n 3, 1) := by decide +kernel
theorem dX1_keyAt_15 : decode jX1_keyAt.2.1 15 = .ok (.aload_n 0, 1) := by decide +kernel
theorem dX1_keyAt_16 : decode jX1_keyAt.2.1 16 = .ok (.getfield 11, 3) := by decide +kernel
theorem dX1_keyAt_19 : decode jX1_keyAt.2.1 19 = .ok (.iload_n 2, 1) := by decide +kernel
theorem dX1_keyAt_20 : decode jX1_keyAt.2.1 20 = .ok (.aaload, 1) := by decide +kernel
theorem dX1_keyAt_21 : decode jX1_keyAt.2.1 21 = .ok (.getfield 47, 3) := by decide +kernel
theorem dX1_keyAt_24 : decode jX1_keyAt.2.1 24 = .ok (.if_icmp .lt 21, 3) := by decide +kernel
theorem dX1_keyAt_27 : decode jX1_keyAt.2.1 27 = .ok (.iload_n 3, 1) := by decide +kernel
theorem dX1_keyAt_28 : decode jX1_keyAt.2.1 28 = .ok (.aload_n 0, 1) := by decide +kernel
theorem dX1_keyAt_29 : decode jX1_keyAt.2.1 29 = .ok (.getfield 11, 3) := by decide +kernel
theorem dX1_keyAt_32 : decode jX1_keyAt.2.1 32 = .ok (.iload_n 2, 1) := by decide +kernel
theorem dX1_keyAt_33 : decode jX1_keyAt.2.1 33 = .ok (.aaload, 1) := by decide +kernel
theorem dX1_keyAt_34 : decode jX1_keyAt.2.1 34 = .ok (.getfield 47, 3) := by decide +kernel
theorem dX1_keyAt_37 : decode jX1_keyAt.2.1 37 = .ok (.isub, 1) := by decide +kernel
theorem dX1_keyAt_38 : decode jX1_keyAt.2.1 38 = .ok (.istore_n 3, 1) := by decide +kernel
theorem dX1_keyAt_39 : decode jX1_keyAt.2.1 39 = .ok (.iinc 2 1, 3) := by decide +kernel
theorem dX1_keyAt_42 : decode jX1_keyAt.2.1 42 = .ok (.goto (-38), 3) := by decide +kernel
theorem dX1_keyAt_45 : decode jX1_keyAt.2.1 45 = .ok (.aload_n 0, 1) := by decide +kernel
theorem dX1_keyAt_46 : decode jX1_keyAt.2.1 46 = .ok (.getfield 11, 3) := by decide +kernel
theorem dX1_keyAt_49 : decode jX1_keyAt.2.1 49 = .ok (.iload_n 2, 1) := by decide +kernel
theorem dX1_keyAt_50 : decode jX1_keyAt.2.1 50 = .ok (.aaload, 1) := by decide +kernel
theorem dX1_keyAt_51 : decode jX1_keyAt.2.1 51 = .ok (.getfield 83, 3) := by decide +kernel
theorem dX1_keyAt_54 : decode jX1_keyAt.2.1 54 = .ok (.iload_n 3, 1) := by decide +kernel
theorem dX1_keyAt_55 : decode jX1_keyAt.2.1 55 = .ok (.iaload, 1) := by decide +kernel
theorem dX1_keyAt_56 : decode jX1_keyAt.2.1 56 = .ok (.ireturn, 1) := by decide +kernel
theorem dX1_differencesFrom_0 : decode jX1_differencesFrom.2.1 0 = .ok (.iconst 0, 1) := by decide +kernel
theorem dX1_differencesFrom_1 : decode jX1_differencesFrom.2.1 1 = .ok (.istore_n 2, 1) := by decide +kernel
theorem dX1_differencesFrom_2 : decode jX1_differencesFrom.2.1 2 = .ok (.iconst 0, 1) := by decide +kernel
theorem dX1_differencesFrom_3 : decode jX1_differencesFrom.2.1 3 = .ok (.istore_n 3, 1) := by decide +kernel
theorem dX1_differencesFrom_4 : decode jX1_differencesFrom.2.1 4 = .ok (.iconst 0, 1) := by decide +kernel
theorem dX1_differencesFrom_5 : decode jX1_differencesFrom.2.1 5 = .ok (.istore 4, 2) := by decide +kernel
theorem dX1_differencesFrom_7 : decode jX1_differencesFrom.2.1 7 = .ok (.iload 4, 2) := by decide +kernel
theorem dX1_differencesFrom_9 : decode jX1_differencesFrom.2.1 9 = .ok (.aload_n 0, 1) := by decide +kernel
theorem dX1_differencesFrom_10 : decode jX1_differencesFrom.2.1 10 = .ok (.getfield 18, 3) := by decide +kernel
theorem dX1_differencesFrom_13 : decode jX1_differencesFrom.2.1 13 = .ok (.if_icmp .ge 84, 3) := by decide +kernel
theorem dX1_differencesFrom_16 : decode jX1_differencesFrom.2.1 16 = .ok (.aload_n 0, 1) := by decide +kernel
theorem dX1_differencesFrom_17 : decode jX1_differencesFrom.2.1 17 = .ok (.getfield 11, 3) := by decide +kernel
theorem dX1_differencesFrom_20 : decode jX1_differencesFrom.2.1 20 = .ok (.iload 4, 2) := by decide +kernel
theorem dX1_differencesFrom_22 : decode jX1_differencesFrom.2.1 22 = .ok (.aaload, 1) := by decide +kernel
theorem dX1_differencesFrom_23 : decode jX1_differencesFrom.2.1 23 = .ok (.astore 5, 2) := by decide +kernel
theorem dX1_differencesFrom_25 : decode jX1_differencesFrom.2.1 25 = .ok (.iconst 0, 1) := by decide +kernel
theorem dX1_differencesFrom_26 : decode jX1_differencesFrom.2.1 26 = .ok (.istore 6, 2) := by decide +kernel
theorem dX1_differencesFrom_28 : decode jX1_differencesFrom.2.1 28 = .ok (.iload 6, 2) := by decide +kernel
theorem dX1_differencesFrom_30 : decode jX1_differencesFrom.2.1 30 = .ok (.aload 5, 2) := by decide +kernel
theorem dX1_differencesFrom_32 : decode jX1_differencesFrom.2.1 32 = .ok (.getfield 47, 3) := by decide +kernel
theorem dX1_differencesFrom_35 : decode jX1_differencesFrom.2.1 35 = .ok (.if_icmp .ge 56, 3) := by decide +kernel
theorem dX1_differencesFrom_38 : decode jX1_differencesFrom.2.1 38 = .ok (.aload 5, 2) := by decide +kernel
theorem dX1_differencesFrom_40 : decode jX1_differencesFrom.2.1 40 = .ok (.getfield 83, 3) := by decide +kernel
theorem dX1_differencesFrom_43 : decode jX1_differencesFrom.2.1 43 = .ok (.iload 6, 2) := by decide +kernel
theorem dX1_differencesFrom_45 : decode jX1_differencesFrom.2.1 45 = .ok (.iaload, 1) := by decide +kernel
theorem dX1_differencesFrom_46 : decode jX1_differencesFrom.2.1 46 = .ok (.istore 7, 2) := by decide +kernel
theorem dX1_differencesFrom_48 : decode jX1_differencesFrom.2.1 48 = .ok (.aload_n 1, 1) := by decide +kernel
theorem dX1_differencesFrom_49 : decode jX1_differencesFrom.2.1 49 = .ok (.iload 7, 2) := by decide +kernel
theorem dX1_differencesFrom_51 : decode jX1_differencesFrom.2.1 51 = .ok (.invokevirtual 87, 3) := by decide +kernel
theorem dX1_differencesFrom_54 : decode jX1_differencesFrom.2.1 54 = .ok (.ifCond .eq 31, 3) := by decide +kernel
theorem dX1_differencesFrom_57 : decode jX1_differencesFrom.2.1 57 = .ok (.iinc 2 1, 3) := by decide +kernel
theorem dX1_differencesFrom_60 : decode jX1_differencesFrom.2.1 60 = .ok (.iload_n 3, 1) := by decide +kernel
theorem dX1_differencesFrom_61 : decode jX1_differencesFrom.2.1 61 = .ok (.aload_n 1, 1) := by decide +kernel
theorem dX1_differencesFrom_62 : decode jX1_differencesFrom.2.1 62 = .ok (.iload 7, 2) := by decide +kernel
theorem dX1_differencesFrom_64 : decode jX1_differencesFrom.2.1 64 = .ok (.invokevirtual 91, 3) := by decide +kernel
theorem dX1_differencesFrom_67 : decode jX1_differencesFrom.2.1 67 = .ok (.aload 5, 2) := by decide +kernel
theorem dX1_differencesFrom_69 : decode jX1_differencesFrom.2.1 69 = .ok (.iload 6, 2) := by decide +kernel
theorem dX1_differencesFrom_71 : decode jX1_differencesFrom.2.1 71 = .ok (.invokevirtual 39, 3) := by decide +kernel
theorem dX1_differencesFrom_74 : decode jX1_differencesFrom.2.1 74 = .ok (.lcmp, 1) := by decide +kernel
theorem dX1_differencesFrom_75 : decode jX1_differencesFrom.2.1 75 = .ok (.ifCond .ne 7, 3) := by decide +kernel
theorem dX1_differencesFrom_78 : decode jX1_differencesFrom.2.1 78 = .ok (.iconst 0, 1) := by decide +kernel
theorem dX1_differencesFrom_79 : decode jX1_differencesFrom.2.1 79 = .ok (.goto 4, 3) := by decide +kernel
theorem dX1_differencesFrom_82 : decode jX1_differencesFrom.2.1 82 = .ok (.iconst 1, 1) := by decide +kernel
theorem dX1_differencesFrom_83 : decode jX1_differencesFrom.2.1 83 = .ok (.iadd, 1) := by decide +kernel
theorem dX1_differencesFrom_84 : decode jX1_differencesFrom.2.1 84 = .ok (.istore_n 3, 1) := by decide +kernel
theorem dX1_differencesFrom_85 : decode jX1_differencesFrom.2.1 85 = .ok (.iinc 6 1, 3) := by decide +kernel
theorem dX1_differencesFrom_88 : decode jX1_differencesFrom.2.1 88 = .ok (.goto (-60), 3) := by decide +kernel
theorem dX1_differencesFrom_91 : decode jX1_differencesFrom.2.1 91 = .ok (.iinc 4 1, 3) := by decide +kernel
theorem dX1_differencesFrom_94 : decode jX1_differencesFrom.2.1 94 = .ok (.goto (-87), 3) := by decide +kernel
theorem dX1_differencesFrom_97 : decode jX1_differencesFrom.2.1 97 = .ok (.aload_n 0, 1) := by decide +kernel
theorem dX1_differencesFrom_98 : decode jX1_differencesFrom.2.1 98 = .ok (.getfield 22, 3) := by decide +kernel
theorem dX1_differencesFrom_101 : decode jX1_differencesFrom.2.1 101 = .ok (.iload_n 2, 1) := by decide +kernel
theorem dX1_differencesFrom_102 : decode jX1_differencesFrom.2.1 102 = .ok (.isub, 1) := by decide +kernel
theorem dX1_differencesFrom_103 : decode jX1_differencesFrom.2.1 103 = .ok (.aload_n 1, 1) := by decide +kernel
theorem dX1_differencesFrom_104 : decode jX1_differencesFrom.2.1 104 = .ok (.getfield 22, 3) := by decide +kernel
theorem dX1_differencesFrom_107 : decode jX1_differencesFrom.2.1 107 = .ok (.iload_n 2, 1) := by decide +kernel
theorem dX1_differencesFrom_108 : decode jX1_differencesFrom.2.1 108 = .ok (.isub, 1) := by decide +kernel
theorem dX1_differencesFrom_109 : decode jX1_differencesFrom.2.1 109 = .ok (.iadd, 1) := by decide +kernel
theorem dX1_differencesFrom_110 : decode jX1_differencesFrom.2.1 110 = .ok (.iload_n 3, 1) := by decide +kernel
theorem dX1_differencesFrom_111 : decode jX1_differencesFrom.2.1 111 = .ok (.iadd, 1) := by decide +kernel
theorem dX1_differencesFrom_112 : decode jX1_differencesFrom.2.1 112 = .ok (.ireturn, 1) := by decide +kernel
theorem dX1_pushAllDown_0 : decode jX1_pushAllDown.2.1 0 = .ok (.iconst 0, 1) := by decide +kernel
theorem dX1_pushAllDown_1 : decode jX1_pushAllDown.2.1 1 = .ok (.istore_n 1, 1) := by decide +kernel
theorem dX1_pushAllDown_2 : decode jX1_pushAllDown.2.1 2 = .ok (.iload_n 1, 1) := by decide +kernel
theorem dX1_pushAllDown_3 : decode jX1_pushAllDown.2.1 3 = .ok (.aload_n 0, 1) := by decide +kernel
theorem dX1_pushAllDown_4 : decode jX1_pushAllDown.2.1 4 = .ok (.getfield 18, 3) := by decide +kernel
theorem dX1_pushAllDown_7 : decode jX1_pushAllDown.2.1 7 = .ok (.if_icmp .ge 18, 3) := by decide +kernel
theorem dX1_pushAllDown_10 : decode jX1_pushAllDown.2.1 10 = .ok (.aload_n 0, 1) := by decide +kernel
theorem dX1_pushAllDown_11 : decode jX1_pushAllDown.2.1 11 = .ok (.getfield 11, 3) := by decide +kernel
theorem dX1_pushAllDown_14 : decode jX1_pushAllDown.2.1 14 = .ok (.iload_n 1, 1) := by decide +kernel
theorem dX1_pushAllDown_15 : decode jX1_pushAllDown.2.1 15 = .ok (.aaload, 1) := by decide +kernel
theorem dX1_pushAllDown_16 : decode jX1_pushAllDown.2.1 16 = .ok (.invokevirtual 94, 3) := by decide +kernel
theorem dX1_pushAllDown_19 : decode jX1_pushAllDown.2.1 19 = .ok (.iinc 1 1, 3) := by decide +kernel
theorem dX1_pushAllDown_22 : decode jX1_pushAllDown.2.1 22 = .ok (.goto (-20), 3) := by decide +kernel
theorem dX1_pushAllDown_25 : decode jX1_pushAllDown.2.1 25 = .ok (.return_, 1) := by decide +kernel
theorem dX1_copyFrom_0 : decode jX1_copyFrom.2.1 0 = .ok (.aload_n 0, 1) := by decide +kernel
theorem dX1_copyFrom_1 : decode jX1_copyFrom.2.1 1 = .ok (.aload_n 1, 1) := by decide +kernel
theorem dX1_copyFrom_2 : decode jX1_copyFrom.2.1 2 = .ok (.getfield 18, 3) := by decide +kernel
theorem dX1_copyFrom_5 : decode jX1_copyFrom.2.1 5 = .ok (.putfield 18, 3) := by decide +kernel
theorem dX1_copyFrom_8 : decode jX1_copyFrom.2.1 8 = .ok (.aload_n 0, 1) := by decide +kernel
theorem dX1_copyFrom_9 : decode jX1_copyFrom.2.1 9 = .ok (.aload_n 1, 1) := by decide +kernel
theorem dX1_copyFrom_10 : decode jX1_copyFrom.2.1 10 = .ok (.getfield 22, 3) := by decide +kernel
theorem dX1_copyFrom_13 : decode jX1_copyFrom.2.1 13 = .ok (.putfield 22, 3) := by decide +kernel
theorem dX1_copyFrom_16 : decode jX1_copyFrom.2.1 16 = .ok (.iconst 0, 1) := by decide +kernel
theorem dX1_copyFrom_17 : decode jX1_copyFrom.2.1 17 = .ok (.istore_n 2, 1) := by decide +kernel
theorem dX1_copyFrom_18 : decode jX1_copyFrom.2.1 18 = .ok (.iload_n 2, 1) := by decide +kernel
theorem dX1_copyFrom_19 : decode jX1_copyFrom.2.1 19 = .ok (.aload_n 0, 1) := by decide +kernel
theorem dX1_copyFrom_20 : decode jX1_copyFrom.2.1 20 = .ok (.getfield 18, 3) := by decide +kernel
theorem dX1_copyFrom_23 : decode jX1_copyFrom.2.1 23 = .ok (.if_icmp .ge 24, 3) := by decide +kernel
theorem dX1_copyFrom_26 : decode jX1_copyFrom.2.1 26 = .ok (.aload_n 0, 1) := by decide +kernel
theorem dX1_copyFrom_27 : decode jX1_copyFrom.2.1 27 = .ok (.getfield 11, 3) := by decide +kernel
theorem dX1_copyFrom_30 : decode jX1_copyFrom.2.1 30 = .ok (.iload_n 2, 1) := by decide +kernel
theorem dX1_copyFrom_31 : decode jX1_copyFrom.2.1 31 = .ok (.aaload, 1) := by decide +kernel
theorem dX1_copyFrom_32 : decode jX1_copyFrom.2.1 32 = .ok (.aload_n 1, 1) := by decide +kernel
theorem dX1_copyFrom_33 : decode jX1_copyFrom.2.1 33 = .ok (.getfield 11, 3) := by decide +kernel
theorem dX1_copyFrom_36 : decode jX1_copyFrom.2.1 36 = .ok (.iload_n 2, 1) := by decide +kernel
theorem dX1_copyFrom_37 : decode jX1_copyFrom.2.1 37 = .ok (.aaload, 1) := by decide +kernel
theorem dX1_copyFrom_38 : decode jX1_copyFrom.2.1 38 = .ok (.invokevirtual 97, 3) := by decide +kernel
theorem dX1_copyFrom_41 : decode jX1_copyFrom.2.1 41 = .ok (.iinc 2 1, 3) := by decide +kernel
theorem dX1_copyFrom_44 : decode jX1_copyFrom.2.1 44 = .ok (.goto (-26), 3) := by decide +kernel
theorem dX1_copyFrom_47 : decode jX1_copyFrom.2.1 47 = .ok (.return_, 1) := by decide +kernel
theorem dX1_isInOrder_0 : decode jX1_isInOrder.2.1 0 = .ok (.iconst 0, 1) := by decide +kernel
theorem dX1_isInOrder_1 : decode jX1_isInOrder.2.1 1 = .ok (.istore_n 1, 1) := by decide +kernel
theorem dX1_isInOrder_2 : decode jX1_isInOrder.2.1 2 = .ok (.iconst 0, 1) := by decide +kernel
theorem dX1_isInOrder_3 : decode jX1_isInOrder.2.1 3 = .ok (.istore_n 2, 1) := by decide +kernel
theorem dX1_isInOrder_4 : decode jX1_isInOrder.2.1 4 = .ok (.iload_n 2, 1) := by decide +kernel
theorem dX1_isInOrder_5 : decode jX1_isInOrder.2.1 5 = .ok (.aload_n 0, 1) := by decide +kernel
theorem dX1_isInOrder_6 : decode jX1_isInOrder.2.1 6 = .ok (.getfield 18, 3) := by decide +kernel
theorem dX1_isInOrder_9 : decode jX1_isInOrder.2.1 9 = .ok (.if_icmp .ge 43, 3) := by decide +kernel
theorem dX1_isInOrder_12 : decode jX1_isInOrder.2.1 12 = .ok (.aload_n 0, 1) := by decide +kernel
theorem dX1_isInOrder_13 : decode jX1_isInOrder.2.1 13 = .ok (.getfield 11, 3) := by decide +kernel
theorem dX1_isInOrder_16 : decode jX1_isInOrder.2.1 16 = .ok (.iload_n 2, 1) := by decide +kernel
theorem dX1_isInOrder_17 : decode jX1_isInOrder.2.1 17 = .ok (.aaload, 1) := by decide +kernel
theorem dX1_isInOrder_18 : decode jX1_isInOrder.2.1 18 = .ok (.invokevirtual 100, 3) := by decide +kernel
theorem dX1_isInOrder_21 : decode jX1_isInOrder.2.1 21 = .ok (.ifCond .eq 11, 3) := by decide +kernel
theorem dX1_isInOrder_24 : decode jX1_isInOrder.2.1 24 = .ok (.aload_n 0, 1) := by decide +kernel
theorem dX1_isInOrder_25 : decode jX1_isInOrder.2.1 25 = .ok (.iload_n 2, 1) := by decide +kernel
theorem dX1_isInOrder_26 : decode jX1_isInOrder.2.1 26 = .ok (.invokevirtual 104, 3) := by decide +kernel
theorem dX1_isInOrder_29 : decode jX1_isInOrder.2.1 29 = .ok (.ifCond .ne 5, 3) := by decide +kernel
theorem dX1_isInOrder_32 : decode jX1_isInOrder.2.1 32 = .ok (.iconst 0, 1) := by decide +kernel
theorem dX1_isInOrder_33 : decode jX1_isInOrder.2.1 33 = .ok (.ireturn, 1) := by decide +kernel
theorem dX1_isInOrder_34 : decode jX1_isInOrder.2.1 34 = .ok (.iload_n 1, 1) := by decide +kernel
theorem dX1_isInOrder_35 : decode jX1_isInOrder.2.1 35 = .ok (.aload_n 0, 1) := by decide +kernel
theorem dX1_isInOrder_36 : decode jX1_isInOrder.2.1 36 = .ok (.getfield 11, 3) := by decide +kernel
theorem dX1_isInOrder_39 : decode jX1_isInOrder.2.1 39 = .ok (.iload_n 2, 1) := by decide +kernel
theorem dX1_isInOrder_40 : decode jX1_isInOrder.2.1 40 = .ok (.aaload, 1) := by decide +kernel
theorem dX1_isInOrder_41 : decode jX1_isInOrder.2.1 41 = .ok (.getfield 47, 3) := by decide +kernel
theorem dX1_isInOrder_44 : decode jX1_isInOrder.2.1 44 = .ok (.iadd, 1) := by decide +kernel
theorem dX1_isInOrder_45 : decode jX1_isInOrder.2.1 45 = .ok (.istore_n 1, 1) := by decide +kernel
theorem dX1_isInOrder_46 : decode jX1_isInOrder.2.1 46 = .ok (.iinc 2 1, 3) := by decide +kernel
theorem dX1_isInOrder_49 : decode jX1_isInOrder.2.1 49 = .ok (.goto (-45), 3) := by decide +kernel
theorem dX1_isInOrder_52 : decode jX1_isInOrder.2.1 52 = .ok (.iload_n 1, 1) := by decide +kernel
theorem dX1_isInOrder_53 : decode jX1_isInOrder.2.1 53 = .ok (.aload_n 0, 1) := by decide +kernel
theorem dX1_isInOrder_54 : decode jX1_isInOrder.2.1 54 = .ok (.getfield 22, 3) := by decide +kernel
theorem dX1_isInOrder_57 : decode jX1_isInOrder.2.1 57 = .ok (.if_icmp .ne 36, 3) := by decide +kernel
theorem dX1_isInOrder_60 : decode jX1_isInOrder.2.1 60 = .ok (.aload_n 0, 1) := by decide +kernel
theorem dX1_isInOrder_61 : decode jX1_isInOrder.2.1 61 = .ok (.getfield 22, 3) := by decide +kernel
theorem dX1_isInOrder_64 : decode jX1_isInOrder.2.1 64 = .ok (.sipush 600, 3) := by decide +kernel
theorem dX1_isInOrder_67 : decode jX1_isInOrder.2.1 67 = .ok (.if_icmp .gt 26, 3) := by decide +kernel
theorem dX1_isInOrder_70 : decode jX1_isInOrder.2.1 70 = .ok (.aload_n 0, 1) := by decide +kernel
theorem dX1_isInOrder_71 : decode jX1_isInOrder.2.1 71 = .ok (.getfield 11, 3) := by decide +kernel
theorem dX1_isInOrder_74 : decode jX1_isInOrder.2.1 74 = .ok (.aload_n 0, 1) := by decide +kernel
theorem dX1_isInOrder_75 : decode jX1_isInOrder.2.1 75 = .ok (.getfield 18, 3) := by decide +kernel
theorem dX1_isInOrder_78 : decode jX1_isInOrder.2.1 78 = .ok (.iconst 1, 1) := by decide +kernel
theorem dX1_isInOrder_79 : decode jX1_isInOrder.2.1 79 = .ok (.isub, 1) := by decide +kernel
theorem dX1_isInOrder_80 : decode jX1_isInOrder.2.1 80 = .ok (.aaload, 1) := by decide +kernel
theorem dX1_isInOrder_81 : decode jX1_isInOrder.2.1 81 = .ok (.getfield 25, 3) := by decide +kernel
theorem dX1_isInOrder_84 : decode jX1_isInOrder.2.1 84 = .ok (.ldc 109, 2) := by decide +kernel
theorem dX1_isInOrder_86 : decode jX1_isInOrder.2.1 86 = .ok (.if_icmp .ne 7, 3) := by decide +kernel
theorem dX1_isInOrder_89 : decode jX1_isInOrder.2.1 89 = .ok (.iconst 1, 1) := by decide +kernel
theorem dX1_isInOrder_90 : decode jX1_isInOrder.2.1 90 = .ok (.goto 4, 3) := by decide +kernel
theorem dX1_isInOrder_93 : decode jX1_isInOrder.2.1 93 = .ok (.iconst 0, 1) := by decide +kernel
theorem dX1_isInOrder_94 : decode jX1_isInOrder.2.1 94 = .ok (.ireturn, 1) := by decide +kernel
theorem dX1_isNextTo_0 : decode jX1_isNextTo.2.1 0 = .ok (.iload_n 1, 1) := by decide +kernel
theorem dX1_isNextTo_1 : decode jX1_isNextTo.2.1 1 = .ok (.ifCond .ne 23, 3) := by decide +kernel
theorem dX1_isNextTo_4 : decode jX1_isNextTo.2.1 4 = .ok (.aload_n 0, 1) := by decide +kernel
theorem dX1_isNextTo_5 : decode jX1_isNextTo.2.1 5 = .ok (.getfield 11, 3) := by decide +kernel
theorem dX1_isNextTo_8 : decode jX1_isNextTo.2.1 8 = .ok (.iconst 0, 1) := by decide +kernel
theorem dX1_isNextTo_9 : decode jX1_isNextTo.2.1 9 = .ok (.aaload, 1) := by decide +kernel
theorem dX1_isNextTo_10 : decode jX1_isNextTo.2.1 10 = .ok (.getfield 110, 3) := by decide +kernel
theorem dX1_isNextTo_13 : decode jX1_isNextTo.2.1 13 = .ok (.ldc 113, 2) := by decide +kernel
theorem dX1_isNextTo_15 : decode jX1_isNextTo.2.1 15 = .ok (.if_icmp .ne 7, 3) := by decide +kernel
theorem dX1_isNextTo_18 : decode jX1_isNextTo.2.1 18 = .ok (.iconst 1, 1) := by decide +kernel
theorem dX1_isNextTo_19 : decode jX1_isNextTo.2.1 19 = .ok (.goto 4, 3) := by decide +kernel
theorem dX1_isNextTo_22 : decode jX1_isNextTo.2.1 22 = .ok (.iconst 0, 1) := by decide +kernel
theorem dX1_isNextTo_23 : decode jX1_isNextTo.2.1 23 = .ok (.ireturn, 1) := by decide +kernel
theorem dX1_isNextTo_24 : decode jX1_isNextTo.2.1 24 = .ok (.aload_n 0, 1) := by decide +kernel
theorem dX1_isNextTo_25 : decode jX1_isNextTo.2.1 25 = .ok (.getfield 11, 3) := by decide +kernel
theorem dX1_isNextTo_28 : decode jX1_isNextTo.2.1 28 = .ok (.iload_n 1, 1) := by decide +kernel
theorem dX1_isNextTo_29 : decode jX1_isNextTo.2.1 29 = .ok (.iconst 1, 1) := by decide +kernel
theorem dX1_isNextTo_30 : decode jX1_isNextTo.2.1 30 = .ok (.isub, 1) := by decide +kernel
theorem dX1_isNextTo_31 : decode jX1_isNextTo.2.1 31 = .ok (.aaload, 1) := by decide +kernel
theorem dX1_isNextTo_32 : decode jX1_isNextTo.2.1 32 = .ok (.getfield 25, 3) := by decide +kernel
theorem dX1_isNextTo_35 : decode jX1_isNextTo.2.1 35 = .ok (.istore_n 2, 1) := by decide +kernel
theorem dX1_isNextTo_36 : decode jX1_isNextTo.2.1 36 = .ok (.iload_n 2, 1) := by decide +kernel
theorem dX1_isNextTo_37 : decode jX1_isNextTo.2.1 37 = .ok (.ldc 109, 2) := by decide +kernel
theorem dX1_isNextTo_39 : decode jX1_isNextTo.2.1 39 = .ok (.if_icmp .ge 22, 3) := by decide +kernel
theorem dX1_isNextTo_42 : decode jX1_isNextTo.2.1 42 = .ok (.aload_n 0, 1) := by decide +kernel
theorem dX1_isNextTo_43 : decode jX1_isNextTo.2.1 43 = .ok (.getfield 11, 3) := by decide +kernel
theorem dX1_isNextTo_46 : decode jX1_isNextTo.2.1 46 = .ok (.iload_n 1, 1) := by decide +kernel
theorem dX1_isNextTo_47 : decode jX1_isNextTo.2.1 47 = .ok (.aaload, 1) := by decide +kernel
theorem dX1_isNextTo_48 : decode jX1_isNextTo.2.1 48 = .ok (.getfield 110, 3) := by decide +kernel
theorem dX1_isNextTo_51 : decode jX1_isNextTo.2.1 51 = .ok (.iload_n 2, 1) := by decide +kernel
theorem dX1_isNextTo_52 : decode jX1_isNextTo.2.1 52 = .ok (.iconst 1, 1) := by decide +kernel
theorem dX1_isNextTo_53 : decode jX1_isNextTo.2.1 53 = .ok (.iadd, 1) := by decide +kernel
theorem dX1_isNextTo_54 : decode jX1_isNextTo.2.1 54 = .ok (.if_icmp .ne 7, 3) := by decide +kernel
theorem dX1_isNextTo_57 : decode jX1_isNextTo.2.1 57 = .ok (.iconst 1, 1) := by decide +kernel
theorem dX1_isNextTo_58 : decode jX1_isNextTo.2.1 58 = .ok (.goto 4, 3) := by decide +kernel
theorem dX1_isNextTo_61 : decode jX1_isNextTo.2.1 61 = .ok (.iconst 0, 1) := by decide +kernel
theorem dX1_isNextTo_62 : decode jX1_isNextTo.2.1 62 = .ok (.ireturn, 1) := by decide +kernel
