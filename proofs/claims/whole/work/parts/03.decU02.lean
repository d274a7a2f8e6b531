theorem dU_mark_31 : decode cU_mark 31 = .ok (.aload_n 0, 1) := by decide +kernel
theorem dU_mark_32 : decode cU_mark 32 = .ok (.getfield 23, 3) := by decide +kernel
theorem dU_mark_35 : decode cU_mark 35 = .ok (.aload_n 0, 1) := by decide +kernel
theorem dU_mark_36 : decode cU_mark 36 = .ok (.getfield 35, 3) := by decide +kernel
theorem dU_mark_39 : decode cU_mark 39 = .ok (.iastore, 1) := by decide +kernel
theorem dU_mark_40 : decode cU_mark 40 = .ok (.aload_n 0, 1) := by decide +kernel
theorem dU_mark_41 : decode cU_mark 41 = .ok (.dup, 1) := by decide +kernel
theorem dU_mark_42 : decode cU_mark 42 = .ok (.getfield 23, 3) := by decide +kernel
theorem dU_mark_45 : decode cU_mark 45 = .ok (.iconst 1, 1) := by decide +kernel
theorem dU_mark_46 : decode cU_mark 46 = .ok (.iadd, 1) := by decide +kernel
theorem dU_mark_47 : decode cU_mark 47 = .ok (.putfield 23, 3) := by decide +kernel
theorem dU_mark_50 : decode cU_mark 50 = .ok (.return_, 1) := by decide +kernel
theorem dU_back_0 : decode cU_back 0 = .ok (.aload_n 0, 1) := by decide +kernel
theorem dU_back_1 : decode cU_back 1 = .ok (.iload_n 1, 1) := by decide +kernel
theorem dU_back_2 : decode cU_back 2 = .ok (.invokevirtual 87, 3) := by decide +kernel
theorem dU_back_5 : decode cU_back 5 = .ok (.istore_n 2, 1) := by decide +kernel
theorem dU_back_6 : decode cU_back 6 = .ok (.iload_n 2, 1) := by decide +kernel
theorem dU_back_7 : decode cU_back 7 = .ok (.ifCond .ge 11, 3) := by decide +kernel
theorem dU_back_10 : decode cU_back 10 = .ok (.new 62, 3) := by decide +kernel
theorem dU_back_13 : decode cU_back 13 = .ok (.dup, 1) := by decide +kernel
theorem dU_back_14 : decode cU_back 14 = .ok (.invokespecial 64, 3) := by decide +kernel
theorem dU_back_17 : decode cU_back 17 = .ok (.athrow, 1) := by decide +kernel
theorem dU_back_18 : decode cU_back 18 = .ok (.aload_n 0, 1) := by decide +kernel
theorem dU_back_19 : decode cU_back 19 = .ok (.getfield 20, 3) := by decide +kernel
theorem dU_back_22 : decode cU_back 22 = .ok (.iload_n 2, 1) := by decide +kernel
theorem dU_back_23 : decode cU_back 23 = .ok (.iaload, 1) := by decide +kernel
theorem dU_back_24 : decode cU_back 24 = .ok (.istore_n 3, 1) := by decide +kernel
theorem dU_back_25 : decode cU_back 25 = .ok (.aload_n 0, 1) := by decide +kernel
theorem dU_back_26 : decode cU_back 26 = .ok (.getfield 35, 3) := by decide +kernel
theorem dU_back_29 : decode cU_back 29 = .ok (.iconst 1, 1) := by decide +kernel
theorem dU_back_30 : decode cU_back 30 = .ok (.isub, 1) := by decide +kernel
theorem dU_back_31 : decode cU_back 31 = .ok (.istore 4, 2) := by decide +kernel
theorem dU_back_33 : decode cU_back 33 = .ok (.iload 4, 2) := by decide +kernel
theorem dU_back_35 : decode cU_back 35 = .ok (.iload_n 3, 1) := by decide +kernel
theorem dU_back_36 : decode cU_back 36 = .ok (.if_icmp .lt 15, 3) := by decide +kernel
theorem dU_back_39 : decode cU_back 39 = .ok (.aload_n 0, 1) := by decide +kernel
theorem dU_back_40 : decode cU_back 40 = .ok (.iload 4, 2) := by decide +kernel
theorem dU_back_42 : decode cU_back 42 = .ok (.invokevirtual 91, 3) := by decide +kernel
theorem dU_back_45 : decode cU_back 45 = .ok (.iinc 4 (-1), 3) := by decide +kernel
theorem dU_back_48 : decode cU_back 48 = .ok (.goto (-15), 3) := by decide +kernel
theorem dU_back_51 : decode cU_back 51 = .ok (.aload_n 0, 1) := by decide +kernel
theorem dU_back_52 : decode cU_back 52 = .ok (.iload_n 3, 1) := by decide +kernel
theorem dU_back_53 : decode cU_back 53 = .ok (.putfield 35, 3) := by decide +kernel
theorem dU_back_56 : decode cU_back 56 = .ok (.aload_n 0, 1) := by decide +kernel
theorem dU_back_57 : decode cU_back 57 = .ok (.iload_n 2, 1) := by decide +kernel
theorem dU_back_58 : decode cU_back 58 = .ok (.iconst 1, 1) := by decide +kernel
theorem dU_back_59 : decode cU_back 59 = .ok (.iadd, 1) := by decide +kernel
theorem dU_back_60 : decode cU_back 60 = .ok (.putfield 23, 3) := by decide +kernel
theorem dU_back_63 : decode cU_back 63 = .ok (.return_, 1) := by decide +kernel
theorem dU_release_0 : decode cU_release 0 = .ok (.aload_n 0, 1) := by decide +kernel
theorem dU_release_1 : decode cU_release 1 = .ok (.iload_n 1, 1) := by decide +kernel
theorem dU_release_2 : decode cU_release 2 = .ok (.invokevirtual 87, 3) := by decide +kernel
theorem dU_release_5 : decode cU_release 5 = .ok (.istore_n 2, 1) := by decide +kernel
theorem dU_release_6 : decode cU_release 6 = .ok (.iload_n 2, 1) := by decide +kernel
theorem dU_release_7 : decode cU_release 7 = .ok (.ifCond .ge 11, 3) := by decide +kernel
theorem dU_release_10 : decode cU_release 10 = .ok (.new 62, 3) := by decide +kernel
theorem dU_release_13 : decode cU_release 13 = .ok (.dup, 1) := by decide +kernel
theorem dU_release_14 : decode cU_release 14 = .ok (.invokespecial 64, 3) := by decide +kernel
theorem dU_release_17 : decode cU_release 17 = .ok (.athrow, 1) := by decide +kernel
theorem dU_release_18 : decode cU_release 18 = .ok (.aload_n 0, 1) := by decide +kernel
theorem dU_release_19 : decode cU_release 19 = .ok (.iload_n 2, 1) := by decide +kernel
theorem dU_release_20 : decode cU_release 20 = .ok (.putfield 23, 3) := by decide +kernel
theorem dU_release_23 : decode cU_release 23 = .ok (.aload_n 0, 1) := by decide +kernel
theorem dU_release_24 : decode cU_release 24 = .ok (.getfield 23, 3) := by decide +kernel
theorem dU_release_27 : decode cU_release 27 = .ok (.ifCond .ne 8, 3) := by decide +kernel
theorem dU_release_30 : decode cU_release 30 = .ok (.aload_n 0, 1) := by decide +kernel
theorem dU_release_31 : decode cU_release 31 = .ok (.iconst 0, 1) := by decide +kernel
theorem dU_release_32 : decode cU_release 32 = .ok (.putfield 35, 3) := by decide +kernel
theorem dU_release_35 : decode cU_release 35 = .ok (.return_, 1) := by decide +kernel
theorem dU_count_0 : decode cU_count 0 = .ok (.iload_n 1, 1) := by decide +kernel
theorem dU_count_1 : decode cU_count 1 = .ok (.tableswitch 62 0 4 #[35, 40, 45, 50, 56], 35) := by decide +kernel
theorem dU_count_36 : decode cU_count 36 = .ok (.aload_n 0, 1) := by decide +kernel
theorem dU_count_37 : decode cU_count 37 = .ok (.getfield 13, 3) := by decide +kernel
theorem dU_count_40 : decode cU_count 40 = .ok (.ireturn, 1) := by decide +kernel
theorem dU_count_41 : decode cU_count 41 = .ok (.aload_n 0, 1) := by decide +kernel
theorem dU_count_42 : decode cU_count 42 = .ok (.getfield 23, 3) := by decide +kernel
theorem dU_count_45 : decode cU_count 45 = .ok (.ireturn, 1) := by decide +kernel
theorem dU_count_46 : decode cU_count 46 = .ok (.aload_n 0, 1) := by decide +kernel
theorem dU_count_47 : decode cU_count 47 = .ok (.getfield 35, 3) := by decide +kernel
theorem dU_count_50 : decode cU_count 50 = .ok (.ireturn, 1) := by decide +kernel
theorem dU_count_51 : decode cU_count 51 = .ok (.aload_n 0, 1) := by decide +kernel
theorem dU_count_52 : decode cU_count 52 = .ok (.iconst 1, 1) := by decide +kernel
theorem dU_count_53 : decode cU_count 53 = .ok (.invokevirtual 94, 3) := by decide +kernel
theorem dU_count_56 : decode cU_count 56 = .ok (.ireturn, 1) := by decide +kernel
theorem dU_count_57 : decode cU_count 57 = .ok (.aload_n 0, 1) := by decide +kernel
theorem dU_count_58 : decode cU_count 58 = .ok (.iconst 2, 1) := by decide +kernel
theorem dU_count_59 : decode cU_count 59 = .ok (.invokevirtual 94, 3) := by decide +kernel
theorem dU_count_62 : decode cU_count 62 = .ok (.ireturn, 1) := by decide +kernel
theorem dU_count_63 : decode cU_count 63 = .ok (.iconst (-1), 1) := by decide +kernel
theorem dU_count_64 : decode cU_count 64 = .ok (.ireturn, 1) := by decide +kernel
theorem dU_isColumn_0 : decode cU_isColumn 0 = .ok (.iload_n 0, 1) := by decide +kernel
theorem dU_isColumn_1 : decode cU_isColumn 1 = .ok (.ifCond .lt 12, 3) := by decide +kernel
theorem dU_isColumn_4 : decode cU_isColumn 4 = .ok (.iload_n 0, 1) := by decide +kernel
theorem dU_isColumn_5 : decode cU_isColumn 5 = .ok (.iconst 3, 1) := by decide +kernel
theorem dU_isColumn_6 : decode cU_isColumn 6 = .ok (.if_icmp .ge 7, 3) := by decide +kernel
theorem dU_isColumn_9 : decode cU_isColumn 9 = .ok (.iconst 1, 1) := by decide +kernel
theorem dU_isColumn_10 : decode cU_isColumn 10 = .ok (.goto 4, 3) := by decide +kernel
theorem dU_isColumn_13 : decode cU_isColumn 13 = .ok (.iconst 0, 1) := by decide +kernel
theorem dU_isColumn_14 : decode cU_isColumn 14 = .ok (.ireturn, 1) := by decide +kernel
theorem dU_isRow_0 : decode cU_isRow 0 = .ok (.iload_n 1, 1) := by decide +kernel
theorem dU_isRow_1 : decode cU_isRow 1 = .ok (.ifCond .lt 15, 3) := by decide +kernel
theorem dU_isRow_4 : decode cU_isRow 4 = .ok (.iload_n 1, 1) := by decide +kernel
theorem dU_isRow_5 : decode cU_isRow 5 = .ok (.aload_n 0, 1) := by decide +kernel
theorem dU_isRow_6 : decode cU_isRow 6 = .ok (.getfield 13, 3) := by decide +kernel
theorem dU_isRow_9 : decode cU_isRow 9 = .ok (.if_icmp .ge 7, 3) := by decide +kernel
theorem dU_isRow_12 : decode cU_isRow 12 = .ok (.iconst 1, 1) := by decide +kernel
theorem dU_isRow_13 : decode cU_isRow 13 = .ok (.goto 4, 3) := by decide +kernel
theorem dU_isRow_16 : decode cU_isRow 16 = .ok (.iconst 0, 1) := by decide +kernel
theorem dU_isRow_17 : decode cU_isRow 17 = .ok (.ireturn, 1) := by decide +kernel
theorem dU_isNone_0 : decode cU_isNone 0 = .ok (.aload_n 0, 1) := by decide +kernel
theorem dU_isNone_1 : decode cU_isNone 1 = .ok (.getfield 9, 3) := by decide +kernel
theorem dU_isNone_4 : decode cU_isNone 4 = .ok (.iload_n 1, 1) := by decide +kernel
theorem dU_isNone_5 : decode cU_isNone 5 = .ok (.iconst 4, 1) := by decide +kernel
theorem dU_isNone_6 : decode cU_isNone 6 = .ok (.imul, 1) := by decide +kernel
theorem dU_isNone_7 : decode cU_isNone 7 = .ok (.iconst 3, 1) := by decide +kernel
theorem dU_isNone_8 : decode cU_isNone 8 = .ok (.iadd, 1) := by decide +kernel
theorem dU_isNone_9 : decode cU_isNone 9 = .ok (.iaload, 1) := by decide +kernel
theorem dU_isNone_10 : decode cU_isNone 10 = .ok (.iconst 1, 1) := by decide +kernel
theorem dU_isNone_11 : decode cU_isNone 11 = .ok (.iload_n 2, 1) := by decide +kernel
theorem dU_isNone_12 : decode cU_isNone 12 = .ok (.ishl, 1) := by decide +kernel
theorem dU_isNone_13 : decode cU_isNone 13 = .ok (.iand, 1) := by decide +kernel
theorem dU_isNone_14 : decode cU_isNone 14 = .ok (.ifCond .ne 7, 3) := by decide +kernel
theorem dU_isNone_17 : decode cU_isNone 17 = .ok (.iconst 1, 1) := by decide +kernel
theorem dU_isNone_18 : decode cU_isNone 18 = .ok (.goto 4, 3) := by decide +kernel
theorem dU_isNone_21 : decode cU_isNone 21 = .ok (.iconst 0, 1) := by decide +kernel
theorem dU_isNone_22 : decode cU_isNone 22 = .ok (.ireturn, 1) := by decide +kernel
theorem dU_holds_0 : decode cU_holds 0 = .ok (.aload_n 0, 1) := by decide +kernel
theorem dU_holds_1 : decode cU_holds 1 = .ok (.iload_n 1, 1) := by decide +kernel
theorem dU_holds_2 : decode cU_holds 2 = .ok (.iload_n 2, 1) := by decide +kernel
theorem dU_holds_3 : decode cU_holds 3 = .ok (.invokevirtual 83, 3) := by decide +kernel
theorem dU_holds_6 : decode cU_holds 6 = .ok (.ifCond .ne 21, 3) := by decide +kernel
theorem dU_holds_9 : decode cU_holds 9 = .ok (.aload_n 0, 1) := by decide +kernel
theorem dU_holds_10 : decode cU_holds 10 = .ok (.getfield 9, 3) := by decide +kernel
theorem dU_holds_13 : decode cU_holds 13 = .ok (.iload_n 1, 1) := by decide +kernel
theorem dU_holds_14 : decode cU_holds 14 = .ok (.iconst 4, 1) := by decide +kernel
theorem dU_holds_15 : decode cU_holds 15 = .ok (.imul, 1) := by decide +kernel
theorem dU_holds_16 : decode cU_holds 16 = .ok (.iload_n 2, 1) := by decide +kernel
theorem dU_holds_17 : decode cU_holds 17 = .ok (.iadd, 1) := by decide +kernel
theorem dU_holds_18 : decode cU_holds 18 = .ok (.iaload, 1) := by decide +kernel
theorem dU_holds_19 : decode cU_holds 19 = .ok (.iload_n 3, 1) := by decide +kernel
theorem dU_holds_20 : decode cU_holds 20 = .ok (.if_icmp .ne 7, 3) := by decide +kernel
theorem dU_holds_23 : decode cU_holds 23 = .ok (.iconst 1, 1) := by decide +kernel
theorem dU_holds_24 : decode cU_holds 24 = .ok (.goto 4, 3) := by decide +kernel
theorem dU_holds_27 : decode cU_holds 27 = .ok (.iconst 0, 1) := by decide +kernel
theorem dU_holds_28 : decode cU_holds 28 = .ok (.ireturn, 1) := by decide +kernel
theorem dU_rowWithKey_0 : decode cU_rowWithKey 0 = .ok (.iconst 0, 1) := by decide +kernel
theorem dU_rowWithKey_1 : decode cU_rowWithKey 1 = .ok (.istore_n 3, 1) := by decide +kernel
theorem dU_rowWithKey_2 : decode cU_rowWithKey 2 = .ok (.iload_n 3, 1) := by decide +kernel
theorem dU_rowWithKey_3 : decode cU_rowWithKey 3 = .ok (.aload_n 0, 1) := by decide +kernel
theorem dU_rowWithKey_4 : decode cU_rowWithKey 4 = .ok (.getfield 13, 3) := by decide +kernel
