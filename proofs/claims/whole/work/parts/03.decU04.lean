theorem dU_keepChange_46 : decode cU_keepChange 46 = .ok (.invokestatic 100, 3) := by decide +kernel
theorem dU_keepChange_49 : decode cU_keepChange 49 = .ok (.aload_n 0, 1) := by decide +kernel
theorem dU_keepChange_50 : decode cU_keepChange 50 = .ok (.dup, 1) := by decide +kernel
theorem dU_keepChange_51 : decode cU_keepChange 51 = .ok (.getfield 35, 3) := by decide +kernel
theorem dU_keepChange_54 : decode cU_keepChange 54 = .ok (.iconst 1, 1) := by decide +kernel
theorem dU_keepChange_55 : decode cU_keepChange 55 = .ok (.iadd, 1) := by decide +kernel
theorem dU_keepChange_56 : decode cU_keepChange 56 = .ok (.putfield 35, 3) := by decide +kernel
theorem dU_keepChange_59 : decode cU_keepChange 59 = .ok (.return_, 1) := by decide +kernel
theorem dU_undo_0 : decode cU_undo 0 = .ok (.aload_n 0, 1) := by decide +kernel
theorem dU_undo_1 : decode cU_undo 1 = .ok (.getfield 29, 3) := by decide +kernel
theorem dU_undo_4 : decode cU_undo 4 = .ok (.iload_n 1, 1) := by decide +kernel
theorem dU_undo_5 : decode cU_undo 5 = .ok (.iaload, 1) := by decide +kernel
theorem dU_undo_6 : decode cU_undo 6 = .ok (.istore_n 2, 1) := by decide +kernel
theorem dU_undo_7 : decode cU_undo 7 = .ok (.aload_n 0, 1) := by decide +kernel
theorem dU_undo_8 : decode cU_undo 8 = .ok (.getfield 26, 3) := by decide +kernel
theorem dU_undo_11 : decode cU_undo 11 = .ok (.iload_n 1, 1) := by decide +kernel
theorem dU_undo_12 : decode cU_undo 12 = .ok (.iaload, 1) := by decide +kernel
theorem dU_undo_13 : decode cU_undo 13 = .ok (.ifCond .ne 9, 3) := by decide +kernel
theorem dU_undo_16 : decode cU_undo 16 = .ok (.aload_n 0, 1) := by decide +kernel
theorem dU_undo_17 : decode cU_undo 17 = .ok (.iload_n 2, 1) := by decide +kernel
theorem dU_undo_18 : decode cU_undo 18 = .ok (.invokevirtual 97, 3) := by decide +kernel
theorem dU_undo_21 : decode cU_undo 21 = .ok (.return_, 1) := by decide +kernel
theorem dU_undo_22 : decode cU_undo 22 = .ok (.aload_n 0, 1) := by decide +kernel
theorem dU_undo_23 : decode cU_undo 23 = .ok (.getfield 26, 3) := by decide +kernel
theorem dU_undo_26 : decode cU_undo 26 = .ok (.iload_n 1, 1) := by decide +kernel
theorem dU_undo_27 : decode cU_undo 27 = .ok (.iaload, 1) := by decide +kernel
theorem dU_undo_28 : decode cU_undo 28 = .ok (.iconst 2, 1) := by decide +kernel
theorem dU_undo_29 : decode cU_undo 29 = .ok (.if_icmp .ne 8, 3) := by decide +kernel
theorem dU_undo_32 : decode cU_undo 32 = .ok (.aload_n 0, 1) := by decide +kernel
theorem dU_undo_33 : decode cU_undo 33 = .ok (.iload_n 2, 1) := by decide +kernel
theorem dU_undo_34 : decode cU_undo 34 = .ok (.invokevirtual 106, 3) := by decide +kernel
theorem dU_undo_37 : decode cU_undo 37 = .ok (.aload_n 0, 1) := by decide +kernel
theorem dU_undo_38 : decode cU_undo 38 = .ok (.getfield 32, 3) := by decide +kernel
theorem dU_undo_41 : decode cU_undo 41 = .ok (.iload_n 1, 1) := by decide +kernel
theorem dU_undo_42 : decode cU_undo 42 = .ok (.iconst 4, 1) := by decide +kernel
theorem dU_undo_43 : decode cU_undo 43 = .ok (.imul, 1) := by decide +kernel
theorem dU_undo_44 : decode cU_undo 44 = .ok (.aload_n 0, 1) := by decide +kernel
theorem dU_undo_45 : decode cU_undo 45 = .ok (.getfield 9, 3) := by decide +kernel
theorem dU_undo_48 : decode cU_undo 48 = .ok (.iload_n 2, 1) := by decide +kernel
theorem dU_undo_49 : decode cU_undo 49 = .ok (.iconst 4, 1) := by decide +kernel
theorem dU_undo_50 : decode cU_undo 50 = .ok (.imul, 1) := by decide +kernel
theorem dU_undo_51 : decode cU_undo 51 = .ok (.iconst 4, 1) := by decide +kernel
theorem dU_undo_52 : decode cU_undo 52 = .ok (.invokestatic 100, 3) := by decide +kernel
theorem dU_undo_55 : decode cU_undo 55 = .ok (.return_, 1) := by decide +kernel
theorem dU_closeRow_0 : decode cU_closeRow 0 = .ok (.aload_n 0, 1) := by decide +kernel
theorem dU_closeRow_1 : decode cU_closeRow 1 = .ok (.getfield 13, 3) := by decide +kernel
theorem dU_closeRow_4 : decode cU_closeRow 4 = .ok (.iload_n 1, 1) := by decide +kernel
theorem dU_closeRow_5 : decode cU_closeRow 5 = .ok (.isub, 1) := by decide +kernel
theorem dU_closeRow_6 : decode cU_closeRow 6 = .ok (.iconst 1, 1) := by decide +kernel
theorem dU_closeRow_7 : decode cU_closeRow 7 = .ok (.isub, 1) := by decide +kernel
theorem dU_closeRow_8 : decode cU_closeRow 8 = .ok (.istore_n 2, 1) := by decide +kernel
theorem dU_closeRow_9 : decode cU_closeRow 9 = .ok (.aload_n 0, 1) := by decide +kernel
theorem dU_closeRow_10 : decode cU_closeRow 10 = .ok (.getfield 9, 3) := by decide +kernel
theorem dU_closeRow_13 : decode cU_closeRow 13 = .ok (.iload_n 1, 1) := by decide +kernel
theorem dU_closeRow_14 : decode cU_closeRow 14 = .ok (.iconst 1, 1) := by decide +kernel
theorem dU_closeRow_15 : decode cU_closeRow 15 = .ok (.iadd, 1) := by decide +kernel
theorem dU_closeRow_16 : decode cU_closeRow 16 = .ok (.iconst 4, 1) := by decide +kernel
theorem dU_closeRow_17 : decode cU_closeRow 17 = .ok (.imul, 1) := by decide +kernel
theorem dU_closeRow_18 : decode cU_closeRow 18 = .ok (.aload_n 0, 1) := by decide +kernel
theorem dU_closeRow_19 : decode cU_closeRow 19 = .ok (.getfield 9, 3) := by decide +kernel
theorem dU_closeRow_22 : decode cU_closeRow 22 = .ok (.iload_n 1, 1) := by decide +kernel
theorem dU_closeRow_23 : decode cU_closeRow 23 = .ok (.iconst 4, 1) := by decide +kernel
theorem dU_closeRow_24 : decode cU_closeRow 24 = .ok (.imul, 1) := by decide +kernel
theorem dU_closeRow_25 : decode cU_closeRow 25 = .ok (.iload_n 2, 1) := by decide +kernel
theorem dU_closeRow_26 : decode cU_closeRow 26 = .ok (.iconst 4, 1) := by decide +kernel
theorem dU_closeRow_27 : decode cU_closeRow 27 = .ok (.imul, 1) := by decide +kernel
theorem dU_closeRow_28 : decode cU_closeRow 28 = .ok (.invokestatic 100, 3) := by decide +kernel
theorem dU_closeRow_31 : decode cU_closeRow 31 = .ok (.aload_n 0, 1) := by decide +kernel
theorem dU_closeRow_32 : decode cU_closeRow 32 = .ok (.dup, 1) := by decide +kernel
theorem dU_closeRow_33 : decode cU_closeRow 33 = .ok (.getfield 13, 3) := by decide +kernel
theorem dU_closeRow_36 : decode cU_closeRow 36 = .ok (.iconst 1, 1) := by decide +kernel
theorem dU_closeRow_37 : decode cU_closeRow 37 = .ok (.isub, 1) := by decide +kernel
theorem dU_closeRow_38 : decode cU_closeRow 38 = .ok (.putfield 13, 3) := by decide +kernel
theorem dU_closeRow_41 : decode cU_closeRow 41 = .ok (.return_, 1) := by decide +kernel
theorem dU_openRow_0 : decode cU_openRow 0 = .ok (.aload_n 0, 1) := by decide +kernel
theorem dU_openRow_1 : decode cU_openRow 1 = .ok (.getfield 13, 3) := by decide +kernel
theorem dU_openRow_4 : decode cU_openRow 4 = .ok (.iload_n 1, 1) := by decide +kernel
theorem dU_openRow_5 : decode cU_openRow 5 = .ok (.isub, 1) := by decide +kernel
theorem dU_openRow_6 : decode cU_openRow 6 = .ok (.istore_n 2, 1) := by decide +kernel
theorem dU_openRow_7 : decode cU_openRow 7 = .ok (.aload_n 0, 1) := by decide +kernel
theorem dU_openRow_8 : decode cU_openRow 8 = .ok (.getfield 9, 3) := by decide +kernel
theorem dU_openRow_11 : decode cU_openRow 11 = .ok (.iload_n 1, 1) := by decide +kernel
theorem dU_openRow_12 : decode cU_openRow 12 = .ok (.iconst 4, 1) := by decide +kernel
theorem dU_openRow_13 : decode cU_openRow 13 = .ok (.imul, 1) := by decide +kernel
theorem dU_openRow_14 : decode cU_openRow 14 = .ok (.aload_n 0, 1) := by decide +kernel
theorem dU_openRow_15 : decode cU_openRow 15 = .ok (.getfield 9, 3) := by decide +kernel
theorem dU_openRow_18 : decode cU_openRow 18 = .ok (.iload_n 1, 1) := by decide +kernel
theorem dU_openRow_19 : decode cU_openRow 19 = .ok (.iconst 1, 1) := by decide +kernel
theorem dU_openRow_20 : decode cU_openRow 20 = .ok (.iadd, 1) := by decide +kernel
theorem dU_openRow_21 : decode cU_openRow 21 = .ok (.iconst 4, 1) := by decide +kernel
theorem dU_openRow_22 : decode cU_openRow 22 = .ok (.imul, 1) := by decide +kernel
theorem dU_openRow_23 : decode cU_openRow 23 = .ok (.iload_n 2, 1) := by decide +kernel
theorem dU_openRow_24 : decode cU_openRow 24 = .ok (.iconst 4, 1) := by decide +kernel
theorem dU_openRow_25 : decode cU_openRow 25 = .ok (.imul, 1) := by decide +kernel
theorem dU_openRow_26 : decode cU_openRow 26 = .ok (.invokestatic 100, 3) := by decide +kernel
theorem dU_openRow_29 : decode cU_openRow 29 = .ok (.aload_n 0, 1) := by decide +kernel
theorem dU_openRow_30 : decode cU_openRow 30 = .ok (.dup, 1) := by decide +kernel
theorem dU_openRow_31 : decode cU_openRow 31 = .ok (.getfield 13, 3) := by decide +kernel
theorem dU_openRow_34 : decode cU_openRow 34 = .ok (.iconst 1, 1) := by decide +kernel
theorem dU_openRow_35 : decode cU_openRow 35 = .ok (.iadd, 1) := by decide +kernel
theorem dU_openRow_36 : decode cU_openRow 36 = .ok (.putfield 13, 3) := by decide +kernel
theorem dU_openRow_39 : decode cU_openRow 39 = .ok (.return_, 1) := by decide +kernel
theorem dU_latestPoint_0 : decode cU_latestPoint 0 = .ok (.aload_n 0, 1) := by decide +kernel
theorem dU_latestPoint_1 : decode cU_latestPoint 1 = .ok (.getfield 23, 3) := by decide +kernel
theorem dU_latestPoint_4 : decode cU_latestPoint 4 = .ok (.iconst 1, 1) := by decide +kernel
theorem dU_latestPoint_5 : decode cU_latestPoint 5 = .ok (.isub, 1) := by decide +kernel
theorem dU_latestPoint_6 : decode cU_latestPoint 6 = .ok (.istore_n 2, 1) := by decide +kernel
theorem dU_latestPoint_7 : decode cU_latestPoint 7 = .ok (.iload_n 2, 1) := by decide +kernel
theorem dU_latestPoint_8 : decode cU_latestPoint 8 = .ok (.ifCond .lt 21, 3) := by decide +kernel
theorem dU_latestPoint_11 : decode cU_latestPoint 11 = .ok (.aload_n 0, 1) := by decide +kernel
theorem dU_latestPoint_12 : decode cU_latestPoint 12 = .ok (.getfield 17, 3) := by decide +kernel
theorem dU_latestPoint_15 : decode cU_latestPoint 15 = .ok (.iload_n 2, 1) := by decide +kernel
theorem dU_latestPoint_16 : decode cU_latestPoint 16 = .ok (.iaload, 1) := by decide +kernel
theorem dU_latestPoint_17 : decode cU_latestPoint 17 = .ok (.iload_n 1, 1) := by decide +kernel
theorem dU_latestPoint_18 : decode cU_latestPoint 18 = .ok (.if_icmp .ne 5, 3) := by decide +kernel
theorem dU_latestPoint_21 : decode cU_latestPoint 21 = .ok (.iload_n 2, 1) := by decide +kernel
theorem dU_latestPoint_22 : decode cU_latestPoint 22 = .ok (.ireturn, 1) := by decide +kernel
theorem dU_latestPoint_23 : decode cU_latestPoint 23 = .ok (.iinc 2 (-1), 3) := by decide +kernel
theorem dU_latestPoint_26 : decode cU_latestPoint 26 = .ok (.goto (-19), 3) := by decide +kernel
theorem dU_latestPoint_29 : decode cU_latestPoint 29 = .ok (.iconst (-1), 1) := by decide +kernel
theorem dU_latestPoint_30 : decode cU_latestPoint 30 = .ok (.ireturn, 1) := by decide +kernel
