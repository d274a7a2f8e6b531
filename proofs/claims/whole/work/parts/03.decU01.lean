theorem dU_set_82 : decode cU_set 82 = .ok (.iadd, 1) := by decide +kernel
theorem dU_set_83 : decode cU_set 83 = .ok (.dup2, 1) := by decide +kernel
theorem dU_set_84 : decode cU_set 84 = .ok (.iaload, 1) := by decide +kernel
theorem dU_set_85 : decode cU_set 85 = .ok (.iconst 1, 1) := by decide +kernel
theorem dU_set_86 : decode cU_set 86 = .ok (.iload_n 2, 1) := by decide +kernel
theorem dU_set_87 : decode cU_set 87 = .ok (.ishl, 1) := by decide +kernel
theorem dU_set_88 : decode cU_set 88 = .ok (.iconst (-1), 1) := by decide +kernel
theorem dU_set_89 : decode cU_set 89 = .ok (.ixor, 1) := by decide +kernel
theorem dU_set_90 : decode cU_set 90 = .ok (.iand, 1) := by decide +kernel
theorem dU_set_91 : decode cU_set 91 = .ok (.iastore, 1) := by decide +kernel
theorem dU_set_92 : decode cU_set 92 = .ok (.goto 28, 3) := by decide +kernel
theorem dU_set_95 : decode cU_set 95 = .ok (.aload_n 0, 1) := by decide +kernel
theorem dU_set_96 : decode cU_set 96 = .ok (.getfield 9, 3) := by decide +kernel
theorem dU_set_99 : decode cU_set 99 = .ok (.iload 5, 2) := by decide +kernel
theorem dU_set_101 : decode cU_set 101 = .ok (.iload_n 2, 1) := by decide +kernel
theorem dU_set_102 : decode cU_set 102 = .ok (.iadd, 1) := by decide +kernel
theorem dU_set_103 : decode cU_set 103 = .ok (.iload_n 3, 1) := by decide +kernel
theorem dU_set_104 : decode cU_set 104 = .ok (.iastore, 1) := by decide +kernel
theorem dU_set_105 : decode cU_set 105 = .ok (.aload_n 0, 1) := by decide +kernel
theorem dU_set_106 : decode cU_set 106 = .ok (.getfield 9, 3) := by decide +kernel
theorem dU_set_109 : decode cU_set 109 = .ok (.iload 5, 2) := by decide +kernel
theorem dU_set_111 : decode cU_set 111 = .ok (.iconst 3, 1) := by decide +kernel
theorem dU_set_112 : decode cU_set 112 = .ok (.iadd, 1) := by decide +kernel
theorem dU_set_113 : decode cU_set 113 = .ok (.dup2, 1) := by decide +kernel
theorem dU_set_114 : decode cU_set 114 = .ok (.iaload, 1) := by decide +kernel
theorem dU_set_115 : decode cU_set 115 = .ok (.iconst 1, 1) := by decide +kernel
theorem dU_set_116 : decode cU_set 116 = .ok (.iload_n 2, 1) := by decide +kernel
theorem dU_set_117 : decode cU_set 117 = .ok (.ishl, 1) := by decide +kernel
theorem dU_set_118 : decode cU_set 118 = .ok (.ior, 1) := by decide +kernel
theorem dU_set_119 : decode cU_set 119 = .ok (.iastore, 1) := by decide +kernel
theorem dU_set_120 : decode cU_set 120 = .ok (.return_, 1) := by decide +kernel
theorem dU_remove_0 : decode cU_remove 0 = .ok (.aload_n 0, 1) := by decide +kernel
theorem dU_remove_1 : decode cU_remove 1 = .ok (.iload_n 1, 1) := by decide +kernel
theorem dU_remove_2 : decode cU_remove 2 = .ok (.invokevirtual 59, 3) := by decide +kernel
theorem dU_remove_5 : decode cU_remove 5 = .ok (.ifCond .ne 11, 3) := by decide +kernel
theorem dU_remove_8 : decode cU_remove 8 = .ok (.new 62, 3) := by decide +kernel
theorem dU_remove_11 : decode cU_remove 11 = .ok (.dup, 1) := by decide +kernel
theorem dU_remove_12 : decode cU_remove 12 = .ok (.invokespecial 64, 3) := by decide +kernel
theorem dU_remove_15 : decode cU_remove 15 = .ok (.athrow, 1) := by decide +kernel
theorem dU_remove_16 : decode cU_remove 16 = .ok (.aload_n 0, 1) := by decide +kernel
theorem dU_remove_17 : decode cU_remove 17 = .ok (.iconst 1, 1) := by decide +kernel
theorem dU_remove_18 : decode cU_remove 18 = .ok (.invokevirtual 41, 3) := by decide +kernel
theorem dU_remove_21 : decode cU_remove 21 = .ok (.ifCond .ne 11, 3) := by decide +kernel
theorem dU_remove_24 : decode cU_remove 24 = .ok (.new 49, 3) := by decide +kernel
theorem dU_remove_27 : decode cU_remove 27 = .ok (.dup, 1) := by decide +kernel
theorem dU_remove_28 : decode cU_remove 28 = .ok (.invokespecial 51, 3) := by decide +kernel
theorem dU_remove_31 : decode cU_remove 31 = .ok (.athrow, 1) := by decide +kernel
theorem dU_remove_32 : decode cU_remove 32 = .ok (.aload_n 0, 1) := by decide +kernel
theorem dU_remove_33 : decode cU_remove 33 = .ok (.iload_n 1, 1) := by decide +kernel
theorem dU_remove_34 : decode cU_remove 34 = .ok (.invokevirtual 69, 3) := by decide +kernel
theorem dU_remove_37 : decode cU_remove 37 = .ok (.return_, 1) := by decide +kernel
theorem dU_removeAll_0 : decode cU_removeAll 0 = .ok (.iload_n 1, 1) := by decide +kernel
theorem dU_removeAll_1 : decode cU_removeAll 1 = .ok (.invokestatic 56, 3) := by decide +kernel
theorem dU_removeAll_4 : decode cU_removeAll 4 = .ok (.ifCond .ne 11, 3) := by decide +kernel
theorem dU_removeAll_7 : decode cU_removeAll 7 = .ok (.new 38, 3) := by decide +kernel
theorem dU_removeAll_10 : decode cU_removeAll 10 = .ok (.dup, 1) := by decide +kernel
theorem dU_removeAll_11 : decode cU_removeAll 11 = .ok (.invokespecial 40, 3) := by decide +kernel
theorem dU_removeAll_14 : decode cU_removeAll 14 = .ok (.athrow, 1) := by decide +kernel
theorem dU_removeAll_15 : decode cU_removeAll 15 = .ok (.aload_n 0, 1) := by decide +kernel
theorem dU_removeAll_16 : decode cU_removeAll 16 = .ok (.iload_n 1, 1) := by decide +kernel
theorem dU_removeAll_17 : decode cU_removeAll 17 = .ok (.iload_n 2, 1) := by decide +kernel
theorem dU_removeAll_18 : decode cU_removeAll 18 = .ok (.invokevirtual 73, 3) := by decide +kernel
theorem dU_removeAll_21 : decode cU_removeAll 21 = .ok (.istore_n 3, 1) := by decide +kernel
theorem dU_removeAll_22 : decode cU_removeAll 22 = .ok (.aload_n 0, 1) := by decide +kernel
theorem dU_removeAll_23 : decode cU_removeAll 23 = .ok (.iload_n 3, 1) := by decide +kernel
theorem dU_removeAll_24 : decode cU_removeAll 24 = .ok (.invokevirtual 41, 3) := by decide +kernel
theorem dU_removeAll_27 : decode cU_removeAll 27 = .ok (.ifCond .ne 11, 3) := by decide +kernel
theorem dU_removeAll_30 : decode cU_removeAll 30 = .ok (.new 49, 3) := by decide +kernel
theorem dU_removeAll_33 : decode cU_removeAll 33 = .ok (.dup, 1) := by decide +kernel
theorem dU_removeAll_34 : decode cU_removeAll 34 = .ok (.invokespecial 51, 3) := by decide +kernel
theorem dU_removeAll_37 : decode cU_removeAll 37 = .ok (.athrow, 1) := by decide +kernel
theorem dU_removeAll_38 : decode cU_removeAll 38 = .ok (.aload_n 0, 1) := by decide +kernel
theorem dU_removeAll_39 : decode cU_removeAll 39 = .ok (.getfield 13, 3) := by decide +kernel
theorem dU_removeAll_42 : decode cU_removeAll 42 = .ok (.iconst 1, 1) := by decide +kernel
theorem dU_removeAll_43 : decode cU_removeAll 43 = .ok (.isub, 1) := by decide +kernel
theorem dU_removeAll_44 : decode cU_removeAll 44 = .ok (.istore 4, 2) := by decide +kernel
theorem dU_removeAll_46 : decode cU_removeAll 46 = .ok (.iload 4, 2) := by decide +kernel
theorem dU_removeAll_48 : decode cU_removeAll 48 = .ok (.ifCond .lt 26, 3) := by decide +kernel
theorem dU_removeAll_51 : decode cU_removeAll 51 = .ok (.aload_n 0, 1) := by decide +kernel
theorem dU_removeAll_52 : decode cU_removeAll 52 = .ok (.iload 4, 2) := by decide +kernel
theorem dU_removeAll_54 : decode cU_removeAll 54 = .ok (.iload_n 1, 1) := by decide +kernel
theorem dU_removeAll_55 : decode cU_removeAll 55 = .ok (.iload_n 2, 1) := by decide +kernel
theorem dU_removeAll_56 : decode cU_removeAll 56 = .ok (.invokevirtual 77, 3) := by decide +kernel
theorem dU_removeAll_59 : decode cU_removeAll 59 = .ok (.ifCond .eq 9, 3) := by decide +kernel
theorem dU_removeAll_62 : decode cU_removeAll 62 = .ok (.aload_n 0, 1) := by decide +kernel
theorem dU_removeAll_63 : decode cU_removeAll 63 = .ok (.iload 4, 2) := by decide +kernel
theorem dU_removeAll_65 : decode cU_removeAll 65 = .ok (.invokevirtual 69, 3) := by decide +kernel
theorem dU_removeAll_68 : decode cU_removeAll 68 = .ok (.iinc 4 (-1), 3) := by decide +kernel
theorem dU_removeAll_71 : decode cU_removeAll 71 = .ok (.goto (-25), 3) := by decide +kernel
theorem dU_removeAll_74 : decode cU_removeAll 74 = .ok (.iload_n 3, 1) := by decide +kernel
theorem dU_removeAll_75 : decode cU_removeAll 75 = .ok (.ireturn, 1) := by decide +kernel
theorem dU_find_0 : decode cU_find 0 = .ok (.iload_n 1, 1) := by decide +kernel
theorem dU_find_1 : decode cU_find 1 = .ok (.ifCond .lt 8, 3) := by decide +kernel
theorem dU_find_4 : decode cU_find 4 = .ok (.iload_n 1, 1) := by decide +kernel
theorem dU_find_5 : decode cU_find 5 = .ok (.iconst 2, 1) := by decide +kernel
theorem dU_find_6 : decode cU_find 6 = .ok (.if_icmp .lt 11, 3) := by decide +kernel
theorem dU_find_9 : decode cU_find 9 = .ok (.new 38, 3) := by decide +kernel
theorem dU_find_12 : decode cU_find 12 = .ok (.dup, 1) := by decide +kernel
theorem dU_find_13 : decode cU_find 13 = .ok (.invokespecial 40, 3) := by decide +kernel
theorem dU_find_16 : decode cU_find 16 = .ok (.athrow, 1) := by decide +kernel
theorem dU_find_17 : decode cU_find 17 = .ok (.aload_n 0, 1) := by decide +kernel
theorem dU_find_18 : decode cU_find 18 = .ok (.iload_n 1, 1) := by decide +kernel
theorem dU_find_19 : decode cU_find 19 = .ok (.iload_n 2, 1) := by decide +kernel
theorem dU_find_20 : decode cU_find 20 = .ok (.invokevirtual 80, 3) := by decide +kernel
theorem dU_find_23 : decode cU_find 23 = .ok (.ireturn, 1) := by decide +kernel
theorem dU_value_0 : decode cU_value 0 = .ok (.iload_n 2, 1) := by decide +kernel
theorem dU_value_1 : decode cU_value 1 = .ok (.invokestatic 56, 3) := by decide +kernel
theorem dU_value_4 : decode cU_value 4 = .ok (.ifCond .ne 11, 3) := by decide +kernel
theorem dU_value_7 : decode cU_value 7 = .ok (.new 38, 3) := by decide +kernel
theorem dU_value_10 : decode cU_value 10 = .ok (.dup, 1) := by decide +kernel
theorem dU_value_11 : decode cU_value 11 = .ok (.invokespecial 40, 3) := by decide +kernel
theorem dU_value_14 : decode cU_value 14 = .ok (.athrow, 1) := by decide +kernel
theorem dU_value_15 : decode cU_value 15 = .ok (.aload_n 0, 1) := by decide +kernel
theorem dU_value_16 : decode cU_value 16 = .ok (.iload_n 1, 1) := by decide +kernel
theorem dU_value_17 : decode cU_value 17 = .ok (.invokevirtual 59, 3) := by decide +kernel
theorem dU_value_20 : decode cU_value 20 = .ok (.ifCond .eq 12, 3) := by decide +kernel
theorem dU_value_23 : decode cU_value 23 = .ok (.aload_n 0, 1) := by decide +kernel
theorem dU_value_24 : decode cU_value 24 = .ok (.iload_n 1, 1) := by decide +kernel
theorem dU_value_25 : decode cU_value 25 = .ok (.iload_n 2, 1) := by decide +kernel
theorem dU_value_26 : decode cU_value 26 = .ok (.invokevirtual 83, 3) := by decide +kernel
theorem dU_value_29 : decode cU_value 29 = .ok (.ifCond .eq 11, 3) := by decide +kernel
theorem dU_value_32 : decode cU_value 32 = .ok (.new 62, 3) := by decide +kernel
theorem dU_value_35 : decode cU_value 35 = .ok (.dup, 1) := by decide +kernel
theorem dU_value_36 : decode cU_value 36 = .ok (.invokespecial 64, 3) := by decide +kernel
theorem dU_value_39 : decode cU_value 39 = .ok (.athrow, 1) := by decide +kernel
theorem dU_value_40 : decode cU_value 40 = .ok (.aload_n 0, 1) := by decide +kernel
theorem dU_value_41 : decode cU_value 41 = .ok (.getfield 9, 3) := by decide +kernel
theorem dU_value_44 : decode cU_value 44 = .ok (.iload_n 1, 1) := by decide +kernel
theorem dU_value_45 : decode cU_value 45 = .ok (.iconst 4, 1) := by decide +kernel
theorem dU_value_46 : decode cU_value 46 = .ok (.imul, 1) := by decide +kernel
theorem dU_value_47 : decode cU_value 47 = .ok (.iload_n 2, 1) := by decide +kernel
theorem dU_value_48 : decode cU_value 48 = .ok (.iadd, 1) := by decide +kernel
theorem dU_value_49 : decode cU_value 49 = .ok (.iaload, 1) := by decide +kernel
theorem dU_value_50 : decode cU_value 50 = .ok (.ireturn, 1) := by decide +kernel
theorem dU_mark_0 : decode cU_mark 0 = .ok (.aload_n 0, 1) := by decide +kernel
theorem dU_mark_1 : decode cU_mark 1 = .ok (.getfield 23, 3) := by decide +kernel
theorem dU_mark_4 : decode cU_mark 4 = .ok (.bipush 20, 2) := by decide +kernel
theorem dU_mark_6 : decode cU_mark 6 = .ok (.if_icmp .lt 11, 3) := by decide +kernel
theorem dU_mark_9 : decode cU_mark 9 = .ok (.new 49, 3) := by decide +kernel
theorem dU_mark_12 : decode cU_mark 12 = .ok (.dup, 1) := by decide +kernel
theorem dU_mark_13 : decode cU_mark 13 = .ok (.invokespecial 51, 3) := by decide +kernel
theorem dU_mark_16 : decode cU_mark 16 = .ok (.athrow, 1) := by decide +kernel
theorem dU_mark_17 : decode cU_mark 17 = .ok (.aload_n 0, 1) := by decide +kernel
theorem dU_mark_18 : decode cU_mark 18 = .ok (.getfield 17, 3) := by decide +kernel
theorem dU_mark_21 : decode cU_mark 21 = .ok (.aload_n 0, 1) := by decide +kernel
theorem dU_mark_22 : decode cU_mark 22 = .ok (.getfield 23, 3) := by decide +kernel
theorem dU_mark_25 : decode cU_mark 25 = .ok (.iload_n 1, 1) := by decide +kernel
theorem dU_mark_26 : decode cU_mark 26 = .ok (.iastore, 1) := by decide +kernel
theorem dU_mark_27 : decode cU_mark 27 = .ok (.aload_n 0, 1) := by decide +kernel
theorem dU_mark_28 : decode cU_mark 28 = .ok (.getfield 20, 3) := by decide +kernel
