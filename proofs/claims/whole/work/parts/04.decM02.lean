theorem dM_take_21 : decode cM_take 21 = .ok (.if_icmp .ge 37, 3) := by decide +kernel
theorem dM_take_24 : decode cM_take 24 = .ok (.aload_n 0, 1) := by decide +kernel
theorem dM_take_25 : decode cM_take 25 = .ok (.getfield 16, 3) := by decide +kernel
theorem dM_take_28 : decode cM_take 28 = .ok (.iload_n 2, 1) := by decide +kernel
theorem dM_take_29 : decode cM_take 29 = .ok (.aload_n 0, 1) := by decide +kernel
theorem dM_take_30 : decode cM_take 30 = .ok (.getfield 16, 3) := by decide +kernel
theorem dM_take_33 : decode cM_take 33 = .ok (.iload_n 2, 1) := by decide +kernel
theorem dM_take_34 : decode cM_take 34 = .ok (.iconst 3, 1) := by decide +kernel
theorem dM_take_35 : decode cM_take 35 = .ok (.iadd, 1) := by decide +kernel
theorem dM_take_36 : decode cM_take 36 = .ok (.baload, 1) := by decide +kernel
theorem dM_take_37 : decode cM_take 37 = .ok (.bastore, 1) := by decide +kernel
theorem dM_take_38 : decode cM_take 38 = .ok (.aload_n 0, 1) := by decide +kernel
theorem dM_take_39 : decode cM_take 39 = .ok (.getfield 9, 3) := by decide +kernel
theorem dM_take_42 : decode cM_take 42 = .ok (.iload_n 2, 1) := by decide +kernel
theorem dM_take_43 : decode cM_take 43 = .ok (.aload_n 0, 1) := by decide +kernel
theorem dM_take_44 : decode cM_take 44 = .ok (.getfield 9, 3) := by decide +kernel
theorem dM_take_47 : decode cM_take 47 = .ok (.iload_n 2, 1) := by decide +kernel
theorem dM_take_48 : decode cM_take 48 = .ok (.iconst 3, 1) := by decide +kernel
theorem dM_take_49 : decode cM_take 49 = .ok (.iadd, 1) := by decide +kernel
theorem dM_take_50 : decode cM_take 50 = .ok (.iaload, 1) := by decide +kernel
theorem dM_take_51 : decode cM_take 51 = .ok (.iastore, 1) := by decide +kernel
theorem dM_take_52 : decode cM_take 52 = .ok (.iinc 2 1, 3) := by decide +kernel
theorem dM_take_55 : decode cM_take 55 = .ok (.goto (-41), 3) := by decide +kernel
theorem dM_take_58 : decode cM_take 58 = .ok (.aload_n 0, 1) := by decide +kernel
theorem dM_take_59 : decode cM_take 59 = .ok (.invokevirtual 57, 3) := by decide +kernel
theorem dM_take_62 : decode cM_take 62 = .ok (.return_, 1) := by decide +kernel
theorem dM_remove_0 : decode cM_remove 0 = .ok (.aload_n 0, 1) := by decide +kernel
theorem dM_remove_1 : decode cM_remove 1 = .ok (.aload_n 0, 1) := by decide +kernel
theorem dM_remove_2 : decode cM_remove 2 = .ok (.iload_n 1, 1) := by decide +kernel
theorem dM_remove_3 : decode cM_remove 3 = .ok (.invokevirtual 60, 3) := by decide +kernel
theorem dM_remove_6 : decode cM_remove 6 = .ok (.ifCond .ne 7, 3) := by decide +kernel
theorem dM_remove_9 : decode cM_remove 9 = .ok (.iconst 2, 1) := by decide +kernel
theorem dM_remove_10 : decode cM_remove 10 = .ok (.goto 16, 3) := by decide +kernel
theorem dM_remove_13 : decode cM_remove 13 = .ok (.aload_n 0, 1) := by decide +kernel
theorem dM_remove_14 : decode cM_remove 14 = .ok (.iconst 1, 1) := by decide +kernel
theorem dM_remove_15 : decode cM_remove 15 = .ok (.invokevirtual 49, 3) := by decide +kernel
theorem dM_remove_18 : decode cM_remove 18 = .ok (.ifCond .eq 7, 3) := by decide +kernel
theorem dM_remove_21 : decode cM_remove 21 = .ok (.iconst 1, 1) := by decide +kernel
theorem dM_remove_22 : decode cM_remove 22 = .ok (.goto 4, 3) := by decide +kernel
theorem dM_remove_25 : decode cM_remove 25 = .ok (.iconst 0, 1) := by decide +kernel
theorem dM_remove_26 : decode cM_remove 26 = .ok (.putfield 32, 3) := by decide +kernel
theorem dM_remove_29 : decode cM_remove 29 = .ok (.aload_n 0, 1) := by decide +kernel
theorem dM_remove_30 : decode cM_remove 30 = .ok (.getfield 32, 3) := by decide +kernel
theorem dM_remove_33 : decode cM_remove 33 = .ok (.ifCond .ne 8, 3) := by decide +kernel
theorem dM_remove_36 : decode cM_remove 36 = .ok (.aload_n 0, 1) := by decide +kernel
theorem dM_remove_37 : decode cM_remove 37 = .ok (.iload_n 1, 1) := by decide +kernel
theorem dM_remove_38 : decode cM_remove 38 = .ok (.invokevirtual 63, 3) := by decide +kernel
theorem dM_remove_41 : decode cM_remove 41 = .ok (.return_, 1) := by decide +kernel
theorem dM_removeAll_0 : decode cM_removeAll 0 = .ok (.iload_n 1, 1) := by decide +kernel
theorem dM_removeAll_1 : decode cM_removeAll 1 = .ok (.ifCond .lt 8, 3) := by decide +kernel
theorem dM_removeAll_4 : decode cM_removeAll 4 = .ok (.iload_n 1, 1) := by decide +kernel
theorem dM_removeAll_5 : decode cM_removeAll 5 = .ok (.iconst 2, 1) := by decide +kernel
theorem dM_removeAll_6 : decode cM_removeAll 6 = .ok (.if_icmp .le 9, 3) := by decide +kernel
theorem dM_removeAll_9 : decode cM_removeAll 9 = .ok (.aload_n 0, 1) := by decide +kernel
theorem dM_removeAll_10 : decode cM_removeAll 10 = .ok (.iconst 1, 1) := by decide +kernel
theorem dM_removeAll_11 : decode cM_removeAll 11 = .ok (.invokevirtual 45, 3) := by decide +kernel
theorem dM_removeAll_14 : decode cM_removeAll 14 = .ok (.ireturn, 1) := by decide +kernel
theorem dM_removeAll_15 : decode cM_removeAll 15 = .ok (.iconst 0, 1) := by decide +kernel
theorem dM_removeAll_16 : decode cM_removeAll 16 = .ok (.istore_n 3, 1) := by decide +kernel
theorem dM_removeAll_17 : decode cM_removeAll 17 = .ok (.iconst 0, 1) := by decide +kernel
theorem dM_removeAll_18 : decode cM_removeAll 18 = .ok (.istore 4, 2) := by decide +kernel
theorem dM_removeAll_20 : decode cM_removeAll 20 = .ok (.iload 4, 2) := by decide +kernel
theorem dM_removeAll_22 : decode cM_removeAll 22 = .ok (.aload_n 0, 1) := by decide +kernel
theorem dM_removeAll_23 : decode cM_removeAll 23 = .ok (.getfield 36, 3) := by decide +kernel
theorem dM_removeAll_26 : decode cM_removeAll 26 = .ok (.if_icmp .ge 41, 3) := by decide +kernel
theorem dM_removeAll_29 : decode cM_removeAll 29 = .ok (.aload_n 0, 1) := by decide +kernel
theorem dM_removeAll_30 : decode cM_removeAll 30 = .ok (.getfield 16, 3) := by decide +kernel
theorem dM_removeAll_33 : decode cM_removeAll 33 = .ok (.iconst 3, 1) := by decide +kernel
theorem dM_removeAll_34 : decode cM_removeAll 34 = .ok (.iload 4, 2) := by decide +kernel
theorem dM_removeAll_36 : decode cM_removeAll 36 = .ok (.imul, 1) := by decide +kernel
theorem dM_removeAll_37 : decode cM_removeAll 37 = .ok (.iload_n 1, 1) := by decide +kernel
theorem dM_removeAll_38 : decode cM_removeAll 38 = .ok (.iadd, 1) := by decide +kernel
theorem dM_removeAll_39 : decode cM_removeAll 39 = .ok (.baload, 1) := by decide +kernel
theorem dM_removeAll_40 : decode cM_removeAll 40 = .ok (.ifCond .eq 21, 3) := by decide +kernel
theorem dM_removeAll_43 : decode cM_removeAll 43 = .ok (.aload_n 0, 1) := by decide +kernel
theorem dM_removeAll_44 : decode cM_removeAll 44 = .ok (.getfield 9, 3) := by decide +kernel
theorem dM_removeAll_47 : decode cM_removeAll 47 = .ok (.iconst 3, 1) := by decide +kernel
theorem dM_removeAll_48 : decode cM_removeAll 48 = .ok (.iload 4, 2) := by decide +kernel
theorem dM_removeAll_50 : decode cM_removeAll 50 = .ok (.imul, 1) := by decide +kernel
theorem dM_removeAll_51 : decode cM_removeAll 51 = .ok (.iload_n 1, 1) := by decide +kernel
theorem dM_removeAll_52 : decode cM_removeAll 52 = .ok (.iadd, 1) := by decide +kernel
theorem dM_removeAll_53 : decode cM_removeAll 53 = .ok (.iaload, 1) := by decide +kernel
theorem dM_removeAll_54 : decode cM_removeAll 54 = .ok (.iload_n 2, 1) := by decide +kernel
theorem dM_removeAll_55 : decode cM_removeAll 55 = .ok (.if_icmp .ne 6, 3) := by decide +kernel
theorem dM_removeAll_58 : decode cM_removeAll 58 = .ok (.iinc 3 1, 3) := by decide +kernel
theorem dM_removeAll_61 : decode cM_removeAll 61 = .ok (.iinc 4 1, 3) := by decide +kernel
theorem dM_removeAll_64 : decode cM_removeAll 64 = .ok (.goto (-44), 3) := by decide +kernel
theorem dM_removeAll_67 : decode cM_removeAll 67 = .ok (.aload_n 0, 1) := by decide +kernel
theorem dM_removeAll_68 : decode cM_removeAll 68 = .ok (.iload_n 3, 1) := by decide +kernel
theorem dM_removeAll_69 : decode cM_removeAll 69 = .ok (.invokevirtual 49, 3) := by decide +kernel
theorem dM_removeAll_72 : decode cM_removeAll 72 = .ok (.ifCond .eq 9, 3) := by decide +kernel
theorem dM_removeAll_75 : decode cM_removeAll 75 = .ok (.aload_n 0, 1) := by decide +kernel
theorem dM_removeAll_76 : decode cM_removeAll 76 = .ok (.iconst 2, 1) := by decide +kernel
theorem dM_removeAll_77 : decode cM_removeAll 77 = .ok (.invokevirtual 45, 3) := by decide +kernel
theorem dM_removeAll_80 : decode cM_removeAll 80 = .ok (.ireturn, 1) := by decide +kernel
theorem dM_removeAll_81 : decode cM_removeAll 81 = .ok (.aload_n 0, 1) := by decide +kernel
theorem dM_removeAll_82 : decode cM_removeAll 82 = .ok (.iconst 0, 1) := by decide +kernel
theorem dM_removeAll_83 : decode cM_removeAll 83 = .ok (.putfield 32, 3) := by decide +kernel
theorem dM_removeAll_86 : decode cM_removeAll 86 = .ok (.aload_n 0, 1) := by decide +kernel
theorem dM_removeAll_87 : decode cM_removeAll 87 = .ok (.getfield 36, 3) := by decide +kernel
theorem dM_removeAll_90 : decode cM_removeAll 90 = .ok (.iconst 1, 1) := by decide +kernel
theorem dM_removeAll_91 : decode cM_removeAll 91 = .ok (.isub, 1) := by decide +kernel
theorem dM_removeAll_92 : decode cM_removeAll 92 = .ok (.istore 4, 2) := by decide +kernel
theorem dM_removeAll_94 : decode cM_removeAll 94 = .ok (.iload 4, 2) := by decide +kernel
theorem dM_removeAll_96 : decode cM_removeAll 96 = .ok (.ifCond .lt 44, 3) := by decide +kernel
theorem dM_removeAll_99 : decode cM_removeAll 99 = .ok (.aload_n 0, 1) := by decide +kernel
theorem dM_removeAll_100 : decode cM_removeAll 100 = .ok (.getfield 16, 3) := by decide +kernel
theorem dM_removeAll_103 : decode cM_removeAll 103 = .ok (.iconst 3, 1) := by decide +kernel
theorem dM_removeAll_104 : decode cM_removeAll 104 = .ok (.iload 4, 2) := by decide +kernel
theorem dM_removeAll_106 : decode cM_removeAll 106 = .ok (.imul, 1) := by decide +kernel
theorem dM_removeAll_107 : decode cM_removeAll 107 = .ok (.iload_n 1, 1) := by decide +kernel
theorem dM_removeAll_108 : decode cM_removeAll 108 = .ok (.iadd, 1) := by decide +kernel
theorem dM_removeAll_109 : decode cM_removeAll 109 = .ok (.baload, 1) := by decide +kernel
theorem dM_removeAll_110 : decode cM_removeAll 110 = .ok (.ifCond .eq 24, 3) := by decide +kernel
theorem dM_removeAll_113 : decode cM_removeAll 113 = .ok (.aload_n 0, 1) := by decide +kernel
theorem dM_removeAll_114 : decode cM_removeAll 114 = .ok (.getfield 9, 3) := by decide +kernel
theorem dM_removeAll_117 : decode cM_removeAll 117 = .ok (.iconst 3, 1) := by decide +kernel
theorem dM_removeAll_118 : decode cM_removeAll 118 = .ok (.iload 4, 2) := by decide +kernel
theorem dM_removeAll_120 : decode cM_removeAll 120 = .ok (.imul, 1) := by decide +kernel
theorem dM_removeAll_121 : decode cM_removeAll 121 = .ok (.iload_n 1, 1) := by decide +kernel
theorem dM_removeAll_122 : decode cM_removeAll 122 = .ok (.iadd, 1) := by decide +kernel
theorem dM_removeAll_123 : decode cM_removeAll 123 = .ok (.iaload, 1) := by decide +kernel
theorem dM_removeAll_124 : decode cM_removeAll 124 = .ok (.iload_n 2, 1) := by decide +kernel
theorem dM_removeAll_125 : decode cM_removeAll 125 = .ok (.if_icmp .ne 9, 3) := by decide +kernel
theorem dM_removeAll_128 : decode cM_removeAll 128 = .ok (.aload_n 0, 1) := by decide +kernel
theorem dM_removeAll_129 : decode cM_removeAll 129 = .ok (.iload 4, 2) := by decide +kernel
theorem dM_removeAll_131 : decode cM_removeAll 131 = .ok (.invokevirtual 63, 3) := by decide +kernel
theorem dM_removeAll_134 : decode cM_removeAll 134 = .ok (.iinc 4 (-1), 3) := by decide +kernel
theorem dM_removeAll_137 : decode cM_removeAll 137 = .ok (.goto (-43), 3) := by decide +kernel
theorem dM_removeAll_140 : decode cM_removeAll 140 = .ok (.iload_n 3, 1) := by decide +kernel
theorem dM_removeAll_141 : decode cM_removeAll 141 = .ok (.ireturn, 1) := by decide +kernel
theorem dM_find_0 : decode cM_find 0 = .ok (.iload_n 1, 1) := by decide +kernel
theorem dM_find_1 : decode cM_find 1 = .ok (.ifCond .eq 14, 3) := by decide +kernel
theorem dM_find_4 : decode cM_find 4 = .ok (.iload_n 1, 1) := by decide +kernel
theorem dM_find_5 : decode cM_find 5 = .ok (.iconst 1, 1) := by decide +kernel
theorem dM_find_6 : decode cM_find 6 = .ok (.if_icmp .eq 9, 3) := by decide +kernel
theorem dM_find_9 : decode cM_find 9 = .ok (.aload_n 0, 1) := by decide +kernel
theorem dM_find_10 : decode cM_find 10 = .ok (.iconst 1, 1) := by decide +kernel
theorem dM_find_11 : decode cM_find 11 = .ok (.invokevirtual 45, 3) := by decide +kernel
theorem dM_find_14 : decode cM_find 14 = .ok (.ireturn, 1) := by decide +kernel
theorem dM_find_15 : decode cM_find 15 = .ok (.aload_n 0, 1) := by decide +kernel
theorem dM_find_16 : decode cM_find 16 = .ok (.iconst 0, 1) := by decide +kernel
theorem dM_find_17 : decode cM_find 17 = .ok (.putfield 32, 3) := by decide +kernel
theorem dM_find_20 : decode cM_find 20 = .ok (.aload_n 0, 1) := by decide +kernel
theorem dM_find_21 : decode cM_find 21 = .ok (.iload_n 1, 1) := by decide +kernel
theorem dM_find_22 : decode cM_find 22 = .ok (.iload_n 2, 1) := by decide +kernel
theorem dM_find_23 : decode cM_find 23 = .ok (.invokevirtual 53, 3) := by decide +kernel
theorem dM_find_26 : decode cM_find 26 = .ok (.ireturn, 1) := by decide +kernel
theorem dM_value_0 : decode cM_value 0 = .ok (.aload_n 0, 1) := by decide +kernel
theorem dM_value_1 : decode cM_value 1 = .ok (.iload_n 2, 1) := by decide +kernel
