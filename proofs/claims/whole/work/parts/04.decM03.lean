theorem dM_value_2 : decode cM_value 2 = .ok (.ifCond .lt 8, 3) := by decide +kernel
theorem dM_value_5 : decode cM_value 5 = .ok (.iload_n 2, 1) := by decide +kernel
theorem dM_value_6 : decode cM_value 6 = .ok (.iconst 2, 1) := by decide +kernel
theorem dM_value_7 : decode cM_value 7 = .ok (.if_icmp .le 7, 3) := by decide +kernel
theorem dM_value_10 : decode cM_value 10 = .ok (.iconst 1, 1) := by decide +kernel
theorem dM_value_11 : decode cM_value 11 = .ok (.goto 29, 3) := by decide +kernel
theorem dM_value_14 : decode cM_value 14 = .ok (.aload_n 0, 1) := by decide +kernel
theorem dM_value_15 : decode cM_value 15 = .ok (.iload_n 1, 1) := by decide +kernel
theorem dM_value_16 : decode cM_value 16 = .ok (.invokevirtual 60, 3) := by decide +kernel
theorem dM_value_19 : decode cM_value 19 = .ok (.ifCond .eq 16, 3) := by decide +kernel
theorem dM_value_22 : decode cM_value 22 = .ok (.aload_n 0, 1) := by decide +kernel
theorem dM_value_23 : decode cM_value 23 = .ok (.getfield 16, 3) := by decide +kernel
theorem dM_value_26 : decode cM_value 26 = .ok (.iconst 3, 1) := by decide +kernel
theorem dM_value_27 : decode cM_value 27 = .ok (.iload_n 1, 1) := by decide +kernel
theorem dM_value_28 : decode cM_value 28 = .ok (.imul, 1) := by decide +kernel
theorem dM_value_29 : decode cM_value 29 = .ok (.iload_n 2, 1) := by decide +kernel
theorem dM_value_30 : decode cM_value 30 = .ok (.iadd, 1) := by decide +kernel
theorem dM_value_31 : decode cM_value 31 = .ok (.baload, 1) := by decide +kernel
theorem dM_value_32 : decode cM_value 32 = .ok (.ifCond .ne 7, 3) := by decide +kernel
theorem dM_value_35 : decode cM_value 35 = .ok (.iconst 2, 1) := by decide +kernel
theorem dM_value_36 : decode cM_value 36 = .ok (.goto 4, 3) := by decide +kernel
theorem dM_value_39 : decode cM_value 39 = .ok (.iconst 0, 1) := by decide +kernel
theorem dM_value_40 : decode cM_value 40 = .ok (.putfield 32, 3) := by decide +kernel
theorem dM_value_43 : decode cM_value 43 = .ok (.aload_n 0, 1) := by decide +kernel
theorem dM_value_44 : decode cM_value 44 = .ok (.getfield 32, 3) := by decide +kernel
theorem dM_value_47 : decode cM_value 47 = .ok (.ifCond .eq 7, 3) := by decide +kernel
theorem dM_value_50 : decode cM_value 50 = .ok (.iconst 0, 1) := by decide +kernel
theorem dM_value_51 : decode cM_value 51 = .ok (.goto 13, 3) := by decide +kernel
theorem dM_value_54 : decode cM_value 54 = .ok (.aload_n 0, 1) := by decide +kernel
theorem dM_value_55 : decode cM_value 55 = .ok (.getfield 9, 3) := by decide +kernel
theorem dM_value_58 : decode cM_value 58 = .ok (.iconst 3, 1) := by decide +kernel
theorem dM_value_59 : decode cM_value 59 = .ok (.iload_n 1, 1) := by decide +kernel
theorem dM_value_60 : decode cM_value 60 = .ok (.imul, 1) := by decide +kernel
theorem dM_value_61 : decode cM_value 61 = .ok (.iload_n 2, 1) := by decide +kernel
theorem dM_value_62 : decode cM_value 62 = .ok (.iadd, 1) := by decide +kernel
theorem dM_value_63 : decode cM_value 63 = .ok (.iaload, 1) := by decide +kernel
theorem dM_value_64 : decode cM_value 64 = .ok (.ireturn, 1) := by decide +kernel
theorem dM_mark_0 : decode cM_mark 0 = .ok (.aload_n 0, 1) := by decide +kernel
theorem dM_mark_1 : decode cM_mark 1 = .ok (.aload_n 0, 1) := by decide +kernel
theorem dM_mark_2 : decode cM_mark 2 = .ok (.getfield 39, 3) := by decide +kernel
theorem dM_mark_5 : decode cM_mark 5 = .ok (.bipush 20, 2) := by decide +kernel
theorem dM_mark_7 : decode cM_mark 7 = .ok (.if_icmp .ne 7, 3) := by decide +kernel
theorem dM_mark_10 : decode cM_mark 10 = .ok (.iconst 1, 1) := by decide +kernel
theorem dM_mark_11 : decode cM_mark 11 = .ok (.goto 4, 3) := by decide +kernel
theorem dM_mark_14 : decode cM_mark 14 = .ok (.iconst 0, 1) := by decide +kernel
theorem dM_mark_15 : decode cM_mark 15 = .ok (.putfield 32, 3) := by decide +kernel
theorem dM_mark_18 : decode cM_mark 18 = .ok (.aload_n 0, 1) := by decide +kernel
theorem dM_mark_19 : decode cM_mark 19 = .ok (.getfield 32, 3) := by decide +kernel
theorem dM_mark_22 : decode cM_mark 22 = .ok (.ifCond .eq 4, 3) := by decide +kernel
theorem dM_mark_25 : decode cM_mark 25 = .ok (.return_, 1) := by decide +kernel
theorem dM_mark_26 : decode cM_mark 26 = .ok (.iconst 0, 1) := by decide +kernel
theorem dM_mark_27 : decode cM_mark 27 = .ok (.istore_n 2, 1) := by decide +kernel
theorem dM_mark_28 : decode cM_mark 28 = .ok (.iload_n 2, 1) := by decide +kernel
theorem dM_mark_29 : decode cM_mark 29 = .ok (.sipush 360, 3) := by decide +kernel
theorem dM_mark_32 : decode cM_mark 32 = .ok (.if_icmp .ge 51, 3) := by decide +kernel
theorem dM_mark_35 : decode cM_mark 35 = .ok (.aload_n 0, 1) := by decide +kernel
theorem dM_mark_36 : decode cM_mark 36 = .ok (.getfield 13, 3) := by decide +kernel
theorem dM_mark_39 : decode cM_mark 39 = .ok (.sipush 360, 3) := by decide +kernel
theorem dM_mark_42 : decode cM_mark 42 = .ok (.aload_n 0, 1) := by decide +kernel
theorem dM_mark_43 : decode cM_mark 43 = .ok (.getfield 39, 3) := by decide +kernel
theorem dM_mark_46 : decode cM_mark 46 = .ok (.imul, 1) := by decide +kernel
theorem dM_mark_47 : decode cM_mark 47 = .ok (.iload_n 2, 1) := by decide +kernel
theorem dM_mark_48 : decode cM_mark 48 = .ok (.iadd, 1) := by decide +kernel
theorem dM_mark_49 : decode cM_mark 49 = .ok (.aload_n 0, 1) := by decide +kernel
theorem dM_mark_50 : decode cM_mark 50 = .ok (.getfield 9, 3) := by decide +kernel
theorem dM_mark_53 : decode cM_mark 53 = .ok (.iload_n 2, 1) := by decide +kernel
theorem dM_mark_54 : decode cM_mark 54 = .ok (.iaload, 1) := by decide +kernel
theorem dM_mark_55 : decode cM_mark 55 = .ok (.iastore, 1) := by decide +kernel
theorem dM_mark_56 : decode cM_mark 56 = .ok (.aload_n 0, 1) := by decide +kernel
theorem dM_mark_57 : decode cM_mark 57 = .ok (.getfield 20, 3) := by decide +kernel
theorem dM_mark_60 : decode cM_mark 60 = .ok (.sipush 360, 3) := by decide +kernel
theorem dM_mark_63 : decode cM_mark 63 = .ok (.aload_n 0, 1) := by decide +kernel
theorem dM_mark_64 : decode cM_mark 64 = .ok (.getfield 39, 3) := by decide +kernel
theorem dM_mark_67 : decode cM_mark 67 = .ok (.imul, 1) := by decide +kernel
theorem dM_mark_68 : decode cM_mark 68 = .ok (.iload_n 2, 1) := by decide +kernel
theorem dM_mark_69 : decode cM_mark 69 = .ok (.iadd, 1) := by decide +kernel
theorem dM_mark_70 : decode cM_mark 70 = .ok (.aload_n 0, 1) := by decide +kernel
theorem dM_mark_71 : decode cM_mark 71 = .ok (.getfield 16, 3) := by decide +kernel
theorem dM_mark_74 : decode cM_mark 74 = .ok (.iload_n 2, 1) := by decide +kernel
theorem dM_mark_75 : decode cM_mark 75 = .ok (.baload, 1) := by decide +kernel
theorem dM_mark_76 : decode cM_mark 76 = .ok (.bastore, 1) := by decide +kernel
theorem dM_mark_77 : decode cM_mark 77 = .ok (.iinc 2 1, 3) := by decide +kernel
theorem dM_mark_80 : decode cM_mark 80 = .ok (.goto (-52), 3) := by decide +kernel
theorem dM_mark_83 : decode cM_mark 83 = .ok (.aload_n 0, 1) := by decide +kernel
theorem dM_mark_84 : decode cM_mark 84 = .ok (.getfield 23, 3) := by decide +kernel
theorem dM_mark_87 : decode cM_mark 87 = .ok (.aload_n 0, 1) := by decide +kernel
theorem dM_mark_88 : decode cM_mark 88 = .ok (.getfield 39, 3) := by decide +kernel
theorem dM_mark_91 : decode cM_mark 91 = .ok (.iload_n 1, 1) := by decide +kernel
theorem dM_mark_92 : decode cM_mark 92 = .ok (.iastore, 1) := by decide +kernel
theorem dM_mark_93 : decode cM_mark 93 = .ok (.aload_n 0, 1) := by decide +kernel
theorem dM_mark_94 : decode cM_mark 94 = .ok (.getfield 26, 3) := by decide +kernel
theorem dM_mark_97 : decode cM_mark 97 = .ok (.aload_n 0, 1) := by decide +kernel
theorem dM_mark_98 : decode cM_mark 98 = .ok (.getfield 39, 3) := by decide +kernel
theorem dM_mark_101 : decode cM_mark 101 = .ok (.aload_n 0, 1) := by decide +kernel
theorem dM_mark_102 : decode cM_mark 102 = .ok (.getfield 36, 3) := by decide +kernel
theorem dM_mark_105 : decode cM_mark 105 = .ok (.iastore, 1) := by decide +kernel
theorem dM_mark_106 : decode cM_mark 106 = .ok (.aload_n 0, 1) := by decide +kernel
theorem dM_mark_107 : decode cM_mark 107 = .ok (.getfield 29, 3) := by decide +kernel
theorem dM_mark_110 : decode cM_mark 110 = .ok (.aload_n 0, 1) := by decide +kernel
theorem dM_mark_111 : decode cM_mark 111 = .ok (.getfield 39, 3) := by decide +kernel
theorem dM_mark_114 : decode cM_mark 114 = .ok (.aload_n 0, 1) := by decide +kernel
theorem dM_mark_115 : decode cM_mark 115 = .ok (.getfield 42, 3) := by decide +kernel
theorem dM_mark_118 : decode cM_mark 118 = .ok (.iastore, 1) := by decide +kernel
theorem dM_mark_119 : decode cM_mark 119 = .ok (.aload_n 0, 1) := by decide +kernel
theorem dM_mark_120 : decode cM_mark 120 = .ok (.dup, 1) := by decide +kernel
theorem dM_mark_121 : decode cM_mark 121 = .ok (.getfield 39, 3) := by decide +kernel
theorem dM_mark_124 : decode cM_mark 124 = .ok (.iconst 1, 1) := by decide +kernel
theorem dM_mark_125 : decode cM_mark 125 = .ok (.iadd, 1) := by decide +kernel
theorem dM_mark_126 : decode cM_mark 126 = .ok (.putfield 39, 3) := by decide +kernel
theorem dM_mark_129 : decode cM_mark 129 = .ok (.return_, 1) := by decide +kernel
theorem dM_point_0 : decode cM_point 0 = .ok (.aload_n 0, 1) := by decide +kernel
theorem dM_point_1 : decode cM_point 1 = .ok (.getfield 39, 3) := by decide +kernel
theorem dM_point_4 : decode cM_point 4 = .ok (.iconst 1, 1) := by decide +kernel
theorem dM_point_5 : decode cM_point 5 = .ok (.isub, 1) := by decide +kernel
theorem dM_point_6 : decode cM_point 6 = .ok (.istore_n 2, 1) := by decide +kernel
theorem dM_point_7 : decode cM_point 7 = .ok (.iload_n 2, 1) := by decide +kernel
theorem dM_point_8 : decode cM_point 8 = .ok (.ifCond .lt 19, 3) := by decide +kernel
theorem dM_point_11 : decode cM_point 11 = .ok (.aload_n 0, 1) := by decide +kernel
theorem dM_point_12 : decode cM_point 12 = .ok (.getfield 23, 3) := by decide +kernel
theorem dM_point_15 : decode cM_point 15 = .ok (.iload_n 2, 1) := by decide +kernel
theorem dM_point_16 : decode cM_point 16 = .ok (.iaload, 1) := by decide +kernel
theorem dM_point_17 : decode cM_point 17 = .ok (.iload_n 1, 1) := by decide +kernel
theorem dM_point_18 : decode cM_point 18 = .ok (.if_icmp .eq 9, 3) := by decide +kernel
theorem dM_point_21 : decode cM_point 21 = .ok (.iinc 2 (-1), 3) := by decide +kernel
theorem dM_point_24 : decode cM_point 24 = .ok (.goto (-17), 3) := by decide +kernel
theorem dM_point_27 : decode cM_point 27 = .ok (.aload_n 0, 1) := by decide +kernel
theorem dM_point_28 : decode cM_point 28 = .ok (.iload_n 2, 1) := by decide +kernel
theorem dM_point_29 : decode cM_point 29 = .ok (.ifCond .ge 7, 3) := by decide +kernel
theorem dM_point_32 : decode cM_point 32 = .ok (.iconst 1, 1) := by decide +kernel
theorem dM_point_33 : decode cM_point 33 = .ok (.goto 4, 3) := by decide +kernel
theorem dM_point_36 : decode cM_point 36 = .ok (.iconst 0, 1) := by decide +kernel
theorem dM_point_37 : decode cM_point 37 = .ok (.putfield 32, 3) := by decide +kernel
theorem dM_point_40 : decode cM_point 40 = .ok (.iload_n 2, 1) := by decide +kernel
theorem dM_point_41 : decode cM_point 41 = .ok (.ireturn, 1) := by decide +kernel
theorem dM_back_0 : decode cM_back 0 = .ok (.aload_n 0, 1) := by decide +kernel
theorem dM_back_1 : decode cM_back 1 = .ok (.iload_n 1, 1) := by decide +kernel
theorem dM_back_2 : decode cM_back 2 = .ok (.invokevirtual 67, 3) := by decide +kernel
theorem dM_back_5 : decode cM_back 5 = .ok (.istore_n 2, 1) := by decide +kernel
theorem dM_back_6 : decode cM_back 6 = .ok (.iload_n 2, 1) := by decide +kernel
theorem dM_back_7 : decode cM_back 7 = .ok (.ifCond .ge 4, 3) := by decide +kernel
theorem dM_back_10 : decode cM_back 10 = .ok (.return_, 1) := by decide +kernel
theorem dM_back_11 : decode cM_back 11 = .ok (.iconst 0, 1) := by decide +kernel
theorem dM_back_12 : decode cM_back 12 = .ok (.istore_n 3, 1) := by decide +kernel
theorem dM_back_13 : decode cM_back 13 = .ok (.iload_n 3, 1) := by decide +kernel
theorem dM_back_14 : decode cM_back 14 = .ok (.sipush 360, 3) := by decide +kernel
theorem dM_back_17 : decode cM_back 17 = .ok (.if_icmp .ge 45, 3) := by decide +kernel
theorem dM_back_20 : decode cM_back 20 = .ok (.aload_n 0, 1) := by decide +kernel
theorem dM_back_21 : decode cM_back 21 = .ok (.getfield 9, 3) := by decide +kernel
theorem dM_back_24 : decode cM_back 24 = .ok (.iload_n 3, 1) := by decide +kernel
theorem dM_back_25 : decode cM_back 25 = .ok (.aload_n 0, 1) := by decide +kernel
