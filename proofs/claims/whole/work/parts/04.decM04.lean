theorem dM_back_26 : decode cM_back 26 = .ok (.getfield 13, 3) := by decide +kernel
theorem dM_back_29 : decode cM_back 29 = .ok (.sipush 360, 3) := by decide +kernel
theorem dM_back_32 : decode cM_back 32 = .ok (.iload_n 2, 1) := by decide +kernel
theorem dM_back_33 : decode cM_back 33 = .ok (.imul, 1) := by decide +kernel
theorem dM_back_34 : decode cM_back 34 = .ok (.iload_n 3, 1) := by decide +kernel
theorem dM_back_35 : decode cM_back 35 = .ok (.iadd, 1) := by decide +kernel
theorem dM_back_36 : decode cM_back 36 = .ok (.iaload, 1) := by decide +kernel
theorem dM_back_37 : decode cM_back 37 = .ok (.iastore, 1) := by decide +kernel
theorem dM_back_38 : decode cM_back 38 = .ok (.aload_n 0, 1) := by decide +kernel
theorem dM_back_39 : decode cM_back 39 = .ok (.getfield 16, 3) := by decide +kernel
theorem dM_back_42 : decode cM_back 42 = .ok (.iload_n 3, 1) := by decide +kernel
theorem dM_back_43 : decode cM_back 43 = .ok (.aload_n 0, 1) := by decide +kernel
theorem dM_back_44 : decode cM_back 44 = .ok (.getfield 20, 3) := by decide +kernel
theorem dM_back_47 : decode cM_back 47 = .ok (.sipush 360, 3) := by decide +kernel
theorem dM_back_50 : decode cM_back 50 = .ok (.iload_n 2, 1) := by decide +kernel
theorem dM_back_51 : decode cM_back 51 = .ok (.imul, 1) := by decide +kernel
theorem dM_back_52 : decode cM_back 52 = .ok (.iload_n 3, 1) := by decide +kernel
theorem dM_back_53 : decode cM_back 53 = .ok (.iadd, 1) := by decide +kernel
theorem dM_back_54 : decode cM_back 54 = .ok (.baload, 1) := by decide +kernel
theorem dM_back_55 : decode cM_back 55 = .ok (.bastore, 1) := by decide +kernel
theorem dM_back_56 : decode cM_back 56 = .ok (.iinc 3 1, 3) := by decide +kernel
theorem dM_back_59 : decode cM_back 59 = .ok (.goto (-46), 3) := by decide +kernel
theorem dM_back_62 : decode cM_back 62 = .ok (.aload_n 0, 1) := by decide +kernel
theorem dM_back_63 : decode cM_back 63 = .ok (.aload_n 0, 1) := by decide +kernel
theorem dM_back_64 : decode cM_back 64 = .ok (.getfield 26, 3) := by decide +kernel
theorem dM_back_67 : decode cM_back 67 = .ok (.iload_n 2, 1) := by decide +kernel
theorem dM_back_68 : decode cM_back 68 = .ok (.iaload, 1) := by decide +kernel
theorem dM_back_69 : decode cM_back 69 = .ok (.putfield 36, 3) := by decide +kernel
theorem dM_back_72 : decode cM_back 72 = .ok (.aload_n 0, 1) := by decide +kernel
theorem dM_back_73 : decode cM_back 73 = .ok (.aload_n 0, 1) := by decide +kernel
theorem dM_back_74 : decode cM_back 74 = .ok (.getfield 29, 3) := by decide +kernel
theorem dM_back_77 : decode cM_back 77 = .ok (.iload_n 2, 1) := by decide +kernel
theorem dM_back_78 : decode cM_back 78 = .ok (.iaload, 1) := by decide +kernel
theorem dM_back_79 : decode cM_back 79 = .ok (.putfield 42, 3) := by decide +kernel
theorem dM_back_82 : decode cM_back 82 = .ok (.aload_n 0, 1) := by decide +kernel
theorem dM_back_83 : decode cM_back 83 = .ok (.iload_n 2, 1) := by decide +kernel
theorem dM_back_84 : decode cM_back 84 = .ok (.iconst 1, 1) := by decide +kernel
theorem dM_back_85 : decode cM_back 85 = .ok (.iadd, 1) := by decide +kernel
theorem dM_back_86 : decode cM_back 86 = .ok (.putfield 39, 3) := by decide +kernel
theorem dM_back_89 : decode cM_back 89 = .ok (.return_, 1) := by decide +kernel
theorem dM_release_0 : decode cM_release 0 = .ok (.aload_n 0, 1) := by decide +kernel
theorem dM_release_1 : decode cM_release 1 = .ok (.iload_n 1, 1) := by decide +kernel
theorem dM_release_2 : decode cM_release 2 = .ok (.invokevirtual 67, 3) := by decide +kernel
theorem dM_release_5 : decode cM_release 5 = .ok (.istore_n 2, 1) := by decide +kernel
theorem dM_release_6 : decode cM_release 6 = .ok (.iload_n 2, 1) := by decide +kernel
theorem dM_release_7 : decode cM_release 7 = .ok (.ifCond .ge 4, 3) := by decide +kernel
theorem dM_release_10 : decode cM_release 10 = .ok (.return_, 1) := by decide +kernel
theorem dM_release_11 : decode cM_release 11 = .ok (.aload_n 0, 1) := by decide +kernel
theorem dM_release_12 : decode cM_release 12 = .ok (.iload_n 2, 1) := by decide +kernel
theorem dM_release_13 : decode cM_release 13 = .ok (.putfield 39, 3) := by decide +kernel
theorem dM_release_16 : decode cM_release 16 = .ok (.iload_n 2, 1) := by decide +kernel
theorem dM_release_17 : decode cM_release 17 = .ok (.ifCond .ne 8, 3) := by decide +kernel
theorem dM_release_20 : decode cM_release 20 = .ok (.aload_n 0, 1) := by decide +kernel
theorem dM_release_21 : decode cM_release 21 = .ok (.iconst 0, 1) := by decide +kernel
theorem dM_release_22 : decode cM_release 22 = .ok (.putfield 42, 3) := by decide +kernel
theorem dM_release_25 : decode cM_release 25 = .ok (.return_, 1) := by decide +kernel
theorem dM_nones_0 : decode cM_nones 0 = .ok (.iconst 0, 1) := by decide +kernel
theorem dM_nones_1 : decode cM_nones 1 = .ok (.istore_n 2, 1) := by decide +kernel
theorem dM_nones_2 : decode cM_nones 2 = .ok (.iconst 0, 1) := by decide +kernel
theorem dM_nones_3 : decode cM_nones 3 = .ok (.istore_n 3, 1) := by decide +kernel
theorem dM_nones_4 : decode cM_nones 4 = .ok (.iload_n 3, 1) := by decide +kernel
theorem dM_nones_5 : decode cM_nones 5 = .ok (.aload_n 0, 1) := by decide +kernel
theorem dM_nones_6 : decode cM_nones 6 = .ok (.getfield 36, 3) := by decide +kernel
theorem dM_nones_9 : decode cM_nones 9 = .ok (.if_icmp .ge 25, 3) := by decide +kernel
theorem dM_nones_12 : decode cM_nones 12 = .ok (.aload_n 0, 1) := by decide +kernel
theorem dM_nones_13 : decode cM_nones 13 = .ok (.getfield 16, 3) := by decide +kernel
theorem dM_nones_16 : decode cM_nones 16 = .ok (.iconst 3, 1) := by decide +kernel
theorem dM_nones_17 : decode cM_nones 17 = .ok (.iload_n 3, 1) := by decide +kernel
theorem dM_nones_18 : decode cM_nones 18 = .ok (.imul, 1) := by decide +kernel
theorem dM_nones_19 : decode cM_nones 19 = .ok (.iload_n 1, 1) := by decide +kernel
theorem dM_nones_20 : decode cM_nones 20 = .ok (.iadd, 1) := by decide +kernel
theorem dM_nones_21 : decode cM_nones 21 = .ok (.baload, 1) := by decide +kernel
theorem dM_nones_22 : decode cM_nones 22 = .ok (.ifCond .ne 6, 3) := by decide +kernel
theorem dM_nones_25 : decode cM_nones 25 = .ok (.iinc 2 1, 3) := by decide +kernel
theorem dM_nones_28 : decode cM_nones 28 = .ok (.iinc 3 1, 3) := by decide +kernel
theorem dM_nones_31 : decode cM_nones 31 = .ok (.goto (-27), 3) := by decide +kernel
theorem dM_nones_34 : decode cM_nones 34 = .ok (.iload_n 2, 1) := by decide +kernel
theorem dM_nones_35 : decode cM_nones 35 = .ok (.ireturn, 1) := by decide +kernel
theorem dM_count_0 : decode cM_count 0 = .ok (.aload_n 0, 1) := by decide +kernel
theorem dM_count_1 : decode cM_count 1 = .ok (.iconst 0, 1) := by decide +kernel
theorem dM_count_2 : decode cM_count 2 = .ok (.putfield 32, 3) := by decide +kernel
theorem dM_count_5 : decode cM_count 5 = .ok (.iload_n 1, 1) := by decide +kernel
theorem dM_count_6 : decode cM_count 6 = .ok (.tableswitch 61 0 4 #[34, 39, 44, 49, 55], 34) := by decide +kernel
theorem dM_count_40 : decode cM_count 40 = .ok (.aload_n 0, 1) := by decide +kernel
theorem dM_count_41 : decode cM_count 41 = .ok (.getfield 36, 3) := by decide +kernel
theorem dM_count_44 : decode cM_count 44 = .ok (.ireturn, 1) := by decide +kernel
theorem dM_count_45 : decode cM_count 45 = .ok (.aload_n 0, 1) := by decide +kernel
theorem dM_count_46 : decode cM_count 46 = .ok (.getfield 39, 3) := by decide +kernel
theorem dM_count_49 : decode cM_count 49 = .ok (.ireturn, 1) := by decide +kernel
theorem dM_count_50 : decode cM_count 50 = .ok (.aload_n 0, 1) := by decide +kernel
theorem dM_count_51 : decode cM_count 51 = .ok (.getfield 42, 3) := by decide +kernel
theorem dM_count_54 : decode cM_count 54 = .ok (.ireturn, 1) := by decide +kernel
theorem dM_count_55 : decode cM_count 55 = .ok (.aload_n 0, 1) := by decide +kernel
theorem dM_count_56 : decode cM_count 56 = .ok (.iconst 1, 1) := by decide +kernel
theorem dM_count_57 : decode cM_count 57 = .ok (.invokevirtual 70, 3) := by decide +kernel
theorem dM_count_60 : decode cM_count 60 = .ok (.ireturn, 1) := by decide +kernel
theorem dM_count_61 : decode cM_count 61 = .ok (.aload_n 0, 1) := by decide +kernel
theorem dM_count_62 : decode cM_count 62 = .ok (.iconst 2, 1) := by decide +kernel
theorem dM_count_63 : decode cM_count 63 = .ok (.invokevirtual 70, 3) := by decide +kernel
theorem dM_count_66 : decode cM_count 66 = .ok (.ireturn, 1) := by decide +kernel
theorem dM_count_67 : decode cM_count 67 = .ok (.iconst (-1), 1) := by decide +kernel
theorem dM_count_68 : decode cM_count 68 = .ok (.ireturn, 1) := by decide +kernel
