theorem dU_init_0 : decode cU_init 0 = .ok (.aload_n 0, 1) := by decide +kernel
theorem dU_init_1 : decode cU_init 1 = .ok (.invokespecial 1, 3) := by decide +kernel
theorem dU_init_4 : decode cU_init 4 = .ok (.aload_n 0, 1) := by decide +kernel
theorem dU_init_5 : decode cU_init 5 = .ok (.sipush 480, 3) := by decide +kernel
theorem dU_init_8 : decode cU_init 8 = .ok (.newarray .int, 2) := by decide +kernel
theorem dU_init_10 : decode cU_init 10 = .ok (.putfield 9, 3) := by decide +kernel
theorem dU_init_13 : decode cU_init 13 = .ok (.aload_n 0, 1) := by decide +kernel
theorem dU_init_14 : decode cU_init 14 = .ok (.iconst 0, 1) := by decide +kernel
theorem dU_init_15 : decode cU_init 15 = .ok (.putfield 13, 3) := by decide +kernel
theorem dU_init_18 : decode cU_init 18 = .ok (.aload_n 0, 1) := by decide +kernel
theorem dU_init_19 : decode cU_init 19 = .ok (.bipush 20, 2) := by decide +kernel
theorem dU_init_21 : decode cU_init 21 = .ok (.newarray .int, 2) := by decide +kernel
theorem dU_init_23 : decode cU_init 23 = .ok (.putfield 17, 3) := by decide +kernel
theorem dU_init_26 : decode cU_init 26 = .ok (.aload_n 0, 1) := by decide +kernel
theorem dU_init_27 : decode cU_init 27 = .ok (.bipush 20, 2) := by decide +kernel
theorem dU_init_29 : decode cU_init 29 = .ok (.newarray .int, 2) := by decide +kernel
theorem dU_init_31 : decode cU_init 31 = .ok (.putfield 20, 3) := by decide +kernel
theorem dU_init_34 : decode cU_init 34 = .ok (.aload_n 0, 1) := by decide +kernel
theorem dU_init_35 : decode cU_init 35 = .ok (.iconst 0, 1) := by decide +kernel
theorem dU_init_36 : decode cU_init 36 = .ok (.putfield 23, 3) := by decide +kernel
theorem dU_init_39 : decode cU_init 39 = .ok (.aload_n 0, 1) := by decide +kernel
theorem dU_init_40 : decode cU_init 40 = .ok (.sipush 200, 3) := by decide +kernel
theorem dU_init_43 : decode cU_init 43 = .ok (.newarray .int, 2) := by decide +kernel
theorem dU_init_45 : decode cU_init 45 = .ok (.putfield 26, 3) := by decide +kernel
theorem dU_init_48 : decode cU_init 48 = .ok (.aload_n 0, 1) := by decide +kernel
theorem dU_init_49 : decode cU_init 49 = .ok (.sipush 200, 3) := by decide +kernel
theorem dU_init_52 : decode cU_init 52 = .ok (.newarray .int, 2) := by decide +kernel
theorem dU_init_54 : decode cU_init 54 = .ok (.putfield 29, 3) := by decide +kernel
theorem dU_init_57 : decode cU_init 57 = .ok (.aload_n 0, 1) := by decide +kernel
theorem dU_init_58 : decode cU_init 58 = .ok (.sipush 800, 3) := by decide +kernel
theorem dU_init_61 : decode cU_init 61 = .ok (.newarray .int, 2) := by decide +kernel
theorem dU_init_63 : decode cU_init 63 = .ok (.putfield 32, 3) := by decide +kernel
theorem dU_init_66 : decode cU_init 66 = .ok (.aload_n 0, 1) := by decide +kernel
theorem dU_init_67 : decode cU_init 67 = .ok (.iconst 0, 1) := by decide +kernel
theorem dU_init_68 : decode cU_init 68 = .ok (.putfield 35, 3) := by decide +kernel
theorem dU_init_71 : decode cU_init 71 = .ok (.return_, 1) := by decide +kernel
theorem dU_insert_0 : decode cU_insert 0 = .ok (.iload 4, 2) := by decide +kernel
theorem dU_insert_2 : decode cU_insert 2 = .ok (.bipush (-8), 2) := by decide +kernel
theorem dU_insert_4 : decode cU_insert 4 = .ok (.iand, 1) := by decide +kernel
theorem dU_insert_5 : decode cU_insert 5 = .ok (.ifCond .eq 11, 3) := by decide +kernel
theorem dU_insert_8 : decode cU_insert 8 = .ok (.new 38, 3) := by decide +kernel
theorem dU_insert_11 : decode cU_insert 11 = .ok (.dup, 1) := by decide +kernel
theorem dU_insert_12 : decode cU_insert 12 = .ok (.invokespecial 40, 3) := by decide +kernel
theorem dU_insert_15 : decode cU_insert 15 = .ok (.athrow, 1) := by decide +kernel
theorem dU_insert_16 : decode cU_insert 16 = .ok (.aload_n 0, 1) := by decide +kernel
theorem dU_insert_17 : decode cU_insert 17 = .ok (.getfield 13, 3) := by decide +kernel
theorem dU_insert_20 : decode cU_insert 20 = .ok (.bipush 120, 2) := by decide +kernel
theorem dU_insert_22 : decode cU_insert 22 = .ok (.if_icmp .ge 22, 3) := by decide +kernel
theorem dU_insert_25 : decode cU_insert 25 = .ok (.aload_n 0, 1) := by decide +kernel
theorem dU_insert_26 : decode cU_insert 26 = .ok (.iconst 1, 1) := by decide +kernel
theorem dU_insert_27 : decode cU_insert 27 = .ok (.invokevirtual 41, 3) := by decide +kernel
theorem dU_insert_30 : decode cU_insert 30 = .ok (.ifCond .eq 14, 3) := by decide +kernel
theorem dU_insert_33 : decode cU_insert 33 = .ok (.aload_n 0, 1) := by decide +kernel
theorem dU_insert_34 : decode cU_insert 34 = .ok (.iload_n 1, 1) := by decide +kernel
theorem dU_insert_35 : decode cU_insert 35 = .ok (.iload_n 2, 1) := by decide +kernel
theorem dU_insert_36 : decode cU_insert 36 = .ok (.iload 4, 2) := by decide +kernel
theorem dU_insert_38 : decode cU_insert 38 = .ok (.invokevirtual 45, 3) := by decide +kernel
theorem dU_insert_41 : decode cU_insert 41 = .ok (.ifCond .ne 11, 3) := by decide +kernel
theorem dU_insert_44 : decode cU_insert 44 = .ok (.new 49, 3) := by decide +kernel
theorem dU_insert_47 : decode cU_insert 47 = .ok (.dup, 1) := by decide +kernel
theorem dU_insert_48 : decode cU_insert 48 = .ok (.invokespecial 51, 3) := by decide +kernel
theorem dU_insert_51 : decode cU_insert 51 = .ok (.athrow, 1) := by decide +kernel
theorem dU_insert_52 : decode cU_insert 52 = .ok (.aload_n 0, 1) := by decide +kernel
theorem dU_insert_53 : decode cU_insert 53 = .ok (.getfield 13, 3) := by decide +kernel
theorem dU_insert_56 : decode cU_insert 56 = .ok (.istore 5, 2) := by decide +kernel
theorem dU_insert_58 : decode cU_insert 58 = .ok (.aload_n 0, 1) := by decide +kernel
theorem dU_insert_59 : decode cU_insert 59 = .ok (.iconst 0, 1) := by decide +kernel
theorem dU_insert_60 : decode cU_insert 60 = .ok (.iload 5, 2) := by decide +kernel
theorem dU_insert_62 : decode cU_insert 62 = .ok (.invokevirtual 52, 3) := by decide +kernel
theorem dU_insert_65 : decode cU_insert 65 = .ok (.iload 5, 2) := by decide +kernel
theorem dU_insert_67 : decode cU_insert 67 = .ok (.iconst 4, 1) := by decide +kernel
theorem dU_insert_68 : decode cU_insert 68 = .ok (.imul, 1) := by decide +kernel
theorem dU_insert_69 : decode cU_insert 69 = .ok (.istore 6, 2) := by decide +kernel
theorem dU_insert_71 : decode cU_insert 71 = .ok (.aload_n 0, 1) := by decide +kernel
theorem dU_insert_72 : decode cU_insert 72 = .ok (.getfield 9, 3) := by decide +kernel
theorem dU_insert_75 : decode cU_insert 75 = .ok (.iload 6, 2) := by decide +kernel
theorem dU_insert_77 : decode cU_insert 77 = .ok (.iload_n 1, 1) := by decide +kernel
theorem dU_insert_78 : decode cU_insert 78 = .ok (.iastore, 1) := by decide +kernel
theorem dU_insert_79 : decode cU_insert 79 = .ok (.aload_n 0, 1) := by decide +kernel
theorem dU_insert_80 : decode cU_insert 80 = .ok (.getfield 9, 3) := by decide +kernel
theorem dU_insert_83 : decode cU_insert 83 = .ok (.iload 6, 2) := by decide +kernel
theorem dU_insert_85 : decode cU_insert 85 = .ok (.iconst 1, 1) := by decide +kernel
theorem dU_insert_86 : decode cU_insert 86 = .ok (.iadd, 1) := by decide +kernel
theorem dU_insert_87 : decode cU_insert 87 = .ok (.iload_n 2, 1) := by decide +kernel
theorem dU_insert_88 : decode cU_insert 88 = .ok (.iastore, 1) := by decide +kernel
theorem dU_insert_89 : decode cU_insert 89 = .ok (.aload_n 0, 1) := by decide +kernel
theorem dU_insert_90 : decode cU_insert 90 = .ok (.getfield 9, 3) := by decide +kernel
theorem dU_insert_93 : decode cU_insert 93 = .ok (.iload 6, 2) := by decide +kernel
theorem dU_insert_95 : decode cU_insert 95 = .ok (.iconst 2, 1) := by decide +kernel
theorem dU_insert_96 : decode cU_insert 96 = .ok (.iadd, 1) := by decide +kernel
theorem dU_insert_97 : decode cU_insert 97 = .ok (.iload_n 3, 1) := by decide +kernel
theorem dU_insert_98 : decode cU_insert 98 = .ok (.iastore, 1) := by decide +kernel
theorem dU_insert_99 : decode cU_insert 99 = .ok (.aload_n 0, 1) := by decide +kernel
theorem dU_insert_100 : decode cU_insert 100 = .ok (.getfield 9, 3) := by decide +kernel
theorem dU_insert_103 : decode cU_insert 103 = .ok (.iload 6, 2) := by decide +kernel
theorem dU_insert_105 : decode cU_insert 105 = .ok (.iconst 3, 1) := by decide +kernel
theorem dU_insert_106 : decode cU_insert 106 = .ok (.iadd, 1) := by decide +kernel
theorem dU_insert_107 : decode cU_insert 107 = .ok (.iload 4, 2) := by decide +kernel
theorem dU_insert_109 : decode cU_insert 109 = .ok (.iastore, 1) := by decide +kernel
theorem dU_insert_110 : decode cU_insert 110 = .ok (.aload_n 0, 1) := by decide +kernel
theorem dU_insert_111 : decode cU_insert 111 = .ok (.iload 5, 2) := by decide +kernel
theorem dU_insert_113 : decode cU_insert 113 = .ok (.iconst 1, 1) := by decide +kernel
theorem dU_insert_114 : decode cU_insert 114 = .ok (.iadd, 1) := by decide +kernel
theorem dU_insert_115 : decode cU_insert 115 = .ok (.putfield 13, 3) := by decide +kernel
theorem dU_insert_118 : decode cU_insert 118 = .ok (.iload 5, 2) := by decide +kernel
theorem dU_insert_120 : decode cU_insert 120 = .ok (.ireturn, 1) := by decide +kernel
theorem dU_set_0 : decode cU_set 0 = .ok (.iload_n 2, 1) := by decide +kernel
theorem dU_set_1 : decode cU_set 1 = .ok (.invokestatic 56, 3) := by decide +kernel
theorem dU_set_4 : decode cU_set 4 = .ok (.ifCond .ne 11, 3) := by decide +kernel
theorem dU_set_7 : decode cU_set 7 = .ok (.new 38, 3) := by decide +kernel
theorem dU_set_10 : decode cU_set 10 = .ok (.dup, 1) := by decide +kernel
theorem dU_set_11 : decode cU_set 11 = .ok (.invokespecial 40, 3) := by decide +kernel
theorem dU_set_14 : decode cU_set 14 = .ok (.athrow, 1) := by decide +kernel
theorem dU_set_15 : decode cU_set 15 = .ok (.aload_n 0, 1) := by decide +kernel
theorem dU_set_16 : decode cU_set 16 = .ok (.iload_n 1, 1) := by decide +kernel
theorem dU_set_17 : decode cU_set 17 = .ok (.invokevirtual 59, 3) := by decide +kernel
theorem dU_set_20 : decode cU_set 20 = .ok (.ifCond .ne 11, 3) := by decide +kernel
theorem dU_set_23 : decode cU_set 23 = .ok (.new 62, 3) := by decide +kernel
theorem dU_set_26 : decode cU_set 26 = .ok (.dup, 1) := by decide +kernel
theorem dU_set_27 : decode cU_set 27 = .ok (.invokespecial 64, 3) := by decide +kernel
theorem dU_set_30 : decode cU_set 30 = .ok (.athrow, 1) := by decide +kernel
theorem dU_set_31 : decode cU_set 31 = .ok (.aload_n 0, 1) := by decide +kernel
theorem dU_set_32 : decode cU_set 32 = .ok (.iconst 1, 1) := by decide +kernel
theorem dU_set_33 : decode cU_set 33 = .ok (.invokevirtual 41, 3) := by decide +kernel
theorem dU_set_36 : decode cU_set 36 = .ok (.ifCond .eq 15, 3) := by decide +kernel
theorem dU_set_39 : decode cU_set 39 = .ok (.aload_n 0, 1) := by decide +kernel
theorem dU_set_40 : decode cU_set 40 = .ok (.iload_n 1, 1) := by decide +kernel
theorem dU_set_41 : decode cU_set 41 = .ok (.iload_n 2, 1) := by decide +kernel
theorem dU_set_42 : decode cU_set 42 = .ok (.iload_n 3, 1) := by decide +kernel
theorem dU_set_43 : decode cU_set 43 = .ok (.iload 4, 2) := by decide +kernel
theorem dU_set_45 : decode cU_set 45 = .ok (.invokevirtual 65, 3) := by decide +kernel
theorem dU_set_48 : decode cU_set 48 = .ok (.ifCond .ne 11, 3) := by decide +kernel
theorem dU_set_51 : decode cU_set 51 = .ok (.new 49, 3) := by decide +kernel
theorem dU_set_54 : decode cU_set 54 = .ok (.dup, 1) := by decide +kernel
theorem dU_set_55 : decode cU_set 55 = .ok (.invokespecial 51, 3) := by decide +kernel
theorem dU_set_58 : decode cU_set 58 = .ok (.athrow, 1) := by decide +kernel
theorem dU_set_59 : decode cU_set 59 = .ok (.aload_n 0, 1) := by decide +kernel
theorem dU_set_60 : decode cU_set 60 = .ok (.iconst 1, 1) := by decide +kernel
theorem dU_set_61 : decode cU_set 61 = .ok (.iload_n 1, 1) := by decide +kernel
theorem dU_set_62 : decode cU_set 62 = .ok (.invokevirtual 52, 3) := by decide +kernel
theorem dU_set_65 : decode cU_set 65 = .ok (.iload_n 1, 1) := by decide +kernel
theorem dU_set_66 : decode cU_set 66 = .ok (.iconst 4, 1) := by decide +kernel
theorem dU_set_67 : decode cU_set 67 = .ok (.imul, 1) := by decide +kernel
theorem dU_set_68 : decode cU_set 68 = .ok (.istore 5, 2) := by decide +kernel
theorem dU_set_70 : decode cU_set 70 = .ok (.iload 4, 2) := by decide +kernel
theorem dU_set_72 : decode cU_set 72 = .ok (.ifCond .eq 23, 3) := by decide +kernel
theorem dU_set_75 : decode cU_set 75 = .ok (.aload_n 0, 1) := by decide +kernel
theorem dU_set_76 : decode cU_set 76 = .ok (.getfield 9, 3) := by decide +kernel
theorem dU_set_79 : decode cU_set 79 = .ok (.iload 5, 2) := by decide +kernel
theorem dU_set_81 : decode cU_set 81 = .ok (.iconst 3, 1) := by decide +kernel
