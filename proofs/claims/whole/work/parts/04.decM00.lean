theorem dM_init_0 : decode cM_init 0 = .ok (.aload_n 0, 1) := by decide +kernel
theorem dM_init_1 : decode cM_init 1 = .ok (.invokespecial 3, 3) := by decide +kernel
theorem dM_init_4 : decode cM_init 4 = .ok (.aload_n 0, 1) := by decide +kernel
theorem dM_init_5 : decode cM_init 5 = .ok (.sipush 363, 3) := by decide +kernel
theorem dM_init_8 : decode cM_init 8 = .ok (.newarray .int, 2) := by decide +kernel
theorem dM_init_10 : decode cM_init 10 = .ok (.putfield 9, 3) := by decide +kernel
theorem dM_init_13 : decode cM_init 13 = .ok (.aload_n 0, 1) := by decide +kernel
theorem dM_init_14 : decode cM_init 14 = .ok (.sipush 7200, 3) := by decide +kernel
theorem dM_init_17 : decode cM_init 17 = .ok (.newarray .int, 2) := by decide +kernel
theorem dM_init_19 : decode cM_init 19 = .ok (.putfield 13, 3) := by decide +kernel
theorem dM_init_22 : decode cM_init 22 = .ok (.aload_n 0, 1) := by decide +kernel
theorem dM_init_23 : decode cM_init 23 = .ok (.sipush 363, 3) := by decide +kernel
theorem dM_init_26 : decode cM_init 26 = .ok (.newarray .boolean, 2) := by decide +kernel
theorem dM_init_28 : decode cM_init 28 = .ok (.putfield 16, 3) := by decide +kernel
theorem dM_init_31 : decode cM_init 31 = .ok (.aload_n 0, 1) := by decide +kernel
theorem dM_init_32 : decode cM_init 32 = .ok (.sipush 7200, 3) := by decide +kernel
theorem dM_init_35 : decode cM_init 35 = .ok (.newarray .boolean, 2) := by decide +kernel
theorem dM_init_37 : decode cM_init 37 = .ok (.putfield 20, 3) := by decide +kernel
theorem dM_init_40 : decode cM_init 40 = .ok (.aload_n 0, 1) := by decide +kernel
theorem dM_init_41 : decode cM_init 41 = .ok (.bipush 20, 2) := by decide +kernel
theorem dM_init_43 : decode cM_init 43 = .ok (.newarray .int, 2) := by decide +kernel
theorem dM_init_45 : decode cM_init 45 = .ok (.putfield 23, 3) := by decide +kernel
theorem dM_init_48 : decode cM_init 48 = .ok (.aload_n 0, 1) := by decide +kernel
theorem dM_init_49 : decode cM_init 49 = .ok (.bipush 20, 2) := by decide +kernel
theorem dM_init_51 : decode cM_init 51 = .ok (.newarray .int, 2) := by decide +kernel
theorem dM_init_53 : decode cM_init 53 = .ok (.putfield 26, 3) := by decide +kernel
theorem dM_init_56 : decode cM_init 56 = .ok (.aload_n 0, 1) := by decide +kernel
theorem dM_init_57 : decode cM_init 57 = .ok (.bipush 20, 2) := by decide +kernel
theorem dM_init_59 : decode cM_init 59 = .ok (.newarray .int, 2) := by decide +kernel
theorem dM_init_61 : decode cM_init 61 = .ok (.putfield 29, 3) := by decide +kernel
theorem dM_init_64 : decode cM_init 64 = .ok (.return_, 1) := by decide +kernel
theorem dM_thrown_0 : decode cM_thrown 0 = .ok (.aload_n 0, 1) := by decide +kernel
theorem dM_thrown_1 : decode cM_thrown 1 = .ok (.getfield 32, 3) := by decide +kernel
theorem dM_thrown_4 : decode cM_thrown 4 = .ok (.ireturn, 1) := by decide +kernel
theorem dM_no_0 : decode cM_no 0 = .ok (.aload_n 0, 1) := by decide +kernel
theorem dM_no_1 : decode cM_no 1 = .ok (.iload_n 1, 1) := by decide +kernel
theorem dM_no_2 : decode cM_no 2 = .ok (.putfield 32, 3) := by decide +kernel
theorem dM_no_5 : decode cM_no 5 = .ok (.iconst 0, 1) := by decide +kernel
theorem dM_no_6 : decode cM_no 6 = .ok (.ireturn, 1) := by decide +kernel
theorem dM_row_0 : decode cM_row 0 = .ok (.iconst 0, 1) := by decide +kernel
theorem dM_row_1 : decode cM_row 1 = .ok (.istore_n 3, 1) := by decide +kernel
theorem dM_row_2 : decode cM_row 2 = .ok (.iload_n 3, 1) := by decide +kernel
theorem dM_row_3 : decode cM_row 3 = .ok (.aload_n 0, 1) := by decide +kernel
theorem dM_row_4 : decode cM_row 4 = .ok (.getfield 36, 3) := by decide +kernel
theorem dM_row_7 : decode cM_row 7 = .ok (.if_icmp .ge 38, 3) := by decide +kernel
theorem dM_row_10 : decode cM_row 10 = .ok (.aload_n 0, 1) := by decide +kernel
theorem dM_row_11 : decode cM_row 11 = .ok (.getfield 16, 3) := by decide +kernel
theorem dM_row_14 : decode cM_row 14 = .ok (.iconst 3, 1) := by decide +kernel
theorem dM_row_15 : decode cM_row 15 = .ok (.iload_n 3, 1) := by decide +kernel
theorem dM_row_16 : decode cM_row 16 = .ok (.imul, 1) := by decide +kernel
theorem dM_row_17 : decode cM_row 17 = .ok (.iload_n 1, 1) := by decide +kernel
theorem dM_row_18 : decode cM_row 18 = .ok (.iadd, 1) := by decide +kernel
theorem dM_row_19 : decode cM_row 19 = .ok (.baload, 1) := by decide +kernel
theorem dM_row_20 : decode cM_row 20 = .ok (.ifCond .eq 19, 3) := by decide +kernel
theorem dM_row_23 : decode cM_row 23 = .ok (.aload_n 0, 1) := by decide +kernel
theorem dM_row_24 : decode cM_row 24 = .ok (.getfield 9, 3) := by decide +kernel
theorem dM_row_27 : decode cM_row 27 = .ok (.iconst 3, 1) := by decide +kernel
theorem dM_row_28 : decode cM_row 28 = .ok (.iload_n 3, 1) := by decide +kernel
theorem dM_row_29 : decode cM_row 29 = .ok (.imul, 1) := by decide +kernel
theorem dM_row_30 : decode cM_row 30 = .ok (.iload_n 1, 1) := by decide +kernel
theorem dM_row_31 : decode cM_row 31 = .ok (.iadd, 1) := by decide +kernel
theorem dM_row_32 : decode cM_row 32 = .ok (.iaload, 1) := by decide +kernel
theorem dM_row_33 : decode cM_row 33 = .ok (.iload_n 2, 1) := by decide +kernel
theorem dM_row_34 : decode cM_row 34 = .ok (.if_icmp .ne 5, 3) := by decide +kernel
theorem dM_row_37 : decode cM_row 37 = .ok (.iload_n 3, 1) := by decide +kernel
theorem dM_row_38 : decode cM_row 38 = .ok (.ireturn, 1) := by decide +kernel
theorem dM_row_39 : decode cM_row 39 = .ok (.iinc 3 1, 3) := by decide +kernel
theorem dM_row_42 : decode cM_row 42 = .ok (.goto (-40), 3) := by decide +kernel
theorem dM_row_45 : decode cM_row 45 = .ok (.iconst (-1), 1) := by decide +kernel
theorem dM_row_46 : decode cM_row 46 = .ok (.ireturn, 1) := by decide +kernel
theorem dM_isFull_0 : decode cM_isFull 0 = .ok (.aload_n 0, 1) := by decide +kernel
theorem dM_isFull_1 : decode cM_isFull 1 = .ok (.getfield 39, 3) := by decide +kernel
theorem dM_isFull_4 : decode cM_isFull 4 = .ok (.ifCond .le 19, 3) := by decide +kernel
theorem dM_isFull_7 : decode cM_isFull 7 = .ok (.aload_n 0, 1) := by decide +kernel
theorem dM_isFull_8 : decode cM_isFull 8 = .ok (.getfield 42, 3) := by decide +kernel
theorem dM_isFull_11 : decode cM_isFull 11 = .ok (.iload_n 1, 1) := by decide +kernel
theorem dM_isFull_12 : decode cM_isFull 12 = .ok (.iadd, 1) := by decide +kernel
theorem dM_isFull_13 : decode cM_isFull 13 = .ok (.sipush 200, 3) := by decide +kernel
theorem dM_isFull_16 : decode cM_isFull 16 = .ok (.if_icmp .le 7, 3) := by decide +kernel
theorem dM_isFull_19 : decode cM_isFull 19 = .ok (.iconst 1, 1) := by decide +kernel
theorem dM_isFull_20 : decode cM_isFull 20 = .ok (.goto 4, 3) := by decide +kernel
theorem dM_isFull_23 : decode cM_isFull 23 = .ok (.iconst 0, 1) := by decide +kernel
theorem dM_isFull_24 : decode cM_isFull 24 = .ok (.ireturn, 1) := by decide +kernel
theorem dM_changed_0 : decode cM_changed 0 = .ok (.aload_n 0, 1) := by decide +kernel
theorem dM_changed_1 : decode cM_changed 1 = .ok (.getfield 39, 3) := by decide +kernel
theorem dM_changed_4 : decode cM_changed 4 = .ok (.ifCond .le 13, 3) := by decide +kernel
theorem dM_changed_7 : decode cM_changed 7 = .ok (.aload_n 0, 1) := by decide +kernel
theorem dM_changed_8 : decode cM_changed 8 = .ok (.dup, 1) := by decide +kernel
theorem dM_changed_9 : decode cM_changed 9 = .ok (.getfield 42, 3) := by decide +kernel
theorem dM_changed_12 : decode cM_changed 12 = .ok (.iconst 1, 1) := by decide +kernel
theorem dM_changed_13 : decode cM_changed 13 = .ok (.iadd, 1) := by decide +kernel
theorem dM_changed_14 : decode cM_changed 14 = .ok (.putfield 42, 3) := by decide +kernel
theorem dM_changed_17 : decode cM_changed 17 = .ok (.return_, 1) := by decide +kernel
theorem dM_insert_0 : decode cM_insert 0 = .ok (.iload 4, 2) := by decide +kernel
theorem dM_insert_2 : decode cM_insert 2 = .ok (.ifCond .lt 10, 3) := by decide +kernel
theorem dM_insert_5 : decode cM_insert 5 = .ok (.iload 4, 2) := by decide +kernel
theorem dM_insert_7 : decode cM_insert 7 = .ok (.bipush 7, 2) := by decide +kernel
theorem dM_insert_9 : decode cM_insert 9 = .ok (.if_icmp .le 9, 3) := by decide +kernel
theorem dM_insert_12 : decode cM_insert 12 = .ok (.aload_n 0, 1) := by decide +kernel
theorem dM_insert_13 : decode cM_insert 13 = .ok (.iconst 1, 1) := by decide +kernel
theorem dM_insert_14 : decode cM_insert 14 = .ok (.invokevirtual 45, 3) := by decide +kernel
theorem dM_insert_17 : decode cM_insert 17 = .ok (.ireturn, 1) := by decide +kernel
theorem dM_insert_18 : decode cM_insert 18 = .ok (.aload_n 0, 1) := by decide +kernel
theorem dM_insert_19 : decode cM_insert 19 = .ok (.getfield 36, 3) := by decide +kernel
theorem dM_insert_22 : decode cM_insert 22 = .ok (.bipush 120, 2) := by decide +kernel
theorem dM_insert_24 : decode cM_insert 24 = .ok (.if_icmp .eq 43, 3) := by decide +kernel
theorem dM_insert_27 : decode cM_insert 27 = .ok (.aload_n 0, 1) := by decide +kernel
theorem dM_insert_28 : decode cM_insert 28 = .ok (.iconst 1, 1) := by decide +kernel
theorem dM_insert_29 : decode cM_insert 29 = .ok (.invokevirtual 49, 3) := by decide +kernel
theorem dM_insert_32 : decode cM_insert 32 = .ok (.ifCond .ne 35, 3) := by decide +kernel
theorem dM_insert_35 : decode cM_insert 35 = .ok (.iload 4, 2) := by decide +kernel
theorem dM_insert_37 : decode cM_insert 37 = .ok (.iconst 1, 1) := by decide +kernel
theorem dM_insert_38 : decode cM_insert 38 = .ok (.iand, 1) := by decide +kernel
theorem dM_insert_39 : decode cM_insert 39 = .ok (.ifCond .eq 28, 3) := by decide +kernel
theorem dM_insert_42 : decode cM_insert 42 = .ok (.aload_n 0, 1) := by decide +kernel
theorem dM_insert_43 : decode cM_insert 43 = .ok (.iconst 0, 1) := by decide +kernel
theorem dM_insert_44 : decode cM_insert 44 = .ok (.iload_n 1, 1) := by decide +kernel
theorem dM_insert_45 : decode cM_insert 45 = .ok (.invokevirtual 53, 3) := by decide +kernel
theorem dM_insert_48 : decode cM_insert 48 = .ok (.ifCond .ge 19, 3) := by decide +kernel
theorem dM_insert_51 : decode cM_insert 51 = .ok (.iload 4, 2) := by decide +kernel
theorem dM_insert_53 : decode cM_insert 53 = .ok (.iconst 2, 1) := by decide +kernel
theorem dM_insert_54 : decode cM_insert 54 = .ok (.iand, 1) := by decide +kernel
theorem dM_insert_55 : decode cM_insert 55 = .ok (.ifCond .eq 16, 3) := by decide +kernel
theorem dM_insert_58 : decode cM_insert 58 = .ok (.aload_n 0, 1) := by decide +kernel
theorem dM_insert_59 : decode cM_insert 59 = .ok (.iconst 1, 1) := by decide +kernel
theorem dM_insert_60 : decode cM_insert 60 = .ok (.iload_n 2, 1) := by decide +kernel
theorem dM_insert_61 : decode cM_insert 61 = .ok (.invokevirtual 53, 3) := by decide +kernel
theorem dM_insert_64 : decode cM_insert 64 = .ok (.ifCond .lt 7, 3) := by decide +kernel
theorem dM_insert_67 : decode cM_insert 67 = .ok (.iconst 1, 1) := by decide +kernel
theorem dM_insert_68 : decode cM_insert 68 = .ok (.goto 4, 3) := by decide +kernel
theorem dM_insert_71 : decode cM_insert 71 = .ok (.iconst 0, 1) := by decide +kernel
theorem dM_insert_72 : decode cM_insert 72 = .ok (.istore 5, 2) := by decide +kernel
theorem dM_insert_74 : decode cM_insert 74 = .ok (.iload 5, 2) := by decide +kernel
theorem dM_insert_76 : decode cM_insert 76 = .ok (.ifCond .eq 9, 3) := by decide +kernel
theorem dM_insert_79 : decode cM_insert 79 = .ok (.aload_n 0, 1) := by decide +kernel
theorem dM_insert_80 : decode cM_insert 80 = .ok (.iconst 2, 1) := by decide +kernel
theorem dM_insert_81 : decode cM_insert 81 = .ok (.invokevirtual 45, 3) := by decide +kernel
theorem dM_insert_84 : decode cM_insert 84 = .ok (.ireturn, 1) := by decide +kernel
theorem dM_insert_85 : decode cM_insert 85 = .ok (.aload_n 0, 1) := by decide +kernel
theorem dM_insert_86 : decode cM_insert 86 = .ok (.iconst 0, 1) := by decide +kernel
theorem dM_insert_87 : decode cM_insert 87 = .ok (.putfield 32, 3) := by decide +kernel
theorem dM_insert_90 : decode cM_insert 90 = .ok (.iconst 0, 1) := by decide +kernel
theorem dM_insert_91 : decode cM_insert 91 = .ok (.istore 6, 2) := by decide +kernel
theorem dM_insert_93 : decode cM_insert 93 = .ok (.iload 6, 2) := by decide +kernel
theorem dM_insert_95 : decode cM_insert 95 = .ok (.iconst 3, 1) := by decide +kernel
theorem dM_insert_96 : decode cM_insert 96 = .ok (.if_icmp .ge 72, 3) := by decide +kernel
theorem dM_insert_99 : decode cM_insert 99 = .ok (.aload_n 0, 1) := by decide +kernel
theorem dM_insert_100 : decode cM_insert 100 = .ok (.getfield 16, 3) := by decide +kernel
theorem dM_insert_103 : decode cM_insert 103 = .ok (.iconst 3, 1) := by decide +kernel
theorem dM_insert_104 : decode cM_insert 104 = .ok (.aload_n 0, 1) := by decide +kernel
