theorem dL_insert_0 : decode cL_insert 0 = .ok (.aload 5, 2) := by decide +kernel
theorem dL_insert_2 : decode cL_insert 2 = .ok (.iconst 0, 1) := by decide +kernel
theorem dL_insert_3 : decode cL_insert 3 = .ok (.aload_n 0, 1) := by decide +kernel
theorem dL_insert_4 : decode cL_insert 4 = .ok (.iload_n 1, 1) := by decide +kernel
theorem dL_insert_5 : decode cL_insert 5 = .ok (.iload_n 2, 1) := by decide +kernel
theorem dL_insert_6 : decode cL_insert 6 = .ok (.iload_n 3, 1) := by decide +kernel
theorem dL_insert_7 : decode cL_insert 7 = .ok (.iload 4, 2) := by decide +kernel
theorem dL_insert_9 : decode cL_insert 9 = .ok (.invokevirtual 7, 3) := by decide +kernel
theorem dL_insert_12 : decode cL_insert 12 = .ok (.i2l, 1) := by decide +kernel
theorem dL_insert_13 : decode cL_insert 13 = .ok (.lastore, 1) := by decide +kernel
theorem dL_insert_14 : decode cL_insert 14 = .ok (.goto 11, 3) := by decide +kernel
theorem dL_insert_17 : decode cL_insert 17 = .ok (.astore 6, 2) := by decide +kernel
theorem dL_insert_19 : decode cL_insert 19 = .ok (.iconst 1, 1) := by decide +kernel
theorem dL_insert_20 : decode cL_insert 20 = .ok (.ireturn, 1) := by decide +kernel
theorem dL_insert_21 : decode cL_insert 21 = .ok (.astore 6, 2) := by decide +kernel
theorem dL_insert_23 : decode cL_insert 23 = .ok (.iconst 2, 1) := by decide +kernel
theorem dL_insert_24 : decode cL_insert 24 = .ok (.ireturn, 1) := by decide +kernel
theorem dL_insert_25 : decode cL_insert 25 = .ok (.iconst 0, 1) := by decide +kernel
theorem dL_insert_26 : decode cL_insert 26 = .ok (.ireturn, 1) := by decide +kernel
theorem dL_set_0 : decode cL_set 0 = .ok (.aload_n 0, 1) := by decide +kernel
theorem dL_set_1 : decode cL_set 1 = .ok (.iload_n 1, 1) := by decide +kernel
theorem dL_set_2 : decode cL_set 2 = .ok (.iload_n 2, 1) := by decide +kernel
theorem dL_set_3 : decode cL_set 3 = .ok (.iload_n 3, 1) := by decide +kernel
theorem dL_set_4 : decode cL_set 4 = .ok (.iload 4, 2) := by decide +kernel
theorem dL_set_6 : decode cL_set 6 = .ok (.invokevirtual 17, 3) := by decide +kernel
theorem dL_set_9 : decode cL_set 9 = .ok (.goto 15, 3) := by decide +kernel
theorem dL_set_12 : decode cL_set 12 = .ok (.astore 5, 2) := by decide +kernel
theorem dL_set_14 : decode cL_set 14 = .ok (.iconst 1, 1) := by decide +kernel
theorem dL_set_15 : decode cL_set 15 = .ok (.ireturn, 1) := by decide +kernel
theorem dL_set_16 : decode cL_set 16 = .ok (.astore 5, 2) := by decide +kernel
theorem dL_set_18 : decode cL_set 18 = .ok (.iconst 2, 1) := by decide +kernel
theorem dL_set_19 : decode cL_set 19 = .ok (.ireturn, 1) := by decide +kernel
theorem dL_set_20 : decode cL_set 20 = .ok (.astore 5, 2) := by decide +kernel
theorem dL_set_22 : decode cL_set 22 = .ok (.iconst 3, 1) := by decide +kernel
theorem dL_set_23 : decode cL_set 23 = .ok (.ireturn, 1) := by decide +kernel
theorem dL_set_24 : decode cL_set 24 = .ok (.iconst 0, 1) := by decide +kernel
theorem dL_set_25 : decode cL_set 25 = .ok (.ireturn, 1) := by decide +kernel
theorem dL_remove_0 : decode cL_remove 0 = .ok (.aload_n 0, 1) := by decide +kernel
theorem dL_remove_1 : decode cL_remove 1 = .ok (.iload_n 1, 1) := by decide +kernel
theorem dL_remove_2 : decode cL_remove 2 = .ok (.invokevirtual 23, 3) := by decide +kernel
theorem dL_remove_5 : decode cL_remove 5 = .ok (.goto 9, 3) := by decide +kernel
theorem dL_remove_8 : decode cL_remove 8 = .ok (.astore_n 2, 1) := by decide +kernel
theorem dL_remove_9 : decode cL_remove 9 = .ok (.iconst 1, 1) := by decide +kernel
theorem dL_remove_10 : decode cL_remove 10 = .ok (.ireturn, 1) := by decide +kernel
theorem dL_remove_11 : decode cL_remove 11 = .ok (.astore_n 2, 1) := by decide +kernel
theorem dL_remove_12 : decode cL_remove 12 = .ok (.iconst 2, 1) := by decide +kernel
theorem dL_remove_13 : decode cL_remove 13 = .ok (.ireturn, 1) := by decide +kernel
theorem dL_remove_14 : decode cL_remove 14 = .ok (.iconst 0, 1) := by decide +kernel
theorem dL_remove_15 : decode cL_remove 15 = .ok (.ireturn, 1) := by decide +kernel
theorem dL_removeAll_0 : decode cL_removeAll 0 = .ok (.aload_n 3, 1) := by decide +kernel
theorem dL_removeAll_1 : decode cL_removeAll 1 = .ok (.iconst 0, 1) := by decide +kernel
theorem dL_removeAll_2 : decode cL_removeAll 2 = .ok (.aload_n 0, 1) := by decide +kernel
theorem dL_removeAll_3 : decode cL_removeAll 3 = .ok (.iload_n 1, 1) := by decide +kernel
theorem dL_removeAll_4 : decode cL_removeAll 4 = .ok (.iload_n 2, 1) := by decide +kernel
theorem dL_removeAll_5 : decode cL_removeAll 5 = .ok (.invokevirtual 27, 3) := by decide +kernel
theorem dL_removeAll_8 : decode cL_removeAll 8 = .ok (.i2l, 1) := by decide +kernel
theorem dL_removeAll_9 : decode cL_removeAll 9 = .ok (.lastore, 1) := by decide +kernel
theorem dL_removeAll_10 : decode cL_removeAll 10 = .ok (.goto 11, 3) := by decide +kernel
theorem dL_removeAll_13 : decode cL_removeAll 13 = .ok (.astore 4, 2) := by decide +kernel
theorem dL_removeAll_15 : decode cL_removeAll 15 = .ok (.iconst 1, 1) := by decide +kernel
theorem dL_removeAll_16 : decode cL_removeAll 16 = .ok (.ireturn, 1) := by decide +kernel
theorem dL_removeAll_17 : decode cL_removeAll 17 = .ok (.astore 4, 2) := by decide +kernel
theorem dL_removeAll_19 : decode cL_removeAll 19 = .ok (.iconst 2, 1) := by decide +kernel
theorem dL_removeAll_20 : decode cL_removeAll 20 = .ok (.ireturn, 1) := by decide +kernel
theorem dL_removeAll_21 : decode cL_removeAll 21 = .ok (.iconst 0, 1) := by decide +kernel
theorem dL_removeAll_22 : decode cL_removeAll 22 = .ok (.ireturn, 1) := by decide +kernel
theorem dL_find_0 : decode cL_find 0 = .ok (.aload_n 3, 1) := by decide +kernel
theorem dL_find_1 : decode cL_find 1 = .ok (.iconst 0, 1) := by decide +kernel
theorem dL_find_2 : decode cL_find 2 = .ok (.aload_n 0, 1) := by decide +kernel
theorem dL_find_3 : decode cL_find 3 = .ok (.iload_n 1, 1) := by decide +kernel
theorem dL_find_4 : decode cL_find 4 = .ok (.iload_n 2, 1) := by decide +kernel
theorem dL_find_5 : decode cL_find 5 = .ok (.invokevirtual 31, 3) := by decide +kernel
theorem dL_find_8 : decode cL_find 8 = .ok (.i2l, 1) := by decide +kernel
theorem dL_find_9 : decode cL_find 9 = .ok (.lastore, 1) := by decide +kernel
theorem dL_find_10 : decode cL_find 10 = .ok (.goto 7, 3) := by decide +kernel
theorem dL_find_13 : decode cL_find 13 = .ok (.astore 4, 2) := by decide +kernel
theorem dL_find_15 : decode cL_find 15 = .ok (.iconst 1, 1) := by decide +kernel
theorem dL_find_16 : decode cL_find 16 = .ok (.ireturn, 1) := by decide +kernel
theorem dL_find_17 : decode cL_find 17 = .ok (.iconst 0, 1) := by decide +kernel
theorem dL_find_18 : decode cL_find 18 = .ok (.ireturn, 1) := by decide +kernel
theorem dL_value_0 : decode cL_value 0 = .ok (.aload_n 3, 1) := by decide +kernel
theorem dL_value_1 : decode cL_value 1 = .ok (.iconst 0, 1) := by decide +kernel
theorem dL_value_2 : decode cL_value 2 = .ok (.aload_n 0, 1) := by decide +kernel
theorem dL_value_3 : decode cL_value 3 = .ok (.iload_n 1, 1) := by decide +kernel
theorem dL_value_4 : decode cL_value 4 = .ok (.iload_n 2, 1) := by decide +kernel
theorem dL_value_5 : decode cL_value 5 = .ok (.invokevirtual 34, 3) := by decide +kernel
theorem dL_value_8 : decode cL_value 8 = .ok (.i2l, 1) := by decide +kernel
theorem dL_value_9 : decode cL_value 9 = .ok (.lastore, 1) := by decide +kernel
theorem dL_value_10 : decode cL_value 10 = .ok (.goto 11, 3) := by decide +kernel
theorem dL_value_13 : decode cL_value 13 = .ok (.astore 4, 2) := by decide +kernel
theorem dL_value_15 : decode cL_value 15 = .ok (.iconst 1, 1) := by decide +kernel
theorem dL_value_16 : decode cL_value 16 = .ok (.ireturn, 1) := by decide +kernel
theorem dL_value_17 : decode cL_value 17 = .ok (.astore 4, 2) := by decide +kernel
theorem dL_value_19 : decode cL_value 19 = .ok (.iconst 2, 1) := by decide +kernel
theorem dL_value_20 : decode cL_value 20 = .ok (.ireturn, 1) := by decide +kernel
theorem dL_value_21 : decode cL_value 21 = .ok (.iconst 0, 1) := by decide +kernel
theorem dL_value_22 : decode cL_value 22 = .ok (.ireturn, 1) := by decide +kernel
theorem dL_mark_0 : decode cL_mark 0 = .ok (.aload_n 0, 1) := by decide +kernel
theorem dL_mark_1 : decode cL_mark 1 = .ok (.iload_n 1, 1) := by decide +kernel
theorem dL_mark_2 : decode cL_mark 2 = .ok (.invokevirtual 37, 3) := by decide +kernel
theorem dL_mark_5 : decode cL_mark 5 = .ok (.goto 6, 3) := by decide +kernel
theorem dL_mark_8 : decode cL_mark 8 = .ok (.astore_n 2, 1) := by decide +kernel
theorem dL_mark_9 : decode cL_mark 9 = .ok (.iconst 1, 1) := by decide +kernel
theorem dL_mark_10 : decode cL_mark 10 = .ok (.ireturn, 1) := by decide +kernel
theorem dL_mark_11 : decode cL_mark 11 = .ok (.iconst 0, 1) := by decide +kernel
theorem dL_mark_12 : decode cL_mark 12 = .ok (.ireturn, 1) := by decide +kernel
theorem dL_back_0 : decode cL_back 0 = .ok (.aload_n 0, 1) := by decide +kernel
theorem dL_back_1 : decode cL_back 1 = .ok (.iload_n 1, 1) := by decide +kernel
theorem dL_back_2 : decode cL_back 2 = .ok (.invokevirtual 40, 3) := by decide +kernel
theorem dL_back_5 : decode cL_back 5 = .ok (.goto 6, 3) := by decide +kernel
theorem dL_back_8 : decode cL_back 8 = .ok (.astore_n 2, 1) := by decide +kernel
theorem dL_back_9 : decode cL_back 9 = .ok (.iconst 1, 1) := by decide +kernel
theorem dL_back_10 : decode cL_back 10 = .ok (.ireturn, 1) := by decide +kernel
theorem dL_back_11 : decode cL_back 11 = .ok (.iconst 0, 1) := by decide +kernel
theorem dL_back_12 : decode cL_back 12 = .ok (.ireturn, 1) := by decide +kernel
theorem dL_release_0 : decode cL_release 0 = .ok (.aload_n 0, 1) := by decide +kernel
theorem dL_release_1 : decode cL_release 1 = .ok (.iload_n 1, 1) := by decide +kernel
theorem dL_release_2 : decode cL_release 2 = .ok (.invokevirtual 43, 3) := by decide +kernel
theorem dL_release_5 : decode cL_release 5 = .ok (.goto 6, 3) := by decide +kernel
theorem dL_release_8 : decode cL_release 8 = .ok (.astore_n 2, 1) := by decide +kernel
