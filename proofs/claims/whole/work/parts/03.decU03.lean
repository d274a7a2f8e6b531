theorem dU_rowWithKey_7 : decode cU_rowWithKey 7 = .ok (.if_icmp .ge 21, 3) := by decide +kernel
theorem dU_rowWithKey_10 : decode cU_rowWithKey 10 = .ok (.aload_n 0, 1) := by decide +kernel
theorem dU_rowWithKey_11 : decode cU_rowWithKey 11 = .ok (.iload_n 3, 1) := by decide +kernel
theorem dU_rowWithKey_12 : decode cU_rowWithKey 12 = .ok (.iload_n 1, 1) := by decide +kernel
theorem dU_rowWithKey_13 : decode cU_rowWithKey 13 = .ok (.iload_n 2, 1) := by decide +kernel
theorem dU_rowWithKey_14 : decode cU_rowWithKey 14 = .ok (.invokevirtual 77, 3) := by decide +kernel
theorem dU_rowWithKey_17 : decode cU_rowWithKey 17 = .ok (.ifCond .eq 5, 3) := by decide +kernel
theorem dU_rowWithKey_20 : decode cU_rowWithKey 20 = .ok (.iload_n 3, 1) := by decide +kernel
theorem dU_rowWithKey_21 : decode cU_rowWithKey 21 = .ok (.ireturn, 1) := by decide +kernel
theorem dU_rowWithKey_22 : decode cU_rowWithKey 22 = .ok (.iinc 3 1, 3) := by decide +kernel
theorem dU_rowWithKey_25 : decode cU_rowWithKey 25 = .ok (.goto (-23), 3) := by decide +kernel
theorem dU_rowWithKey_28 : decode cU_rowWithKey 28 = .ok (.iconst (-1), 1) := by decide +kernel
theorem dU_rowWithKey_29 : decode cU_rowWithKey 29 = .ok (.ireturn, 1) := by decide +kernel
theorem dU_countRowsWith_0 : decode cU_countRowsWith 0 = .ok (.iconst 0, 1) := by decide +kernel
theorem dU_countRowsWith_1 : decode cU_countRowsWith 1 = .ok (.istore_n 3, 1) := by decide +kernel
theorem dU_countRowsWith_2 : decode cU_countRowsWith 2 = .ok (.iconst 0, 1) := by decide +kernel
theorem dU_countRowsWith_3 : decode cU_countRowsWith 3 = .ok (.istore 4, 2) := by decide +kernel
theorem dU_countRowsWith_5 : decode cU_countRowsWith 5 = .ok (.iload 4, 2) := by decide +kernel
theorem dU_countRowsWith_7 : decode cU_countRowsWith 7 = .ok (.aload_n 0, 1) := by decide +kernel
theorem dU_countRowsWith_8 : decode cU_countRowsWith 8 = .ok (.getfield 13, 3) := by decide +kernel
theorem dU_countRowsWith_11 : decode cU_countRowsWith 11 = .ok (.if_icmp .ge 23, 3) := by decide +kernel
theorem dU_countRowsWith_14 : decode cU_countRowsWith 14 = .ok (.aload_n 0, 1) := by decide +kernel
theorem dU_countRowsWith_15 : decode cU_countRowsWith 15 = .ok (.iload 4, 2) := by decide +kernel
theorem dU_countRowsWith_17 : decode cU_countRowsWith 17 = .ok (.iload_n 1, 1) := by decide +kernel
theorem dU_countRowsWith_18 : decode cU_countRowsWith 18 = .ok (.iload_n 2, 1) := by decide +kernel
theorem dU_countRowsWith_19 : decode cU_countRowsWith 19 = .ok (.invokevirtual 77, 3) := by decide +kernel
theorem dU_countRowsWith_22 : decode cU_countRowsWith 22 = .ok (.ifCond .eq 6, 3) := by decide +kernel
theorem dU_countRowsWith_25 : decode cU_countRowsWith 25 = .ok (.iinc 3 1, 3) := by decide +kernel
theorem dU_countRowsWith_28 : decode cU_countRowsWith 28 = .ok (.iinc 4 1, 3) := by decide +kernel
theorem dU_countRowsWith_31 : decode cU_countRowsWith 31 = .ok (.goto (-26), 3) := by decide +kernel
theorem dU_countRowsWith_34 : decode cU_countRowsWith 34 = .ok (.iload_n 3, 1) := by decide +kernel
theorem dU_countRowsWith_35 : decode cU_countRowsWith 35 = .ok (.ireturn, 1) := by decide +kernel
theorem dU_countNone_0 : decode cU_countNone 0 = .ok (.iconst 0, 1) := by decide +kernel
theorem dU_countNone_1 : decode cU_countNone 1 = .ok (.istore_n 2, 1) := by decide +kernel
theorem dU_countNone_2 : decode cU_countNone 2 = .ok (.iconst 0, 1) := by decide +kernel
theorem dU_countNone_3 : decode cU_countNone 3 = .ok (.istore_n 3, 1) := by decide +kernel
theorem dU_countNone_4 : decode cU_countNone 4 = .ok (.iload_n 3, 1) := by decide +kernel
theorem dU_countNone_5 : decode cU_countNone 5 = .ok (.aload_n 0, 1) := by decide +kernel
theorem dU_countNone_6 : decode cU_countNone 6 = .ok (.getfield 13, 3) := by decide +kernel
theorem dU_countNone_9 : decode cU_countNone 9 = .ok (.if_icmp .ge 21, 3) := by decide +kernel
theorem dU_countNone_12 : decode cU_countNone 12 = .ok (.aload_n 0, 1) := by decide +kernel
theorem dU_countNone_13 : decode cU_countNone 13 = .ok (.iload_n 3, 1) := by decide +kernel
theorem dU_countNone_14 : decode cU_countNone 14 = .ok (.iload_n 1, 1) := by decide +kernel
theorem dU_countNone_15 : decode cU_countNone 15 = .ok (.invokevirtual 83, 3) := by decide +kernel
theorem dU_countNone_18 : decode cU_countNone 18 = .ok (.ifCond .eq 6, 3) := by decide +kernel
theorem dU_countNone_21 : decode cU_countNone 21 = .ok (.iinc 2 1, 3) := by decide +kernel
theorem dU_countNone_24 : decode cU_countNone 24 = .ok (.iinc 3 1, 3) := by decide +kernel
theorem dU_countNone_27 : decode cU_countNone 27 = .ok (.goto (-23), 3) := by decide +kernel
theorem dU_countNone_30 : decode cU_countNone 30 = .ok (.iload_n 2, 1) := by decide +kernel
theorem dU_countNone_31 : decode cU_countNone 31 = .ok (.ireturn, 1) := by decide +kernel
theorem dU_mayBeInserted_0 : decode cU_mayBeInserted 0 = .ok (.iload_n 3, 1) := by decide +kernel
theorem dU_mayBeInserted_1 : decode cU_mayBeInserted 1 = .ok (.iconst 1, 1) := by decide +kernel
theorem dU_mayBeInserted_2 : decode cU_mayBeInserted 2 = .ok (.iand, 1) := by decide +kernel
theorem dU_mayBeInserted_3 : decode cU_mayBeInserted 3 = .ok (.ifCond .eq 12, 3) := by decide +kernel
theorem dU_mayBeInserted_6 : decode cU_mayBeInserted 6 = .ok (.aload_n 0, 1) := by decide +kernel
theorem dU_mayBeInserted_7 : decode cU_mayBeInserted 7 = .ok (.iconst 0, 1) := by decide +kernel
theorem dU_mayBeInserted_8 : decode cU_mayBeInserted 8 = .ok (.iload_n 1, 1) := by decide +kernel
theorem dU_mayBeInserted_9 : decode cU_mayBeInserted 9 = .ok (.invokevirtual 80, 3) := by decide +kernel
theorem dU_mayBeInserted_12 : decode cU_mayBeInserted 12 = .ok (.ifCond .lt 5, 3) := by decide +kernel
theorem dU_mayBeInserted_15 : decode cU_mayBeInserted 15 = .ok (.iconst 0, 1) := by decide +kernel
theorem dU_mayBeInserted_16 : decode cU_mayBeInserted 16 = .ok (.ireturn, 1) := by decide +kernel
theorem dU_mayBeInserted_17 : decode cU_mayBeInserted 17 = .ok (.iload_n 3, 1) := by decide +kernel
theorem dU_mayBeInserted_18 : decode cU_mayBeInserted 18 = .ok (.iconst 2, 1) := by decide +kernel
theorem dU_mayBeInserted_19 : decode cU_mayBeInserted 19 = .ok (.iand, 1) := by decide +kernel
theorem dU_mayBeInserted_20 : decode cU_mayBeInserted 20 = .ok (.ifCond .eq 12, 3) := by decide +kernel
theorem dU_mayBeInserted_23 : decode cU_mayBeInserted 23 = .ok (.aload_n 0, 1) := by decide +kernel
theorem dU_mayBeInserted_24 : decode cU_mayBeInserted 24 = .ok (.iconst 1, 1) := by decide +kernel
theorem dU_mayBeInserted_25 : decode cU_mayBeInserted 25 = .ok (.iload_n 2, 1) := by decide +kernel
theorem dU_mayBeInserted_26 : decode cU_mayBeInserted 26 = .ok (.invokevirtual 80, 3) := by decide +kernel
theorem dU_mayBeInserted_29 : decode cU_mayBeInserted 29 = .ok (.ifCond .ge 7, 3) := by decide +kernel
theorem dU_mayBeInserted_32 : decode cU_mayBeInserted 32 = .ok (.iconst 1, 1) := by decide +kernel
theorem dU_mayBeInserted_33 : decode cU_mayBeInserted 33 = .ok (.goto 4, 3) := by decide +kernel
theorem dU_mayBeInserted_36 : decode cU_mayBeInserted 36 = .ok (.iconst 0, 1) := by decide +kernel
theorem dU_mayBeInserted_37 : decode cU_mayBeInserted 37 = .ok (.ireturn, 1) := by decide +kernel
theorem dU_maySet_0 : decode cU_maySet 0 = .ok (.iload 4, 2) := by decide +kernel
theorem dU_maySet_2 : decode cU_maySet 2 = .ok (.ifCond .eq 13, 3) := by decide +kernel
theorem dU_maySet_5 : decode cU_maySet 5 = .ok (.iload_n 2, 1) := by decide +kernel
theorem dU_maySet_6 : decode cU_maySet 6 = .ok (.ifCond .eq 7, 3) := by decide +kernel
theorem dU_maySet_9 : decode cU_maySet 9 = .ok (.iconst 1, 1) := by decide +kernel
theorem dU_maySet_10 : decode cU_maySet 10 = .ok (.goto 4, 3) := by decide +kernel
theorem dU_maySet_13 : decode cU_maySet 13 = .ok (.iconst 0, 1) := by decide +kernel
theorem dU_maySet_14 : decode cU_maySet 14 = .ok (.ireturn, 1) := by decide +kernel
theorem dU_maySet_15 : decode cU_maySet 15 = .ok (.iload_n 2, 1) := by decide +kernel
theorem dU_maySet_16 : decode cU_maySet 16 = .ok (.iconst 2, 1) := by decide +kernel
theorem dU_maySet_17 : decode cU_maySet 17 = .ok (.if_icmp .lt 5, 3) := by decide +kernel
theorem dU_maySet_20 : decode cU_maySet 20 = .ok (.iconst 1, 1) := by decide +kernel
theorem dU_maySet_21 : decode cU_maySet 21 = .ok (.ireturn, 1) := by decide +kernel
theorem dU_maySet_22 : decode cU_maySet 22 = .ok (.aload_n 0, 1) := by decide +kernel
theorem dU_maySet_23 : decode cU_maySet 23 = .ok (.iload_n 2, 1) := by decide +kernel
theorem dU_maySet_24 : decode cU_maySet 24 = .ok (.iload_n 3, 1) := by decide +kernel
theorem dU_maySet_25 : decode cU_maySet 25 = .ok (.invokevirtual 80, 3) := by decide +kernel
theorem dU_maySet_28 : decode cU_maySet 28 = .ok (.istore 5, 2) := by decide +kernel
theorem dU_maySet_30 : decode cU_maySet 30 = .ok (.iload 5, 2) := by decide +kernel
theorem dU_maySet_32 : decode cU_maySet 32 = .ok (.ifCond .lt 9, 3) := by decide +kernel
theorem dU_maySet_35 : decode cU_maySet 35 = .ok (.iload 5, 2) := by decide +kernel
theorem dU_maySet_37 : decode cU_maySet 37 = .ok (.iload_n 1, 1) := by decide +kernel
theorem dU_maySet_38 : decode cU_maySet 38 = .ok (.if_icmp .ne 7, 3) := by decide +kernel
theorem dU_maySet_41 : decode cU_maySet 41 = .ok (.iconst 1, 1) := by decide +kernel
theorem dU_maySet_42 : decode cU_maySet 42 = .ok (.goto 4, 3) := by decide +kernel
theorem dU_maySet_45 : decode cU_maySet 45 = .ok (.iconst 0, 1) := by decide +kernel
theorem dU_maySet_46 : decode cU_maySet 46 = .ok (.ireturn, 1) := by decide +kernel
theorem dU_hasRoomFor_0 : decode cU_hasRoomFor 0 = .ok (.aload_n 0, 1) := by decide +kernel
theorem dU_hasRoomFor_1 : decode cU_hasRoomFor 1 = .ok (.getfield 23, 3) := by decide +kernel
theorem dU_hasRoomFor_4 : decode cU_hasRoomFor 4 = .ok (.ifCond .eq 15, 3) := by decide +kernel
theorem dU_hasRoomFor_7 : decode cU_hasRoomFor 7 = .ok (.aload_n 0, 1) := by decide +kernel
theorem dU_hasRoomFor_8 : decode cU_hasRoomFor 8 = .ok (.getfield 35, 3) := by decide +kernel
theorem dU_hasRoomFor_11 : decode cU_hasRoomFor 11 = .ok (.iload_n 1, 1) := by decide +kernel
theorem dU_hasRoomFor_12 : decode cU_hasRoomFor 12 = .ok (.iadd, 1) := by decide +kernel
theorem dU_hasRoomFor_13 : decode cU_hasRoomFor 13 = .ok (.sipush 200, 3) := by decide +kernel
theorem dU_hasRoomFor_16 : decode cU_hasRoomFor 16 = .ok (.if_icmp .gt 7, 3) := by decide +kernel
theorem dU_hasRoomFor_19 : decode cU_hasRoomFor 19 = .ok (.iconst 1, 1) := by decide +kernel
theorem dU_hasRoomFor_20 : decode cU_hasRoomFor 20 = .ok (.goto 4, 3) := by decide +kernel
theorem dU_hasRoomFor_23 : decode cU_hasRoomFor 23 = .ok (.iconst 0, 1) := by decide +kernel
theorem dU_hasRoomFor_24 : decode cU_hasRoomFor 24 = .ok (.ireturn, 1) := by decide +kernel
theorem dU_takeOut_0 : decode cU_takeOut 0 = .ok (.aload_n 0, 1) := by decide +kernel
theorem dU_takeOut_1 : decode cU_takeOut 1 = .ok (.iconst 2, 1) := by decide +kernel
theorem dU_takeOut_2 : decode cU_takeOut 2 = .ok (.iload_n 1, 1) := by decide +kernel
theorem dU_takeOut_3 : decode cU_takeOut 3 = .ok (.invokevirtual 52, 3) := by decide +kernel
theorem dU_takeOut_6 : decode cU_takeOut 6 = .ok (.aload_n 0, 1) := by decide +kernel
theorem dU_takeOut_7 : decode cU_takeOut 7 = .ok (.iload_n 1, 1) := by decide +kernel
theorem dU_takeOut_8 : decode cU_takeOut 8 = .ok (.invokevirtual 97, 3) := by decide +kernel
theorem dU_takeOut_11 : decode cU_takeOut 11 = .ok (.return_, 1) := by decide +kernel
theorem dU_keepChange_0 : decode cU_keepChange 0 = .ok (.aload_n 0, 1) := by decide +kernel
theorem dU_keepChange_1 : decode cU_keepChange 1 = .ok (.getfield 23, 3) := by decide +kernel
theorem dU_keepChange_4 : decode cU_keepChange 4 = .ok (.ifCond .ne 4, 3) := by decide +kernel
theorem dU_keepChange_7 : decode cU_keepChange 7 = .ok (.return_, 1) := by decide +kernel
theorem dU_keepChange_8 : decode cU_keepChange 8 = .ok (.aload_n 0, 1) := by decide +kernel
theorem dU_keepChange_9 : decode cU_keepChange 9 = .ok (.getfield 26, 3) := by decide +kernel
theorem dU_keepChange_12 : decode cU_keepChange 12 = .ok (.aload_n 0, 1) := by decide +kernel
theorem dU_keepChange_13 : decode cU_keepChange 13 = .ok (.getfield 35, 3) := by decide +kernel
theorem dU_keepChange_16 : decode cU_keepChange 16 = .ok (.iload_n 1, 1) := by decide +kernel
theorem dU_keepChange_17 : decode cU_keepChange 17 = .ok (.iastore, 1) := by decide +kernel
theorem dU_keepChange_18 : decode cU_keepChange 18 = .ok (.aload_n 0, 1) := by decide +kernel
theorem dU_keepChange_19 : decode cU_keepChange 19 = .ok (.getfield 29, 3) := by decide +kernel
theorem dU_keepChange_22 : decode cU_keepChange 22 = .ok (.aload_n 0, 1) := by decide +kernel
theorem dU_keepChange_23 : decode cU_keepChange 23 = .ok (.getfield 35, 3) := by decide +kernel
theorem dU_keepChange_26 : decode cU_keepChange 26 = .ok (.iload_n 2, 1) := by decide +kernel
theorem dU_keepChange_27 : decode cU_keepChange 27 = .ok (.iastore, 1) := by decide +kernel
theorem dU_keepChange_28 : decode cU_keepChange 28 = .ok (.aload_n 0, 1) := by decide +kernel
theorem dU_keepChange_29 : decode cU_keepChange 29 = .ok (.getfield 9, 3) := by decide +kernel
theorem dU_keepChange_32 : decode cU_keepChange 32 = .ok (.iload_n 2, 1) := by decide +kernel
theorem dU_keepChange_33 : decode cU_keepChange 33 = .ok (.iconst 4, 1) := by decide +kernel
theorem dU_keepChange_34 : decode cU_keepChange 34 = .ok (.imul, 1) := by decide +kernel
theorem dU_keepChange_35 : decode cU_keepChange 35 = .ok (.aload_n 0, 1) := by decide +kernel
theorem dU_keepChange_36 : decode cU_keepChange 36 = .ok (.getfield 32, 3) := by decide +kernel
theorem dU_keepChange_39 : decode cU_keepChange 39 = .ok (.aload_n 0, 1) := by decide +kernel
theorem dU_keepChange_40 : decode cU_keepChange 40 = .ok (.getfield 35, 3) := by decide +kernel
theorem dU_keepChange_43 : decode cU_keepChange 43 = .ok (.iconst 4, 1) := by decide +kernel
theorem dU_keepChange_44 : decode cU_keepChange 44 = .ok (.imul, 1) := by decide +kernel
theorem dU_keepChange_45 : decode cU_keepChange 45 = .ok (.iconst 4, 1) := by decide +kernel
