theorem dM_insert_105 : decode cM_insert 105 = .ok (.getfield 36, 3) := by decide +kernel
theorem dM_insert_108 : decode cM_insert 108 = .ok (.imul, 1) := by decide +kernel
theorem dM_insert_109 : decode cM_insert 109 = .ok (.iload 6, 2) := by decide +kernel
theorem dM_insert_111 : decode cM_insert 111 = .ok (.iadd, 1) := by decide +kernel
theorem dM_insert_112 : decode cM_insert 112 = .ok (.iload 4, 2) := by decide +kernel
theorem dM_insert_114 : decode cM_insert 114 = .ok (.iload 6, 2) := by decide +kernel
theorem dM_insert_116 : decode cM_insert 116 = .ok (.ishr, 1) := by decide +kernel
theorem dM_insert_117 : decode cM_insert 117 = .ok (.iconst 1, 1) := by decide +kernel
theorem dM_insert_118 : decode cM_insert 118 = .ok (.iand, 1) := by decide +kernel
theorem dM_insert_119 : decode cM_insert 119 = .ok (.ifCond .eq 7, 3) := by decide +kernel
theorem dM_insert_122 : decode cM_insert 122 = .ok (.iconst 1, 1) := by decide +kernel
theorem dM_insert_123 : decode cM_insert 123 = .ok (.goto 4, 3) := by decide +kernel
theorem dM_insert_126 : decode cM_insert 126 = .ok (.iconst 0, 1) := by decide +kernel
theorem dM_insert_127 : decode cM_insert 127 = .ok (.bastore, 1) := by decide +kernel
theorem dM_insert_128 : decode cM_insert 128 = .ok (.aload_n 0, 1) := by decide +kernel
theorem dM_insert_129 : decode cM_insert 129 = .ok (.getfield 9, 3) := by decide +kernel
theorem dM_insert_132 : decode cM_insert 132 = .ok (.iconst 3, 1) := by decide +kernel
theorem dM_insert_133 : decode cM_insert 133 = .ok (.aload_n 0, 1) := by decide +kernel
theorem dM_insert_134 : decode cM_insert 134 = .ok (.getfield 36, 3) := by decide +kernel
theorem dM_insert_137 : decode cM_insert 137 = .ok (.imul, 1) := by decide +kernel
theorem dM_insert_138 : decode cM_insert 138 = .ok (.iload 6, 2) := by decide +kernel
theorem dM_insert_140 : decode cM_insert 140 = .ok (.iadd, 1) := by decide +kernel
theorem dM_insert_141 : decode cM_insert 141 = .ok (.iload 6, 2) := by decide +kernel
theorem dM_insert_143 : decode cM_insert 143 = .ok (.ifCond .ne 7, 3) := by decide +kernel
theorem dM_insert_146 : decode cM_insert 146 = .ok (.iload_n 1, 1) := by decide +kernel
theorem dM_insert_147 : decode cM_insert 147 = .ok (.goto 14, 3) := by decide +kernel
theorem dM_insert_150 : decode cM_insert 150 = .ok (.iload 6, 2) := by decide +kernel
theorem dM_insert_152 : decode cM_insert 152 = .ok (.iconst 1, 1) := by decide +kernel
theorem dM_insert_153 : decode cM_insert 153 = .ok (.if_icmp .ne 7, 3) := by decide +kernel
theorem dM_insert_156 : decode cM_insert 156 = .ok (.iload_n 2, 1) := by decide +kernel
theorem dM_insert_157 : decode cM_insert 157 = .ok (.goto 4, 3) := by decide +kernel
theorem dM_insert_160 : decode cM_insert 160 = .ok (.iload_n 3, 1) := by decide +kernel
theorem dM_insert_161 : decode cM_insert 161 = .ok (.iastore, 1) := by decide +kernel
theorem dM_insert_162 : decode cM_insert 162 = .ok (.iinc 6 1, 3) := by decide +kernel
theorem dM_insert_165 : decode cM_insert 165 = .ok (.goto (-72), 3) := by decide +kernel
theorem dM_insert_168 : decode cM_insert 168 = .ok (.aload_n 0, 1) := by decide +kernel
theorem dM_insert_169 : decode cM_insert 169 = .ok (.dup, 1) := by decide +kernel
theorem dM_insert_170 : decode cM_insert 170 = .ok (.getfield 36, 3) := by decide +kernel
theorem dM_insert_173 : decode cM_insert 173 = .ok (.iconst 1, 1) := by decide +kernel
theorem dM_insert_174 : decode cM_insert 174 = .ok (.iadd, 1) := by decide +kernel
theorem dM_insert_175 : decode cM_insert 175 = .ok (.putfield 36, 3) := by decide +kernel
theorem dM_insert_178 : decode cM_insert 178 = .ok (.aload_n 0, 1) := by decide +kernel
theorem dM_insert_179 : decode cM_insert 179 = .ok (.invokevirtual 57, 3) := by decide +kernel
theorem dM_insert_182 : decode cM_insert 182 = .ok (.aload_n 0, 1) := by decide +kernel
theorem dM_insert_183 : decode cM_insert 183 = .ok (.getfield 36, 3) := by decide +kernel
theorem dM_insert_186 : decode cM_insert 186 = .ok (.iconst 1, 1) := by decide +kernel
theorem dM_insert_187 : decode cM_insert 187 = .ok (.isub, 1) := by decide +kernel
theorem dM_insert_188 : decode cM_insert 188 = .ok (.ireturn, 1) := by decide +kernel
theorem dM_isRow_0 : decode cM_isRow 0 = .ok (.iload_n 1, 1) := by decide +kernel
theorem dM_isRow_1 : decode cM_isRow 1 = .ok (.ifCond .lt 15, 3) := by decide +kernel
theorem dM_isRow_4 : decode cM_isRow 4 = .ok (.iload_n 1, 1) := by decide +kernel
theorem dM_isRow_5 : decode cM_isRow 5 = .ok (.aload_n 0, 1) := by decide +kernel
theorem dM_isRow_6 : decode cM_isRow 6 = .ok (.getfield 36, 3) := by decide +kernel
theorem dM_isRow_9 : decode cM_isRow 9 = .ok (.if_icmp .ge 7, 3) := by decide +kernel
theorem dM_isRow_12 : decode cM_isRow 12 = .ok (.iconst 1, 1) := by decide +kernel
theorem dM_isRow_13 : decode cM_isRow 13 = .ok (.goto 4, 3) := by decide +kernel
theorem dM_isRow_16 : decode cM_isRow 16 = .ok (.iconst 0, 1) := by decide +kernel
theorem dM_isRow_17 : decode cM_isRow 17 = .ok (.ireturn, 1) := by decide +kernel
theorem dM_set_0 : decode cM_set 0 = .ok (.aload_n 0, 1) := by decide +kernel
theorem dM_set_1 : decode cM_set 1 = .ok (.iload_n 2, 1) := by decide +kernel
theorem dM_set_2 : decode cM_set 2 = .ok (.ifCond .lt 8, 3) := by decide +kernel
theorem dM_set_5 : decode cM_set 5 = .ok (.iload_n 2, 1) := by decide +kernel
theorem dM_set_6 : decode cM_set 6 = .ok (.iconst 2, 1) := by decide +kernel
theorem dM_set_7 : decode cM_set 7 = .ok (.if_icmp .le 7, 3) := by decide +kernel
theorem dM_set_10 : decode cM_set 10 = .ok (.iconst 1, 1) := by decide +kernel
theorem dM_set_11 : decode cM_set 11 = .ok (.goto 16, 3) := by decide +kernel
theorem dM_set_14 : decode cM_set 14 = .ok (.aload_n 0, 1) := by decide +kernel
theorem dM_set_15 : decode cM_set 15 = .ok (.iload_n 1, 1) := by decide +kernel
theorem dM_set_16 : decode cM_set 16 = .ok (.invokevirtual 60, 3) := by decide +kernel
theorem dM_set_19 : decode cM_set 19 = .ok (.ifCond .ne 7, 3) := by decide +kernel
theorem dM_set_22 : decode cM_set 22 = .ok (.iconst 3, 1) := by decide +kernel
theorem dM_set_23 : decode cM_set 23 = .ok (.goto 4, 3) := by decide +kernel
theorem dM_set_26 : decode cM_set 26 = .ok (.iconst 0, 1) := by decide +kernel
theorem dM_set_27 : decode cM_set 27 = .ok (.putfield 32, 3) := by decide +kernel
theorem dM_set_30 : decode cM_set 30 = .ok (.aload_n 0, 1) := by decide +kernel
theorem dM_set_31 : decode cM_set 31 = .ok (.getfield 32, 3) := by decide +kernel
theorem dM_set_34 : decode cM_set 34 = .ok (.ifCond .eq 4, 3) := by decide +kernel
theorem dM_set_37 : decode cM_set 37 = .ok (.return_, 1) := by decide +kernel
theorem dM_set_38 : decode cM_set 38 = .ok (.iload 4, 2) := by decide +kernel
theorem dM_set_40 : decode cM_set 40 = .ok (.ifCond .ne 8, 3) := by decide +kernel
theorem dM_set_43 : decode cM_set 43 = .ok (.iload_n 2, 1) := by decide +kernel
theorem dM_set_44 : decode cM_set 44 = .ok (.iconst 2, 1) := by decide +kernel
theorem dM_set_45 : decode cM_set 45 = .ok (.if_icmp .ne 7, 3) := by decide +kernel
theorem dM_set_48 : decode cM_set 48 = .ok (.iconst (-1), 1) := by decide +kernel
theorem dM_set_49 : decode cM_set 49 = .ok (.goto 9, 3) := by decide +kernel
theorem dM_set_52 : decode cM_set 52 = .ok (.aload_n 0, 1) := by decide +kernel
theorem dM_set_53 : decode cM_set 53 = .ok (.iload_n 2, 1) := by decide +kernel
theorem dM_set_54 : decode cM_set 54 = .ok (.iload_n 3, 1) := by decide +kernel
theorem dM_set_55 : decode cM_set 55 = .ok (.invokevirtual 53, 3) := by decide +kernel
theorem dM_set_58 : decode cM_set 58 = .ok (.istore 5, 2) := by decide +kernel
theorem dM_set_60 : decode cM_set 60 = .ok (.aload_n 0, 1) := by decide +kernel
theorem dM_set_61 : decode cM_set 61 = .ok (.iconst 1, 1) := by decide +kernel
theorem dM_set_62 : decode cM_set 62 = .ok (.invokevirtual 49, 3) := by decide +kernel
theorem dM_set_65 : decode cM_set 65 = .ok (.ifCond .ne 23, 3) := by decide +kernel
theorem dM_set_68 : decode cM_set 68 = .ok (.iload 4, 2) := by decide +kernel
theorem dM_set_70 : decode cM_set 70 = .ok (.ifCond .eq 7, 3) := by decide +kernel
theorem dM_set_73 : decode cM_set 73 = .ok (.iload_n 2, 1) := by decide +kernel
theorem dM_set_74 : decode cM_set 74 = .ok (.ifCond .eq 14, 3) := by decide +kernel
theorem dM_set_77 : decode cM_set 77 = .ok (.iload 5, 2) := by decide +kernel
theorem dM_set_79 : decode cM_set 79 = .ok (.ifCond .lt 14, 3) := by decide +kernel
theorem dM_set_82 : decode cM_set 82 = .ok (.iload 5, 2) := by decide +kernel
theorem dM_set_84 : decode cM_set 84 = .ok (.iload_n 1, 1) := by decide +kernel
theorem dM_set_85 : decode cM_set 85 = .ok (.if_icmp .eq 8, 3) := by decide +kernel
theorem dM_set_88 : decode cM_set 88 = .ok (.aload_n 0, 1) := by decide +kernel
theorem dM_set_89 : decode cM_set 89 = .ok (.iconst 2, 1) := by decide +kernel
theorem dM_set_90 : decode cM_set 90 = .ok (.putfield 32, 3) := by decide +kernel
theorem dM_set_93 : decode cM_set 93 = .ok (.aload_n 0, 1) := by decide +kernel
theorem dM_set_94 : decode cM_set 94 = .ok (.getfield 32, 3) := by decide +kernel
theorem dM_set_97 : decode cM_set 97 = .ok (.ifCond .eq 4, 3) := by decide +kernel
theorem dM_set_100 : decode cM_set 100 = .ok (.return_, 1) := by decide +kernel
theorem dM_set_101 : decode cM_set 101 = .ok (.aload_n 0, 1) := by decide +kernel
theorem dM_set_102 : decode cM_set 102 = .ok (.getfield 16, 3) := by decide +kernel
theorem dM_set_105 : decode cM_set 105 = .ok (.iconst 3, 1) := by decide +kernel
theorem dM_set_106 : decode cM_set 106 = .ok (.iload_n 1, 1) := by decide +kernel
theorem dM_set_107 : decode cM_set 107 = .ok (.imul, 1) := by decide +kernel
theorem dM_set_108 : decode cM_set 108 = .ok (.iload_n 2, 1) := by decide +kernel
theorem dM_set_109 : decode cM_set 109 = .ok (.iadd, 1) := by decide +kernel
theorem dM_set_110 : decode cM_set 110 = .ok (.iload 4, 2) := by decide +kernel
theorem dM_set_112 : decode cM_set 112 = .ok (.ifCond .ne 7, 3) := by decide +kernel
theorem dM_set_115 : decode cM_set 115 = .ok (.iconst 1, 1) := by decide +kernel
theorem dM_set_116 : decode cM_set 116 = .ok (.goto 4, 3) := by decide +kernel
theorem dM_set_119 : decode cM_set 119 = .ok (.iconst 0, 1) := by decide +kernel
theorem dM_set_120 : decode cM_set 120 = .ok (.bastore, 1) := by decide +kernel
theorem dM_set_121 : decode cM_set 121 = .ok (.aload_n 0, 1) := by decide +kernel
theorem dM_set_122 : decode cM_set 122 = .ok (.getfield 9, 3) := by decide +kernel
theorem dM_set_125 : decode cM_set 125 = .ok (.iconst 3, 1) := by decide +kernel
theorem dM_set_126 : decode cM_set 126 = .ok (.iload_n 1, 1) := by decide +kernel
theorem dM_set_127 : decode cM_set 127 = .ok (.imul, 1) := by decide +kernel
theorem dM_set_128 : decode cM_set 128 = .ok (.iload_n 2, 1) := by decide +kernel
theorem dM_set_129 : decode cM_set 129 = .ok (.iadd, 1) := by decide +kernel
theorem dM_set_130 : decode cM_set 130 = .ok (.iload_n 3, 1) := by decide +kernel
theorem dM_set_131 : decode cM_set 131 = .ok (.iastore, 1) := by decide +kernel
theorem dM_set_132 : decode cM_set 132 = .ok (.aload_n 0, 1) := by decide +kernel
theorem dM_set_133 : decode cM_set 133 = .ok (.invokevirtual 57, 3) := by decide +kernel
theorem dM_set_136 : decode cM_set 136 = .ok (.return_, 1) := by decide +kernel
theorem dM_take_0 : decode cM_take 0 = .ok (.aload_n 0, 1) := by decide +kernel
theorem dM_take_1 : decode cM_take 1 = .ok (.dup, 1) := by decide +kernel
theorem dM_take_2 : decode cM_take 2 = .ok (.getfield 36, 3) := by decide +kernel
theorem dM_take_5 : decode cM_take 5 = .ok (.iconst 1, 1) := by decide +kernel
theorem dM_take_6 : decode cM_take 6 = .ok (.isub, 1) := by decide +kernel
theorem dM_take_7 : decode cM_take 7 = .ok (.putfield 36, 3) := by decide +kernel
theorem dM_take_10 : decode cM_take 10 = .ok (.iconst 3, 1) := by decide +kernel
theorem dM_take_11 : decode cM_take 11 = .ok (.iload_n 1, 1) := by decide +kernel
theorem dM_take_12 : decode cM_take 12 = .ok (.imul, 1) := by decide +kernel
theorem dM_take_13 : decode cM_take 13 = .ok (.istore_n 2, 1) := by decide +kernel
theorem dM_take_14 : decode cM_take 14 = .ok (.iload_n 2, 1) := by decide +kernel
theorem dM_take_15 : decode cM_take 15 = .ok (.iconst 3, 1) := by decide +kernel
theorem dM_take_16 : decode cM_take 16 = .ok (.aload_n 0, 1) := by decide +kernel
theorem dM_take_17 : decode cM_take 17 = .ok (.getfield 36, 3) := by decide +kernel
theorem dM_take_20 : decode cM_take 20 = .ok (.imul, 1) := by decide +kernel
