theorem d_Model_thrown_0 : decode b_Model_thrown 0 = .ok (.aload_n 0, 1) := by decide +kernel
theorem d_Model_thrown_1 : decode b_Model_thrown 1 = .ok (.getfield 56, 3) := by decide +kernel
theorem d_Model_thrown_4 : decode b_Model_thrown 4 = .ok (.ireturn, 1) := by decide +kernel
theorem d_Model_fails_0 : decode b_Model_fails 0 = .ok (.aload_n 0, 1) := by decide +kernel
theorem d_Model_fails_1 : decode b_Model_fails 1 = .ok (.iload_n 1, 1) := by decide +kernel
theorem d_Model_fails_2 : decode b_Model_fails 2 = .ok (.ifCond .eq 7, 3) := by decide +kernel
theorem d_Model_fails_5 : decode b_Model_fails 5 = .ok (.iconst 1, 1) := by decide +kernel
theorem d_Model_fails_6 : decode b_Model_fails 6 = .ok (.goto 12, 3) := by decide +kernel
theorem d_Model_fails_9 : decode b_Model_fails 9 = .ok (.iload_n 2, 1) := by decide +kernel
theorem d_Model_fails_10 : decode b_Model_fails 10 = .ok (.ifCond .eq 7, 3) := by decide +kernel
theorem d_Model_fails_13 : decode b_Model_fails 13 = .ok (.iconst 2, 1) := by decide +kernel
theorem d_Model_fails_14 : decode b_Model_fails 14 = .ok (.goto 4, 3) := by decide +kernel
theorem d_Model_fails_17 : decode b_Model_fails 17 = .ok (.iconst 0, 1) := by decide +kernel
theorem d_Model_fails_18 : decode b_Model_fails 18 = .ok (.putfield 56, 3) := by decide +kernel
theorem d_Model_fails_21 : decode b_Model_fails 21 = .ok (.aload_n 0, 1) := by decide +kernel
theorem d_Model_fails_22 : decode b_Model_fails 22 = .ok (.getfield 56, 3) := by decide +kernel
theorem d_Model_fails_25 : decode b_Model_fails 25 = .ok (.ifCond .le 7, 3) := by decide +kernel
theorem d_Model_fails_28 : decode b_Model_fails 28 = .ok (.iconst 1, 1) := by decide +kernel
theorem d_Model_fails_29 : decode b_Model_fails 29 = .ok (.goto 4, 3) := by decide +kernel
theorem d_Model_fails_32 : decode b_Model_fails 32 = .ok (.iconst 0, 1) := by decide +kernel
theorem d_Model_fails_33 : decode b_Model_fails 33 = .ok (.ireturn, 1) := by decide +kernel
theorem d_Model_many_0 : decode b_Model_many 0 = .ok (.iload_n 0, 1) := by decide +kernel
theorem d_Model_many_1 : decode b_Model_many 1 = .ok (.ifCond .eq 8, 3) := by decide +kernel
theorem d_Model_many_4 : decode b_Model_many 4 = .ok (.iload_n 0, 1) := by decide +kernel
theorem d_Model_many_5 : decode b_Model_many 5 = .ok (.iconst 3, 1) := by decide +kernel
theorem d_Model_many_6 : decode b_Model_many 6 = .ok (.if_icmp .ne 5, 3) := by decide +kernel
theorem d_Model_many_9 : decode b_Model_many 9 = .ok (.iconst 0, 1) := by decide +kernel
theorem d_Model_many_10 : decode b_Model_many 10 = .ok (.ireturn, 1) := by decide +kernel
theorem d_Model_many_11 : decode b_Model_many 11 = .ok (.iload_n 0, 1) := by decide +kernel
theorem d_Model_many_12 : decode b_Model_many 12 = .ok (.iconst 1, 1) := by decide +kernel
theorem d_Model_many_13 : decode b_Model_many 13 = .ok (.if_icmp .eq 15, 3) := by decide +kernel
theorem d_Model_many_16 : decode b_Model_many 16 = .ok (.iload_n 0, 1) := by decide +kernel
theorem d_Model_many_17 : decode b_Model_many 17 = .ok (.bipush 9, 2) := by decide +kernel
theorem d_Model_many_19 : decode b_Model_many 19 = .ok (.if_icmp .eq 9, 3) := by decide +kernel
theorem d_Model_many_22 : decode b_Model_many 22 = .ok (.iload_n 0, 1) := by decide +kernel
theorem d_Model_many_23 : decode b_Model_many 23 = .ok (.bipush 11, 2) := by decide +kernel
theorem d_Model_many_25 : decode b_Model_many 25 = .ok (.if_icmp .le 5, 3) := by decide +kernel
theorem d_Model_many_28 : decode b_Model_many 28 = .ok (.iconst 1, 1) := by decide +kernel
theorem d_Model_many_29 : decode b_Model_many 29 = .ok (.ireturn, 1) := by decide +kernel
theorem d_Model_many_30 : decode b_Model_many 30 = .ok (.iload_n 0, 1) := by decide +kernel
theorem d_Model_many_31 : decode b_Model_many 31 = .ok (.bipush 8, 2) := by decide +kernel
theorem d_Model_many_33 : decode b_Model_many 33 = .ok (.if_icmp .ne 7, 3) := by decide +kernel
theorem d_Model_many_36 : decode b_Model_many 36 = .ok (.iconst 3, 1) := by decide +kernel
theorem d_Model_many_37 : decode b_Model_many 37 = .ok (.goto 4, 3) := by decide +kernel
theorem d_Model_many_40 : decode b_Model_many 40 = .ok (.iconst 2, 1) := by decide +kernel
theorem d_Model_many_41 : decode b_Model_many 41 = .ok (.ireturn, 1) := by decide +kernel
theorem d_Model_meet_0 : decode b_Model_meet 0 = .ok (.iload_n 1, 1) := by decide +kernel
theorem d_Model_meet_1 : decode b_Model_meet 1 = .ok (.ifCond .lt 12, 3) := by decide +kernel
theorem d_Model_meet_4 : decode b_Model_meet 4 = .ok (.aload_n 0, 1) := by decide +kernel
theorem d_Model_meet_5 : decode b_Model_meet 5 = .ok (.getfield 40, 3) := by decide +kernel
theorem d_Model_meet_8 : decode b_Model_meet 8 = .ok (.iload_n 1, 1) := by decide +kernel
theorem d_Model_meet_9 : decode b_Model_meet 9 = .ok (.baload, 1) := by decide +kernel
theorem d_Model_meet_10 : decode b_Model_meet 10 = .ok (.ifCond .eq 4, 3) := by decide +kernel
theorem d_Model_meet_13 : decode b_Model_meet 13 = .ok (.return_, 1) := by decide +kernel
theorem d_Model_meet_14 : decode b_Model_meet 14 = .ok (.aload_n 0, 1) := by decide +kernel
theorem d_Model_meet_15 : decode b_Model_meet 15 = .ok (.getfield 40, 3) := by decide +kernel
theorem d_Model_meet_18 : decode b_Model_meet 18 = .ok (.iload_n 1, 1) := by decide +kernel
theorem d_Model_meet_19 : decode b_Model_meet 19 = .ok (.iconst 1, 1) := by decide +kernel
theorem d_Model_meet_20 : decode b_Model_meet 20 = .ok (.bastore, 1) := by decide +kernel
theorem d_Model_meet_21 : decode b_Model_meet 21 = .ok (.aload_n 0, 1) := by decide +kernel
theorem d_Model_meet_22 : decode b_Model_meet 22 = .ok (.getfield 44, 3) := by decide +kernel
theorem d_Model_meet_25 : decode b_Model_meet 25 = .ok (.aload_n 0, 1) := by decide +kernel
theorem d_Model_meet_26 : decode b_Model_meet 26 = .ok (.getfield 102, 3) := by decide +kernel
theorem d_Model_meet_29 : decode b_Model_meet 29 = .ok (.iload_n 1, 1) := by decide +kernel
theorem d_Model_meet_30 : decode b_Model_meet 30 = .ok (.iastore, 1) := by decide +kernel
theorem d_Model_meet_31 : decode b_Model_meet 31 = .ok (.aload_n 0, 1) := by decide +kernel
theorem d_Model_meet_32 : decode b_Model_meet 32 = .ok (.dup, 1) := by decide +kernel
theorem d_Model_meet_33 : decode b_Model_meet 33 = .ok (.getfield 102, 3) := by decide +kernel
theorem d_Model_meet_36 : decode b_Model_meet 36 = .ok (.iconst 1, 1) := by decide +kernel
theorem d_Model_meet_37 : decode b_Model_meet 37 = .ok (.iadd, 1) := by decide +kernel
theorem d_Model_meet_38 : decode b_Model_meet 38 = .ok (.putfield 102, 3) := by decide +kernel
theorem d_Model_meet_41 : decode b_Model_meet 41 = .ok (.return_, 1) := by decide +kernel
theorem d_Model_meetValue_0 : decode b_Model_meetValue 0 = .ok (.iload_n 1, 1) := by decide +kernel
theorem d_Model_meetValue_1 : decode b_Model_meetValue 1 = .ok (.iconst 1, 1) := by decide +kernel
theorem d_Model_meetValue_2 : decode b_Model_meetValue 2 = .ok (.if_icmp .ne 8, 3) := by decide +kernel
theorem d_Model_meetValue_5 : decode b_Model_meetValue 5 = .ok (.aload_n 0, 1) := by decide +kernel
theorem d_Model_meetValue_6 : decode b_Model_meetValue 6 = .ok (.iload_n 3, 1) := by decide +kernel
theorem d_Model_meetValue_7 : decode b_Model_meetValue 7 = .ok (.invokevirtual 105, 3) := by decide +kernel
theorem d_Model_meetValue_10 : decode b_Model_meetValue 10 = .ok (.iload_n 1, 1) := by decide +kernel
theorem d_Model_meetValue_11 : decode b_Model_meetValue 11 = .ok (.iconst 2, 1) := by decide +kernel
theorem d_Model_meetValue_12 : decode b_Model_meetValue 12 = .ok (.if_icmp .ne 13, 3) := by decide +kernel
theorem d_Model_meetValue_15 : decode b_Model_meetValue 15 = .ok (.aload_n 0, 1) := by decide +kernel
theorem d_Model_meetValue_16 : decode b_Model_meetValue 16 = .ok (.iload_n 2, 1) := by decide +kernel
theorem d_Model_meetValue_17 : decode b_Model_meetValue 17 = .ok (.invokevirtual 105, 3) := by decide +kernel
theorem d_Model_meetValue_20 : decode b_Model_meetValue 20 = .ok (.aload_n 0, 1) := by decide +kernel
theorem d_Model_meetValue_21 : decode b_Model_meetValue 21 = .ok (.iload_n 3, 1) := by decide +kernel
theorem d_Model_meetValue_22 : decode b_Model_meetValue 22 = .ok (.invokevirtual 105, 3) := by decide +kernel
theorem d_Model_meetValue_25 : decode b_Model_meetValue 25 = .ok (.return_, 1) := by decide +kernel
theorem d_Model_mark_0 : decode b_Model_mark 0 = .ok (.aload_n 0, 1) := by decide +kernel
theorem d_Model_mark_1 : decode b_Model_mark 1 = .ok (.iconst 0, 1) := by decide +kernel
theorem d_Model_mark_2 : decode b_Model_mark 2 = .ok (.putfield 102, 3) := by decide +kernel
theorem d_Model_mark_5 : decode b_Model_mark 5 = .ok (.iconst 0, 1) := by decide +kernel
theorem d_Model_mark_6 : decode b_Model_mark 6 = .ok (.istore_n 1, 1) := by decide +kernel
theorem d_Model_mark_7 : decode b_Model_mark 7 = .ok (.iload_n 1, 1) := by decide +kernel
theorem d_Model_mark_8 : decode b_Model_mark 8 = .ok (.sipush 256, 3) := by decide +kernel
theorem d_Model_mark_11 : decode b_Model_mark 11 = .ok (.if_icmp .ge 16, 3) := by decide +kernel
theorem d_Model_mark_14 : decode b_Model_mark 14 = .ok (.aload_n 0, 1) := by decide +kernel
theorem d_Model_mark_15 : decode b_Model_mark 15 = .ok (.getfield 40, 3) := by decide +kernel
theorem d_Model_mark_18 : decode b_Model_mark 18 = .ok (.iload_n 1, 1) := by decide +kernel
theorem d_Model_mark_19 : decode b_Model_mark 19 = .ok (.iconst 0, 1) := by decide +kernel
theorem d_Model_mark_20 : decode b_Model_mark 20 = .ok (.bastore, 1) := by decide +kernel
theorem d_Model_mark_21 : decode b_Model_mark 21 = .ok (.iinc 1 1, 3) := by decide +kernel
theorem d_Model_mark_24 : decode b_Model_mark 24 = .ok (.goto (-17), 3) := by decide +kernel
theorem d_Model_mark_27 : decode b_Model_mark 27 = .ok (.aload_n 0, 1) := by decide +kernel
theorem d_Model_mark_28 : decode b_Model_mark 28 = .ok (.getfield 92, 3) := by decide +kernel
theorem d_Model_mark_31 : decode b_Model_mark 31 = .ok (.ifCond .ne 11, 3) := by decide +kernel
theorem d_Model_mark_34 : decode b_Model_mark 34 = .ok (.aload_n 0, 1) := by decide +kernel
theorem d_Model_mark_35 : decode b_Model_mark 35 = .ok (.getfield 70, 3) := by decide +kernel
theorem d_Model_mark_38 : decode b_Model_mark 38 = .ok (.iconst 2, 1) := by decide +kernel
theorem d_Model_mark_39 : decode b_Model_mark 39 = .ok (.if_icmp .ne 22, 3) := by decide +kernel
theorem d_Model_mark_42 : decode b_Model_mark 42 = .ok (.aload_n 0, 1) := by decide +kernel
theorem d_Model_mark_43 : decode b_Model_mark 43 = .ok (.aload_n 0, 1) := by decide +kernel
theorem d_Model_mark_44 : decode b_Model_mark 44 = .ok (.getfield 109, 3) := by decide +kernel
theorem d_Model_mark_47 : decode b_Model_mark 47 = .ok (.aload_n 0, 1) := by decide +kernel
theorem d_Model_mark_48 : decode b_Model_mark 48 = .ok (.getfield 112, 3) := by decide +kernel
theorem d_Model_mark_51 : decode b_Model_mark 51 = .ok (.aload_n 0, 1) := by decide +kernel
theorem d_Model_mark_52 : decode b_Model_mark 52 = .ok (.getfield 115, 3) := by decide +kernel
theorem d_Model_mark_55 : decode b_Model_mark 55 = .ok (.invokevirtual 118, 3) := by decide +kernel
theorem d_Model_mark_58 : decode b_Model_mark 58 = .ok (.goto 11, 3) := by decide +kernel
theorem d_Model_mark_61 : decode b_Model_mark 61 = .ok (.aload_n 0, 1) := by decide +kernel
theorem d_Model_mark_62 : decode b_Model_mark 62 = .ok (.aload_n 0, 1) := by decide +kernel
theorem d_Model_mark_63 : decode b_Model_mark 63 = .ok (.getfield 99, 3) := by decide +kernel
theorem d_Model_mark_66 : decode b_Model_mark 66 = .ok (.invokevirtual 105, 3) := by decide +kernel
theorem d_Model_mark_69 : decode b_Model_mark 69 = .ok (.iconst 0, 1) := by decide +kernel
theorem d_Model_mark_70 : decode b_Model_mark 70 = .ok (.istore_n 1, 1) := by decide +kernel
theorem d_Model_mark_71 : decode b_Model_mark 71 = .ok (.iload_n 1, 1) := by decide +kernel
theorem d_Model_mark_72 : decode b_Model_mark 72 = .ok (.aload_n 0, 1) := by decide +kernel
theorem d_Model_mark_73 : decode b_Model_mark 73 = .ok (.getfield 86, 3) := by decide +kernel
theorem d_Model_mark_76 : decode b_Model_mark 76 = .ok (.if_icmp .ge 68, 3) := by decide +kernel
theorem d_Model_mark_79 : decode b_Model_mark 79 = .ok (.aload_n 0, 1) := by decide +kernel
theorem d_Model_mark_80 : decode b_Model_mark 80 = .ok (.getfield 47, 3) := by decide +kernel
theorem d_Model_mark_83 : decode b_Model_mark 83 = .ok (.iload_n 1, 1) := by decide +kernel
theorem d_Model_mark_84 : decode b_Model_mark 84 = .ok (.iaload, 1) := by decide +kernel
theorem d_Model_mark_85 : decode b_Model_mark 85 = .ok (.ifCond .eq 13, 3) := by decide +kernel
theorem d_Model_mark_88 : decode b_Model_mark 88 = .ok (.aload_n 0, 1) := by decide +kernel
theorem d_Model_mark_89 : decode b_Model_mark 89 = .ok (.getfield 47, 3) := by decide +kernel
theorem d_Model_mark_92 : decode b_Model_mark 92 = .ok (.iload_n 1, 1) := by decide +kernel
theorem d_Model_mark_93 : decode b_Model_mark 93 = .ok (.iaload, 1) := by decide +kernel
theorem d_Model_mark_94 : decode b_Model_mark 94 = .ok (.iconst 1, 1) := by decide +kernel
theorem d_Model_mark_95 : decode b_Model_mark 95 = .ok (.if_icmp .ne 13, 3) := by decide +kernel
theorem d_Model_mark_98 : decode b_Model_mark 98 = .ok (.aload_n 0, 1) := by decide +kernel
theorem d_Model_mark_99 : decode b_Model_mark 99 = .ok (.aload_n 0, 1) := by decide +kernel
theorem d_Model_mark_100 : decode b_Model_mark 100 = .ok (.getfield 50, 3) := by decide +kernel
theorem d_Model_mark_103 : decode b_Model_mark 103 = .ok (.iload_n 1, 1) := by decide +kernel
theorem d_Model_mark_104 : decode b_Model_mark 104 = .ok (.iaload, 1) := by decide +kernel
theorem d_Model_mark_105 : decode b_Model_mark 105 = .ok (.invokevirtual 105, 3) := by decide +kernel
theorem d_Model_mark_108 : decode b_Model_mark 108 = .ok (.aload_n 0, 1) := by decide +kernel
theorem d_Model_mark_109 : decode b_Model_mark 109 = .ok (.getfield 47, 3) := by decide +kernel
theorem d_Model_mark_112 : decode b_Model_mark 112 = .ok (.iload_n 1, 1) := by decide +kernel
theorem d_Model_mark_113 : decode b_Model_mark 113 = .ok (.iaload, 1) := by decide +kernel
theorem d_Model_mark_114 : decode b_Model_mark 114 = .ok (.iconst 2, 1) := by decide +kernel
theorem d_Model_mark_115 : decode b_Model_mark 115 = .ok (.if_icmp .eq 13, 3) := by decide +kernel
theorem d_Model_mark_118 : decode b_Model_mark 118 = .ok (.aload_n 0, 1) := by decide +kernel
theorem d_Model_mark_119 : decode b_Model_mark 119 = .ok (.getfield 47, 3) := by decide +kernel
theorem d_Model_mark_122 : decode b_Model_mark 122 = .ok (.iload_n 1, 1) := by decide +kernel
theorem d_Model_mark_123 : decode b_Model_mark 123 = .ok (.iaload, 1) := by decide +kernel
theorem d_Model_mark_124 : decode b_Model_mark 124 = .ok (.iconst 4, 1) := by decide +kernel
theorem d_Model_mark_125 : decode b_Model_mark 125 = .ok (.if_icmp .ne 13, 3) := by decide +kernel
theorem d_Model_mark_128 : decode b_Model_mark 128 = .ok (.aload_n 0, 1) := by decide +kernel
theorem d_Model_mark_129 : decode b_Model_mark 129 = .ok (.aload_n 0, 1) := by decide +kernel
theorem d_Model_mark_130 : decode b_Model_mark 130 = .ok (.getfield 53, 3) := by decide +kernel
theorem d_Model_mark_133 : decode b_Model_mark 133 = .ok (.iload_n 1, 1) := by decide +kernel
theorem d_Model_mark_134 : decode b_Model_mark 134 = .ok (.iaload, 1) := by decide +kernel
theorem d_Model_mark_135 : decode b_Model_mark 135 = .ok (.invokevirtual 105, 3) := by decide +kernel
theorem d_Model_mark_138 : decode b_Model_mark 138 = .ok (.iinc 1 1, 3) := by decide +kernel
theorem d_Model_mark_141 : decode b_Model_mark 141 = .ok (.goto (-70), 3) := by decide +kernel
theorem d_Model_mark_144 : decode b_Model_mark 144 = .ok (.iconst 0, 1) := by decide +kernel
theorem d_Model_mark_145 : decode b_Model_mark 145 = .ok (.istore_n 1, 1) := by decide +kernel
theorem d_Model_mark_146 : decode b_Model_mark 146 = .ok (.iload_n 1, 1) := by decide +kernel
theorem d_Model_mark_147 : decode b_Model_mark 147 = .ok (.aload_n 0, 1) := by decide +kernel
theorem d_Model_mark_148 : decode b_Model_mark 148 = .ok (.getfield 102, 3) := by decide +kernel
theorem d_Model_mark_151 : decode b_Model_mark 151 = .ok (.if_icmp .ge 94, 3) := by decide +kernel
theorem d_Model_mark_154 : decode b_Model_mark 154 = .ok (.aload_n 0, 1) := by decide +kernel
theorem d_Model_mark_155 : decode b_Model_mark 155 = .ok (.getfield 44, 3) := by decide +kernel
theorem d_Model_mark_158 : decode b_Model_mark 158 = .ok (.iload_n 1, 1) := by decide +kernel
theorem d_Model_mark_159 : decode b_Model_mark 159 = .ok (.iaload, 1) := by decide +kernel
theorem d_Model_mark_160 : decode b_Model_mark 160 = .ok (.istore_n 2, 1) := by decide +kernel
theorem d_Model_mark_161 : decode b_Model_mark 161 = .ok (.aload_n 0, 1) := by decide +kernel
theorem d_Model_mark_162 : decode b_Model_mark 162 = .ok (.getfield 31, 3) := by decide +kernel
theorem d_Model_mark_165 : decode b_Model_mark 165 = .ok (.iload_n 2, 1) := by decide +kernel
theorem d_Model_mark_166 : decode b_Model_mark 166 = .ok (.iaload, 1) := by decide +kernel
theorem d_Model_mark_167 : decode b_Model_mark 167 = .ok (.iconst 5, 1) := by decide +kernel
theorem d_Model_mark_168 : decode b_Model_mark 168 = .ok (.if_icmp .ne 26, 3) := by decide +kernel
theorem d_Model_mark_171 : decode b_Model_mark 171 = .ok (.aload_n 0, 1) := by decide +kernel
theorem d_Model_mark_172 : decode b_Model_mark 172 = .ok (.aload_n 0, 1) := by decide +kernel
theorem d_Model_mark_173 : decode b_Model_mark 173 = .ok (.getfield 34, 3) := by decide +kernel
theorem d_Model_mark_176 : decode b_Model_mark 176 = .ok (.iload_n 2, 1) := by decide +kernel
theorem d_Model_mark_177 : decode b_Model_mark 177 = .ok (.iaload, 1) := by decide +kernel
theorem d_Model_mark_178 : decode b_Model_mark 178 = .ok (.invokevirtual 105, 3) := by decide +kernel
theorem d_Model_mark_181 : decode b_Model_mark 181 = .ok (.aload_n 0, 1) := by decide +kernel
theorem d_Model_mark_182 : decode b_Model_mark 182 = .ok (.aload_n 0, 1) := by decide +kernel
theorem d_Model_mark_183 : decode b_Model_mark 183 = .ok (.getfield 37, 3) := by decide +kernel
theorem d_Model_mark_186 : decode b_Model_mark 186 = .ok (.iload_n 2, 1) := by decide +kernel
theorem d_Model_mark_187 : decode b_Model_mark 187 = .ok (.iaload, 1) := by decide +kernel
theorem d_Model_mark_188 : decode b_Model_mark 188 = .ok (.invokevirtual 105, 3) := by decide +kernel
theorem d_Model_mark_191 : decode b_Model_mark 191 = .ok (.goto 48, 3) := by decide +kernel
theorem d_Model_mark_194 : decode b_Model_mark 194 = .ok (.aload_n 0, 1) := by decide +kernel
theorem d_Model_mark_195 : decode b_Model_mark 195 = .ok (.getfield 31, 3) := by decide +kernel
theorem d_Model_mark_198 : decode b_Model_mark 198 = .ok (.iload_n 2, 1) := by decide +kernel
theorem d_Model_mark_199 : decode b_Model_mark 199 = .ok (.iaload, 1) := by decide +kernel
theorem d_Model_mark_200 : decode b_Model_mark 200 = .ok (.iconst 3, 1) := by decide +kernel
theorem d_Model_mark_201 : decode b_Model_mark 201 = .ok (.if_icmp .ne 16, 3) := by decide +kernel
theorem d_Model_mark_204 : decode b_Model_mark 204 = .ok (.aload_n 0, 1) := by decide +kernel
theorem d_Model_mark_205 : decode b_Model_mark 205 = .ok (.aload_n 0, 1) := by decide +kernel
theorem d_Model_mark_206 : decode b_Model_mark 206 = .ok (.getfield 37, 3) := by decide +kernel
theorem d_Model_mark_209 : decode b_Model_mark 209 = .ok (.iload_n 2, 1) := by decide +kernel
theorem d_Model_mark_210 : decode b_Model_mark 210 = .ok (.iaload, 1) := by decide +kernel
theorem d_Model_mark_211 : decode b_Model_mark 211 = .ok (.invokevirtual 105, 3) := by decide +kernel
theorem d_Model_mark_214 : decode b_Model_mark 214 = .ok (.goto 25, 3) := by decide +kernel
theorem d_Model_mark_217 : decode b_Model_mark 217 = .ok (.aload_n 0, 1) := by decide +kernel
theorem d_Model_mark_218 : decode b_Model_mark 218 = .ok (.aload_n 0, 1) := by decide +kernel
theorem d_Model_mark_219 : decode b_Model_mark 219 = .ok (.getfield 31, 3) := by decide +kernel
theorem d_Model_mark_222 : decode b_Model_mark 222 = .ok (.iload_n 2, 1) := by decide +kernel
theorem d_Model_mark_223 : decode b_Model_mark 223 = .ok (.iaload, 1) := by decide +kernel
theorem d_Model_mark_224 : decode b_Model_mark 224 = .ok (.aload_n 0, 1) := by decide +kernel
theorem d_Model_mark_225 : decode b_Model_mark 225 = .ok (.getfield 34, 3) := by decide +kernel
theorem d_Model_mark_228 : decode b_Model_mark 228 = .ok (.iload_n 2, 1) := by decide +kernel
theorem d_Model_mark_229 : decode b_Model_mark 229 = .ok (.iaload, 1) := by decide +kernel
theorem d_Model_mark_230 : decode b_Model_mark 230 = .ok (.aload_n 0, 1) := by decide +kernel
theorem d_Model_mark_231 : decode b_Model_mark 231 = .ok (.getfield 37, 3) := by decide +kernel
theorem d_Model_mark_234 : decode b_Model_mark 234 = .ok (.iload_n 2, 1) := by decide +kernel
theorem d_Model_mark_235 : decode b_Model_mark 235 = .ok (.iaload, 1) := by decide +kernel
theorem d_Model_mark_236 : decode b_Model_mark 236 = .ok (.invokevirtual 118, 3) := by decide +kernel
theorem d_Model_mark_239 : decode b_Model_mark 239 = .ok (.iinc 1 1, 3) := by decide +kernel
theorem d_Model_mark_242 : decode b_Model_mark 242 = .ok (.goto (-96), 3) := by decide +kernel
theorem d_Model_mark_245 : decode b_Model_mark 245 = .ok (.aload_n 0, 1) := by decide +kernel
theorem d_Model_mark_246 : decode b_Model_mark 246 = .ok (.getfield 102, 3) := by decide +kernel
theorem d_Model_mark_249 : decode b_Model_mark 249 = .ok (.ireturn, 1) := by decide +kernel
theorem d_Model_cell_0 : decode b_Model_cell 0 = .ok (.iconst 0, 1) := by decide +kernel
theorem d_Model_cell_1 : decode b_Model_cell 1 = .ok (.istore 4, 2) := by decide +kernel
theorem d_Model_cell_3 : decode b_Model_cell 3 = .ok (.aload_n 0, 1) := by decide +kernel
theorem d_Model_cell_4 : decode b_Model_cell 4 = .ok (.getfield 40, 3) := by decide +kernel
theorem d_Model_cell_7 : decode b_Model_cell 7 = .ok (.iload 4, 2) := by decide +kernel
theorem d_Model_cell_9 : decode b_Model_cell 9 = .ok (.baload, 1) := by decide +kernel
theorem d_Model_cell_10 : decode b_Model_cell 10 = .ok (.ifCond .eq 9, 3) := by decide +kernel
theorem d_Model_cell_13 : decode b_Model_cell 13 = .ok (.iinc 4 1, 3) := by decide +kernel
theorem d_Model_cell_16 : decode b_Model_cell 16 = .ok (.goto (-13), 3) := by decide +kernel
theorem d_Model_cell_19 : decode b_Model_cell 19 = .ok (.aload_n 0, 1) := by decide +kernel
theorem d_Model_cell_20 : decode b_Model_cell 20 = .ok (.getfield 40, 3) := by decide +kernel
theorem d_Model_cell_23 : decode b_Model_cell 23 = .ok (.iload 4, 2) := by decide +kernel
theorem d_Model_cell_25 : decode b_Model_cell 25 = .ok (.iconst 1, 1) := by decide +kernel
theorem d_Model_cell_26 : decode b_Model_cell 26 = .ok (.bastore, 1) := by decide +kernel
theorem d_Model_cell_27 : decode b_Model_cell 27 = .ok (.aload_n 0, 1) := by decide +kernel
theorem d_Model_cell_28 : decode b_Model_cell 28 = .ok (.getfield 31, 3) := by decide +kernel
theorem d_Model_cell_31 : decode b_Model_cell 31 = .ok (.iload 4, 2) := by decide +kernel
theorem d_Model_cell_33 : decode b_Model_cell 33 = .ok (.iload_n 1, 1) := by decide +kernel
theorem d_Model_cell_34 : decode b_Model_cell 34 = .ok (.iastore, 1) := by decide +kernel
theorem d_Model_cell_35 : decode b_Model_cell 35 = .ok (.aload_n 0, 1) := by decide +kernel
theorem d_Model_cell_36 : decode b_Model_cell 36 = .ok (.getfield 34, 3) := by decide +kernel
theorem d_Model_cell_39 : decode b_Model_cell 39 = .ok (.iload 4, 2) := by decide +kernel
theorem d_Model_cell_41 : decode b_Model_cell 41 = .ok (.iload_n 2, 1) := by decide +kernel
theorem d_Model_cell_42 : decode b_Model_cell 42 = .ok (.iastore, 1) := by decide +kernel
theorem d_Model_cell_43 : decode b_Model_cell 43 = .ok (.aload_n 0, 1) := by decide +kernel
theorem d_Model_cell_44 : decode b_Model_cell 44 = .ok (.getfield 37, 3) := by decide +kernel
theorem d_Model_cell_47 : decode b_Model_cell 47 = .ok (.iload 4, 2) := by decide +kernel
theorem d_Model_cell_49 : decode b_Model_cell 49 = .ok (.iload_n 3, 1) := by decide +kernel
theorem d_Model_cell_50 : decode b_Model_cell 50 = .ok (.iastore, 1) := by decide +kernel
theorem d_Model_cell_51 : decode b_Model_cell 51 = .ok (.iload 4, 2) := by decide +kernel
theorem d_Model_cell_53 : decode b_Model_cell 53 = .ok (.ireturn, 1) := by decide +kernel
theorem d_Model_costs_0 : decode b_Model_costs 0 = .ok (.aload_n 0, 1) := by decide +kernel
theorem d_Model_costs_1 : decode b_Model_costs 1 = .ok (.getfield 16, 3) := by decide +kernel
theorem d_Model_costs_4 : decode b_Model_costs 4 = .ok (.iload_n 1, 1) := by decide +kernel
theorem d_Model_costs_5 : decode b_Model_costs 5 = .ok (.iaload, 1) := by decide +kernel
theorem d_Model_costs_6 : decode b_Model_costs 6 = .ok (.ifCond .ne 7, 3) := by decide +kernel
theorem d_Model_costs_9 : decode b_Model_costs 9 = .ok (.iconst 0, 1) := by decide +kernel
theorem d_Model_costs_10 : decode b_Model_costs 10 = .ok (.goto 4, 3) := by decide +kernel
theorem d_Model_costs_13 : decode b_Model_costs 13 = .ok (.iconst 1, 1) := by decide +kernel
theorem d_Model_costs_14 : decode b_Model_costs 14 = .ok (.ireturn, 1) := by decide +kernel
theorem d_Model_bound_0 : decode b_Model_bound 0 = .ok (.aload_n 0, 1) := by decide +kernel
theorem d_Model_bound_1 : decode b_Model_bound 1 = .ok (.getfield 99, 3) := by decide +kernel
theorem d_Model_bound_4 : decode b_Model_bound 4 = .ok (.istore_n 2, 1) := by decide +kernel
theorem d_Model_bound_5 : decode b_Model_bound 5 = .ok (.iconst 0, 1) := by decide +kernel
theorem d_Model_bound_6 : decode b_Model_bound 6 = .ok (.istore_n 3, 1) := by decide +kernel
theorem d_Model_bound_7 : decode b_Model_bound 7 = .ok (.iload_n 3, 1) := by decide +kernel
theorem d_Model_bound_8 : decode b_Model_bound 8 = .ok (.iload_n 1, 1) := by decide +kernel
theorem d_Model_bound_9 : decode b_Model_bound 9 = .ok (.if_icmp .ge 16, 3) := by decide +kernel
theorem d_Model_bound_12 : decode b_Model_bound 12 = .ok (.aload_n 0, 1) := by decide +kernel
theorem d_Model_bound_13 : decode b_Model_bound 13 = .ok (.getfield 37, 3) := by decide +kernel
theorem d_Model_bound_16 : decode b_Model_bound 16 = .ok (.iload_n 2, 1) := by decide +kernel
theorem d_Model_bound_17 : decode b_Model_bound 17 = .ok (.iaload, 1) := by decide +kernel
theorem d_Model_bound_18 : decode b_Model_bound 18 = .ok (.istore_n 2, 1) := by decide +kernel
theorem d_Model_bound_19 : decode b_Model_bound 19 = .ok (.iinc 3 1, 3) := by decide +kernel
theorem d_Model_bound_22 : decode b_Model_bound 22 = .ok (.goto (-15), 3) := by decide +kernel
theorem d_Model_bound_25 : decode b_Model_bound 25 = .ok (.aload_n 0, 1) := by decide +kernel
theorem d_Model_bound_26 : decode b_Model_bound 26 = .ok (.getfield 34, 3) := by decide +kernel
theorem d_Model_bound_29 : decode b_Model_bound 29 = .ok (.iload_n 2, 1) := by decide +kernel
theorem d_Model_bound_30 : decode b_Model_bound 30 = .ok (.iaload, 1) := by decide +kernel
theorem d_Model_bound_31 : decode b_Model_bound 31 = .ok (.ireturn, 1) := by decide +kernel
theorem d_Model_thunk_0 : decode b_Model_thunk 0 = .ok (.aload_n 0, 1) := by decide +kernel
theorem d_Model_thunk_1 : decode b_Model_thunk 1 = .ok (.getfield 16, 3) := by decide +kernel
theorem d_Model_thunk_4 : decode b_Model_thunk 4 = .ok (.iload_n 1, 1) := by decide +kernel
theorem d_Model_thunk_5 : decode b_Model_thunk 5 = .ok (.iaload, 1) := by decide +kernel
theorem d_Model_thunk_6 : decode b_Model_thunk 6 = .ok (.ifCond .ne 16, 3) := by decide +kernel
theorem d_Model_thunk_9 : decode b_Model_thunk 9 = .ok (.aload_n 0, 1) := by decide +kernel
theorem d_Model_thunk_10 : decode b_Model_thunk 10 = .ok (.aload_n 0, 1) := by decide +kernel
theorem d_Model_thunk_11 : decode b_Model_thunk 11 = .ok (.getfield 19, 3) := by decide +kernel
theorem d_Model_thunk_14 : decode b_Model_thunk 14 = .ok (.iload_n 1, 1) := by decide +kernel
theorem d_Model_thunk_15 : decode b_Model_thunk 15 = .ok (.iaload, 1) := by decide +kernel
theorem d_Model_thunk_16 : decode b_Model_thunk 16 = .ok (.invokevirtual 122, 3) := by decide +kernel
theorem d_Model_thunk_19 : decode b_Model_thunk 19 = .ok (.goto 13, 3) := by decide +kernel
theorem d_Model_thunk_22 : decode b_Model_thunk 22 = .ok (.aload_n 0, 1) := by decide +kernel
theorem d_Model_thunk_23 : decode b_Model_thunk 23 = .ok (.iconst 3, 1) := by decide +kernel
theorem d_Model_thunk_24 : decode b_Model_thunk 24 = .ok (.iload_n 1, 1) := by decide +kernel
theorem d_Model_thunk_25 : decode b_Model_thunk 25 = .ok (.aload_n 0, 1) := by decide +kernel
theorem d_Model_thunk_26 : decode b_Model_thunk 26 = .ok (.getfield 99, 3) := by decide +kernel
theorem d_Model_thunk_29 : decode b_Model_thunk 29 = .ok (.invokevirtual 125, 3) := by decide +kernel
theorem d_Model_thunk_32 : decode b_Model_thunk 32 = .ok (.ireturn, 1) := by decide +kernel
theorem d_Model_stops_0 : decode b_Model_stops 0 = .ok (.aload_n 0, 1) := by decide +kernel
theorem d_Model_stops_1 : decode b_Model_stops 1 = .ok (.iload_n 1, 1) := by decide +kernel
theorem d_Model_stops_2 : decode b_Model_stops 2 = .ok (.putfield 70, 3) := by decide +kernel
theorem d_Model_stops_5 : decode b_Model_stops 5 = .ok (.iconst 1, 1) := by decide +kernel
theorem d_Model_stops_6 : decode b_Model_stops 6 = .ok (.ireturn, 1) := by decide +kernel
theorem d_Model_isHigh_0 : decode b_Model_isHigh 0 = .ok (.aload_n 0, 1) := by decide +kernel
theorem d_Model_isHigh_1 : decode b_Model_isHigh 1 = .ok (.getfield 86, 3) := by decide +kernel
theorem d_Model_isHigh_4 : decode b_Model_isHigh 4 = .ok (.sipush 200, 3) := by decide +kernel
theorem d_Model_isHigh_7 : decode b_Model_isHigh 7 = .ok (.if_icmp .ne 15, 3) := by decide +kernel
theorem d_Model_isHigh_10 : decode b_Model_isHigh 10 = .ok (.aload_n 0, 1) := by decide +kernel
theorem d_Model_isHigh_11 : decode b_Model_isHigh 11 = .ok (.iconst 5, 1) := by decide +kernel
theorem d_Model_isHigh_12 : decode b_Model_isHigh 12 = .ok (.invokevirtual 129, 3) := by decide +kernel
theorem d_Model_isHigh_15 : decode b_Model_isHigh 15 = .ok (.ifCond .eq 7, 3) := by decide +kernel
theorem d_Model_isHigh_18 : decode b_Model_isHigh 18 = .ok (.iconst 1, 1) := by decide +kernel
theorem d_Model_isHigh_19 : decode b_Model_isHigh 19 = .ok (.goto 4, 3) := by decide +kernel
theorem d_Model_isHigh_22 : decode b_Model_isHigh 22 = .ok (.iconst 0, 1) := by decide +kernel
theorem d_Model_isHigh_23 : decode b_Model_isHigh 23 = .ok (.ireturn, 1) := by decide +kernel
theorem d_Model_isFull_0 : decode b_Model_isFull 0 = .ok (.aload_n 0, 1) := by decide +kernel
theorem d_Model_isFull_1 : decode b_Model_isFull 1 = .ok (.invokevirtual 133, 3) := by decide +kernel
theorem d_Model_isFull_4 : decode b_Model_isFull 4 = .ok (.iload_n 1, 1) := by decide +kernel
theorem d_Model_isFull_5 : decode b_Model_isFull 5 = .ok (.iadd, 1) := by decide +kernel
theorem d_Model_isFull_6 : decode b_Model_isFull 6 = .ok (.sipush 256, 3) := by decide +kernel
theorem d_Model_isFull_9 : decode b_Model_isFull 9 = .ok (.if_icmp .le 16, 3) := by decide +kernel
theorem d_Model_isFull_12 : decode b_Model_isFull 12 = .ok (.aload_n 0, 1) := by decide +kernel
theorem d_Model_isFull_13 : decode b_Model_isFull 13 = .ok (.bipush 6, 2) := by decide +kernel
theorem d_Model_isFull_15 : decode b_Model_isFull 15 = .ok (.invokevirtual 129, 3) := by decide +kernel
theorem d_Model_isFull_18 : decode b_Model_isFull 18 = .ok (.ifCond .eq 7, 3) := by decide +kernel
theorem d_Model_isFull_21 : decode b_Model_isFull 21 = .ok (.iconst 1, 1) := by decide +kernel
theorem d_Model_isFull_22 : decode b_Model_isFull 22 = .ok (.goto 4, 3) := by decide +kernel
theorem d_Model_isFull_25 : decode b_Model_isFull 25 = .ok (.iconst 0, 1) := by decide +kernel
theorem d_Model_isFull_26 : decode b_Model_isFull 26 = .ok (.ireturn, 1) := by decide +kernel
theorem d_Model_push_0 : decode b_Model_push 0 = .ok (.aload_n 0, 1) := by decide +kernel
theorem d_Model_push_1 : decode b_Model_push 1 = .ok (.getfield 47, 3) := by decide +kernel
theorem d_Model_push_4 : decode b_Model_push 4 = .ok (.aload_n 0, 1) := by decide +kernel
theorem d_Model_push_5 : decode b_Model_push 5 = .ok (.getfield 86, 3) := by decide +kernel
theorem d_Model_push_8 : decode b_Model_push 8 = .ok (.iload_n 1, 1) := by decide +kernel
theorem d_Model_push_9 : decode b_Model_push 9 = .ok (.iastore, 1) := by decide +kernel
theorem d_Model_push_10 : decode b_Model_push 10 = .ok (.aload_n 0, 1) := by decide +kernel
theorem d_Model_push_11 : decode b_Model_push 11 = .ok (.getfield 50, 3) := by decide +kernel
theorem d_Model_push_14 : decode b_Model_push 14 = .ok (.aload_n 0, 1) := by decide +kernel
theorem d_Model_push_15 : decode b_Model_push 15 = .ok (.getfield 86, 3) := by decide +kernel
theorem d_Model_push_18 : decode b_Model_push 18 = .ok (.iload_n 2, 1) := by decide +kernel
theorem d_Model_push_19 : decode b_Model_push 19 = .ok (.iastore, 1) := by decide +kernel
theorem d_Model_push_20 : decode b_Model_push 20 = .ok (.aload_n 0, 1) := by decide +kernel
theorem d_Model_push_21 : decode b_Model_push 21 = .ok (.getfield 53, 3) := by decide +kernel
theorem d_Model_push_24 : decode b_Model_push 24 = .ok (.aload_n 0, 1) := by decide +kernel
theorem d_Model_push_25 : decode b_Model_push 25 = .ok (.getfield 86, 3) := by decide +kernel
theorem d_Model_push_28 : decode b_Model_push 28 = .ok (.iload_n 3, 1) := by decide +kernel
theorem d_Model_push_29 : decode b_Model_push 29 = .ok (.iastore, 1) := by decide +kernel
theorem d_Model_push_30 : decode b_Model_push 30 = .ok (.aload_n 0, 1) := by decide +kernel
theorem d_Model_push_31 : decode b_Model_push 31 = .ok (.dup, 1) := by decide +kernel
theorem d_Model_push_32 : decode b_Model_push 32 = .ok (.getfield 86, 3) := by decide +kernel
theorem d_Model_push_35 : decode b_Model_push 35 = .ok (.iconst 1, 1) := by decide +kernel
theorem d_Model_push_36 : decode b_Model_push 36 = .ok (.iadd, 1) := by decide +kernel
theorem d_Model_push_37 : decode b_Model_push 37 = .ok (.putfield 86, 3) := by decide +kernel
theorem d_Model_push_40 : decode b_Model_push 40 = .ok (.aload_n 0, 1) := by decide +kernel
theorem d_Model_push_41 : decode b_Model_push 41 = .ok (.aload_n 0, 1) := by decide +kernel
theorem d_Model_push_42 : decode b_Model_push 42 = .ok (.getfield 86, 3) := by decide +kernel
theorem d_Model_push_45 : decode b_Model_push 45 = .ok (.aload_n 0, 1) := by decide +kernel
theorem d_Model_push_46 : decode b_Model_push 46 = .ok (.getfield 89, 3) := by decide +kernel
theorem d_Model_push_49 : decode b_Model_push 49 = .ok (.if_icmp .le 10, 3) := by decide +kernel
theorem d_Model_push_52 : decode b_Model_push 52 = .ok (.aload_n 0, 1) := by decide +kernel
theorem d_Model_push_53 : decode b_Model_push 53 = .ok (.getfield 86, 3) := by decide +kernel
theorem d_Model_push_56 : decode b_Model_push 56 = .ok (.goto 7, 3) := by decide +kernel
theorem d_Model_push_59 : decode b_Model_push 59 = .ok (.aload_n 0, 1) := by decide +kernel
theorem d_Model_push_60 : decode b_Model_push 60 = .ok (.getfield 89, 3) := by decide +kernel
theorem d_Model_push_63 : decode b_Model_push 63 = .ok (.putfield 89, 3) := by decide +kernel
theorem d_Model_push_66 : decode b_Model_push 66 = .ok (.return_, 1) := by decide +kernel
theorem d_Model_give_0 : decode b_Model_give 0 = .ok (.aload_n 0, 1) := by decide +kernel
theorem d_Model_give_1 : decode b_Model_give 1 = .ok (.iconst 1, 1) := by decide +kernel
theorem d_Model_give_2 : decode b_Model_give 2 = .ok (.putfield 92, 3) := by decide +kernel
theorem d_Model_give_5 : decode b_Model_give 5 = .ok (.aload_n 0, 1) := by decide +kernel
theorem d_Model_give_6 : decode b_Model_give 6 = .ok (.iload_n 1, 1) := by decide +kernel
theorem d_Model_give_7 : decode b_Model_give 7 = .ok (.putfield 109, 3) := by decide +kernel
theorem d_Model_give_10 : decode b_Model_give 10 = .ok (.aload_n 0, 1) := by decide +kernel
theorem d_Model_give_11 : decode b_Model_give 11 = .ok (.iload_n 2, 1) := by decide +kernel
theorem d_Model_give_12 : decode b_Model_give 12 = .ok (.putfield 112, 3) := by decide +kernel
theorem d_Model_give_15 : decode b_Model_give 15 = .ok (.aload_n 0, 1) := by decide +kernel
theorem d_Model_give_16 : decode b_Model_give 16 = .ok (.iload_n 3, 1) := by decide +kernel
theorem d_Model_give_17 : decode b_Model_give 17 = .ok (.putfield 115, 3) := by decide +kernel
theorem d_Model_give_20 : decode b_Model_give 20 = .ok (.return_, 1) := by decide +kernel
theorem d_Model_go_0 : decode b_Model_go 0 = .ok (.aload_n 0, 1) := by decide +kernel
theorem d_Model_go_1 : decode b_Model_go 1 = .ok (.iconst 0, 1) := by decide +kernel
theorem d_Model_go_2 : decode b_Model_go 2 = .ok (.putfield 92, 3) := by decide +kernel
theorem d_Model_go_5 : decode b_Model_go 5 = .ok (.aload_n 0, 1) := by decide +kernel
theorem d_Model_go_6 : decode b_Model_go 6 = .ok (.iload_n 1, 1) := by decide +kernel
theorem d_Model_go_7 : decode b_Model_go 7 = .ok (.putfield 96, 3) := by decide +kernel
theorem d_Model_go_10 : decode b_Model_go 10 = .ok (.aload_n 0, 1) := by decide +kernel
theorem d_Model_go_11 : decode b_Model_go 11 = .ok (.iload_n 2, 1) := by decide +kernel
theorem d_Model_go_12 : decode b_Model_go 12 = .ok (.putfield 99, 3) := by decide +kernel
theorem d_Model_go_15 : decode b_Model_go 15 = .ok (.return_, 1) := by decide +kernel
theorem d_Model_asks_0 : decode b_Model_asks 0 = .ok (.aload_n 0, 1) := by decide +kernel
theorem d_Model_asks_1 : decode b_Model_asks 1 = .ok (.getfield 31, 3) := by decide +kernel
theorem d_Model_asks_4 : decode b_Model_asks 4 = .ok (.iload_n 1, 1) := by decide +kernel
theorem d_Model_asks_5 : decode b_Model_asks 5 = .ok (.iaload, 1) := by decide +kernel
theorem d_Model_asks_6 : decode b_Model_asks 6 = .ok (.iconst 4, 1) := by decide +kernel
theorem d_Model_asks_7 : decode b_Model_asks 7 = .ok (.if_icmp .ne 9, 3) := by decide +kernel
theorem d_Model_asks_10 : decode b_Model_asks 10 = .ok (.aload_n 0, 1) := by decide +kernel
theorem d_Model_asks_11 : decode b_Model_asks 11 = .ok (.iconst 4, 1) := by decide +kernel
theorem d_Model_asks_12 : decode b_Model_asks 12 = .ok (.invokevirtual 129, 3) := by decide +kernel
theorem d_Model_asks_15 : decode b_Model_asks 15 = .ok (.ireturn, 1) := by decide +kernel
theorem d_Model_asks_16 : decode b_Model_asks 16 = .ok (.aload_n 0, 1) := by decide +kernel
theorem d_Model_asks_17 : decode b_Model_asks 17 = .ok (.getfield 31, 3) := by decide +kernel
theorem d_Model_asks_20 : decode b_Model_asks 20 = .ok (.iload_n 1, 1) := by decide +kernel
theorem d_Model_asks_21 : decode b_Model_asks 21 = .ok (.iaload, 1) := by decide +kernel
theorem d_Model_asks_22 : decode b_Model_asks 22 = .ok (.iconst 3, 1) := by decide +kernel
theorem d_Model_asks_23 : decode b_Model_asks 23 = .ok (.if_icmp .eq 27, 3) := by decide +kernel
theorem d_Model_asks_26 : decode b_Model_asks 26 = .ok (.aload_n 0, 1) := by decide +kernel
theorem d_Model_asks_27 : decode b_Model_asks 27 = .ok (.aload_n 0, 1) := by decide +kernel
theorem d_Model_asks_28 : decode b_Model_asks 28 = .ok (.getfield 31, 3) := by decide +kernel
theorem d_Model_asks_31 : decode b_Model_asks 31 = .ok (.iload_n 1, 1) := by decide +kernel
theorem d_Model_asks_32 : decode b_Model_asks 32 = .ok (.iaload, 1) := by decide +kernel
theorem d_Model_asks_33 : decode b_Model_asks 33 = .ok (.aload_n 0, 1) := by decide +kernel
theorem d_Model_asks_34 : decode b_Model_asks 34 = .ok (.getfield 34, 3) := by decide +kernel
theorem d_Model_asks_37 : decode b_Model_asks 37 = .ok (.iload_n 1, 1) := by decide +kernel
theorem d_Model_asks_38 : decode b_Model_asks 38 = .ok (.iaload, 1) := by decide +kernel
theorem d_Model_asks_39 : decode b_Model_asks 39 = .ok (.aload_n 0, 1) := by decide +kernel
theorem d_Model_asks_40 : decode b_Model_asks 40 = .ok (.getfield 37, 3) := by decide +kernel
theorem d_Model_asks_43 : decode b_Model_asks 43 = .ok (.iload_n 1, 1) := by decide +kernel
theorem d_Model_asks_44 : decode b_Model_asks 44 = .ok (.iaload, 1) := by decide +kernel
theorem d_Model_asks_45 : decode b_Model_asks 45 = .ok (.invokevirtual 137, 3) := by decide +kernel
theorem d_Model_asks_48 : decode b_Model_asks 48 = .ok (.iconst 0, 1) := by decide +kernel
theorem d_Model_asks_49 : decode b_Model_asks 49 = .ok (.ireturn, 1) := by decide +kernel
theorem d_Model_asks_50 : decode b_Model_asks 50 = .ok (.iload_n 2, 1) := by decide +kernel
theorem d_Model_asks_51 : decode b_Model_asks 51 = .ok (.ifCond .ne 12, 3) := by decide +kernel
theorem d_Model_asks_54 : decode b_Model_asks 54 = .ok (.aload_n 0, 1) := by decide +kernel
theorem d_Model_asks_55 : decode b_Model_asks 55 = .ok (.invokevirtual 140, 3) := by decide +kernel
theorem d_Model_asks_58 : decode b_Model_asks 58 = .ok (.ifCond .eq 5, 3) := by decide +kernel
theorem d_Model_asks_61 : decode b_Model_asks 61 = .ok (.iconst 1, 1) := by decide +kernel
theorem d_Model_asks_62 : decode b_Model_asks 62 = .ok (.ireturn, 1) := by decide +kernel
theorem d_Model_asks_63 : decode b_Model_asks 63 = .ok (.aload_n 0, 1) := by decide +kernel
theorem d_Model_asks_64 : decode b_Model_asks 64 = .ok (.getfield 34, 3) := by decide +kernel
theorem d_Model_asks_67 : decode b_Model_asks 67 = .ok (.iload_n 1, 1) := by decide +kernel
theorem d_Model_asks_68 : decode b_Model_asks 68 = .ok (.iaload, 1) := by decide +kernel
theorem d_Model_asks_69 : decode b_Model_asks 69 = .ok (.istore_n 3, 1) := by decide +kernel
theorem d_Model_asks_70 : decode b_Model_asks 70 = .ok (.aload_n 0, 1) := by decide +kernel
theorem d_Model_asks_71 : decode b_Model_asks 71 = .ok (.getfield 37, 3) := by decide +kernel
theorem d_Model_asks_74 : decode b_Model_asks 74 = .ok (.iload_n 1, 1) := by decide +kernel
theorem d_Model_asks_75 : decode b_Model_asks 75 = .ok (.iaload, 1) := by decide +kernel
theorem d_Model_asks_76 : decode b_Model_asks 76 = .ok (.istore 4, 2) := by decide +kernel
theorem d_Model_asks_78 : decode b_Model_asks 78 = .ok (.aload_n 0, 1) := by decide +kernel
theorem d_Model_asks_79 : decode b_Model_asks 79 = .ok (.getfield 31, 3) := by decide +kernel
theorem d_Model_asks_82 : decode b_Model_asks 82 = .ok (.iload_n 1, 1) := by decide +kernel
theorem d_Model_asks_83 : decode b_Model_asks 83 = .ok (.iconst 4, 1) := by decide +kernel
theorem d_Model_asks_84 : decode b_Model_asks 84 = .ok (.iastore, 1) := by decide +kernel
theorem d_Model_asks_85 : decode b_Model_asks 85 = .ok (.aload_n 0, 1) := by decide +kernel
theorem d_Model_asks_86 : decode b_Model_asks 86 = .ok (.dup, 1) := by decide +kernel
theorem d_Model_asks_87 : decode b_Model_asks 87 = .ok (.getfield 83, 3) := by decide +kernel
theorem d_Model_asks_90 : decode b_Model_asks 90 = .ok (.iconst 1, 1) := by decide +kernel
theorem d_Model_asks_91 : decode b_Model_asks 91 = .ok (.iadd, 1) := by decide +kernel
theorem d_Model_asks_92 : decode b_Model_asks 92 = .ok (.putfield 83, 3) := by decide +kernel
theorem d_Model_asks_95 : decode b_Model_asks 95 = .ok (.aload_n 0, 1) := by decide +kernel
theorem d_Model_asks_96 : decode b_Model_asks 96 = .ok (.iconst 0, 1) := by decide +kernel
theorem d_Model_asks_97 : decode b_Model_asks 97 = .ok (.iload_n 1, 1) := by decide +kernel
theorem d_Model_asks_98 : decode b_Model_asks 98 = .ok (.iconst 0, 1) := by decide +kernel
theorem d_Model_asks_99 : decode b_Model_asks 99 = .ok (.invokevirtual 144, 3) := by decide +kernel
theorem d_Model_asks_102 : decode b_Model_asks 102 = .ok (.aload_n 0, 1) := by decide +kernel
theorem d_Model_asks_103 : decode b_Model_asks 103 = .ok (.iload_n 3, 1) := by decide +kernel
theorem d_Model_asks_104 : decode b_Model_asks 104 = .ok (.iload 4, 2) := by decide +kernel
theorem d_Model_asks_106 : decode b_Model_asks 106 = .ok (.invokevirtual 147, 3) := by decide +kernel
theorem d_Model_asks_109 : decode b_Model_asks 109 = .ok (.iconst 0, 1) := by decide +kernel
theorem d_Model_asks_110 : decode b_Model_asks 110 = .ok (.ireturn, 1) := by decide +kernel
