theorem d_LazyMachine_stepAt_0 : decode b_LazyMachine_stepAt 0 = .ok (.aload_n 0, 1) := by decide +kernel
theorem d_LazyMachine_stepAt_1 : decode b_LazyMachine_stepAt 1 = .ok (.getfield 30, 3) := by decide +kernel
theorem d_LazyMachine_stepAt_4 : decode b_LazyMachine_stepAt 4 = .ok (.aload_n 0, 1) := by decide +kernel
theorem d_LazyMachine_stepAt_5 : decode b_LazyMachine_stepAt 5 = .ok (.getfield 132, 3) := by decide +kernel
theorem d_LazyMachine_stepAt_8 : decode b_LazyMachine_stepAt 8 = .ok (.invokevirtual 146, 3) := by decide +kernel
theorem d_LazyMachine_stepAt_11 : decode b_LazyMachine_stepAt 11 = .ok (.tableswitch 178 0 13 #[69, 96, 110, 115, 178, 178, 178, 178, 133, 147, 152, 157, 162, 170], 69) := by decide +kernel
theorem d_LazyMachine_stepAt_80 : decode b_LazyMachine_stepAt 80 = .ok (.aload_n 0, 1) := by decide +kernel
theorem d_LazyMachine_stepAt_81 : decode b_LazyMachine_stepAt 81 = .ok (.aload_n 0, 1) := by decide +kernel
theorem d_LazyMachine_stepAt_82 : decode b_LazyMachine_stepAt 82 = .ok (.getfield 10, 3) := by decide +kernel
theorem d_LazyMachine_stepAt_85 : decode b_LazyMachine_stepAt 85 = .ok (.aload_n 0, 1) := by decide +kernel
theorem d_LazyMachine_stepAt_86 : decode b_LazyMachine_stepAt 86 = .ok (.getfield 37, 3) := by decide +kernel
theorem d_LazyMachine_stepAt_89 : decode b_LazyMachine_stepAt 89 = .ok (.aload_n 0, 1) := by decide +kernel
theorem d_LazyMachine_stepAt_90 : decode b_LazyMachine_stepAt 90 = .ok (.getfield 30, 3) := by decide +kernel
theorem d_LazyMachine_stepAt_93 : decode b_LazyMachine_stepAt 93 = .ok (.aload_n 0, 1) := by decide +kernel
theorem d_LazyMachine_stepAt_94 : decode b_LazyMachine_stepAt 94 = .ok (.getfield 132, 3) := by decide +kernel
theorem d_LazyMachine_stepAt_97 : decode b_LazyMachine_stepAt 97 = .ok (.invokevirtual 149, 3) := by decide +kernel
theorem d_LazyMachine_stepAt_100 : decode b_LazyMachine_stepAt 100 = .ok (.invokevirtual 152, 3) := by decide +kernel
theorem d_LazyMachine_stepAt_103 : decode b_LazyMachine_stepAt 103 = .ok (.invokevirtual 105, 3) := by decide +kernel
theorem d_LazyMachine_stepAt_106 : decode b_LazyMachine_stepAt 106 = .ok (.ireturn, 1) := by decide +kernel
theorem d_LazyMachine_stepAt_107 : decode b_LazyMachine_stepAt 107 = .ok (.aload_n 0, 1) := by decide +kernel
theorem d_LazyMachine_stepAt_108 : decode b_LazyMachine_stepAt 108 = .ok (.iconst 1, 1) := by decide +kernel
theorem d_LazyMachine_stepAt_109 : decode b_LazyMachine_stepAt 109 = .ok (.aload_n 0, 1) := by decide +kernel
theorem d_LazyMachine_stepAt_110 : decode b_LazyMachine_stepAt 110 = .ok (.getfield 132, 3) := by decide +kernel
theorem d_LazyMachine_stepAt_113 : decode b_LazyMachine_stepAt 113 = .ok (.aload_n 0, 1) := by decide +kernel
theorem d_LazyMachine_stepAt_114 : decode b_LazyMachine_stepAt 114 = .ok (.getfield 37, 3) := by decide +kernel
theorem d_LazyMachine_stepAt_117 : decode b_LazyMachine_stepAt 117 = .ok (.invokevirtual 156, 3) := by decide +kernel
theorem d_LazyMachine_stepAt_120 : decode b_LazyMachine_stepAt 120 = .ok (.ireturn, 1) := by decide +kernel
theorem d_LazyMachine_stepAt_121 : decode b_LazyMachine_stepAt 121 = .ok (.aload_n 0, 1) := by decide +kernel
theorem d_LazyMachine_stepAt_122 : decode b_LazyMachine_stepAt 122 = .ok (.invokevirtual 159, 3) := by decide +kernel
theorem d_LazyMachine_stepAt_125 : decode b_LazyMachine_stepAt 125 = .ok (.ireturn, 1) := by decide +kernel
theorem d_LazyMachine_stepAt_126 : decode b_LazyMachine_stepAt 126 = .ok (.aload_n 0, 1) := by decide +kernel
theorem d_LazyMachine_stepAt_127 : decode b_LazyMachine_stepAt 127 = .ok (.iconst 0, 1) := by decide +kernel
theorem d_LazyMachine_stepAt_128 : decode b_LazyMachine_stepAt 128 = .ok (.aload_n 0, 1) := by decide +kernel
theorem d_LazyMachine_stepAt_129 : decode b_LazyMachine_stepAt 129 = .ok (.getfield 30, 3) := by decide +kernel
theorem d_LazyMachine_stepAt_132 : decode b_LazyMachine_stepAt 132 = .ok (.aload_n 0, 1) := by decide +kernel
theorem d_LazyMachine_stepAt_133 : decode b_LazyMachine_stepAt 133 = .ok (.getfield 132, 3) := by decide +kernel
theorem d_LazyMachine_stepAt_136 : decode b_LazyMachine_stepAt 136 = .ok (.invokevirtual 149, 3) := by decide +kernel
theorem d_LazyMachine_stepAt_139 : decode b_LazyMachine_stepAt 139 = .ok (.iconst (-1), 1) := by decide +kernel
theorem d_LazyMachine_stepAt_140 : decode b_LazyMachine_stepAt 140 = .ok (.invokevirtual 156, 3) := by decide +kernel
theorem d_LazyMachine_stepAt_143 : decode b_LazyMachine_stepAt 143 = .ok (.ireturn, 1) := by decide +kernel
theorem d_LazyMachine_stepAt_144 : decode b_LazyMachine_stepAt 144 = .ok (.aload_n 0, 1) := by decide +kernel
theorem d_LazyMachine_stepAt_145 : decode b_LazyMachine_stepAt 145 = .ok (.iconst 4, 1) := by decide +kernel
theorem d_LazyMachine_stepAt_146 : decode b_LazyMachine_stepAt 146 = .ok (.aload_n 0, 1) := by decide +kernel
theorem d_LazyMachine_stepAt_147 : decode b_LazyMachine_stepAt 147 = .ok (.getfield 132, 3) := by decide +kernel
theorem d_LazyMachine_stepAt_150 : decode b_LazyMachine_stepAt 150 = .ok (.aload_n 0, 1) := by decide +kernel
theorem d_LazyMachine_stepAt_151 : decode b_LazyMachine_stepAt 151 = .ok (.getfield 37, 3) := by decide +kernel
theorem d_LazyMachine_stepAt_154 : decode b_LazyMachine_stepAt 154 = .ok (.invokevirtual 162, 3) := by decide +kernel
theorem d_LazyMachine_stepAt_157 : decode b_LazyMachine_stepAt 157 = .ok (.ireturn, 1) := by decide +kernel
theorem d_LazyMachine_stepAt_158 : decode b_LazyMachine_stepAt 158 = .ok (.aload_n 0, 1) := by decide +kernel
theorem d_LazyMachine_stepAt_159 : decode b_LazyMachine_stepAt 159 = .ok (.invokevirtual 165, 3) := by decide +kernel
theorem d_LazyMachine_stepAt_162 : decode b_LazyMachine_stepAt 162 = .ok (.ireturn, 1) := by decide +kernel
theorem d_LazyMachine_stepAt_163 : decode b_LazyMachine_stepAt 163 = .ok (.aload_n 0, 1) := by decide +kernel
theorem d_LazyMachine_stepAt_164 : decode b_LazyMachine_stepAt 164 = .ok (.invokevirtual 168, 3) := by decide +kernel
theorem d_LazyMachine_stepAt_167 : decode b_LazyMachine_stepAt 167 = .ok (.ireturn, 1) := by decide +kernel
theorem d_LazyMachine_stepAt_168 : decode b_LazyMachine_stepAt 168 = .ok (.aload_n 0, 1) := by decide +kernel
theorem d_LazyMachine_stepAt_169 : decode b_LazyMachine_stepAt 169 = .ok (.invokevirtual 171, 3) := by decide +kernel
theorem d_LazyMachine_stepAt_172 : decode b_LazyMachine_stepAt 172 = .ok (.ireturn, 1) := by decide +kernel
theorem d_LazyMachine_stepAt_173 : decode b_LazyMachine_stepAt 173 = .ok (.aload_n 0, 1) := by decide +kernel
theorem d_LazyMachine_stepAt_174 : decode b_LazyMachine_stepAt 174 = .ok (.iconst 5, 1) := by decide +kernel
theorem d_LazyMachine_stepAt_175 : decode b_LazyMachine_stepAt 175 = .ok (.iconst 0, 1) := by decide +kernel
theorem d_LazyMachine_stepAt_176 : decode b_LazyMachine_stepAt 176 = .ok (.iconst (-1), 1) := by decide +kernel
theorem d_LazyMachine_stepAt_177 : decode b_LazyMachine_stepAt 177 = .ok (.invokevirtual 162, 3) := by decide +kernel
theorem d_LazyMachine_stepAt_180 : decode b_LazyMachine_stepAt 180 = .ok (.ireturn, 1) := by decide +kernel
theorem d_LazyMachine_stepAt_181 : decode b_LazyMachine_stepAt 181 = .ok (.aload_n 0, 1) := by decide +kernel
theorem d_LazyMachine_stepAt_182 : decode b_LazyMachine_stepAt 182 = .ok (.iconst 5, 1) := by decide +kernel
theorem d_LazyMachine_stepAt_183 : decode b_LazyMachine_stepAt 183 = .ok (.iconst 1, 1) := by decide +kernel
theorem d_LazyMachine_stepAt_184 : decode b_LazyMachine_stepAt 184 = .ok (.iconst (-1), 1) := by decide +kernel
theorem d_LazyMachine_stepAt_185 : decode b_LazyMachine_stepAt 185 = .ok (.invokevirtual 162, 3) := by decide +kernel
theorem d_LazyMachine_stepAt_188 : decode b_LazyMachine_stepAt 188 = .ok (.ireturn, 1) := by decide +kernel
theorem d_LazyMachine_stepAt_189 : decode b_LazyMachine_stepAt 189 = .ok (.aload_n 0, 1) := by decide +kernel
theorem d_LazyMachine_stepAt_190 : decode b_LazyMachine_stepAt 190 = .ok (.iconst 2, 1) := by decide +kernel
theorem d_LazyMachine_stepAt_191 : decode b_LazyMachine_stepAt 191 = .ok (.aload_n 0, 1) := by decide +kernel
theorem d_LazyMachine_stepAt_192 : decode b_LazyMachine_stepAt 192 = .ok (.getfield 132, 3) := by decide +kernel
theorem d_LazyMachine_stepAt_195 : decode b_LazyMachine_stepAt 195 = .ok (.aload_n 0, 1) := by decide +kernel
theorem d_LazyMachine_stepAt_196 : decode b_LazyMachine_stepAt 196 = .ok (.getfield 37, 3) := by decide +kernel
theorem d_LazyMachine_stepAt_199 : decode b_LazyMachine_stepAt 199 = .ok (.invokevirtual 162, 3) := by decide +kernel
theorem d_LazyMachine_stepAt_202 : decode b_LazyMachine_stepAt 202 = .ok (.ireturn, 1) := by decide +kernel
theorem d_LazyMachine_stepBack_0 : decode b_LazyMachine_stepBack 0 = .ok (.aload_n 0, 1) := by decide +kernel
theorem d_LazyMachine_stepBack_1 : decode b_LazyMachine_stepBack 1 = .ok (.getfield 19, 3) := by decide +kernel
theorem d_LazyMachine_stepBack_4 : decode b_LazyMachine_stepBack 4 = .ok (.invokevirtual 190, 3) := by decide +kernel
theorem d_LazyMachine_stepBack_7 : decode b_LazyMachine_stepBack 7 = .ok (.istore_n 1, 1) := by decide +kernel
theorem d_LazyMachine_stepBack_8 : decode b_LazyMachine_stepBack 8 = .ok (.aload_n 0, 1) := by decide +kernel
theorem d_LazyMachine_stepBack_9 : decode b_LazyMachine_stepBack 9 = .ok (.getfield 19, 3) := by decide +kernel
theorem d_LazyMachine_stepBack_12 : decode b_LazyMachine_stepBack 12 = .ok (.invokevirtual 193, 3) := by decide +kernel
theorem d_LazyMachine_stepBack_15 : decode b_LazyMachine_stepBack 15 = .ok (.tableswitch 117 0 5 #[37, 66, 72, 85, 98, 111], 37) := by decide +kernel
theorem d_LazyMachine_stepBack_52 : decode b_LazyMachine_stepBack 52 = .ok (.aload_n 0, 1) := by decide +kernel
theorem d_LazyMachine_stepBack_53 : decode b_LazyMachine_stepBack 53 = .ok (.getfield 19, 3) := by decide +kernel
theorem d_LazyMachine_stepBack_56 : decode b_LazyMachine_stepBack 56 = .ok (.invokevirtual 196, 3) := by decide +kernel
theorem d_LazyMachine_stepBack_59 : decode b_LazyMachine_stepBack 59 = .ok (.aload_n 0, 1) := by decide +kernel
theorem d_LazyMachine_stepBack_60 : decode b_LazyMachine_stepBack 60 = .ok (.getfield 10, 3) := by decide +kernel
theorem d_LazyMachine_stepBack_63 : decode b_LazyMachine_stepBack 63 = .ok (.iload_n 1, 1) := by decide +kernel
theorem d_LazyMachine_stepBack_64 : decode b_LazyMachine_stepBack 64 = .ok (.aload_n 0, 1) := by decide +kernel
theorem d_LazyMachine_stepBack_65 : decode b_LazyMachine_stepBack 65 = .ok (.getfield 98, 3) := by decide +kernel
theorem d_LazyMachine_stepBack_68 : decode b_LazyMachine_stepBack 68 = .ok (.aload_n 0, 1) := by decide +kernel
theorem d_LazyMachine_stepBack_69 : decode b_LazyMachine_stepBack 69 = .ok (.getfield 40, 3) := by decide +kernel
theorem d_LazyMachine_stepBack_72 : decode b_LazyMachine_stepBack 72 = .ok (.aload_n 0, 1) := by decide +kernel
theorem d_LazyMachine_stepBack_73 : decode b_LazyMachine_stepBack 73 = .ok (.getfield 43, 3) := by decide +kernel
theorem d_LazyMachine_stepBack_76 : decode b_LazyMachine_stepBack 76 = .ok (.invokevirtual 199, 3) := by decide +kernel
theorem d_LazyMachine_stepBack_79 : decode b_LazyMachine_stepBack 79 = .ok (.iconst 1, 1) := by decide +kernel
theorem d_LazyMachine_stepBack_80 : decode b_LazyMachine_stepBack 80 = .ok (.ireturn, 1) := by decide +kernel
theorem d_LazyMachine_stepBack_81 : decode b_LazyMachine_stepBack 81 = .ok (.aload_n 0, 1) := by decide +kernel
theorem d_LazyMachine_stepBack_82 : decode b_LazyMachine_stepBack 82 = .ok (.iload_n 1, 1) := by decide +kernel
theorem d_LazyMachine_stepBack_83 : decode b_LazyMachine_stepBack 83 = .ok (.invokevirtual 203, 3) := by decide +kernel
theorem d_LazyMachine_stepBack_86 : decode b_LazyMachine_stepBack 86 = .ok (.ireturn, 1) := by decide +kernel
theorem d_LazyMachine_stepBack_87 : decode b_LazyMachine_stepBack 87 = .ok (.aload_n 0, 1) := by decide +kernel
theorem d_LazyMachine_stepBack_88 : decode b_LazyMachine_stepBack 88 = .ok (.iload_n 1, 1) := by decide +kernel
theorem d_LazyMachine_stepBack_89 : decode b_LazyMachine_stepBack 89 = .ok (.aload_n 0, 1) := by decide +kernel
theorem d_LazyMachine_stepBack_90 : decode b_LazyMachine_stepBack 90 = .ok (.getfield 19, 3) := by decide +kernel
theorem d_LazyMachine_stepBack_93 : decode b_LazyMachine_stepBack 93 = .ok (.invokevirtual 206, 3) := by decide +kernel
theorem d_LazyMachine_stepBack_96 : decode b_LazyMachine_stepBack 96 = .ok (.invokevirtual 209, 3) := by decide +kernel
theorem d_LazyMachine_stepBack_99 : decode b_LazyMachine_stepBack 99 = .ok (.ireturn, 1) := by decide +kernel
theorem d_LazyMachine_stepBack_100 : decode b_LazyMachine_stepBack 100 = .ok (.aload_n 0, 1) := by decide +kernel
theorem d_LazyMachine_stepBack_101 : decode b_LazyMachine_stepBack 101 = .ok (.iload_n 1, 1) := by decide +kernel
theorem d_LazyMachine_stepBack_102 : decode b_LazyMachine_stepBack 102 = .ok (.aload_n 0, 1) := by decide +kernel
theorem d_LazyMachine_stepBack_103 : decode b_LazyMachine_stepBack 103 = .ok (.getfield 19, 3) := by decide +kernel
theorem d_LazyMachine_stepBack_106 : decode b_LazyMachine_stepBack 106 = .ok (.invokevirtual 206, 3) := by decide +kernel
theorem d_LazyMachine_stepBack_109 : decode b_LazyMachine_stepBack 109 = .ok (.invokevirtual 212, 3) := by decide +kernel
theorem d_LazyMachine_stepBack_112 : decode b_LazyMachine_stepBack 112 = .ok (.ireturn, 1) := by decide +kernel
theorem d_LazyMachine_stepBack_113 : decode b_LazyMachine_stepBack 113 = .ok (.aload_n 0, 1) := by decide +kernel
theorem d_LazyMachine_stepBack_114 : decode b_LazyMachine_stepBack 114 = .ok (.iload_n 1, 1) := by decide +kernel
theorem d_LazyMachine_stepBack_115 : decode b_LazyMachine_stepBack 115 = .ok (.aload_n 0, 1) := by decide +kernel
theorem d_LazyMachine_stepBack_116 : decode b_LazyMachine_stepBack 116 = .ok (.getfield 19, 3) := by decide +kernel
theorem d_LazyMachine_stepBack_119 : decode b_LazyMachine_stepBack 119 = .ok (.invokevirtual 206, 3) := by decide +kernel
theorem d_LazyMachine_stepBack_122 : decode b_LazyMachine_stepBack 122 = .ok (.invokevirtual 215, 3) := by decide +kernel
theorem d_LazyMachine_stepBack_125 : decode b_LazyMachine_stepBack 125 = .ok (.ireturn, 1) := by decide +kernel
theorem d_LazyMachine_stepBack_126 : decode b_LazyMachine_stepBack 126 = .ok (.aload_n 0, 1) := by decide +kernel
theorem d_LazyMachine_stepBack_127 : decode b_LazyMachine_stepBack 127 = .ok (.iload_n 1, 1) := by decide +kernel
theorem d_LazyMachine_stepBack_128 : decode b_LazyMachine_stepBack 128 = .ok (.invokevirtual 218, 3) := by decide +kernel
theorem d_LazyMachine_stepBack_131 : decode b_LazyMachine_stepBack 131 = .ok (.ireturn, 1) := by decide +kernel
theorem d_LazyMachine_stepBack_132 : decode b_LazyMachine_stepBack 132 = .ok (.iconst 2, 1) := by decide +kernel
theorem d_LazyMachine_stepBack_133 : decode b_LazyMachine_stepBack 133 = .ok (.ireturn, 1) := by decide +kernel
theorem d_LazyMachine_run_0 : decode b_LazyMachine_run 0 = .ok (.aload_n 0, 1) := by decide +kernel
theorem d_LazyMachine_run_1 : decode b_LazyMachine_run 1 = .ok (.getfield 33, 3) := by decide +kernel
theorem d_LazyMachine_run_4 : decode b_LazyMachine_run 4 = .ok (.ifCond .ne 13, 3) := by decide +kernel
theorem d_LazyMachine_run_7 : decode b_LazyMachine_run 7 = .ok (.new 76, 3) := by decide +kernel
theorem d_LazyMachine_run_10 : decode b_LazyMachine_run 10 = .ok (.dup, 1) := by decide +kernel
theorem d_LazyMachine_run_11 : decode b_LazyMachine_run 11 = .ok (.ldc 78, 2) := by decide +kernel
theorem d_LazyMachine_run_13 : decode b_LazyMachine_run 13 = .ok (.invokespecial 80, 3) := by decide +kernel
theorem d_LazyMachine_run_16 : decode b_LazyMachine_run 16 = .ok (.athrow, 1) := by decide +kernel
theorem d_LazyMachine_run_17 : decode b_LazyMachine_run 17 = .ok (.iload_n 1, 1) := by decide +kernel
theorem d_LazyMachine_run_18 : decode b_LazyMachine_run 18 = .ok (.ifCond .lt 10, 3) := by decide +kernel
theorem d_LazyMachine_run_21 : decode b_LazyMachine_run 21 = .ok (.iload_n 1, 1) := by decide +kernel
theorem d_LazyMachine_run_22 : decode b_LazyMachine_run 22 = .ok (.sipush 5000, 3) := by decide +kernel
theorem d_LazyMachine_run_25 : decode b_LazyMachine_run 25 = .ok (.if_icmp .le 13, 3) := by decide +kernel
theorem d_LazyMachine_run_28 : decode b_LazyMachine_run 28 = .ok (.new 46, 3) := by decide +kernel
theorem d_LazyMachine_run_31 : decode b_LazyMachine_run 31 = .ok (.dup, 1) := by decide +kernel
theorem d_LazyMachine_run_32 : decode b_LazyMachine_run 32 = .ok (.ldc 81, 2) := by decide +kernel
theorem d_LazyMachine_run_34 : decode b_LazyMachine_run 34 = .ok (.invokespecial 50, 3) := by decide +kernel
theorem d_LazyMachine_run_37 : decode b_LazyMachine_run 37 = .ok (.athrow, 1) := by decide +kernel
theorem d_LazyMachine_run_38 : decode b_LazyMachine_run 38 = .ok (.iconst 0, 1) := by decide +kernel
theorem d_LazyMachine_run_39 : decode b_LazyMachine_run 39 = .ok (.istore_n 2, 1) := by decide +kernel
theorem d_LazyMachine_run_40 : decode b_LazyMachine_run 40 = .ok (.iload_n 2, 1) := by decide +kernel
theorem d_LazyMachine_run_41 : decode b_LazyMachine_run 41 = .ok (.iload_n 1, 1) := by decide +kernel
theorem d_LazyMachine_run_42 : decode b_LazyMachine_run 42 = .ok (.if_icmp .ge 65, 3) := by decide +kernel
theorem d_LazyMachine_run_45 : decode b_LazyMachine_run 45 = .ok (.aload_n 0, 1) := by decide +kernel
theorem d_LazyMachine_run_46 : decode b_LazyMachine_run 46 = .ok (.getfield 33, 3) := by decide +kernel
theorem d_LazyMachine_run_49 : decode b_LazyMachine_run 49 = .ok (.iconst 1, 1) := by decide +kernel
theorem d_LazyMachine_run_50 : decode b_LazyMachine_run 50 = .ok (.if_icmp .ne 57, 3) := by decide +kernel
theorem d_LazyMachine_run_53 : decode b_LazyMachine_run 53 = .ok (.aload_n 0, 1) := by decide +kernel
theorem d_LazyMachine_run_54 : decode b_LazyMachine_run 54 = .ok (.aload_n 0, 1) := by decide +kernel
theorem d_LazyMachine_run_55 : decode b_LazyMachine_run 55 = .ok (.getfield 83, 3) := by decide +kernel
theorem d_LazyMachine_run_58 : decode b_LazyMachine_run 58 = .ok (.ifCond .eq 10, 3) := by decide +kernel
theorem d_LazyMachine_run_61 : decode b_LazyMachine_run 61 = .ok (.aload_n 0, 1) := by decide +kernel
theorem d_LazyMachine_run_62 : decode b_LazyMachine_run 62 = .ok (.invokevirtual 87, 3) := by decide +kernel
theorem d_LazyMachine_run_65 : decode b_LazyMachine_run 65 = .ok (.goto 7, 3) := by decide +kernel
theorem d_LazyMachine_run_68 : decode b_LazyMachine_run 68 = .ok (.aload_n 0, 1) := by decide +kernel
theorem d_LazyMachine_run_69 : decode b_LazyMachine_run 69 = .ok (.invokevirtual 90, 3) := by decide +kernel
theorem d_LazyMachine_run_72 : decode b_LazyMachine_run 72 = .ok (.putfield 33, 3) := by decide +kernel
theorem d_LazyMachine_run_75 : decode b_LazyMachine_run 75 = .ok (.aload_n 0, 1) := by decide +kernel
theorem d_LazyMachine_run_76 : decode b_LazyMachine_run 76 = .ok (.getfield 33, 3) := by decide +kernel
theorem d_LazyMachine_run_79 : decode b_LazyMachine_run 79 = .ok (.iconst 1, 1) := by decide +kernel
theorem d_LazyMachine_run_80 : decode b_LazyMachine_run 80 = .ok (.if_icmp .eq 11, 3) := by decide +kernel
theorem d_LazyMachine_run_83 : decode b_LazyMachine_run 83 = .ok (.aload_n 0, 1) := by decide +kernel
theorem d_LazyMachine_run_84 : decode b_LazyMachine_run 84 = .ok (.getfield 33, 3) := by decide +kernel
theorem d_LazyMachine_run_87 : decode b_LazyMachine_run 87 = .ok (.iconst 2, 1) := by decide +kernel
theorem d_LazyMachine_run_88 : decode b_LazyMachine_run 88 = .ok (.if_icmp .ne 13, 3) := by decide +kernel
theorem d_LazyMachine_run_91 : decode b_LazyMachine_run 91 = .ok (.aload_n 0, 1) := by decide +kernel
theorem d_LazyMachine_run_92 : decode b_LazyMachine_run 92 = .ok (.dup, 1) := by decide +kernel
theorem d_LazyMachine_run_93 : decode b_LazyMachine_run 93 = .ok (.getfield 93, 3) := by decide +kernel
theorem d_LazyMachine_run_96 : decode b_LazyMachine_run 96 = .ok (.iconst 1, 1) := by decide +kernel
theorem d_LazyMachine_run_97 : decode b_LazyMachine_run 97 = .ok (.iadd, 1) := by decide +kernel
theorem d_LazyMachine_run_98 : decode b_LazyMachine_run 98 = .ok (.putfield 93, 3) := by decide +kernel
theorem d_LazyMachine_run_101 : decode b_LazyMachine_run 101 = .ok (.iinc 2 1, 3) := by decide +kernel
theorem d_LazyMachine_run_104 : decode b_LazyMachine_run 104 = .ok (.goto (-64), 3) := by decide +kernel
theorem d_LazyMachine_run_107 : decode b_LazyMachine_run 107 = .ok (.aload_n 0, 1) := by decide +kernel
theorem d_LazyMachine_run_108 : decode b_LazyMachine_run 108 = .ok (.getfield 33, 3) := by decide +kernel
theorem d_LazyMachine_run_111 : decode b_LazyMachine_run 111 = .ok (.ireturn, 1) := by decide +kernel
