theorem d_Mod_fails_0 : decode b_Mod_fails 0 = .ok (.aload_n 0, 1) := by decide +kernel
theorem d_Mod_fails_1 : decode b_Mod_fails 1 = .ok (.getfield 7, 3) := by decide +kernel
theorem d_Mod_fails_4 : decode b_Mod_fails 4 = .ok (.bipush 36, 2) := by decide +kernel
theorem d_Mod_fails_6 : decode b_Mod_fails 6 = .ok (.aload_n 0, 1) := by decide +kernel
theorem d_Mod_fails_7 : decode b_Mod_fails 7 = .ok (.getfield 35, 3) := by decide +kernel
theorem d_Mod_fails_10 : decode b_Mod_fails 10 = .ok (.aload_n 0, 1) := by decide +kernel
theorem d_Mod_fails_11 : decode b_Mod_fails 11 = .ok (.getfield 112, 3) := by decide +kernel
theorem d_Mod_fails_14 : decode b_Mod_fails 14 = .ok (.iaload, 1) := by decide +kernel
theorem d_Mod_fails_15 : decode b_Mod_fails 15 = .ok (.imul, 1) := by decide +kernel
theorem d_Mod_fails_16 : decode b_Mod_fails 16 = .ok (.iconst 2, 1) := by decide +kernel
theorem d_Mod_fails_17 : decode b_Mod_fails 17 = .ok (.iadd, 1) := by decide +kernel
theorem d_Mod_fails_18 : decode b_Mod_fails 18 = .ok (.iaload, 1) := by decide +kernel
theorem d_Mod_fails_19 : decode b_Mod_fails 19 = .ok (.istore_n 3, 1) := by decide +kernel
theorem d_Mod_fails_20 : decode b_Mod_fails 20 = .ok (.iload_n 1, 1) := by decide +kernel
theorem d_Mod_fails_21 : decode b_Mod_fails 21 = .ok (.iconst 3, 1) := by decide +kernel
theorem d_Mod_fails_22 : decode b_Mod_fails 22 = .ok (.if_icmp .ne 26, 3) := by decide +kernel
theorem d_Mod_fails_25 : decode b_Mod_fails 25 = .ok (.iload_n 2, 1) := by decide +kernel
theorem d_Mod_fails_26 : decode b_Mod_fails 26 = .ok (.ifCond .lt 16, 3) := by decide +kernel
theorem d_Mod_fails_29 : decode b_Mod_fails 29 = .ok (.iload_n 2, 1) := by decide +kernel
theorem d_Mod_fails_30 : decode b_Mod_fails 30 = .ok (.aload_n 0, 1) := by decide +kernel
theorem d_Mod_fails_31 : decode b_Mod_fails 31 = .ok (.getfield 53, 3) := by decide +kernel
theorem d_Mod_fails_34 : decode b_Mod_fails 34 = .ok (.aload_n 0, 1) := by decide +kernel
theorem d_Mod_fails_35 : decode b_Mod_fails 35 = .ok (.getfield 112, 3) := by decide +kernel
theorem d_Mod_fails_38 : decode b_Mod_fails 38 = .ok (.iaload, 1) := by decide +kernel
theorem d_Mod_fails_39 : decode b_Mod_fails 39 = .ok (.if_icmp .lt 7, 3) := by decide +kernel
theorem d_Mod_fails_42 : decode b_Mod_fails 42 = .ok (.iconst 1, 1) := by decide +kernel
theorem d_Mod_fails_43 : decode b_Mod_fails 43 = .ok (.goto 4, 3) := by decide +kernel
theorem d_Mod_fails_46 : decode b_Mod_fails 46 = .ok (.iconst 0, 1) := by decide +kernel
theorem d_Mod_fails_47 : decode b_Mod_fails 47 = .ok (.ireturn, 1) := by decide +kernel
theorem d_Mod_fails_48 : decode b_Mod_fails 48 = .ok (.iload_n 1, 1) := by decide +kernel
theorem d_Mod_fails_49 : decode b_Mod_fails 49 = .ok (.iconst 4, 1) := by decide +kernel
theorem d_Mod_fails_50 : decode b_Mod_fails 50 = .ok (.if_icmp .ne 27, 3) := by decide +kernel
theorem d_Mod_fails_53 : decode b_Mod_fails 53 = .ok (.iload_n 2, 1) := by decide +kernel
theorem d_Mod_fails_54 : decode b_Mod_fails 54 = .ok (.iconst 1, 1) := by decide +kernel
theorem d_Mod_fails_55 : decode b_Mod_fails 55 = .ok (.if_icmp .lt 16, 3) := by decide +kernel
theorem d_Mod_fails_58 : decode b_Mod_fails 58 = .ok (.iload_n 2, 1) := by decide +kernel
theorem d_Mod_fails_59 : decode b_Mod_fails 59 = .ok (.aload_n 0, 1) := by decide +kernel
theorem d_Mod_fails_60 : decode b_Mod_fails 60 = .ok (.getfield 53, 3) := by decide +kernel
theorem d_Mod_fails_63 : decode b_Mod_fails 63 = .ok (.aload_n 0, 1) := by decide +kernel
theorem d_Mod_fails_64 : decode b_Mod_fails 64 = .ok (.getfield 112, 3) := by decide +kernel
theorem d_Mod_fails_67 : decode b_Mod_fails 67 = .ok (.iaload, 1) := by decide +kernel
theorem d_Mod_fails_68 : decode b_Mod_fails 68 = .ok (.if_icmp .lt 7, 3) := by decide +kernel
theorem d_Mod_fails_71 : decode b_Mod_fails 71 = .ok (.iconst 1, 1) := by decide +kernel
theorem d_Mod_fails_72 : decode b_Mod_fails 72 = .ok (.goto 4, 3) := by decide +kernel
theorem d_Mod_fails_75 : decode b_Mod_fails 75 = .ok (.iconst 0, 1) := by decide +kernel
theorem d_Mod_fails_76 : decode b_Mod_fails 76 = .ok (.ireturn, 1) := by decide +kernel
theorem d_Mod_fails_77 : decode b_Mod_fails 77 = .ok (.iload_n 1, 1) := by decide +kernel
theorem d_Mod_fails_78 : decode b_Mod_fails 78 = .ok (.bipush 12, 2) := by decide +kernel
theorem d_Mod_fails_80 : decode b_Mod_fails 80 = .ok (.if_icmp .eq 17, 3) := by decide +kernel
theorem d_Mod_fails_83 : decode b_Mod_fails 83 = .ok (.iload_n 1, 1) := by decide +kernel
theorem d_Mod_fails_84 : decode b_Mod_fails 84 = .ok (.bipush 13, 2) := by decide +kernel
theorem d_Mod_fails_86 : decode b_Mod_fails 86 = .ok (.if_icmp .ne 29, 3) := by decide +kernel
theorem d_Mod_fails_89 : decode b_Mod_fails 89 = .ok (.aload_n 0, 1) := by decide +kernel
theorem d_Mod_fails_90 : decode b_Mod_fails 90 = .ok (.iconst 1, 1) := by decide +kernel
theorem d_Mod_fails_91 : decode b_Mod_fails 91 = .ok (.invokevirtual 134, 3) := by decide +kernel
theorem d_Mod_fails_94 : decode b_Mod_fails 94 = .ok (.ifCond .eq 21, 3) := by decide +kernel
theorem d_Mod_fails_97 : decode b_Mod_fails 97 = .ok (.aload_n 0, 1) := by decide +kernel
theorem d_Mod_fails_98 : decode b_Mod_fails 98 = .ok (.iconst 0, 1) := by decide +kernel
theorem d_Mod_fails_99 : decode b_Mod_fails 99 = .ok (.invokevirtual 134, 3) := by decide +kernel
theorem d_Mod_fails_102 : decode b_Mod_fails 102 = .ok (.iload_n 3, 1) := by decide +kernel
theorem d_Mod_fails_103 : decode b_Mod_fails 103 = .ok (.invokestatic 81, 3) := by decide +kernel
theorem d_Mod_fails_106 : decode b_Mod_fails 106 = .ok (.ifCond .ne 7, 3) := by decide +kernel
theorem d_Mod_fails_109 : decode b_Mod_fails 109 = .ok (.iconst 1, 1) := by decide +kernel
theorem d_Mod_fails_110 : decode b_Mod_fails 110 = .ok (.goto 4, 3) := by decide +kernel
theorem d_Mod_fails_113 : decode b_Mod_fails 113 = .ok (.iconst 0, 1) := by decide +kernel
theorem d_Mod_fails_114 : decode b_Mod_fails 114 = .ok (.ireturn, 1) := by decide +kernel
theorem d_Mod_fails_115 : decode b_Mod_fails 115 = .ok (.iload_n 1, 1) := by decide +kernel
theorem d_Mod_fails_116 : decode b_Mod_fails 116 = .ok (.bipush 15, 2) := by decide +kernel
theorem d_Mod_fails_118 : decode b_Mod_fails 118 = .ok (.if_icmp .ne 22, 3) := by decide +kernel
theorem d_Mod_fails_121 : decode b_Mod_fails 121 = .ok (.aload_n 0, 1) := by decide +kernel
theorem d_Mod_fails_122 : decode b_Mod_fails 122 = .ok (.iconst 0, 1) := by decide +kernel
theorem d_Mod_fails_123 : decode b_Mod_fails 123 = .ok (.invokevirtual 134, 3) := by decide +kernel
theorem d_Mod_fails_126 : decode b_Mod_fails 126 = .ok (.bipush 8, 2) := by decide +kernel
theorem d_Mod_fails_128 : decode b_Mod_fails 128 = .ok (.invokestatic 81, 3) := by decide +kernel
theorem d_Mod_fails_131 : decode b_Mod_fails 131 = .ok (.ifCond .ne 7, 3) := by decide +kernel
theorem d_Mod_fails_134 : decode b_Mod_fails 134 = .ok (.iconst 1, 1) := by decide +kernel
theorem d_Mod_fails_135 : decode b_Mod_fails 135 = .ok (.goto 4, 3) := by decide +kernel
theorem d_Mod_fails_138 : decode b_Mod_fails 138 = .ok (.iconst 0, 1) := by decide +kernel
theorem d_Mod_fails_139 : decode b_Mod_fails 139 = .ok (.ireturn, 1) := by decide +kernel
theorem d_Mod_fails_140 : decode b_Mod_fails 140 = .ok (.iload_n 1, 1) := by decide +kernel
theorem d_Mod_fails_141 : decode b_Mod_fails 141 = .ok (.bipush 22, 2) := by decide +kernel
theorem d_Mod_fails_143 : decode b_Mod_fails 143 = .ok (.if_icmp .ne 17, 3) := by decide +kernel
theorem d_Mod_fails_146 : decode b_Mod_fails 146 = .ok (.aload_n 0, 1) := by decide +kernel
theorem d_Mod_fails_147 : decode b_Mod_fails 147 = .ok (.iconst 2, 1) := by decide +kernel
theorem d_Mod_fails_148 : decode b_Mod_fails 148 = .ok (.invokevirtual 134, 3) := by decide +kernel
theorem d_Mod_fails_151 : decode b_Mod_fails 151 = .ok (.ifCond .ge 7, 3) := by decide +kernel
theorem d_Mod_fails_154 : decode b_Mod_fails 154 = .ok (.iconst 1, 1) := by decide +kernel
theorem d_Mod_fails_155 : decode b_Mod_fails 155 = .ok (.goto 4, 3) := by decide +kernel
theorem d_Mod_fails_158 : decode b_Mod_fails 158 = .ok (.iconst 0, 1) := by decide +kernel
theorem d_Mod_fails_159 : decode b_Mod_fails 159 = .ok (.ireturn, 1) := by decide +kernel
theorem d_Mod_fails_160 : decode b_Mod_fails 160 = .ok (.iload_n 1, 1) := by decide +kernel
theorem d_Mod_fails_161 : decode b_Mod_fails 161 = .ok (.bipush 24, 2) := by decide +kernel
theorem d_Mod_fails_163 : decode b_Mod_fails 163 = .ok (.if_icmp .ne 58, 3) := by decide +kernel
theorem d_Mod_fails_166 : decode b_Mod_fails 166 = .ok (.aload_n 0, 1) := by decide +kernel
theorem d_Mod_fails_167 : decode b_Mod_fails 167 = .ok (.iconst 1, 1) := by decide +kernel
theorem d_Mod_fails_168 : decode b_Mod_fails 168 = .ok (.invokevirtual 134, 3) := by decide +kernel
theorem d_Mod_fails_171 : decode b_Mod_fails 171 = .ok (.istore 4, 2) := by decide +kernel
theorem d_Mod_fails_173 : decode b_Mod_fails 173 = .ok (.aload_n 0, 1) := by decide +kernel
theorem d_Mod_fails_174 : decode b_Mod_fails 174 = .ok (.iconst 2, 1) := by decide +kernel
theorem d_Mod_fails_175 : decode b_Mod_fails 175 = .ok (.invokevirtual 134, 3) := by decide +kernel
theorem d_Mod_fails_178 : decode b_Mod_fails 178 = .ok (.istore 5, 2) := by decide +kernel
theorem d_Mod_fails_180 : decode b_Mod_fails 180 = .ok (.aload_n 0, 1) := by decide +kernel
theorem d_Mod_fails_181 : decode b_Mod_fails 181 = .ok (.iconst 0, 1) := by decide +kernel
theorem d_Mod_fails_182 : decode b_Mod_fails 182 = .ok (.invokevirtual 134, 3) := by decide +kernel
theorem d_Mod_fails_185 : decode b_Mod_fails 185 = .ok (.ifCond .lt 30, 3) := by decide +kernel
theorem d_Mod_fails_188 : decode b_Mod_fails 188 = .ok (.iload 5, 2) := by decide +kernel
theorem d_Mod_fails_190 : decode b_Mod_fails 190 = .ok (.iconst 1, 1) := by decide +kernel
theorem d_Mod_fails_191 : decode b_Mod_fails 191 = .ok (.if_icmp .lt 24, 3) := by decide +kernel
theorem d_Mod_fails_194 : decode b_Mod_fails 194 = .ok (.iload 5, 2) := by decide +kernel
theorem d_Mod_fails_196 : decode b_Mod_fails 196 = .ok (.bipush 24, 2) := by decide +kernel
theorem d_Mod_fails_198 : decode b_Mod_fails 198 = .ok (.if_icmp .gt 17, 3) := by decide +kernel
theorem d_Mod_fails_201 : decode b_Mod_fails 201 = .ok (.iload 4, 2) := by decide +kernel
theorem d_Mod_fails_203 : decode b_Mod_fails 203 = .ok (.ifCond .lt 12, 3) := by decide +kernel
theorem d_Mod_fails_206 : decode b_Mod_fails 206 = .ok (.iload 4, 2) := by decide +kernel
theorem d_Mod_fails_208 : decode b_Mod_fails 208 = .ok (.iload_n 3, 1) := by decide +kernel
theorem d_Mod_fails_209 : decode b_Mod_fails 209 = .ok (.iload 5, 2) := by decide +kernel
theorem d_Mod_fails_211 : decode b_Mod_fails 211 = .ok (.isub, 1) := by decide +kernel
theorem d_Mod_fails_212 : decode b_Mod_fails 212 = .ok (.if_icmp .le 7, 3) := by decide +kernel
theorem d_Mod_fails_215 : decode b_Mod_fails 215 = .ok (.iconst 1, 1) := by decide +kernel
theorem d_Mod_fails_216 : decode b_Mod_fails 216 = .ok (.goto 4, 3) := by decide +kernel
theorem d_Mod_fails_219 : decode b_Mod_fails 219 = .ok (.iconst 0, 1) := by decide +kernel
theorem d_Mod_fails_220 : decode b_Mod_fails 220 = .ok (.ireturn, 1) := by decide +kernel
theorem d_Mod_fails_221 : decode b_Mod_fails 221 = .ok (.iload_n 1, 1) := by decide +kernel
theorem d_Mod_fails_222 : decode b_Mod_fails 222 = .ok (.bipush 28, 2) := by decide +kernel
theorem d_Mod_fails_224 : decode b_Mod_fails 224 = .ok (.if_icmp .ne 16, 3) := by decide +kernel
theorem d_Mod_fails_227 : decode b_Mod_fails 227 = .ok (.aload_n 0, 1) := by decide +kernel
theorem d_Mod_fails_228 : decode b_Mod_fails 228 = .ok (.iconst 0, 1) := by decide +kernel
theorem d_Mod_fails_229 : decode b_Mod_fails 229 = .ok (.invokevirtual 134, 3) := by decide +kernel
theorem d_Mod_fails_232 : decode b_Mod_fails 232 = .ok (.bipush 16, 2) := by decide +kernel
theorem d_Mod_fails_234 : decode b_Mod_fails 234 = .ok (.invokestatic 81, 3) := by decide +kernel
theorem d_Mod_fails_237 : decode b_Mod_fails 237 = .ok (.ifCond .eq 9, 3) := by decide +kernel
theorem d_Mod_fails_240 : decode b_Mod_fails 240 = .ok (.iload_n 1, 1) := by decide +kernel
theorem d_Mod_fails_241 : decode b_Mod_fails 241 = .ok (.bipush 28, 2) := by decide +kernel
theorem d_Mod_fails_243 : decode b_Mod_fails 243 = .ok (.if_icmp .le 7, 3) := by decide +kernel
theorem d_Mod_fails_246 : decode b_Mod_fails 246 = .ok (.iconst 1, 1) := by decide +kernel
theorem d_Mod_fails_247 : decode b_Mod_fails 247 = .ok (.goto 4, 3) := by decide +kernel
theorem d_Mod_fails_250 : decode b_Mod_fails 250 = .ok (.iconst 0, 1) := by decide +kernel
theorem d_Mod_fails_251 : decode b_Mod_fails 251 = .ok (.ireturn, 1) := by decide +kernel
theorem d_Mod_step_0 : decode b_Mod_step 0 = .ok (.aload_n 0, 1) := by decide +kernel
theorem d_Mod_step_1 : decode b_Mod_step 1 = .ok (.getfield 38, 3) := by decide +kernel
theorem d_Mod_step_4 : decode b_Mod_step 4 = .ok (.aload_n 0, 1) := by decide +kernel
theorem d_Mod_step_5 : decode b_Mod_step 5 = .ok (.getfield 112, 3) := by decide +kernel
theorem d_Mod_step_8 : decode b_Mod_step 8 = .ok (.iaload, 1) := by decide +kernel
theorem d_Mod_step_9 : decode b_Mod_step 9 = .ok (.istore_n 1, 1) := by decide +kernel
theorem d_Mod_step_10 : decode b_Mod_step 10 = .ok (.iload_n 1, 1) := by decide +kernel
theorem d_Mod_step_11 : decode b_Mod_step 11 = .ok (.aload_n 0, 1) := by decide +kernel
theorem d_Mod_step_12 : decode b_Mod_step 12 = .ok (.getfield 7, 3) := by decide +kernel
theorem d_Mod_step_15 : decode b_Mod_step 15 = .ok (.bipush 36, 2) := by decide +kernel
theorem d_Mod_step_17 : decode b_Mod_step 17 = .ok (.aload_n 0, 1) := by decide +kernel
theorem d_Mod_step_18 : decode b_Mod_step 18 = .ok (.getfield 35, 3) := by decide +kernel
theorem d_Mod_step_21 : decode b_Mod_step 21 = .ok (.aload_n 0, 1) := by decide +kernel
theorem d_Mod_step_22 : decode b_Mod_step 22 = .ok (.getfield 112, 3) := by decide +kernel
theorem d_Mod_step_25 : decode b_Mod_step 25 = .ok (.iaload, 1) := by decide +kernel
theorem d_Mod_step_26 : decode b_Mod_step 26 = .ok (.imul, 1) := by decide +kernel
theorem d_Mod_step_27 : decode b_Mod_step 27 = .ok (.iconst 2, 1) := by decide +kernel
theorem d_Mod_step_28 : decode b_Mod_step 28 = .ok (.iadd, 1) := by decide +kernel
theorem d_Mod_step_29 : decode b_Mod_step 29 = .ok (.iaload, 1) := by decide +kernel
theorem d_Mod_step_30 : decode b_Mod_step 30 = .ok (.if_icmp .lt 19, 3) := by decide +kernel
theorem d_Mod_step_33 : decode b_Mod_step 33 = .ok (.aload_n 0, 1) := by decide +kernel
theorem d_Mod_step_34 : decode b_Mod_step 34 = .ok (.iconst 1, 1) := by decide +kernel
theorem d_Mod_step_35 : decode b_Mod_step 35 = .ok (.iconst 0, 1) := by decide +kernel
theorem d_Mod_step_36 : decode b_Mod_step 36 = .ok (.aload_n 0, 1) := by decide +kernel
theorem d_Mod_step_37 : decode b_Mod_step 37 = .ok (.getfield 50, 3) := by decide +kernel
theorem d_Mod_step_40 : decode b_Mod_step 40 = .ok (.aload_n 0, 1) := by decide +kernel
theorem d_Mod_step_41 : decode b_Mod_step 41 = .ok (.getfield 112, 3) := by decide +kernel
theorem d_Mod_step_44 : decode b_Mod_step 44 = .ok (.iaload, 1) := by decide +kernel
theorem d_Mod_step_45 : decode b_Mod_step 45 = .ok (.invokevirtual 137, 3) := by decide +kernel
theorem d_Mod_step_48 : decode b_Mod_step 48 = .ok (.return_, 1) := by decide +kernel
theorem d_Mod_step_49 : decode b_Mod_step 49 = .ok (.aload_n 0, 1) := by decide +kernel
theorem d_Mod_step_50 : decode b_Mod_step 50 = .ok (.getfield 7, 3) := by decide +kernel
theorem d_Mod_step_53 : decode b_Mod_step 53 = .ok (.bipush 36, 2) := by decide +kernel
theorem d_Mod_step_55 : decode b_Mod_step 55 = .ok (.aload_n 0, 1) := by decide +kernel
theorem d_Mod_step_56 : decode b_Mod_step 56 = .ok (.getfield 35, 3) := by decide +kernel
theorem d_Mod_step_59 : decode b_Mod_step 59 = .ok (.aload_n 0, 1) := by decide +kernel
theorem d_Mod_step_60 : decode b_Mod_step 60 = .ok (.getfield 112, 3) := by decide +kernel
theorem d_Mod_step_63 : decode b_Mod_step 63 = .ok (.iaload, 1) := by decide +kernel
theorem d_Mod_step_64 : decode b_Mod_step 64 = .ok (.imul, 1) := by decide +kernel
theorem d_Mod_step_65 : decode b_Mod_step 65 = .ok (.iconst 3, 1) := by decide +kernel
theorem d_Mod_step_66 : decode b_Mod_step 66 = .ok (.iadd, 1) := by decide +kernel
theorem d_Mod_step_67 : decode b_Mod_step 67 = .ok (.iload_n 1, 1) := by decide +kernel
theorem d_Mod_step_68 : decode b_Mod_step 68 = .ok (.iadd, 1) := by decide +kernel
theorem d_Mod_step_69 : decode b_Mod_step 69 = .ok (.iaload, 1) := by decide +kernel
theorem d_Mod_step_70 : decode b_Mod_step 70 = .ok (.istore_n 2, 1) := by decide +kernel
theorem d_Mod_step_71 : decode b_Mod_step 71 = .ok (.iload_n 2, 1) := by decide +kernel
theorem d_Mod_step_72 : decode b_Mod_step 72 = .ok (.bipush 31, 2) := by decide +kernel
theorem d_Mod_step_74 : decode b_Mod_step 74 = .ok (.iand, 1) := by decide +kernel
theorem d_Mod_step_75 : decode b_Mod_step 75 = .ok (.istore_n 3, 1) := by decide +kernel
theorem d_Mod_step_76 : decode b_Mod_step 76 = .ok (.iload_n 2, 1) := by decide +kernel
theorem d_Mod_step_77 : decode b_Mod_step 77 = .ok (.iconst 5, 1) := by decide +kernel
theorem d_Mod_step_78 : decode b_Mod_step 78 = .ok (.ishr, 1) := by decide +kernel
theorem d_Mod_step_79 : decode b_Mod_step 79 = .ok (.istore 4, 2) := by decide +kernel
theorem d_Mod_step_81 : decode b_Mod_step 81 = .ok (.aload_n 0, 1) := by decide +kernel
theorem d_Mod_step_82 : decode b_Mod_step 82 = .ok (.getfield 53, 3) := by decide +kernel
theorem d_Mod_step_85 : decode b_Mod_step 85 = .ok (.aload_n 0, 1) := by decide +kernel
theorem d_Mod_step_86 : decode b_Mod_step 86 = .ok (.getfield 112, 3) := by decide +kernel
theorem d_Mod_step_89 : decode b_Mod_step 89 = .ok (.iaload, 1) := by decide +kernel
theorem d_Mod_step_90 : decode b_Mod_step 90 = .ok (.istore 5, 2) := by decide +kernel
theorem d_Mod_step_92 : decode b_Mod_step 92 = .ok (.iload 5, 2) := by decide +kernel
theorem d_Mod_step_94 : decode b_Mod_step 94 = .ok (.iload_n 3, 1) := by decide +kernel
theorem d_Mod_step_95 : decode b_Mod_step 95 = .ok (.invokestatic 141, 3) := by decide +kernel
theorem d_Mod_step_98 : decode b_Mod_step 98 = .ok (.if_icmp .lt 47, 3) := by decide +kernel
theorem d_Mod_step_101 : decode b_Mod_step 101 = .ok (.iload 5, 2) := by decide +kernel
theorem d_Mod_step_103 : decode b_Mod_step 103 = .ok (.iload_n 3, 1) := by decide +kernel
theorem d_Mod_step_104 : decode b_Mod_step 104 = .ok (.invokestatic 141, 3) := by decide +kernel
theorem d_Mod_step_107 : decode b_Mod_step 107 = .ok (.isub, 1) := by decide +kernel
theorem d_Mod_step_108 : decode b_Mod_step 108 = .ok (.iload_n 3, 1) := by decide +kernel
theorem d_Mod_step_109 : decode b_Mod_step 109 = .ok (.invokestatic 144, 3) := by decide +kernel
theorem d_Mod_step_112 : decode b_Mod_step 112 = .ok (.iadd, 1) := by decide +kernel
theorem d_Mod_step_113 : decode b_Mod_step 113 = .ok (.bipush 12, 2) := by decide +kernel
theorem d_Mod_step_115 : decode b_Mod_step 115 = .ok (.if_icmp .gt 30, 3) := by decide +kernel
theorem d_Mod_step_118 : decode b_Mod_step 118 = .ok (.aload_n 0, 1) := by decide +kernel
theorem d_Mod_step_119 : decode b_Mod_step 119 = .ok (.getfield 50, 3) := by decide +kernel
theorem d_Mod_step_122 : decode b_Mod_step 122 = .ok (.aload_n 0, 1) := by decide +kernel
theorem d_Mod_step_123 : decode b_Mod_step 123 = .ok (.getfield 112, 3) := by decide +kernel
theorem d_Mod_step_126 : decode b_Mod_step 126 = .ok (.iaload, 1) := by decide +kernel
theorem d_Mod_step_127 : decode b_Mod_step 127 = .ok (.aload_n 0, 1) := by decide +kernel
theorem d_Mod_step_128 : decode b_Mod_step 128 = .ok (.iload_n 3, 1) := by decide +kernel
theorem d_Mod_step_129 : decode b_Mod_step 129 = .ok (.invokevirtual 147, 3) := by decide +kernel
theorem d_Mod_step_132 : decode b_Mod_step 132 = .ok (.if_icmp .lt 13, 3) := by decide +kernel
theorem d_Mod_step_135 : decode b_Mod_step 135 = .ok (.aload_n 0, 1) := by decide +kernel
theorem d_Mod_step_136 : decode b_Mod_step 136 = .ok (.iload_n 3, 1) := by decide +kernel
theorem d_Mod_step_137 : decode b_Mod_step 137 = .ok (.iload 4, 2) := by decide +kernel
theorem d_Mod_step_139 : decode b_Mod_step 139 = .ok (.invokevirtual 150, 3) := by decide +kernel
theorem d_Mod_step_142 : decode b_Mod_step 142 = .ok (.ifCond .eq 11, 3) := by decide +kernel
theorem d_Mod_step_145 : decode b_Mod_step 145 = .ok (.aload_n 0, 1) := by decide +kernel
theorem d_Mod_step_146 : decode b_Mod_step 146 = .ok (.iconst 0, 1) := by decide +kernel
theorem d_Mod_step_147 : decode b_Mod_step 147 = .ok (.iconst 0, 1) := by decide +kernel
theorem d_Mod_step_148 : decode b_Mod_step 148 = .ok (.iconst 0, 1) := by decide +kernel
theorem d_Mod_step_149 : decode b_Mod_step 149 = .ok (.invokevirtual 137, 3) := by decide +kernel
theorem d_Mod_step_152 : decode b_Mod_step 152 = .ok (.return_, 1) := by decide +kernel
theorem d_Mod_step_153 : decode b_Mod_step 153 = .ok (.aload_n 0, 1) := by decide +kernel
theorem d_Mod_step_154 : decode b_Mod_step 154 = .ok (.getfield 50, 3) := by decide +kernel
theorem d_Mod_step_157 : decode b_Mod_step 157 = .ok (.aload_n 0, 1) := by decide +kernel
theorem d_Mod_step_158 : decode b_Mod_step 158 = .ok (.getfield 112, 3) := by decide +kernel
theorem d_Mod_step_161 : decode b_Mod_step 161 = .ok (.dup2, 1) := by decide +kernel
theorem d_Mod_step_162 : decode b_Mod_step 162 = .ok (.iaload, 1) := by decide +kernel
theorem d_Mod_step_163 : decode b_Mod_step 163 = .ok (.aload_n 0, 1) := by decide +kernel
theorem d_Mod_step_164 : decode b_Mod_step 164 = .ok (.iload_n 3, 1) := by decide +kernel
theorem d_Mod_step_165 : decode b_Mod_step 165 = .ok (.invokevirtual 147, 3) := by decide +kernel
theorem d_Mod_step_168 : decode b_Mod_step 168 = .ok (.isub, 1) := by decide +kernel
theorem d_Mod_step_169 : decode b_Mod_step 169 = .ok (.iastore, 1) := by decide +kernel
theorem d_Mod_step_170 : decode b_Mod_step 170 = .ok (.aload_n 0, 1) := by decide +kernel
theorem d_Mod_step_171 : decode b_Mod_step 171 = .ok (.getfield 38, 3) := by decide +kernel
theorem d_Mod_step_174 : decode b_Mod_step 174 = .ok (.aload_n 0, 1) := by decide +kernel
theorem d_Mod_step_175 : decode b_Mod_step 175 = .ok (.getfield 112, 3) := by decide +kernel
theorem d_Mod_step_178 : decode b_Mod_step 178 = .ok (.dup2, 1) := by decide +kernel
theorem d_Mod_step_179 : decode b_Mod_step 179 = .ok (.iaload, 1) := by decide +kernel
theorem d_Mod_step_180 : decode b_Mod_step 180 = .ok (.iconst 1, 1) := by decide +kernel
theorem d_Mod_step_181 : decode b_Mod_step 181 = .ok (.iadd, 1) := by decide +kernel
theorem d_Mod_step_182 : decode b_Mod_step 182 = .ok (.iastore, 1) := by decide +kernel
theorem d_Mod_step_183 : decode b_Mod_step 183 = .ok (.iload_n 3, 1) := by decide +kernel
theorem d_Mod_step_184 : decode b_Mod_step 184 = .ok (.ifCond .ne 21, 3) := by decide +kernel
theorem d_Mod_step_187 : decode b_Mod_step 187 = .ok (.aload_n 0, 1) := by decide +kernel
theorem d_Mod_step_188 : decode b_Mod_step 188 = .ok (.iconst 1, 1) := by decide +kernel
theorem d_Mod_step_189 : decode b_Mod_step 189 = .ok (.iconst 0, 1) := by decide +kernel
theorem d_Mod_step_190 : decode b_Mod_step 190 = .ok (.aload_n 0, 1) := by decide +kernel
theorem d_Mod_step_191 : decode b_Mod_step 191 = .ok (.getfield 50, 3) := by decide +kernel
theorem d_Mod_step_194 : decode b_Mod_step 194 = .ok (.aload_n 0, 1) := by decide +kernel
theorem d_Mod_step_195 : decode b_Mod_step 195 = .ok (.getfield 112, 3) := by decide +kernel
theorem d_Mod_step_198 : decode b_Mod_step 198 = .ok (.iaload, 1) := by decide +kernel
theorem d_Mod_step_199 : decode b_Mod_step 199 = .ok (.invokevirtual 137, 3) := by decide +kernel
theorem d_Mod_step_202 : decode b_Mod_step 202 = .ok (.goto 90, 3) := by decide +kernel
theorem d_Mod_step_205 : decode b_Mod_step 205 = .ok (.iload_n 3, 1) := by decide +kernel
theorem d_Mod_step_206 : decode b_Mod_step 206 = .ok (.iconst 5, 1) := by decide +kernel
theorem d_Mod_step_207 : decode b_Mod_step 207 = .ok (.if_icmp .ge 13, 3) := by decide +kernel
theorem d_Mod_step_210 : decode b_Mod_step 210 = .ok (.aload_n 0, 1) := by decide +kernel
theorem d_Mod_step_211 : decode b_Mod_step 211 = .ok (.iload_n 3, 1) := by decide +kernel
theorem d_Mod_step_212 : decode b_Mod_step 212 = .ok (.iload 4, 2) := by decide +kernel
theorem d_Mod_step_214 : decode b_Mod_step 214 = .ok (.invokevirtual 153, 3) := by decide +kernel
theorem d_Mod_step_217 : decode b_Mod_step 217 = .ok (.goto 75, 3) := by decide +kernel
theorem d_Mod_step_220 : decode b_Mod_step 220 = .ok (.iload_n 3, 1) := by decide +kernel
theorem d_Mod_step_221 : decode b_Mod_step 221 = .ok (.bipush 12, 2) := by decide +kernel
theorem d_Mod_step_223 : decode b_Mod_step 223 = .ok (.if_icmp .ge 11, 3) := by decide +kernel
theorem d_Mod_step_226 : decode b_Mod_step 226 = .ok (.aload_n 0, 1) := by decide +kernel
theorem d_Mod_step_227 : decode b_Mod_step 227 = .ok (.iload_n 3, 1) := by decide +kernel
theorem d_Mod_step_228 : decode b_Mod_step 228 = .ok (.invokevirtual 157, 3) := by decide +kernel
theorem d_Mod_step_231 : decode b_Mod_step 231 = .ok (.goto 61, 3) := by decide +kernel
theorem d_Mod_step_234 : decode b_Mod_step 234 = .ok (.iload_n 3, 1) := by decide +kernel
theorem d_Mod_step_235 : decode b_Mod_step 235 = .ok (.bipush 14, 2) := by decide +kernel
theorem d_Mod_step_237 : decode b_Mod_step 237 = .ok (.if_icmp .ge 36, 3) := by decide +kernel
theorem d_Mod_step_240 : decode b_Mod_step 240 = .ok (.aload_n 0, 1) := by decide +kernel
theorem d_Mod_step_241 : decode b_Mod_step 241 = .ok (.invokevirtual 160, 3) := by decide +kernel
theorem d_Mod_step_244 : decode b_Mod_step 244 = .ok (.istore 6, 2) := by decide +kernel
theorem d_Mod_step_246 : decode b_Mod_step 246 = .ok (.iload_n 3, 1) := by decide +kernel
theorem d_Mod_step_247 : decode b_Mod_step 247 = .ok (.bipush 12, 2) := by decide +kernel
theorem d_Mod_step_249 : decode b_Mod_step 249 = .ok (.if_icmp .eq 10, 3) := by decide +kernel
theorem d_Mod_step_252 : decode b_Mod_step 252 = .ok (.aload_n 0, 1) := by decide +kernel
theorem d_Mod_step_253 : decode b_Mod_step 253 = .ok (.invokevirtual 160, 3) := by decide +kernel
theorem d_Mod_step_256 : decode b_Mod_step 256 = .ok (.ifCond .eq 14, 3) := by decide +kernel
theorem d_Mod_step_259 : decode b_Mod_step 259 = .ok (.aload_n 0, 1) := by decide +kernel
theorem d_Mod_step_260 : decode b_Mod_step 260 = .ok (.getfield 38, 3) := by decide +kernel
theorem d_Mod_step_263 : decode b_Mod_step 263 = .ok (.aload_n 0, 1) := by decide +kernel
theorem d_Mod_step_264 : decode b_Mod_step 264 = .ok (.getfield 112, 3) := by decide +kernel
theorem d_Mod_step_267 : decode b_Mod_step 267 = .ok (.iload 6, 2) := by decide +kernel
theorem d_Mod_step_269 : decode b_Mod_step 269 = .ok (.iastore, 1) := by decide +kernel
theorem d_Mod_step_270 : decode b_Mod_step 270 = .ok (.goto 22, 3) := by decide +kernel
theorem d_Mod_step_273 : decode b_Mod_step 273 = .ok (.iload_n 3, 1) := by decide +kernel
theorem d_Mod_step_274 : decode b_Mod_step 274 = .ok (.bipush 22, 2) := by decide +kernel
theorem d_Mod_step_276 : decode b_Mod_step 276 = .ok (.if_icmp .ge 11, 3) := by decide +kernel
theorem d_Mod_step_279 : decode b_Mod_step 279 = .ok (.aload_n 0, 1) := by decide +kernel
theorem d_Mod_step_280 : decode b_Mod_step 280 = .ok (.iload_n 3, 1) := by decide +kernel
theorem d_Mod_step_281 : decode b_Mod_step 281 = .ok (.invokevirtual 164, 3) := by decide +kernel
theorem d_Mod_step_284 : decode b_Mod_step 284 = .ok (.goto 8, 3) := by decide +kernel
theorem d_Mod_step_287 : decode b_Mod_step 287 = .ok (.aload_n 0, 1) := by decide +kernel
theorem d_Mod_step_288 : decode b_Mod_step 288 = .ok (.iload_n 3, 1) := by decide +kernel
theorem d_Mod_step_289 : decode b_Mod_step 289 = .ok (.invokevirtual 167, 3) := by decide +kernel
theorem d_Mod_step_292 : decode b_Mod_step 292 = .ok (.return_, 1) := by decide +kernel
theorem d_Mod_shuffle_0 : decode b_Mod_shuffle 0 = .ok (.iload_n 1, 1) := by decide +kernel
theorem d_Mod_shuffle_1 : decode b_Mod_shuffle 1 = .ok (.iconst 1, 1) := by decide +kernel
theorem d_Mod_shuffle_2 : decode b_Mod_shuffle 2 = .ok (.if_icmp .ne 11, 3) := by decide +kernel
theorem d_Mod_shuffle_5 : decode b_Mod_shuffle 5 = .ok (.aload_n 0, 1) := by decide +kernel
theorem d_Mod_shuffle_6 : decode b_Mod_shuffle 6 = .ok (.iload_n 2, 1) := by decide +kernel
theorem d_Mod_shuffle_7 : decode b_Mod_shuffle 7 = .ok (.invokevirtual 130, 3) := by decide +kernel
theorem d_Mod_shuffle_10 : decode b_Mod_shuffle 10 = .ok (.goto 85, 3) := by decide +kernel
theorem d_Mod_shuffle_13 : decode b_Mod_shuffle 13 = .ok (.iload_n 1, 1) := by decide +kernel
theorem d_Mod_shuffle_14 : decode b_Mod_shuffle 14 = .ok (.iconst 2, 1) := by decide +kernel
theorem d_Mod_shuffle_15 : decode b_Mod_shuffle 15 = .ok (.if_icmp .ne 11, 3) := by decide +kernel
theorem d_Mod_shuffle_18 : decode b_Mod_shuffle 18 = .ok (.aload_n 0, 1) := by decide +kernel
theorem d_Mod_shuffle_19 : decode b_Mod_shuffle 19 = .ok (.invokevirtual 160, 3) := by decide +kernel
theorem d_Mod_shuffle_22 : decode b_Mod_shuffle 22 = .ok (.pop, 1) := by decide +kernel
theorem d_Mod_shuffle_23 : decode b_Mod_shuffle 23 = .ok (.goto 72, 3) := by decide +kernel
theorem d_Mod_shuffle_26 : decode b_Mod_shuffle 26 = .ok (.iload_n 1, 1) := by decide +kernel
theorem d_Mod_shuffle_27 : decode b_Mod_shuffle 27 = .ok (.iconst 3, 1) := by decide +kernel
theorem d_Mod_shuffle_28 : decode b_Mod_shuffle 28 = .ok (.if_icmp .ne 15, 3) := by decide +kernel
theorem d_Mod_shuffle_31 : decode b_Mod_shuffle 31 = .ok (.aload_n 0, 1) := by decide +kernel
theorem d_Mod_shuffle_32 : decode b_Mod_shuffle 32 = .ok (.aload_n 0, 1) := by decide +kernel
theorem d_Mod_shuffle_33 : decode b_Mod_shuffle 33 = .ok (.iload_n 2, 1) := by decide +kernel
theorem d_Mod_shuffle_34 : decode b_Mod_shuffle 34 = .ok (.invokevirtual 134, 3) := by decide +kernel
theorem d_Mod_shuffle_37 : decode b_Mod_shuffle 37 = .ok (.invokevirtual 130, 3) := by decide +kernel
theorem d_Mod_shuffle_40 : decode b_Mod_shuffle 40 = .ok (.goto 55, 3) := by decide +kernel
theorem d_Mod_shuffle_43 : decode b_Mod_shuffle 43 = .ok (.bipush 12, 2) := by decide +kernel
theorem d_Mod_shuffle_45 : decode b_Mod_shuffle 45 = .ok (.aload_n 0, 1) := by decide +kernel
theorem d_Mod_shuffle_46 : decode b_Mod_shuffle 46 = .ok (.getfield 112, 3) := by decide +kernel
theorem d_Mod_shuffle_49 : decode b_Mod_shuffle 49 = .ok (.imul, 1) := by decide +kernel
theorem d_Mod_shuffle_50 : decode b_Mod_shuffle 50 = .ok (.aload_n 0, 1) := by decide +kernel
theorem d_Mod_shuffle_51 : decode b_Mod_shuffle 51 = .ok (.getfield 53, 3) := by decide +kernel
theorem d_Mod_shuffle_54 : decode b_Mod_shuffle 54 = .ok (.aload_n 0, 1) := by decide +kernel
theorem d_Mod_shuffle_55 : decode b_Mod_shuffle 55 = .ok (.getfield 112, 3) := by decide +kernel
theorem d_Mod_shuffle_58 : decode b_Mod_shuffle 58 = .ok (.iaload, 1) := by decide +kernel
theorem d_Mod_shuffle_59 : decode b_Mod_shuffle 59 = .ok (.iadd, 1) := by decide +kernel
theorem d_Mod_shuffle_60 : decode b_Mod_shuffle 60 = .ok (.iconst 1, 1) := by decide +kernel
theorem d_Mod_shuffle_61 : decode b_Mod_shuffle 61 = .ok (.isub, 1) := by decide +kernel
theorem d_Mod_shuffle_62 : decode b_Mod_shuffle 62 = .ok (.istore_n 3, 1) := by decide +kernel
theorem d_Mod_shuffle_63 : decode b_Mod_shuffle 63 = .ok (.aload_n 0, 1) := by decide +kernel
theorem d_Mod_shuffle_64 : decode b_Mod_shuffle 64 = .ok (.getfield 56, 3) := by decide +kernel
theorem d_Mod_shuffle_67 : decode b_Mod_shuffle 67 = .ok (.iload_n 3, 1) := by decide +kernel
theorem d_Mod_shuffle_68 : decode b_Mod_shuffle 68 = .ok (.iaload, 1) := by decide +kernel
theorem d_Mod_shuffle_69 : decode b_Mod_shuffle 69 = .ok (.istore 4, 2) := by decide +kernel
theorem d_Mod_shuffle_71 : decode b_Mod_shuffle 71 = .ok (.aload_n 0, 1) := by decide +kernel
theorem d_Mod_shuffle_72 : decode b_Mod_shuffle 72 = .ok (.getfield 56, 3) := by decide +kernel
theorem d_Mod_shuffle_75 : decode b_Mod_shuffle 75 = .ok (.iload_n 3, 1) := by decide +kernel
theorem d_Mod_shuffle_76 : decode b_Mod_shuffle 76 = .ok (.aload_n 0, 1) := by decide +kernel
theorem d_Mod_shuffle_77 : decode b_Mod_shuffle 77 = .ok (.getfield 56, 3) := by decide +kernel
theorem d_Mod_shuffle_80 : decode b_Mod_shuffle 80 = .ok (.iload_n 3, 1) := by decide +kernel
theorem d_Mod_shuffle_81 : decode b_Mod_shuffle 81 = .ok (.iload_n 2, 1) := by decide +kernel
theorem d_Mod_shuffle_82 : decode b_Mod_shuffle 82 = .ok (.isub, 1) := by decide +kernel
theorem d_Mod_shuffle_83 : decode b_Mod_shuffle 83 = .ok (.iaload, 1) := by decide +kernel
theorem d_Mod_shuffle_84 : decode b_Mod_shuffle 84 = .ok (.iastore, 1) := by decide +kernel
theorem d_Mod_shuffle_85 : decode b_Mod_shuffle 85 = .ok (.aload_n 0, 1) := by decide +kernel
theorem d_Mod_shuffle_86 : decode b_Mod_shuffle 86 = .ok (.getfield 56, 3) := by decide +kernel
theorem d_Mod_shuffle_89 : decode b_Mod_shuffle 89 = .ok (.iload_n 3, 1) := by decide +kernel
theorem d_Mod_shuffle_90 : decode b_Mod_shuffle 90 = .ok (.iload_n 2, 1) := by decide +kernel
theorem d_Mod_shuffle_91 : decode b_Mod_shuffle 91 = .ok (.isub, 1) := by decide +kernel
theorem d_Mod_shuffle_92 : decode b_Mod_shuffle 92 = .ok (.iload 4, 2) := by decide +kernel
theorem d_Mod_shuffle_94 : decode b_Mod_shuffle 94 = .ok (.iastore, 1) := by decide +kernel
theorem d_Mod_shuffle_95 : decode b_Mod_shuffle 95 = .ok (.return_, 1) := by decide +kernel
theorem d_Mod_reckon_0 : decode b_Mod_reckon 0 = .ok (.aload_n 0, 1) := by decide +kernel
theorem d_Mod_reckon_1 : decode b_Mod_reckon 1 = .ok (.invokevirtual 160, 3) := by decide +kernel
theorem d_Mod_reckon_4 : decode b_Mod_reckon 4 = .ok (.istore_n 2, 1) := by decide +kernel
theorem d_Mod_reckon_5 : decode b_Mod_reckon 5 = .ok (.iload_n 1, 1) := by decide +kernel
theorem d_Mod_reckon_6 : decode b_Mod_reckon 6 = .ok (.bipush 11, 2) := by decide +kernel
theorem d_Mod_reckon_8 : decode b_Mod_reckon 8 = .ok (.if_icmp .ne 17, 3) := by decide +kernel
theorem d_Mod_reckon_11 : decode b_Mod_reckon 11 = .ok (.aload_n 0, 1) := by decide +kernel
theorem d_Mod_reckon_12 : decode b_Mod_reckon 12 = .ok (.iload_n 2, 1) := by decide +kernel
theorem d_Mod_reckon_13 : decode b_Mod_reckon 13 = .ok (.ifCond .ne 7, 3) := by decide +kernel
theorem d_Mod_reckon_16 : decode b_Mod_reckon 16 = .ok (.iconst 1, 1) := by decide +kernel
theorem d_Mod_reckon_17 : decode b_Mod_reckon 17 = .ok (.goto 4, 3) := by decide +kernel
theorem d_Mod_reckon_20 : decode b_Mod_reckon 20 = .ok (.iconst 0, 1) := by decide +kernel
theorem d_Mod_reckon_21 : decode b_Mod_reckon 21 = .ok (.invokevirtual 130, 3) := by decide +kernel
theorem d_Mod_reckon_24 : decode b_Mod_reckon 24 = .ok (.return_, 1) := by decide +kernel
theorem d_Mod_reckon_25 : decode b_Mod_reckon 25 = .ok (.aload_n 0, 1) := by decide +kernel
theorem d_Mod_reckon_26 : decode b_Mod_reckon 26 = .ok (.invokevirtual 160, 3) := by decide +kernel
theorem d_Mod_reckon_29 : decode b_Mod_reckon 29 = .ok (.istore_n 3, 1) := by decide +kernel
theorem d_Mod_reckon_30 : decode b_Mod_reckon 30 = .ok (.aload_n 0, 1) := by decide +kernel
theorem d_Mod_reckon_31 : decode b_Mod_reckon 31 = .ok (.iload_n 1, 1) := by decide +kernel
theorem d_Mod_reckon_32 : decode b_Mod_reckon 32 = .ok (.iconst 5, 1) := by decide +kernel
theorem d_Mod_reckon_33 : decode b_Mod_reckon 33 = .ok (.if_icmp .ne 9, 3) := by decide +kernel
theorem d_Mod_reckon_36 : decode b_Mod_reckon 36 = .ok (.iload_n 3, 1) := by decide +kernel
theorem d_Mod_reckon_37 : decode b_Mod_reckon 37 = .ok (.iload_n 2, 1) := by decide +kernel
theorem d_Mod_reckon_38 : decode b_Mod_reckon 38 = .ok (.iadd, 1) := by decide +kernel
theorem d_Mod_reckon_39 : decode b_Mod_reckon 39 = .ok (.goto 76, 3) := by decide +kernel
theorem d_Mod_reckon_42 : decode b_Mod_reckon 42 = .ok (.iload_n 1, 1) := by decide +kernel
theorem d_Mod_reckon_43 : decode b_Mod_reckon 43 = .ok (.bipush 6, 2) := by decide +kernel
theorem d_Mod_reckon_45 : decode b_Mod_reckon 45 = .ok (.if_icmp .ne 9, 3) := by decide +kernel
theorem d_Mod_reckon_48 : decode b_Mod_reckon 48 = .ok (.iload_n 3, 1) := by decide +kernel
theorem d_Mod_reckon_49 : decode b_Mod_reckon 49 = .ok (.iload_n 2, 1) := by decide +kernel
theorem d_Mod_reckon_50 : decode b_Mod_reckon 50 = .ok (.isub, 1) := by decide +kernel
theorem d_Mod_reckon_51 : decode b_Mod_reckon 51 = .ok (.goto 64, 3) := by decide +kernel
theorem d_Mod_reckon_54 : decode b_Mod_reckon 54 = .ok (.iload_n 1, 1) := by decide +kernel
theorem d_Mod_reckon_55 : decode b_Mod_reckon 55 = .ok (.bipush 7, 2) := by decide +kernel
theorem d_Mod_reckon_57 : decode b_Mod_reckon 57 = .ok (.if_icmp .ne 9, 3) := by decide +kernel
theorem d_Mod_reckon_60 : decode b_Mod_reckon 60 = .ok (.iload_n 3, 1) := by decide +kernel
theorem d_Mod_reckon_61 : decode b_Mod_reckon 61 = .ok (.iload_n 2, 1) := by decide +kernel
theorem d_Mod_reckon_62 : decode b_Mod_reckon 62 = .ok (.imul, 1) := by decide +kernel
theorem d_Mod_reckon_63 : decode b_Mod_reckon 63 = .ok (.goto 52, 3) := by decide +kernel
theorem d_Mod_reckon_66 : decode b_Mod_reckon 66 = .ok (.iload_n 1, 1) := by decide +kernel
theorem d_Mod_reckon_67 : decode b_Mod_reckon 67 = .ok (.bipush 8, 2) := by decide +kernel
theorem d_Mod_reckon_69 : decode b_Mod_reckon 69 = .ok (.if_icmp .ne 17, 3) := by decide +kernel
theorem d_Mod_reckon_72 : decode b_Mod_reckon 72 = .ok (.iload_n 2, 1) := by decide +kernel
theorem d_Mod_reckon_73 : decode b_Mod_reckon 73 = .ok (.ifCond .ne 7, 3) := by decide +kernel
theorem d_Mod_reckon_76 : decode b_Mod_reckon 76 = .ok (.iconst 0, 1) := by decide +kernel
theorem d_Mod_reckon_77 : decode b_Mod_reckon 77 = .ok (.goto 38, 3) := by decide +kernel
theorem d_Mod_reckon_80 : decode b_Mod_reckon 80 = .ok (.iload_n 3, 1) := by decide +kernel
theorem d_Mod_reckon_81 : decode b_Mod_reckon 81 = .ok (.iload_n 2, 1) := by decide +kernel
theorem d_Mod_reckon_82 : decode b_Mod_reckon 82 = .ok (.idiv, 1) := by decide +kernel
theorem d_Mod_reckon_83 : decode b_Mod_reckon 83 = .ok (.goto 32, 3) := by decide +kernel
theorem d_Mod_reckon_86 : decode b_Mod_reckon 86 = .ok (.iload_n 1, 1) := by decide +kernel
theorem d_Mod_reckon_87 : decode b_Mod_reckon 87 = .ok (.bipush 9, 2) := by decide +kernel
theorem d_Mod_reckon_89 : decode b_Mod_reckon 89 = .ok (.if_icmp .ne 16, 3) := by decide +kernel
theorem d_Mod_reckon_92 : decode b_Mod_reckon 92 = .ok (.iload_n 3, 1) := by decide +kernel
theorem d_Mod_reckon_93 : decode b_Mod_reckon 93 = .ok (.iload_n 2, 1) := by decide +kernel
theorem d_Mod_reckon_94 : decode b_Mod_reckon 94 = .ok (.if_icmp .ge 7, 3) := by decide +kernel
theorem d_Mod_reckon_97 : decode b_Mod_reckon 97 = .ok (.iconst 1, 1) := by decide +kernel
theorem d_Mod_reckon_98 : decode b_Mod_reckon 98 = .ok (.goto 17, 3) := by decide +kernel
theorem d_Mod_reckon_101 : decode b_Mod_reckon 101 = .ok (.iconst 0, 1) := by decide +kernel
theorem d_Mod_reckon_102 : decode b_Mod_reckon 102 = .ok (.goto 13, 3) := by decide +kernel
theorem d_Mod_reckon_105 : decode b_Mod_reckon 105 = .ok (.iload_n 3, 1) := by decide +kernel
theorem d_Mod_reckon_106 : decode b_Mod_reckon 106 = .ok (.iload_n 2, 1) := by decide +kernel
theorem d_Mod_reckon_107 : decode b_Mod_reckon 107 = .ok (.if_icmp .ne 7, 3) := by decide +kernel
theorem d_Mod_reckon_110 : decode b_Mod_reckon 110 = .ok (.iconst 1, 1) := by decide +kernel
theorem d_Mod_reckon_111 : decode b_Mod_reckon 111 = .ok (.goto 4, 3) := by decide +kernel
theorem d_Mod_reckon_114 : decode b_Mod_reckon 114 = .ok (.iconst 0, 1) := by decide +kernel
theorem d_Mod_reckon_115 : decode b_Mod_reckon 115 = .ok (.invokevirtual 130, 3) := by decide +kernel
theorem d_Mod_reckon_118 : decode b_Mod_reckon 118 = .ok (.return_, 1) := by decide +kernel
