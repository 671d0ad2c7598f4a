theorem d_Mod_hold_0 : decode b_Mod_hold 0 = .ok (.aload_n 0, 1) := by decide +kernel
theorem d_Mod_hold_1 : decode b_Mod_hold 1 = .ok (.getfield 32, 3) := by decide +kernel
theorem d_Mod_hold_4 : decode b_Mod_hold 4 = .ok (.aload_n 0, 1) := by decide +kernel
theorem d_Mod_hold_5 : decode b_Mod_hold 5 = .ok (.getfield 112, 3) := by decide +kernel
theorem d_Mod_hold_8 : decode b_Mod_hold 8 = .ok (.iaload, 1) := by decide +kernel
theorem d_Mod_hold_9 : decode b_Mod_hold 9 = .ok (.istore_n 2, 1) := by decide +kernel
theorem d_Mod_hold_10 : decode b_Mod_hold 10 = .ok (.iload_n 1, 1) := by decide +kernel
theorem d_Mod_hold_11 : decode b_Mod_hold 11 = .ok (.bipush 14, 2) := by decide +kernel
theorem d_Mod_hold_13 : decode b_Mod_hold 13 = .ok (.if_icmp .ne 42, 3) := by decide +kernel
theorem d_Mod_hold_16 : decode b_Mod_hold 16 = .ok (.aload_n 0, 1) := by decide +kernel
theorem d_Mod_hold_17 : decode b_Mod_hold 17 = .ok (.invokevirtual 160, 3) := by decide +kernel
theorem d_Mod_hold_20 : decode b_Mod_hold 20 = .ok (.istore_n 3, 1) := by decide +kernel
theorem d_Mod_hold_21 : decode b_Mod_hold 21 = .ok (.aload_n 0, 1) := by decide +kernel
theorem d_Mod_hold_22 : decode b_Mod_hold 22 = .ok (.iload_n 3, 1) := by decide +kernel
theorem d_Mod_hold_23 : decode b_Mod_hold 23 = .ok (.bipush 8, 2) := by decide +kernel
theorem d_Mod_hold_25 : decode b_Mod_hold 25 = .ok (.invokestatic 81, 3) := by decide +kernel
theorem d_Mod_hold_28 : decode b_Mod_hold 28 = .ok (.ifCond .eq 20, 3) := by decide +kernel
theorem d_Mod_hold_31 : decode b_Mod_hold 31 = .ok (.aload_n 0, 1) := by decide +kernel
theorem d_Mod_hold_32 : decode b_Mod_hold 32 = .ok (.getfield 7, 3) := by decide +kernel
theorem d_Mod_hold_35 : decode b_Mod_hold 35 = .ok (.bipush 36, 2) := by decide +kernel
theorem d_Mod_hold_37 : decode b_Mod_hold 37 = .ok (.iload_n 2, 1) := by decide +kernel
theorem d_Mod_hold_38 : decode b_Mod_hold 38 = .ok (.imul, 1) := by decide +kernel
theorem d_Mod_hold_39 : decode b_Mod_hold 39 = .ok (.bipush 27, 2) := by decide +kernel
theorem d_Mod_hold_41 : decode b_Mod_hold 41 = .ok (.iadd, 1) := by decide +kernel
theorem d_Mod_hold_42 : decode b_Mod_hold 42 = .ok (.iload_n 3, 1) := by decide +kernel
theorem d_Mod_hold_43 : decode b_Mod_hold 43 = .ok (.iadd, 1) := by decide +kernel
theorem d_Mod_hold_44 : decode b_Mod_hold 44 = .ok (.iaload, 1) := by decide +kernel
theorem d_Mod_hold_45 : decode b_Mod_hold 45 = .ok (.goto 4, 3) := by decide +kernel
theorem d_Mod_hold_48 : decode b_Mod_hold 48 = .ok (.iconst 0, 1) := by decide +kernel
theorem d_Mod_hold_49 : decode b_Mod_hold 49 = .ok (.invokevirtual 130, 3) := by decide +kernel
theorem d_Mod_hold_52 : decode b_Mod_hold 52 = .ok (.goto 197, 3) := by decide +kernel
theorem d_Mod_hold_55 : decode b_Mod_hold 55 = .ok (.iload_n 1, 1) := by decide +kernel
theorem d_Mod_hold_56 : decode b_Mod_hold 56 = .ok (.bipush 15, 2) := by decide +kernel
theorem d_Mod_hold_58 : decode b_Mod_hold 58 = .ok (.if_icmp .ne 74, 3) := by decide +kernel
theorem d_Mod_hold_61 : decode b_Mod_hold 61 = .ok (.aload_n 0, 1) := by decide +kernel
theorem d_Mod_hold_62 : decode b_Mod_hold 62 = .ok (.invokevirtual 160, 3) := by decide +kernel
theorem d_Mod_hold_65 : decode b_Mod_hold 65 = .ok (.istore_n 3, 1) := by decide +kernel
theorem d_Mod_hold_66 : decode b_Mod_hold 66 = .ok (.aload_n 0, 1) := by decide +kernel
theorem d_Mod_hold_67 : decode b_Mod_hold 67 = .ok (.invokevirtual 160, 3) := by decide +kernel
theorem d_Mod_hold_70 : decode b_Mod_hold 70 = .ok (.istore 4, 2) := by decide +kernel
theorem d_Mod_hold_72 : decode b_Mod_hold 72 = .ok (.aload_n 0, 1) := by decide +kernel
theorem d_Mod_hold_73 : decode b_Mod_hold 73 = .ok (.getfield 7, 3) := by decide +kernel
theorem d_Mod_hold_76 : decode b_Mod_hold 76 = .ok (.bipush 36, 2) := by decide +kernel
theorem d_Mod_hold_78 : decode b_Mod_hold 78 = .ok (.iload_n 2, 1) := by decide +kernel
theorem d_Mod_hold_79 : decode b_Mod_hold 79 = .ok (.imul, 1) := by decide +kernel
theorem d_Mod_hold_80 : decode b_Mod_hold 80 = .ok (.bipush 27, 2) := by decide +kernel
theorem d_Mod_hold_82 : decode b_Mod_hold 82 = .ok (.iadd, 1) := by decide +kernel
theorem d_Mod_hold_83 : decode b_Mod_hold 83 = .ok (.iload_n 3, 1) := by decide +kernel
theorem d_Mod_hold_84 : decode b_Mod_hold 84 = .ok (.iadd, 1) := by decide +kernel
theorem d_Mod_hold_85 : decode b_Mod_hold 85 = .ok (.iaload, 1) := by decide +kernel
theorem d_Mod_hold_86 : decode b_Mod_hold 86 = .ok (.istore 5, 2) := by decide +kernel
theorem d_Mod_hold_88 : decode b_Mod_hold 88 = .ok (.aload_n 0, 1) := by decide +kernel
theorem d_Mod_hold_89 : decode b_Mod_hold 89 = .ok (.dup, 1) := by decide +kernel
theorem d_Mod_hold_90 : decode b_Mod_hold 90 = .ok (.getfield 115, 3) := by decide +kernel
theorem d_Mod_hold_93 : decode b_Mod_hold 93 = .ok (.iload 5, 2) := by decide +kernel
theorem d_Mod_hold_95 : decode b_Mod_hold 95 = .ok (.ifCond .eq 13, 3) := by decide +kernel
theorem d_Mod_hold_98 : decode b_Mod_hold 98 = .ok (.iload 4, 2) := by decide +kernel
theorem d_Mod_hold_100 : decode b_Mod_hold 100 = .ok (.ifCond .ne 8, 3) := by decide +kernel
theorem d_Mod_hold_103 : decode b_Mod_hold 103 = .ok (.bipush 15, 2) := by decide +kernel
theorem d_Mod_hold_105 : decode b_Mod_hold 105 = .ok (.goto 4, 3) := by decide +kernel
theorem d_Mod_hold_108 : decode b_Mod_hold 108 = .ok (.iconst 0, 1) := by decide +kernel
theorem d_Mod_hold_109 : decode b_Mod_hold 109 = .ok (.iadd, 1) := by decide +kernel
theorem d_Mod_hold_110 : decode b_Mod_hold 110 = .ok (.putfield 115, 3) := by decide +kernel
theorem d_Mod_hold_113 : decode b_Mod_hold 113 = .ok (.aload_n 0, 1) := by decide +kernel
theorem d_Mod_hold_114 : decode b_Mod_hold 114 = .ok (.getfield 7, 3) := by decide +kernel
theorem d_Mod_hold_117 : decode b_Mod_hold 117 = .ok (.bipush 36, 2) := by decide +kernel
theorem d_Mod_hold_119 : decode b_Mod_hold 119 = .ok (.iload_n 2, 1) := by decide +kernel
theorem d_Mod_hold_120 : decode b_Mod_hold 120 = .ok (.imul, 1) := by decide +kernel
theorem d_Mod_hold_121 : decode b_Mod_hold 121 = .ok (.bipush 27, 2) := by decide +kernel
theorem d_Mod_hold_123 : decode b_Mod_hold 123 = .ok (.iadd, 1) := by decide +kernel
theorem d_Mod_hold_124 : decode b_Mod_hold 124 = .ok (.iload_n 3, 1) := by decide +kernel
theorem d_Mod_hold_125 : decode b_Mod_hold 125 = .ok (.iadd, 1) := by decide +kernel
theorem d_Mod_hold_126 : decode b_Mod_hold 126 = .ok (.iload 4, 2) := by decide +kernel
theorem d_Mod_hold_128 : decode b_Mod_hold 128 = .ok (.iastore, 1) := by decide +kernel
theorem d_Mod_hold_129 : decode b_Mod_hold 129 = .ok (.goto 120, 3) := by decide +kernel
theorem d_Mod_hold_132 : decode b_Mod_hold 132 = .ok (.iload_n 1, 1) := by decide +kernel
theorem d_Mod_hold_133 : decode b_Mod_hold 133 = .ok (.bipush 16, 2) := by decide +kernel
theorem d_Mod_hold_135 : decode b_Mod_hold 135 = .ok (.if_icmp .ne 37, 3) := by decide +kernel
theorem d_Mod_hold_138 : decode b_Mod_hold 138 = .ok (.aload_n 0, 1) := by decide +kernel
theorem d_Mod_hold_139 : decode b_Mod_hold 139 = .ok (.invokevirtual 160, 3) := by decide +kernel
theorem d_Mod_hold_142 : decode b_Mod_hold 142 = .ok (.istore_n 3, 1) := by decide +kernel
theorem d_Mod_hold_143 : decode b_Mod_hold 143 = .ok (.aload_n 0, 1) := by decide +kernel
theorem d_Mod_hold_144 : decode b_Mod_hold 144 = .ok (.iload_n 3, 1) := by decide +kernel
theorem d_Mod_hold_145 : decode b_Mod_hold 145 = .ok (.bipush 16, 2) := by decide +kernel
theorem d_Mod_hold_147 : decode b_Mod_hold 147 = .ok (.invokestatic 81, 3) := by decide +kernel
theorem d_Mod_hold_150 : decode b_Mod_hold 150 = .ok (.ifCond .eq 15, 3) := by decide +kernel
theorem d_Mod_hold_153 : decode b_Mod_hold 153 = .ok (.aload_n 0, 1) := by decide +kernel
theorem d_Mod_hold_154 : decode b_Mod_hold 154 = .ok (.getfield 7, 3) := by decide +kernel
theorem d_Mod_hold_157 : decode b_Mod_hold 157 = .ok (.bipush 36, 2) := by decide +kernel
theorem d_Mod_hold_159 : decode b_Mod_hold 159 = .ok (.iload_n 3, 1) := by decide +kernel
theorem d_Mod_hold_160 : decode b_Mod_hold 160 = .ok (.imul, 1) := by decide +kernel
theorem d_Mod_hold_161 : decode b_Mod_hold 161 = .ok (.iaload, 1) := by decide +kernel
theorem d_Mod_hold_162 : decode b_Mod_hold 162 = .ok (.goto 4, 3) := by decide +kernel
theorem d_Mod_hold_165 : decode b_Mod_hold 165 = .ok (.iconst 0, 1) := by decide +kernel
theorem d_Mod_hold_166 : decode b_Mod_hold 166 = .ok (.invokevirtual 130, 3) := by decide +kernel
theorem d_Mod_hold_169 : decode b_Mod_hold 169 = .ok (.goto 80, 3) := by decide +kernel
theorem d_Mod_hold_172 : decode b_Mod_hold 172 = .ok (.aload_n 0, 1) := by decide +kernel
theorem d_Mod_hold_173 : decode b_Mod_hold 173 = .ok (.iload_n 1, 1) := by decide +kernel
theorem d_Mod_hold_174 : decode b_Mod_hold 174 = .ok (.bipush 17, 2) := by decide +kernel
theorem d_Mod_hold_176 : decode b_Mod_hold 176 = .ok (.if_icmp .ne 7, 3) := by decide +kernel
theorem d_Mod_hold_179 : decode b_Mod_hold 179 = .ok (.iload_n 2, 1) := by decide +kernel
theorem d_Mod_hold_180 : decode b_Mod_hold 180 = .ok (.goto 66, 3) := by decide +kernel
theorem d_Mod_hold_183 : decode b_Mod_hold 183 = .ok (.iload_n 1, 1) := by decide +kernel
theorem d_Mod_hold_184 : decode b_Mod_hold 184 = .ok (.bipush 18, 2) := by decide +kernel
theorem d_Mod_hold_186 : decode b_Mod_hold 186 = .ok (.if_icmp .ne 15, 3) := by decide +kernel
theorem d_Mod_hold_189 : decode b_Mod_hold 189 = .ok (.aload_n 0, 1) := by decide +kernel
theorem d_Mod_hold_190 : decode b_Mod_hold 190 = .ok (.getfield 41, 3) := by decide +kernel
theorem d_Mod_hold_193 : decode b_Mod_hold 193 = .ok (.aload_n 0, 1) := by decide +kernel
theorem d_Mod_hold_194 : decode b_Mod_hold 194 = .ok (.getfield 112, 3) := by decide +kernel
theorem d_Mod_hold_197 : decode b_Mod_hold 197 = .ok (.iaload, 1) := by decide +kernel
theorem d_Mod_hold_198 : decode b_Mod_hold 198 = .ok (.goto 48, 3) := by decide +kernel
theorem d_Mod_hold_201 : decode b_Mod_hold 201 = .ok (.iload_n 1, 1) := by decide +kernel
theorem d_Mod_hold_202 : decode b_Mod_hold 202 = .ok (.bipush 19, 2) := by decide +kernel
theorem d_Mod_hold_204 : decode b_Mod_hold 204 = .ok (.if_icmp .ne 15, 3) := by decide +kernel
theorem d_Mod_hold_207 : decode b_Mod_hold 207 = .ok (.aload_n 0, 1) := by decide +kernel
theorem d_Mod_hold_208 : decode b_Mod_hold 208 = .ok (.getfield 44, 3) := by decide +kernel
theorem d_Mod_hold_211 : decode b_Mod_hold 211 = .ok (.aload_n 0, 1) := by decide +kernel
theorem d_Mod_hold_212 : decode b_Mod_hold 212 = .ok (.getfield 112, 3) := by decide +kernel
theorem d_Mod_hold_215 : decode b_Mod_hold 215 = .ok (.iaload, 1) := by decide +kernel
theorem d_Mod_hold_216 : decode b_Mod_hold 216 = .ok (.goto 30, 3) := by decide +kernel
theorem d_Mod_hold_219 : decode b_Mod_hold 219 = .ok (.iload_n 1, 1) := by decide +kernel
theorem d_Mod_hold_220 : decode b_Mod_hold 220 = .ok (.bipush 20, 2) := by decide +kernel
theorem d_Mod_hold_222 : decode b_Mod_hold 222 = .ok (.if_icmp .ne 15, 3) := by decide +kernel
theorem d_Mod_hold_225 : decode b_Mod_hold 225 = .ok (.aload_n 0, 1) := by decide +kernel
theorem d_Mod_hold_226 : decode b_Mod_hold 226 = .ok (.getfield 47, 3) := by decide +kernel
theorem d_Mod_hold_229 : decode b_Mod_hold 229 = .ok (.aload_n 0, 1) := by decide +kernel
theorem d_Mod_hold_230 : decode b_Mod_hold 230 = .ok (.getfield 112, 3) := by decide +kernel
theorem d_Mod_hold_233 : decode b_Mod_hold 233 = .ok (.iaload, 1) := by decide +kernel
theorem d_Mod_hold_234 : decode b_Mod_hold 234 = .ok (.goto 12, 3) := by decide +kernel
theorem d_Mod_hold_237 : decode b_Mod_hold 237 = .ok (.aload_n 0, 1) := by decide +kernel
theorem d_Mod_hold_238 : decode b_Mod_hold 238 = .ok (.getfield 50, 3) := by decide +kernel
theorem d_Mod_hold_241 : decode b_Mod_hold 241 = .ok (.aload_n 0, 1) := by decide +kernel
theorem d_Mod_hold_242 : decode b_Mod_hold 242 = .ok (.getfield 112, 3) := by decide +kernel
theorem d_Mod_hold_245 : decode b_Mod_hold 245 = .ok (.iaload, 1) := by decide +kernel
theorem d_Mod_hold_246 : decode b_Mod_hold 246 = .ok (.invokevirtual 130, 3) := by decide +kernel
theorem d_Mod_hold_249 : decode b_Mod_hold 249 = .ok (.return_, 1) := by decide +kernel
theorem d_Mod_act_0 : decode b_Mod_act 0 = .ok (.aload_n 0, 1) := by decide +kernel
theorem d_Mod_act_1 : decode b_Mod_act 1 = .ok (.getfield 32, 3) := by decide +kernel
theorem d_Mod_act_4 : decode b_Mod_act 4 = .ok (.aload_n 0, 1) := by decide +kernel
theorem d_Mod_act_5 : decode b_Mod_act 5 = .ok (.getfield 112, 3) := by decide +kernel
theorem d_Mod_act_8 : decode b_Mod_act 8 = .ok (.iaload, 1) := by decide +kernel
theorem d_Mod_act_9 : decode b_Mod_act 9 = .ok (.istore_n 2, 1) := by decide +kernel
theorem d_Mod_act_10 : decode b_Mod_act 10 = .ok (.iload_n 1, 1) := by decide +kernel
theorem d_Mod_act_11 : decode b_Mod_act 11 = .ok (.bipush 22, 2) := by decide +kernel
theorem d_Mod_act_13 : decode b_Mod_act 13 = .ok (.if_icmp .eq 9, 3) := by decide +kernel
theorem d_Mod_act_16 : decode b_Mod_act 16 = .ok (.iload_n 1, 1) := by decide +kernel
theorem d_Mod_act_17 : decode b_Mod_act 17 = .ok (.bipush 23, 2) := by decide +kernel
theorem d_Mod_act_19 : decode b_Mod_act 19 = .ok (.if_icmp .ne 21, 3) := by decide +kernel
theorem d_Mod_act_22 : decode b_Mod_act 22 = .ok (.aload_n 0, 1) := by decide +kernel
theorem d_Mod_act_23 : decode b_Mod_act 23 = .ok (.iload_n 1, 1) := by decide +kernel
theorem d_Mod_act_24 : decode b_Mod_act 24 = .ok (.bipush 22, 2) := by decide +kernel
theorem d_Mod_act_26 : decode b_Mod_act 26 = .ok (.if_icmp .ne 7, 3) := by decide +kernel
theorem d_Mod_act_29 : decode b_Mod_act 29 = .ok (.iconst 1, 1) := by decide +kernel
theorem d_Mod_act_30 : decode b_Mod_act 30 = .ok (.goto 4, 3) := by decide +kernel
theorem d_Mod_act_33 : decode b_Mod_act 33 = .ok (.iconst 0, 1) := by decide +kernel
theorem d_Mod_act_34 : decode b_Mod_act 34 = .ok (.invokevirtual 170, 3) := by decide +kernel
theorem d_Mod_act_37 : decode b_Mod_act 37 = .ok (.goto 151, 3) := by decide +kernel
theorem d_Mod_act_40 : decode b_Mod_act 40 = .ok (.iload_n 1, 1) := by decide +kernel
theorem d_Mod_act_41 : decode b_Mod_act 41 = .ok (.bipush 24, 2) := by decide +kernel
theorem d_Mod_act_43 : decode b_Mod_act 43 = .ok (.if_icmp .ne 10, 3) := by decide +kernel
theorem d_Mod_act_46 : decode b_Mod_act 46 = .ok (.aload_n 0, 1) := by decide +kernel
theorem d_Mod_act_47 : decode b_Mod_act 47 = .ok (.invokevirtual 174, 3) := by decide +kernel
theorem d_Mod_act_50 : decode b_Mod_act 50 = .ok (.goto 138, 3) := by decide +kernel
theorem d_Mod_act_53 : decode b_Mod_act 53 = .ok (.iload_n 1, 1) := by decide +kernel
theorem d_Mod_act_54 : decode b_Mod_act 54 = .ok (.bipush 25, 2) := by decide +kernel
theorem d_Mod_act_56 : decode b_Mod_act 56 = .ok (.if_icmp .ne 39, 3) := by decide +kernel
theorem d_Mod_act_59 : decode b_Mod_act 59 = .ok (.aload_n 0, 1) := by decide +kernel
theorem d_Mod_act_60 : decode b_Mod_act 60 = .ok (.getfield 19, 3) := by decide +kernel
theorem d_Mod_act_63 : decode b_Mod_act 63 = .ok (.aload_n 0, 1) := by decide +kernel
theorem d_Mod_act_64 : decode b_Mod_act 64 = .ok (.getfield 118, 3) := by decide +kernel
theorem d_Mod_act_67 : decode b_Mod_act 67 = .ok (.iload_n 2, 1) := by decide +kernel
theorem d_Mod_act_68 : decode b_Mod_act 68 = .ok (.iastore, 1) := by decide +kernel
theorem d_Mod_act_69 : decode b_Mod_act 69 = .ok (.aload_n 0, 1) := by decide +kernel
theorem d_Mod_act_70 : decode b_Mod_act 70 = .ok (.getfield 22, 3) := by decide +kernel
theorem d_Mod_act_73 : decode b_Mod_act 73 = .ok (.aload_n 0, 1) := by decide +kernel
theorem d_Mod_act_74 : decode b_Mod_act 74 = .ok (.getfield 118, 3) := by decide +kernel
theorem d_Mod_act_77 : decode b_Mod_act 77 = .ok (.aload_n 0, 1) := by decide +kernel
theorem d_Mod_act_78 : decode b_Mod_act 78 = .ok (.invokevirtual 160, 3) := by decide +kernel
theorem d_Mod_act_81 : decode b_Mod_act 81 = .ok (.iastore, 1) := by decide +kernel
theorem d_Mod_act_82 : decode b_Mod_act 82 = .ok (.aload_n 0, 1) := by decide +kernel
theorem d_Mod_act_83 : decode b_Mod_act 83 = .ok (.dup, 1) := by decide +kernel
theorem d_Mod_act_84 : decode b_Mod_act 84 = .ok (.getfield 118, 3) := by decide +kernel
theorem d_Mod_act_87 : decode b_Mod_act 87 = .ok (.iconst 1, 1) := by decide +kernel
theorem d_Mod_act_88 : decode b_Mod_act 88 = .ok (.iadd, 1) := by decide +kernel
theorem d_Mod_act_89 : decode b_Mod_act 89 = .ok (.putfield 118, 3) := by decide +kernel
theorem d_Mod_act_92 : decode b_Mod_act 92 = .ok (.goto 96, 3) := by decide +kernel
theorem d_Mod_act_95 : decode b_Mod_act 95 = .ok (.iload_n 1, 1) := by decide +kernel
theorem d_Mod_act_96 : decode b_Mod_act 96 = .ok (.bipush 26, 2) := by decide +kernel
theorem d_Mod_act_98 : decode b_Mod_act 98 = .ok (.if_icmp .eq 9, 3) := by decide +kernel
theorem d_Mod_act_101 : decode b_Mod_act 101 = .ok (.iload_n 1, 1) := by decide +kernel
theorem d_Mod_act_102 : decode b_Mod_act 102 = .ok (.bipush 27, 2) := by decide +kernel
theorem d_Mod_act_104 : decode b_Mod_act 104 = .ok (.if_icmp .ne 36, 3) := by decide +kernel
theorem d_Mod_act_107 : decode b_Mod_act 107 = .ok (.aload_n 0, 1) := by decide +kernel
theorem d_Mod_act_108 : decode b_Mod_act 108 = .ok (.invokevirtual 160, 3) := by decide +kernel
theorem d_Mod_act_111 : decode b_Mod_act 111 = .ok (.istore_n 3, 1) := by decide +kernel
theorem d_Mod_act_112 : decode b_Mod_act 112 = .ok (.aload_n 0, 1) := by decide +kernel
theorem d_Mod_act_113 : decode b_Mod_act 113 = .ok (.iload_n 1, 1) := by decide +kernel
theorem d_Mod_act_114 : decode b_Mod_act 114 = .ok (.bipush 26, 2) := by decide +kernel
theorem d_Mod_act_116 : decode b_Mod_act 116 = .ok (.if_icmp .ne 7, 3) := by decide +kernel
theorem d_Mod_act_119 : decode b_Mod_act 119 = .ok (.iconst 1, 1) := by decide +kernel
theorem d_Mod_act_120 : decode b_Mod_act 120 = .ok (.goto 4, 3) := by decide +kernel
theorem d_Mod_act_123 : decode b_Mod_act 123 = .ok (.iconst 0, 1) := by decide +kernel
theorem d_Mod_act_124 : decode b_Mod_act 124 = .ok (.iload_n 3, 1) := by decide +kernel
theorem d_Mod_act_125 : decode b_Mod_act 125 = .ok (.aload_n 0, 1) := by decide +kernel
theorem d_Mod_act_126 : decode b_Mod_act 126 = .ok (.getfield 50, 3) := by decide +kernel
theorem d_Mod_act_129 : decode b_Mod_act 129 = .ok (.aload_n 0, 1) := by decide +kernel
theorem d_Mod_act_130 : decode b_Mod_act 130 = .ok (.getfield 112, 3) := by decide +kernel
theorem d_Mod_act_133 : decode b_Mod_act 133 = .ok (.iaload, 1) := by decide +kernel
theorem d_Mod_act_134 : decode b_Mod_act 134 = .ok (.invokevirtual 137, 3) := by decide +kernel
theorem d_Mod_act_137 : decode b_Mod_act 137 = .ok (.goto 51, 3) := by decide +kernel
theorem d_Mod_act_140 : decode b_Mod_act 140 = .ok (.aload_n 0, 1) := by decide +kernel
theorem d_Mod_act_141 : decode b_Mod_act 141 = .ok (.invokevirtual 160, 3) := by decide +kernel
theorem d_Mod_act_144 : decode b_Mod_act 144 = .ok (.istore_n 3, 1) := by decide +kernel
theorem d_Mod_act_145 : decode b_Mod_act 145 = .ok (.aload_n 0, 1) := by decide +kernel
theorem d_Mod_act_146 : decode b_Mod_act 146 = .ok (.iload_n 2, 1) := by decide +kernel
theorem d_Mod_act_147 : decode b_Mod_act 147 = .ok (.iload_n 3, 1) := by decide +kernel
theorem d_Mod_act_148 : decode b_Mod_act 148 = .ok (.aload_n 0, 1) := by decide +kernel
theorem d_Mod_act_149 : decode b_Mod_act 149 = .ok (.getfield 7, 3) := by decide +kernel
theorem d_Mod_act_152 : decode b_Mod_act 152 = .ok (.bipush 36, 2) := by decide +kernel
theorem d_Mod_act_154 : decode b_Mod_act 154 = .ok (.iload_n 2, 1) := by decide +kernel
theorem d_Mod_act_155 : decode b_Mod_act 155 = .ok (.imul, 1) := by decide +kernel
theorem d_Mod_act_156 : decode b_Mod_act 156 = .ok (.iaload, 1) := by decide +kernel
theorem d_Mod_act_157 : decode b_Mod_act 157 = .ok (.invokevirtual 177, 3) := by decide +kernel
theorem d_Mod_act_160 : decode b_Mod_act 160 = .ok (.aload_n 0, 1) := by decide +kernel
theorem d_Mod_act_161 : decode b_Mod_act 161 = .ok (.getfield 7, 3) := by decide +kernel
theorem d_Mod_act_164 : decode b_Mod_act 164 = .ok (.bipush 36, 2) := by decide +kernel
theorem d_Mod_act_166 : decode b_Mod_act 166 = .ok (.iload_n 2, 1) := by decide +kernel
theorem d_Mod_act_167 : decode b_Mod_act 167 = .ok (.imul, 1) := by decide +kernel
theorem d_Mod_act_168 : decode b_Mod_act 168 = .ok (.bipush 35, 2) := by decide +kernel
theorem d_Mod_act_170 : decode b_Mod_act 170 = .ok (.iadd, 1) := by decide +kernel
theorem d_Mod_act_171 : decode b_Mod_act 171 = .ok (.iconst 1, 1) := by decide +kernel
theorem d_Mod_act_172 : decode b_Mod_act 172 = .ok (.iastore, 1) := by decide +kernel
theorem d_Mod_act_173 : decode b_Mod_act 173 = .ok (.aload_n 0, 1) := by decide +kernel
theorem d_Mod_act_174 : decode b_Mod_act 174 = .ok (.iconst 1, 1) := by decide +kernel
theorem d_Mod_act_175 : decode b_Mod_act 175 = .ok (.iconst 0, 1) := by decide +kernel
theorem d_Mod_act_176 : decode b_Mod_act 176 = .ok (.aload_n 0, 1) := by decide +kernel
theorem d_Mod_act_177 : decode b_Mod_act 177 = .ok (.getfield 50, 3) := by decide +kernel
theorem d_Mod_act_180 : decode b_Mod_act 180 = .ok (.aload_n 0, 1) := by decide +kernel
theorem d_Mod_act_181 : decode b_Mod_act 181 = .ok (.getfield 112, 3) := by decide +kernel
theorem d_Mod_act_184 : decode b_Mod_act 184 = .ok (.iaload, 1) := by decide +kernel
theorem d_Mod_act_185 : decode b_Mod_act 185 = .ok (.invokevirtual 137, 3) := by decide +kernel
theorem d_Mod_act_188 : decode b_Mod_act 188 = .ok (.return_, 1) := by decide +kernel
theorem d_Mod_call_0 : decode b_Mod_call 0 = .ok (.aload_n 0, 1) := by decide +kernel
theorem d_Mod_call_1 : decode b_Mod_call 1 = .ok (.getfield 32, 3) := by decide +kernel
theorem d_Mod_call_4 : decode b_Mod_call 4 = .ok (.aload_n 0, 1) := by decide +kernel
theorem d_Mod_call_5 : decode b_Mod_call 5 = .ok (.getfield 112, 3) := by decide +kernel
theorem d_Mod_call_8 : decode b_Mod_call 8 = .ok (.iaload, 1) := by decide +kernel
theorem d_Mod_call_9 : decode b_Mod_call 9 = .ok (.istore_n 2, 1) := by decide +kernel
theorem d_Mod_call_10 : decode b_Mod_call 10 = .ok (.aload_n 0, 1) := by decide +kernel
theorem d_Mod_call_11 : decode b_Mod_call 11 = .ok (.invokevirtual 160, 3) := by decide +kernel
theorem d_Mod_call_14 : decode b_Mod_call 14 = .ok (.istore_n 3, 1) := by decide +kernel
theorem d_Mod_call_15 : decode b_Mod_call 15 = .ok (.aload_n 0, 1) := by decide +kernel
theorem d_Mod_call_16 : decode b_Mod_call 16 = .ok (.invokevirtual 160, 3) := by decide +kernel
theorem d_Mod_call_19 : decode b_Mod_call 19 = .ok (.istore 4, 2) := by decide +kernel
theorem d_Mod_call_21 : decode b_Mod_call 21 = .ok (.iload_n 1, 1) := by decide +kernel
theorem d_Mod_call_22 : decode b_Mod_call 22 = .ok (.ifCond .eq 10, 3) := by decide +kernel
theorem d_Mod_call_25 : decode b_Mod_call 25 = .ok (.aload_n 0, 1) := by decide +kernel
theorem d_Mod_call_26 : decode b_Mod_call 26 = .ok (.invokevirtual 160, 3) := by decide +kernel
theorem d_Mod_call_29 : decode b_Mod_call 29 = .ok (.goto 4, 3) := by decide +kernel
theorem d_Mod_call_32 : decode b_Mod_call 32 = .ok (.iconst 0, 1) := by decide +kernel
theorem d_Mod_call_33 : decode b_Mod_call 33 = .ok (.istore 5, 2) := by decide +kernel
theorem d_Mod_call_35 : decode b_Mod_call 35 = .ok (.aload_n 0, 1) := by decide +kernel
theorem d_Mod_call_36 : decode b_Mod_call 36 = .ok (.invokevirtual 160, 3) := by decide +kernel
theorem d_Mod_call_39 : decode b_Mod_call 39 = .ok (.istore 6, 2) := by decide +kernel
theorem d_Mod_call_41 : decode b_Mod_call 41 = .ok (.iload 4, 2) := by decide +kernel
theorem d_Mod_call_43 : decode b_Mod_call 43 = .ok (.bipush 16, 2) := by decide +kernel
theorem d_Mod_call_45 : decode b_Mod_call 45 = .ok (.invokestatic 81, 3) := by decide +kernel
theorem d_Mod_call_48 : decode b_Mod_call 48 = .ok (.ifCond .eq 26, 3) := by decide +kernel
theorem d_Mod_call_51 : decode b_Mod_call 51 = .ok (.aload_n 0, 1) := by decide +kernel
theorem d_Mod_call_52 : decode b_Mod_call 52 = .ok (.getfield 7, 3) := by decide +kernel
theorem d_Mod_call_55 : decode b_Mod_call 55 = .ok (.bipush 36, 2) := by decide +kernel
theorem d_Mod_call_57 : decode b_Mod_call 57 = .ok (.iload_n 2, 1) := by decide +kernel
theorem d_Mod_call_58 : decode b_Mod_call 58 = .ok (.imul, 1) := by decide +kernel
theorem d_Mod_call_59 : decode b_Mod_call 59 = .ok (.iaload, 1) := by decide +kernel
theorem d_Mod_call_60 : decode b_Mod_call 60 = .ok (.iload 5, 2) := by decide +kernel
theorem d_Mod_call_62 : decode b_Mod_call 62 = .ok (.if_icmp .lt 12, 3) := by decide +kernel
theorem d_Mod_call_65 : decode b_Mod_call 65 = .ok (.aload_n 0, 1) := by decide +kernel
theorem d_Mod_call_66 : decode b_Mod_call 66 = .ok (.getfield 112, 3) := by decide +kernel
theorem d_Mod_call_69 : decode b_Mod_call 69 = .ok (.bipush 7, 2) := by decide +kernel
theorem d_Mod_call_71 : decode b_Mod_call 71 = .ok (.if_icmp .ne 14, 3) := by decide +kernel
theorem d_Mod_call_74 : decode b_Mod_call 74 = .ok (.aload_n 0, 1) := by decide +kernel
theorem d_Mod_call_75 : decode b_Mod_call 75 = .ok (.iconst 0, 1) := by decide +kernel
theorem d_Mod_call_76 : decode b_Mod_call 76 = .ok (.invokevirtual 130, 3) := by decide +kernel
theorem d_Mod_call_79 : decode b_Mod_call 79 = .ok (.aload_n 0, 1) := by decide +kernel
theorem d_Mod_call_80 : decode b_Mod_call 80 = .ok (.iconst 0, 1) := by decide +kernel
theorem d_Mod_call_81 : decode b_Mod_call 81 = .ok (.invokevirtual 130, 3) := by decide +kernel
theorem d_Mod_call_84 : decode b_Mod_call 84 = .ok (.return_, 1) := by decide +kernel
theorem d_Mod_call_85 : decode b_Mod_call 85 = .ok (.iload_n 3, 1) := by decide +kernel
theorem d_Mod_call_86 : decode b_Mod_call 86 = .ok (.ifCond .ge 7, 3) := by decide +kernel
theorem d_Mod_call_89 : decode b_Mod_call 89 = .ok (.iconst 0, 1) := by decide +kernel
theorem d_Mod_call_90 : decode b_Mod_call 90 = .ok (.goto 29, 3) := by decide +kernel
theorem d_Mod_call_93 : decode b_Mod_call 93 = .ok (.iload_n 3, 1) := by decide +kernel
theorem d_Mod_call_94 : decode b_Mod_call 94 = .ok (.aload_n 0, 1) := by decide +kernel
theorem d_Mod_call_95 : decode b_Mod_call 95 = .ok (.getfield 50, 3) := by decide +kernel
theorem d_Mod_call_98 : decode b_Mod_call 98 = .ok (.aload_n 0, 1) := by decide +kernel
theorem d_Mod_call_99 : decode b_Mod_call 99 = .ok (.getfield 112, 3) := by decide +kernel
theorem d_Mod_call_102 : decode b_Mod_call 102 = .ok (.iaload, 1) := by decide +kernel
theorem d_Mod_call_103 : decode b_Mod_call 103 = .ok (.if_icmp .ge 7, 3) := by decide +kernel
theorem d_Mod_call_106 : decode b_Mod_call 106 = .ok (.iload_n 3, 1) := by decide +kernel
theorem d_Mod_call_107 : decode b_Mod_call 107 = .ok (.goto 12, 3) := by decide +kernel
theorem d_Mod_call_110 : decode b_Mod_call 110 = .ok (.aload_n 0, 1) := by decide +kernel
theorem d_Mod_call_111 : decode b_Mod_call 111 = .ok (.getfield 50, 3) := by decide +kernel
theorem d_Mod_call_114 : decode b_Mod_call 114 = .ok (.aload_n 0, 1) := by decide +kernel
theorem d_Mod_call_115 : decode b_Mod_call 115 = .ok (.getfield 112, 3) := by decide +kernel
theorem d_Mod_call_118 : decode b_Mod_call 118 = .ok (.iaload, 1) := by decide +kernel
theorem d_Mod_call_119 : decode b_Mod_call 119 = .ok (.istore 7, 2) := by decide +kernel
theorem d_Mod_call_121 : decode b_Mod_call 121 = .ok (.aload_n 0, 1) := by decide +kernel
theorem d_Mod_call_122 : decode b_Mod_call 122 = .ok (.getfield 50, 3) := by decide +kernel
theorem d_Mod_call_125 : decode b_Mod_call 125 = .ok (.aload_n 0, 1) := by decide +kernel
theorem d_Mod_call_126 : decode b_Mod_call 126 = .ok (.getfield 112, 3) := by decide +kernel
theorem d_Mod_call_129 : decode b_Mod_call 129 = .ok (.dup2, 1) := by decide +kernel
theorem d_Mod_call_130 : decode b_Mod_call 130 = .ok (.iaload, 1) := by decide +kernel
theorem d_Mod_call_131 : decode b_Mod_call 131 = .ok (.iload 7, 2) := by decide +kernel
theorem d_Mod_call_133 : decode b_Mod_call 133 = .ok (.isub, 1) := by decide +kernel
theorem d_Mod_call_134 : decode b_Mod_call 134 = .ok (.iastore, 1) := by decide +kernel
theorem d_Mod_call_135 : decode b_Mod_call 135 = .ok (.iload_n 1, 1) := by decide +kernel
theorem d_Mod_call_136 : decode b_Mod_call 136 = .ok (.ifCond .eq 43, 3) := by decide +kernel
theorem d_Mod_call_139 : decode b_Mod_call 139 = .ok (.aload_n 0, 1) := by decide +kernel
theorem d_Mod_call_140 : decode b_Mod_call 140 = .ok (.iload 4, 2) := by decide +kernel
theorem d_Mod_call_142 : decode b_Mod_call 142 = .ok (.iload 4, 2) := by decide +kernel
theorem d_Mod_call_144 : decode b_Mod_call 144 = .ok (.iload_n 2, 1) := by decide +kernel
theorem d_Mod_call_145 : decode b_Mod_call 145 = .ok (.iload 5, 2) := by decide +kernel
theorem d_Mod_call_147 : decode b_Mod_call 147 = .ok (.iload 6, 2) := by decide +kernel
theorem d_Mod_call_149 : decode b_Mod_call 149 = .ok (.iload 5, 2) := by decide +kernel
theorem d_Mod_call_151 : decode b_Mod_call 151 = .ok (.ifCond .eq 11, 3) := by decide +kernel
theorem d_Mod_call_154 : decode b_Mod_call 154 = .ok (.iload 7, 2) := by decide +kernel
theorem d_Mod_call_156 : decode b_Mod_call 156 = .ok (.bipush 10, 2) := by decide +kernel
theorem d_Mod_call_158 : decode b_Mod_call 158 = .ok (.iadd, 1) := by decide +kernel
theorem d_Mod_call_159 : decode b_Mod_call 159 = .ok (.goto 5, 3) := by decide +kernel
theorem d_Mod_call_162 : decode b_Mod_call 162 = .ok (.iload 7, 2) := by decide +kernel
theorem d_Mod_call_164 : decode b_Mod_call 164 = .ok (.invokevirtual 181, 3) := by decide +kernel
theorem d_Mod_call_167 : decode b_Mod_call 167 = .ok (.aload_n 0, 1) := by decide +kernel
theorem d_Mod_call_168 : decode b_Mod_call 168 = .ok (.iload_n 2, 1) := by decide +kernel
theorem d_Mod_call_169 : decode b_Mod_call 169 = .ok (.iload 4, 2) := by decide +kernel
theorem d_Mod_call_171 : decode b_Mod_call 171 = .ok (.iload 5, 2) := by decide +kernel
theorem d_Mod_call_173 : decode b_Mod_call 173 = .ok (.invokevirtual 177, 3) := by decide +kernel
theorem d_Mod_call_176 : decode b_Mod_call 176 = .ok (.goto 32, 3) := by decide +kernel
theorem d_Mod_call_179 : decode b_Mod_call 179 = .ok (.aload_n 0, 1) := by decide +kernel
theorem d_Mod_call_180 : decode b_Mod_call 180 = .ok (.iload 4, 2) := by decide +kernel
theorem d_Mod_call_182 : decode b_Mod_call 182 = .ok (.iload_n 2, 1) := by decide +kernel
theorem d_Mod_call_183 : decode b_Mod_call 183 = .ok (.aload_n 0, 1) := by decide +kernel
theorem d_Mod_call_184 : decode b_Mod_call 184 = .ok (.getfield 41, 3) := by decide +kernel
theorem d_Mod_call_187 : decode b_Mod_call 187 = .ok (.aload_n 0, 1) := by decide +kernel
theorem d_Mod_call_188 : decode b_Mod_call 188 = .ok (.getfield 112, 3) := by decide +kernel
theorem d_Mod_call_191 : decode b_Mod_call 191 = .ok (.iaload, 1) := by decide +kernel
theorem d_Mod_call_192 : decode b_Mod_call 192 = .ok (.aload_n 0, 1) := by decide +kernel
theorem d_Mod_call_193 : decode b_Mod_call 193 = .ok (.getfield 44, 3) := by decide +kernel
theorem d_Mod_call_196 : decode b_Mod_call 196 = .ok (.aload_n 0, 1) := by decide +kernel
theorem d_Mod_call_197 : decode b_Mod_call 197 = .ok (.getfield 112, 3) := by decide +kernel
theorem d_Mod_call_200 : decode b_Mod_call 200 = .ok (.iaload, 1) := by decide +kernel
theorem d_Mod_call_201 : decode b_Mod_call 201 = .ok (.iload 6, 2) := by decide +kernel
theorem d_Mod_call_203 : decode b_Mod_call 203 = .ok (.iload 7, 2) := by decide +kernel
theorem d_Mod_call_205 : decode b_Mod_call 205 = .ok (.invokevirtual 181, 3) := by decide +kernel
theorem d_Mod_call_208 : decode b_Mod_call 208 = .ok (.return_, 1) := by decide +kernel
