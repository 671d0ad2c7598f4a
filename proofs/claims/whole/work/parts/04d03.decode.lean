theorem d_Mod_part_0 : decode b_Mod_part 0 = .ok (.iload_n 1, 1) := by decide +kernel
theorem d_Mod_part_1 : decode b_Mod_part 1 = .ok (.iload_n 2, 1) := by decide +kernel
theorem d_Mod_part_2 : decode b_Mod_part 2 = .ok (.isub, 1) := by decide +kernel
theorem d_Mod_part_3 : decode b_Mod_part 3 = .ok (.istore 4, 2) := by decide +kernel
theorem d_Mod_part_5 : decode b_Mod_part 5 = .ok (.iconst 0, 1) := by decide +kernel
theorem d_Mod_part_6 : decode b_Mod_part 6 = .ok (.istore 5, 2) := by decide +kernel
theorem d_Mod_part_8 : decode b_Mod_part 8 = .ok (.iconst (-1), 1) := by decide +kernel
theorem d_Mod_part_9 : decode b_Mod_part 9 = .ok (.istore 6, 2) := by decide +kernel
theorem d_Mod_part_11 : decode b_Mod_part 11 = .ok (.iconst (-1), 1) := by decide +kernel
theorem d_Mod_part_12 : decode b_Mod_part 12 = .ok (.istore 7, 2) := by decide +kernel
theorem d_Mod_part_14 : decode b_Mod_part 14 = .ok (.iload_n 3, 1) := by decide +kernel
theorem d_Mod_part_15 : decode b_Mod_part 15 = .ok (.iload 4, 2) := by decide +kernel
theorem d_Mod_part_17 : decode b_Mod_part 17 = .ok (.ishl, 1) := by decide +kernel
theorem d_Mod_part_18 : decode b_Mod_part 18 = .ok (.istore 8, 2) := by decide +kernel
theorem d_Mod_part_20 : decode b_Mod_part 20 = .ok (.iload 8, 2) := by decide +kernel
theorem d_Mod_part_22 : decode b_Mod_part 22 = .ok (.iload_n 3, 1) := by decide +kernel
theorem d_Mod_part_23 : decode b_Mod_part 23 = .ok (.iconst 1, 1) := by decide +kernel
theorem d_Mod_part_24 : decode b_Mod_part 24 = .ok (.iadd, 1) := by decide +kernel
theorem d_Mod_part_25 : decode b_Mod_part 25 = .ok (.iload 4, 2) := by decide +kernel
theorem d_Mod_part_27 : decode b_Mod_part 27 = .ok (.ishl, 1) := by decide +kernel
theorem d_Mod_part_28 : decode b_Mod_part 28 = .ok (.if_icmp .ge 40, 3) := by decide +kernel
theorem d_Mod_part_31 : decode b_Mod_part 31 = .ok (.aload_n 0, 1) := by decide +kernel
theorem d_Mod_part_32 : decode b_Mod_part 32 = .ok (.getfield 71, 3) := by decide +kernel
theorem d_Mod_part_35 : decode b_Mod_part 35 = .ok (.iload 8, 2) := by decide +kernel
theorem d_Mod_part_37 : decode b_Mod_part 37 = .ok (.baload, 1) := by decide +kernel
theorem d_Mod_part_38 : decode b_Mod_part 38 = .ok (.ifCond .eq 24, 3) := by decide +kernel
theorem d_Mod_part_41 : decode b_Mod_part 41 = .ok (.iload 5, 2) := by decide +kernel
theorem d_Mod_part_43 : decode b_Mod_part 43 = .ok (.ifCond .ne 8, 3) := by decide +kernel
theorem d_Mod_part_46 : decode b_Mod_part 46 = .ok (.iload 8, 2) := by decide +kernel
theorem d_Mod_part_48 : decode b_Mod_part 48 = .ok (.goto 5, 3) := by decide +kernel
theorem d_Mod_part_51 : decode b_Mod_part 51 = .ok (.iload 6, 2) := by decide +kernel
theorem d_Mod_part_53 : decode b_Mod_part 53 = .ok (.istore 6, 2) := by decide +kernel
theorem d_Mod_part_55 : decode b_Mod_part 55 = .ok (.iload 8, 2) := by decide +kernel
theorem d_Mod_part_57 : decode b_Mod_part 57 = .ok (.istore 7, 2) := by decide +kernel
theorem d_Mod_part_59 : decode b_Mod_part 59 = .ok (.iinc 5 1, 3) := by decide +kernel
theorem d_Mod_part_62 : decode b_Mod_part 62 = .ok (.iinc 8 1, 3) := by decide +kernel
theorem d_Mod_part_65 : decode b_Mod_part 65 = .ok (.goto (-45), 3) := by decide +kernel
theorem d_Mod_part_68 : decode b_Mod_part 68 = .ok (.iload 5, 2) := by decide +kernel
theorem d_Mod_part_70 : decode b_Mod_part 70 = .ok (.ifCond .ne 5, 3) := by decide +kernel
theorem d_Mod_part_73 : decode b_Mod_part 73 = .ok (.iconst 0, 1) := by decide +kernel
theorem d_Mod_part_74 : decode b_Mod_part 74 = .ok (.ireturn, 1) := by decide +kernel
theorem d_Mod_part_75 : decode b_Mod_part 75 = .ok (.iload 5, 2) := by decide +kernel
theorem d_Mod_part_77 : decode b_Mod_part 77 = .ok (.iconst 1, 1) := by decide +kernel
theorem d_Mod_part_78 : decode b_Mod_part 78 = .ok (.if_icmp .ne 30, 3) := by decide +kernel
theorem d_Mod_part_81 : decode b_Mod_part 81 = .ok (.iconst 1, 1) := by decide +kernel
theorem d_Mod_part_82 : decode b_Mod_part 82 = .ok (.iconst 1, 1) := by decide +kernel
theorem d_Mod_part_83 : decode b_Mod_part 83 = .ok (.iload 4, 2) := by decide +kernel
theorem d_Mod_part_85 : decode b_Mod_part 85 = .ok (.ishl, 1) := by decide +kernel
theorem d_Mod_part_86 : decode b_Mod_part 86 = .ok (.iload 6, 2) := by decide +kernel
theorem d_Mod_part_88 : decode b_Mod_part 88 = .ok (.iload_n 3, 1) := by decide +kernel
theorem d_Mod_part_89 : decode b_Mod_part 89 = .ok (.iload 4, 2) := by decide +kernel
theorem d_Mod_part_91 : decode b_Mod_part 91 = .ok (.ishl, 1) := by decide +kernel
theorem d_Mod_part_92 : decode b_Mod_part 92 = .ok (.isub, 1) := by decide +kernel
theorem d_Mod_part_93 : decode b_Mod_part 93 = .ok (.ior, 1) := by decide +kernel
theorem d_Mod_part_94 : decode b_Mod_part 94 = .ok (.invokestatic 94, 3) := by decide +kernel
theorem d_Mod_part_97 : decode b_Mod_part 97 = .ok (.aload_n 0, 1) := by decide +kernel
theorem d_Mod_part_98 : decode b_Mod_part 98 = .ok (.getfield 75, 3) := by decide +kernel
theorem d_Mod_part_101 : decode b_Mod_part 101 = .ok (.iload 6, 2) := by decide +kernel
theorem d_Mod_part_103 : decode b_Mod_part 103 = .ok (.iaload, 1) := by decide +kernel
theorem d_Mod_part_104 : decode b_Mod_part 104 = .ok (.invokestatic 94, 3) := by decide +kernel
theorem d_Mod_part_107 : decode b_Mod_part 107 = .ok (.ireturn, 1) := by decide +kernel
theorem d_Mod_part_108 : decode b_Mod_part 108 = .ok (.iconst 0, 1) := by decide +kernel
theorem d_Mod_part_109 : decode b_Mod_part 109 = .ok (.istore 8, 2) := by decide +kernel
theorem d_Mod_part_111 : decode b_Mod_part 111 = .ok (.iload 6, 2) := by decide +kernel
theorem d_Mod_part_113 : decode b_Mod_part 113 = .ok (.iload 4, 2) := by decide +kernel
theorem d_Mod_part_115 : decode b_Mod_part 115 = .ok (.iload 8, 2) := by decide +kernel
theorem d_Mod_part_117 : decode b_Mod_part 117 = .ok (.isub, 1) := by decide +kernel
theorem d_Mod_part_118 : decode b_Mod_part 118 = .ok (.iconst 1, 1) := by decide +kernel
theorem d_Mod_part_119 : decode b_Mod_part 119 = .ok (.isub, 1) := by decide +kernel
theorem d_Mod_part_120 : decode b_Mod_part 120 = .ok (.ishr, 1) := by decide +kernel
theorem d_Mod_part_121 : decode b_Mod_part 121 = .ok (.iload 7, 2) := by decide +kernel
theorem d_Mod_part_123 : decode b_Mod_part 123 = .ok (.iload 4, 2) := by decide +kernel
theorem d_Mod_part_125 : decode b_Mod_part 125 = .ok (.iload 8, 2) := by decide +kernel
theorem d_Mod_part_127 : decode b_Mod_part 127 = .ok (.isub, 1) := by decide +kernel
theorem d_Mod_part_128 : decode b_Mod_part 128 = .ok (.iconst 1, 1) := by decide +kernel
theorem d_Mod_part_129 : decode b_Mod_part 129 = .ok (.isub, 1) := by decide +kernel
theorem d_Mod_part_130 : decode b_Mod_part 130 = .ok (.ishr, 1) := by decide +kernel
theorem d_Mod_part_131 : decode b_Mod_part 131 = .ok (.if_icmp .ne 9, 3) := by decide +kernel
theorem d_Mod_part_134 : decode b_Mod_part 134 = .ok (.iinc 8 1, 3) := by decide +kernel
theorem d_Mod_part_137 : decode b_Mod_part 137 = .ok (.goto (-26), 3) := by decide +kernel
theorem d_Mod_part_140 : decode b_Mod_part 140 = .ok (.iload 8, 2) := by decide +kernel
theorem d_Mod_part_142 : decode b_Mod_part 142 = .ok (.ifCond .ne 37, 3) := by decide +kernel
theorem d_Mod_part_145 : decode b_Mod_part 145 = .ok (.iconst 3, 1) := by decide +kernel
theorem d_Mod_part_146 : decode b_Mod_part 146 = .ok (.aload_n 0, 1) := by decide +kernel
theorem d_Mod_part_147 : decode b_Mod_part 147 = .ok (.getfield 68, 3) := by decide +kernel
theorem d_Mod_part_150 : decode b_Mod_part 150 = .ok (.iconst 2, 1) := by decide +kernel
theorem d_Mod_part_151 : decode b_Mod_part 151 = .ok (.iload_n 2, 1) := by decide +kernel
theorem d_Mod_part_152 : decode b_Mod_part 152 = .ok (.ishl, 1) := by decide +kernel
theorem d_Mod_part_153 : decode b_Mod_part 153 = .ok (.iconst 2, 1) := by decide +kernel
theorem d_Mod_part_154 : decode b_Mod_part 154 = .ok (.iload_n 3, 1) := by decide +kernel
theorem d_Mod_part_155 : decode b_Mod_part 155 = .ok (.imul, 1) := by decide +kernel
theorem d_Mod_part_156 : decode b_Mod_part 156 = .ok (.iadd, 1) := by decide +kernel
theorem d_Mod_part_157 : decode b_Mod_part 157 = .ok (.iaload, 1) := by decide +kernel
theorem d_Mod_part_158 : decode b_Mod_part 158 = .ok (.invokestatic 94, 3) := by decide +kernel
theorem d_Mod_part_161 : decode b_Mod_part 161 = .ok (.aload_n 0, 1) := by decide +kernel
theorem d_Mod_part_162 : decode b_Mod_part 162 = .ok (.getfield 68, 3) := by decide +kernel
theorem d_Mod_part_165 : decode b_Mod_part 165 = .ok (.iconst 2, 1) := by decide +kernel
theorem d_Mod_part_166 : decode b_Mod_part 166 = .ok (.iload_n 2, 1) := by decide +kernel
theorem d_Mod_part_167 : decode b_Mod_part 167 = .ok (.ishl, 1) := by decide +kernel
theorem d_Mod_part_168 : decode b_Mod_part 168 = .ok (.iconst 2, 1) := by decide +kernel
theorem d_Mod_part_169 : decode b_Mod_part 169 = .ok (.iload_n 3, 1) := by decide +kernel
theorem d_Mod_part_170 : decode b_Mod_part 170 = .ok (.imul, 1) := by decide +kernel
theorem d_Mod_part_171 : decode b_Mod_part 171 = .ok (.iadd, 1) := by decide +kernel
theorem d_Mod_part_172 : decode b_Mod_part 172 = .ok (.iconst 1, 1) := by decide +kernel
theorem d_Mod_part_173 : decode b_Mod_part 173 = .ok (.iadd, 1) := by decide +kernel
theorem d_Mod_part_174 : decode b_Mod_part 174 = .ok (.iaload, 1) := by decide +kernel
theorem d_Mod_part_175 : decode b_Mod_part 175 = .ok (.invokestatic 94, 3) := by decide +kernel
theorem d_Mod_part_178 : decode b_Mod_part 178 = .ok (.ireturn, 1) := by decide +kernel
theorem d_Mod_part_179 : decode b_Mod_part 179 = .ok (.iload 6, 2) := by decide +kernel
theorem d_Mod_part_181 : decode b_Mod_part 181 = .ok (.iload 4, 2) := by decide +kernel
theorem d_Mod_part_183 : decode b_Mod_part 183 = .ok (.iload 8, 2) := by decide +kernel
theorem d_Mod_part_185 : decode b_Mod_part 185 = .ok (.isub, 1) := by decide +kernel
theorem d_Mod_part_186 : decode b_Mod_part 186 = .ok (.ishr, 1) := by decide +kernel
theorem d_Mod_part_187 : decode b_Mod_part 187 = .ok (.istore 9, 2) := by decide +kernel
theorem d_Mod_part_189 : decode b_Mod_part 189 = .ok (.iconst 2, 1) := by decide +kernel
theorem d_Mod_part_190 : decode b_Mod_part 190 = .ok (.iconst 1, 1) := by decide +kernel
theorem d_Mod_part_191 : decode b_Mod_part 191 = .ok (.iload 8, 2) := by decide +kernel
theorem d_Mod_part_193 : decode b_Mod_part 193 = .ok (.ishl, 1) := by decide +kernel
theorem d_Mod_part_194 : decode b_Mod_part 194 = .ok (.iload 9, 2) := by decide +kernel
theorem d_Mod_part_196 : decode b_Mod_part 196 = .ok (.iload_n 3, 1) := by decide +kernel
theorem d_Mod_part_197 : decode b_Mod_part 197 = .ok (.iload 8, 2) := by decide +kernel
theorem d_Mod_part_199 : decode b_Mod_part 199 = .ok (.ishl, 1) := by decide +kernel
theorem d_Mod_part_200 : decode b_Mod_part 200 = .ok (.isub, 1) := by decide +kernel
theorem d_Mod_part_201 : decode b_Mod_part 201 = .ok (.ior, 1) := by decide +kernel
theorem d_Mod_part_202 : decode b_Mod_part 202 = .ok (.invokestatic 94, 3) := by decide +kernel
theorem d_Mod_part_205 : decode b_Mod_part 205 = .ok (.aload_n 0, 1) := by decide +kernel
theorem d_Mod_part_206 : decode b_Mod_part 206 = .ok (.getfield 68, 3) := by decide +kernel
theorem d_Mod_part_209 : decode b_Mod_part 209 = .ok (.iconst 1, 1) := by decide +kernel
theorem d_Mod_part_210 : decode b_Mod_part 210 = .ok (.iload_n 2, 1) := by decide +kernel
theorem d_Mod_part_211 : decode b_Mod_part 211 = .ok (.iload 8, 2) := by decide +kernel
theorem d_Mod_part_213 : decode b_Mod_part 213 = .ok (.iadd, 1) := by decide +kernel
theorem d_Mod_part_214 : decode b_Mod_part 214 = .ok (.ishl, 1) := by decide +kernel
theorem d_Mod_part_215 : decode b_Mod_part 215 = .ok (.iload 9, 2) := by decide +kernel
theorem d_Mod_part_217 : decode b_Mod_part 217 = .ok (.iadd, 1) := by decide +kernel
theorem d_Mod_part_218 : decode b_Mod_part 218 = .ok (.iaload, 1) := by decide +kernel
theorem d_Mod_part_219 : decode b_Mod_part 219 = .ok (.invokestatic 94, 3) := by decide +kernel
theorem d_Mod_part_222 : decode b_Mod_part 222 = .ok (.ireturn, 1) := by decide +kernel
theorem d_Mod_slotsRoot_0 : decode b_Mod_slotsRoot 0 = .ok (.iconst 0, 1) := by decide +kernel
theorem d_Mod_slotsRoot_1 : decode b_Mod_slotsRoot 1 = .ok (.istore_n 2, 1) := by decide +kernel
theorem d_Mod_slotsRoot_2 : decode b_Mod_slotsRoot 2 = .ok (.iload_n 2, 1) := by decide +kernel
theorem d_Mod_slotsRoot_3 : decode b_Mod_slotsRoot 3 = .ok (.bipush 8, 2) := by decide +kernel
theorem d_Mod_slotsRoot_5 : decode b_Mod_slotsRoot 5 = .ok (.if_icmp .ge 49, 3) := by decide +kernel
theorem d_Mod_slotsRoot_8 : decode b_Mod_slotsRoot 8 = .ok (.aload_n 0, 1) := by decide +kernel
theorem d_Mod_slotsRoot_9 : decode b_Mod_slotsRoot 9 = .ok (.getfield 75, 3) := by decide +kernel
theorem d_Mod_slotsRoot_12 : decode b_Mod_slotsRoot 12 = .ok (.iload_n 2, 1) := by decide +kernel
theorem d_Mod_slotsRoot_13 : decode b_Mod_slotsRoot 13 = .ok (.aload_n 0, 1) := by decide +kernel
theorem d_Mod_slotsRoot_14 : decode b_Mod_slotsRoot 14 = .ok (.getfield 7, 3) := by decide +kernel
theorem d_Mod_slotsRoot_17 : decode b_Mod_slotsRoot 17 = .ok (.bipush 36, 2) := by decide +kernel
theorem d_Mod_slotsRoot_19 : decode b_Mod_slotsRoot 19 = .ok (.iload_n 1, 1) := by decide +kernel
theorem d_Mod_slotsRoot_20 : decode b_Mod_slotsRoot 20 = .ok (.imul, 1) := by decide +kernel
theorem d_Mod_slotsRoot_21 : decode b_Mod_slotsRoot 21 = .ok (.bipush 27, 2) := by decide +kernel
theorem d_Mod_slotsRoot_23 : decode b_Mod_slotsRoot 23 = .ok (.iadd, 1) := by decide +kernel
theorem d_Mod_slotsRoot_24 : decode b_Mod_slotsRoot 24 = .ok (.iload_n 2, 1) := by decide +kernel
theorem d_Mod_slotsRoot_25 : decode b_Mod_slotsRoot 25 = .ok (.iadd, 1) := by decide +kernel
theorem d_Mod_slotsRoot_26 : decode b_Mod_slotsRoot 26 = .ok (.iaload, 1) := by decide +kernel
theorem d_Mod_slotsRoot_27 : decode b_Mod_slotsRoot 27 = .ok (.iastore, 1) := by decide +kernel
theorem d_Mod_slotsRoot_28 : decode b_Mod_slotsRoot 28 = .ok (.aload_n 0, 1) := by decide +kernel
theorem d_Mod_slotsRoot_29 : decode b_Mod_slotsRoot 29 = .ok (.getfield 71, 3) := by decide +kernel
theorem d_Mod_slotsRoot_32 : decode b_Mod_slotsRoot 32 = .ok (.iload_n 2, 1) := by decide +kernel
theorem d_Mod_slotsRoot_33 : decode b_Mod_slotsRoot 33 = .ok (.aload_n 0, 1) := by decide +kernel
theorem d_Mod_slotsRoot_34 : decode b_Mod_slotsRoot 34 = .ok (.getfield 75, 3) := by decide +kernel
theorem d_Mod_slotsRoot_37 : decode b_Mod_slotsRoot 37 = .ok (.iload_n 2, 1) := by decide +kernel
theorem d_Mod_slotsRoot_38 : decode b_Mod_slotsRoot 38 = .ok (.iaload, 1) := by decide +kernel
theorem d_Mod_slotsRoot_39 : decode b_Mod_slotsRoot 39 = .ok (.ifCond .eq 7, 3) := by decide +kernel
theorem d_Mod_slotsRoot_42 : decode b_Mod_slotsRoot 42 = .ok (.iconst 1, 1) := by decide +kernel
theorem d_Mod_slotsRoot_43 : decode b_Mod_slotsRoot 43 = .ok (.goto 4, 3) := by decide +kernel
theorem d_Mod_slotsRoot_46 : decode b_Mod_slotsRoot 46 = .ok (.iconst 0, 1) := by decide +kernel
theorem d_Mod_slotsRoot_47 : decode b_Mod_slotsRoot 47 = .ok (.bastore, 1) := by decide +kernel
theorem d_Mod_slotsRoot_48 : decode b_Mod_slotsRoot 48 = .ok (.iinc 2 1, 3) := by decide +kernel
theorem d_Mod_slotsRoot_51 : decode b_Mod_slotsRoot 51 = .ok (.goto (-49), 3) := by decide +kernel
theorem d_Mod_slotsRoot_54 : decode b_Mod_slotsRoot 54 = .ok (.aload_n 0, 1) := by decide +kernel
theorem d_Mod_slotsRoot_55 : decode b_Mod_slotsRoot 55 = .ok (.iconst 3, 1) := by decide +kernel
theorem d_Mod_slotsRoot_56 : decode b_Mod_slotsRoot 56 = .ok (.invokevirtual 98, 3) := by decide +kernel
theorem d_Mod_slotsRoot_59 : decode b_Mod_slotsRoot 59 = .ok (.ireturn, 1) := by decide +kernel
theorem d_Mod_valueOf_0 : decode b_Mod_valueOf 0 = .ok (.iconst 5, 1) := by decide +kernel
theorem d_Mod_valueOf_1 : decode b_Mod_valueOf 1 = .ok (.istore_n 2, 1) := by decide +kernel
theorem d_Mod_valueOf_2 : decode b_Mod_valueOf 2 = .ok (.iconst 0, 1) := by decide +kernel
theorem d_Mod_valueOf_3 : decode b_Mod_valueOf 3 = .ok (.istore_n 3, 1) := by decide +kernel
theorem d_Mod_valueOf_4 : decode b_Mod_valueOf 4 = .ok (.iload_n 3, 1) := by decide +kernel
theorem d_Mod_valueOf_5 : decode b_Mod_valueOf 5 = .ok (.aload_n 0, 1) := by decide +kernel
theorem d_Mod_valueOf_6 : decode b_Mod_valueOf 6 = .ok (.getfield 7, 3) := by decide +kernel
theorem d_Mod_valueOf_9 : decode b_Mod_valueOf 9 = .ok (.bipush 36, 2) := by decide +kernel
theorem d_Mod_valueOf_11 : decode b_Mod_valueOf 11 = .ok (.iload_n 1, 1) := by decide +kernel
theorem d_Mod_valueOf_12 : decode b_Mod_valueOf 12 = .ok (.imul, 1) := by decide +kernel
theorem d_Mod_valueOf_13 : decode b_Mod_valueOf 13 = .ok (.iconst 2, 1) := by decide +kernel
theorem d_Mod_valueOf_14 : decode b_Mod_valueOf 14 = .ok (.iadd, 1) := by decide +kernel
theorem d_Mod_valueOf_15 : decode b_Mod_valueOf 15 = .ok (.iaload, 1) := by decide +kernel
theorem d_Mod_valueOf_16 : decode b_Mod_valueOf 16 = .ok (.if_icmp .ge 27, 3) := by decide +kernel
theorem d_Mod_valueOf_19 : decode b_Mod_valueOf 19 = .ok (.iload_n 2, 1) := by decide +kernel
theorem d_Mod_valueOf_20 : decode b_Mod_valueOf 20 = .ok (.aload_n 0, 1) := by decide +kernel
theorem d_Mod_valueOf_21 : decode b_Mod_valueOf 21 = .ok (.getfield 7, 3) := by decide +kernel
theorem d_Mod_valueOf_24 : decode b_Mod_valueOf 24 = .ok (.bipush 36, 2) := by decide +kernel
theorem d_Mod_valueOf_26 : decode b_Mod_valueOf 26 = .ok (.iload_n 1, 1) := by decide +kernel
theorem d_Mod_valueOf_27 : decode b_Mod_valueOf 27 = .ok (.imul, 1) := by decide +kernel
theorem d_Mod_valueOf_28 : decode b_Mod_valueOf 28 = .ok (.iconst 3, 1) := by decide +kernel
theorem d_Mod_valueOf_29 : decode b_Mod_valueOf 29 = .ok (.iadd, 1) := by decide +kernel
theorem d_Mod_valueOf_30 : decode b_Mod_valueOf 30 = .ok (.iload_n 3, 1) := by decide +kernel
theorem d_Mod_valueOf_31 : decode b_Mod_valueOf 31 = .ok (.iadd, 1) := by decide +kernel
theorem d_Mod_valueOf_32 : decode b_Mod_valueOf 32 = .ok (.iaload, 1) := by decide +kernel
theorem d_Mod_valueOf_33 : decode b_Mod_valueOf 33 = .ok (.invokestatic 94, 3) := by decide +kernel
theorem d_Mod_valueOf_36 : decode b_Mod_valueOf 36 = .ok (.istore_n 2, 1) := by decide +kernel
theorem d_Mod_valueOf_37 : decode b_Mod_valueOf 37 = .ok (.iinc 3 1, 3) := by decide +kernel
theorem d_Mod_valueOf_40 : decode b_Mod_valueOf 40 = .ok (.goto (-36), 3) := by decide +kernel
theorem d_Mod_valueOf_43 : decode b_Mod_valueOf 43 = .ok (.aload_n 0, 1) := by decide +kernel
theorem d_Mod_valueOf_44 : decode b_Mod_valueOf 44 = .ok (.iload_n 1, 1) := by decide +kernel
theorem d_Mod_valueOf_45 : decode b_Mod_valueOf 45 = .ok (.invokevirtual 102, 3) := by decide +kernel
theorem d_Mod_valueOf_48 : decode b_Mod_valueOf 48 = .ok (.istore_n 3, 1) := by decide +kernel
theorem d_Mod_valueOf_49 : decode b_Mod_valueOf 49 = .ok (.iconst 4, 1) := by decide +kernel
theorem d_Mod_valueOf_50 : decode b_Mod_valueOf 50 = .ok (.aload_n 0, 1) := by decide +kernel
theorem d_Mod_valueOf_51 : decode b_Mod_valueOf 51 = .ok (.getfield 7, 3) := by decide +kernel
theorem d_Mod_valueOf_54 : decode b_Mod_valueOf 54 = .ok (.bipush 36, 2) := by decide +kernel
theorem d_Mod_valueOf_56 : decode b_Mod_valueOf 56 = .ok (.iload_n 1, 1) := by decide +kernel
theorem d_Mod_valueOf_57 : decode b_Mod_valueOf 57 = .ok (.imul, 1) := by decide +kernel
theorem d_Mod_valueOf_58 : decode b_Mod_valueOf 58 = .ok (.iaload, 1) := by decide +kernel
theorem d_Mod_valueOf_59 : decode b_Mod_valueOf 59 = .ok (.invokestatic 94, 3) := by decide +kernel
theorem d_Mod_valueOf_62 : decode b_Mod_valueOf 62 = .ok (.aload_n 0, 1) := by decide +kernel
theorem d_Mod_valueOf_63 : decode b_Mod_valueOf 63 = .ok (.getfield 7, 3) := by decide +kernel
theorem d_Mod_valueOf_66 : decode b_Mod_valueOf 66 = .ok (.bipush 36, 2) := by decide +kernel
theorem d_Mod_valueOf_68 : decode b_Mod_valueOf 68 = .ok (.iload_n 1, 1) := by decide +kernel
theorem d_Mod_valueOf_69 : decode b_Mod_valueOf 69 = .ok (.imul, 1) := by decide +kernel
theorem d_Mod_valueOf_70 : decode b_Mod_valueOf 70 = .ok (.iconst 1, 1) := by decide +kernel
theorem d_Mod_valueOf_71 : decode b_Mod_valueOf 71 = .ok (.iadd, 1) := by decide +kernel
theorem d_Mod_valueOf_72 : decode b_Mod_valueOf 72 = .ok (.iaload, 1) := by decide +kernel
theorem d_Mod_valueOf_73 : decode b_Mod_valueOf 73 = .ok (.invokestatic 94, 3) := by decide +kernel
theorem d_Mod_valueOf_76 : decode b_Mod_valueOf 76 = .ok (.iload_n 2, 1) := by decide +kernel
theorem d_Mod_valueOf_77 : decode b_Mod_valueOf 77 = .ok (.invokestatic 94, 3) := by decide +kernel
theorem d_Mod_valueOf_80 : decode b_Mod_valueOf 80 = .ok (.iload_n 3, 1) := by decide +kernel
theorem d_Mod_valueOf_81 : decode b_Mod_valueOf 81 = .ok (.invokestatic 94, 3) := by decide +kernel
theorem d_Mod_valueOf_84 : decode b_Mod_valueOf 84 = .ok (.ireturn, 1) := by decide +kernel
theorem d_Mod_empty_0 : decode b_Mod_empty 0 = .ok (.aload_n 0, 1) := by decide +kernel
theorem d_Mod_empty_1 : decode b_Mod_empty 1 = .ok (.getfield 7, 3) := by decide +kernel
theorem d_Mod_empty_4 : decode b_Mod_empty 4 = .ok (.bipush 36, 2) := by decide +kernel
theorem d_Mod_empty_6 : decode b_Mod_empty 6 = .ok (.iload_n 1, 1) := by decide +kernel
theorem d_Mod_empty_7 : decode b_Mod_empty 7 = .ok (.imul, 1) := by decide +kernel
theorem d_Mod_empty_8 : decode b_Mod_empty 8 = .ok (.iaload, 1) := by decide +kernel
theorem d_Mod_empty_9 : decode b_Mod_empty 9 = .ok (.ifCond .ne 35, 3) := by decide +kernel
theorem d_Mod_empty_12 : decode b_Mod_empty 12 = .ok (.aload_n 0, 1) := by decide +kernel
theorem d_Mod_empty_13 : decode b_Mod_empty 13 = .ok (.getfield 7, 3) := by decide +kernel
theorem d_Mod_empty_16 : decode b_Mod_empty 16 = .ok (.bipush 36, 2) := by decide +kernel
theorem d_Mod_empty_18 : decode b_Mod_empty 18 = .ok (.iload_n 1, 1) := by decide +kernel
theorem d_Mod_empty_19 : decode b_Mod_empty 19 = .ok (.imul, 1) := by decide +kernel
theorem d_Mod_empty_20 : decode b_Mod_empty 20 = .ok (.iconst 1, 1) := by decide +kernel
theorem d_Mod_empty_21 : decode b_Mod_empty 21 = .ok (.iadd, 1) := by decide +kernel
theorem d_Mod_empty_22 : decode b_Mod_empty 22 = .ok (.iaload, 1) := by decide +kernel
theorem d_Mod_empty_23 : decode b_Mod_empty 23 = .ok (.ifCond .ne 21, 3) := by decide +kernel
theorem d_Mod_empty_26 : decode b_Mod_empty 26 = .ok (.aload_n 0, 1) := by decide +kernel
theorem d_Mod_empty_27 : decode b_Mod_empty 27 = .ok (.getfield 7, 3) := by decide +kernel
theorem d_Mod_empty_30 : decode b_Mod_empty 30 = .ok (.bipush 36, 2) := by decide +kernel
theorem d_Mod_empty_32 : decode b_Mod_empty 32 = .ok (.iload_n 1, 1) := by decide +kernel
theorem d_Mod_empty_33 : decode b_Mod_empty 33 = .ok (.imul, 1) := by decide +kernel
theorem d_Mod_empty_34 : decode b_Mod_empty 34 = .ok (.iconst 2, 1) := by decide +kernel
theorem d_Mod_empty_35 : decode b_Mod_empty 35 = .ok (.iadd, 1) := by decide +kernel
theorem d_Mod_empty_36 : decode b_Mod_empty 36 = .ok (.iaload, 1) := by decide +kernel
theorem d_Mod_empty_37 : decode b_Mod_empty 37 = .ok (.ifCond .ne 7, 3) := by decide +kernel
theorem d_Mod_empty_40 : decode b_Mod_empty 40 = .ok (.iconst 1, 1) := by decide +kernel
theorem d_Mod_empty_41 : decode b_Mod_empty 41 = .ok (.goto 4, 3) := by decide +kernel
theorem d_Mod_empty_44 : decode b_Mod_empty 44 = .ok (.iconst 0, 1) := by decide +kernel
theorem d_Mod_empty_45 : decode b_Mod_empty 45 = .ok (.istore_n 2, 1) := by decide +kernel
theorem d_Mod_empty_46 : decode b_Mod_empty 46 = .ok (.iconst 0, 1) := by decide +kernel
theorem d_Mod_empty_47 : decode b_Mod_empty 47 = .ok (.istore_n 3, 1) := by decide +kernel
theorem d_Mod_empty_48 : decode b_Mod_empty 48 = .ok (.iload_n 3, 1) := by decide +kernel
theorem d_Mod_empty_49 : decode b_Mod_empty 49 = .ok (.bipush 8, 2) := by decide +kernel
theorem d_Mod_empty_51 : decode b_Mod_empty 51 = .ok (.if_icmp .ge 36, 3) := by decide +kernel
theorem d_Mod_empty_54 : decode b_Mod_empty 54 = .ok (.iload_n 2, 1) := by decide +kernel
theorem d_Mod_empty_55 : decode b_Mod_empty 55 = .ok (.ifCond .eq 24, 3) := by decide +kernel
theorem d_Mod_empty_58 : decode b_Mod_empty 58 = .ok (.aload_n 0, 1) := by decide +kernel
theorem d_Mod_empty_59 : decode b_Mod_empty 59 = .ok (.getfield 7, 3) := by decide +kernel
theorem d_Mod_empty_62 : decode b_Mod_empty 62 = .ok (.bipush 36, 2) := by decide +kernel
theorem d_Mod_empty_64 : decode b_Mod_empty 64 = .ok (.iload_n 1, 1) := by decide +kernel
theorem d_Mod_empty_65 : decode b_Mod_empty 65 = .ok (.imul, 1) := by decide +kernel
theorem d_Mod_empty_66 : decode b_Mod_empty 66 = .ok (.bipush 27, 2) := by decide +kernel
theorem d_Mod_empty_68 : decode b_Mod_empty 68 = .ok (.iadd, 1) := by decide +kernel
theorem d_Mod_empty_69 : decode b_Mod_empty 69 = .ok (.iload_n 3, 1) := by decide +kernel
theorem d_Mod_empty_70 : decode b_Mod_empty 70 = .ok (.iadd, 1) := by decide +kernel
theorem d_Mod_empty_71 : decode b_Mod_empty 71 = .ok (.iaload, 1) := by decide +kernel
theorem d_Mod_empty_72 : decode b_Mod_empty 72 = .ok (.ifCond .ne 7, 3) := by decide +kernel
theorem d_Mod_empty_75 : decode b_Mod_empty 75 = .ok (.iconst 1, 1) := by decide +kernel
theorem d_Mod_empty_76 : decode b_Mod_empty 76 = .ok (.goto 4, 3) := by decide +kernel
theorem d_Mod_empty_79 : decode b_Mod_empty 79 = .ok (.iconst 0, 1) := by decide +kernel
theorem d_Mod_empty_80 : decode b_Mod_empty 80 = .ok (.istore_n 2, 1) := by decide +kernel
theorem d_Mod_empty_81 : decode b_Mod_empty 81 = .ok (.iinc 3 1, 3) := by decide +kernel
theorem d_Mod_empty_84 : decode b_Mod_empty 84 = .ok (.goto (-36), 3) := by decide +kernel
theorem d_Mod_empty_87 : decode b_Mod_empty 87 = .ok (.iload_n 2, 1) := by decide +kernel
theorem d_Mod_empty_88 : decode b_Mod_empty 88 = .ok (.ireturn, 1) := by decide +kernel
theorem d_Mod_root_0 : decode b_Mod_root 0 = .ok (.iconst 0, 1) := by decide +kernel
theorem d_Mod_root_1 : decode b_Mod_root 1 = .ok (.istore_n 1, 1) := by decide +kernel
theorem d_Mod_root_2 : decode b_Mod_root 2 = .ok (.iload_n 1, 1) := by decide +kernel
theorem d_Mod_root_3 : decode b_Mod_root 3 = .ok (.bipush 16, 2) := by decide +kernel
theorem d_Mod_root_5 : decode b_Mod_root 5 = .ok (.if_icmp .ge 20, 3) := by decide +kernel
theorem d_Mod_root_8 : decode b_Mod_root 8 = .ok (.aload_n 0, 1) := by decide +kernel
theorem d_Mod_root_9 : decode b_Mod_root 9 = .ok (.getfield 78, 3) := by decide +kernel
theorem d_Mod_root_12 : decode b_Mod_root 12 = .ok (.iload_n 1, 1) := by decide +kernel
theorem d_Mod_root_13 : decode b_Mod_root 13 = .ok (.aload_n 0, 1) := by decide +kernel
theorem d_Mod_root_14 : decode b_Mod_root 14 = .ok (.iload_n 1, 1) := by decide +kernel
theorem d_Mod_root_15 : decode b_Mod_root 15 = .ok (.invokevirtual 105, 3) := by decide +kernel
theorem d_Mod_root_18 : decode b_Mod_root 18 = .ok (.iastore, 1) := by decide +kernel
theorem d_Mod_root_19 : decode b_Mod_root 19 = .ok (.iinc 1 1, 3) := by decide +kernel
theorem d_Mod_root_22 : decode b_Mod_root 22 = .ok (.goto (-20), 3) := by decide +kernel
theorem d_Mod_root_25 : decode b_Mod_root 25 = .ok (.iconst 0, 1) := by decide +kernel
theorem d_Mod_root_26 : decode b_Mod_root 26 = .ok (.istore_n 1, 1) := by decide +kernel
theorem d_Mod_root_27 : decode b_Mod_root 27 = .ok (.iload_n 1, 1) := by decide +kernel
theorem d_Mod_root_28 : decode b_Mod_root 28 = .ok (.bipush 16, 2) := by decide +kernel
theorem d_Mod_root_30 : decode b_Mod_root 30 = .ok (.if_icmp .ge 40, 3) := by decide +kernel
theorem d_Mod_root_33 : decode b_Mod_root 33 = .ok (.aload_n 0, 1) := by decide +kernel
theorem d_Mod_root_34 : decode b_Mod_root 34 = .ok (.getfield 71, 3) := by decide +kernel
theorem d_Mod_root_37 : decode b_Mod_root 37 = .ok (.iload_n 1, 1) := by decide +kernel
theorem d_Mod_root_38 : decode b_Mod_root 38 = .ok (.aload_n 0, 1) := by decide +kernel
theorem d_Mod_root_39 : decode b_Mod_root 39 = .ok (.iload_n 1, 1) := by decide +kernel
theorem d_Mod_root_40 : decode b_Mod_root 40 = .ok (.invokevirtual 108, 3) := by decide +kernel
theorem d_Mod_root_43 : decode b_Mod_root 43 = .ok (.ifCond .ne 7, 3) := by decide +kernel
theorem d_Mod_root_46 : decode b_Mod_root 46 = .ok (.iconst 1, 1) := by decide +kernel
theorem d_Mod_root_47 : decode b_Mod_root 47 = .ok (.goto 4, 3) := by decide +kernel
theorem d_Mod_root_50 : decode b_Mod_root 50 = .ok (.iconst 0, 1) := by decide +kernel
theorem d_Mod_root_51 : decode b_Mod_root 51 = .ok (.bastore, 1) := by decide +kernel
theorem d_Mod_root_52 : decode b_Mod_root 52 = .ok (.aload_n 0, 1) := by decide +kernel
theorem d_Mod_root_53 : decode b_Mod_root 53 = .ok (.getfield 75, 3) := by decide +kernel
theorem d_Mod_root_56 : decode b_Mod_root 56 = .ok (.iload_n 1, 1) := by decide +kernel
theorem d_Mod_root_57 : decode b_Mod_root 57 = .ok (.aload_n 0, 1) := by decide +kernel
theorem d_Mod_root_58 : decode b_Mod_root 58 = .ok (.getfield 78, 3) := by decide +kernel
theorem d_Mod_root_61 : decode b_Mod_root 61 = .ok (.iload_n 1, 1) := by decide +kernel
theorem d_Mod_root_62 : decode b_Mod_root 62 = .ok (.iaload, 1) := by decide +kernel
theorem d_Mod_root_63 : decode b_Mod_root 63 = .ok (.iastore, 1) := by decide +kernel
theorem d_Mod_root_64 : decode b_Mod_root 64 = .ok (.iinc 1 1, 3) := by decide +kernel
theorem d_Mod_root_67 : decode b_Mod_root 67 = .ok (.goto (-40), 3) := by decide +kernel
theorem d_Mod_root_70 : decode b_Mod_root 70 = .ok (.aload_n 0, 1) := by decide +kernel
theorem d_Mod_root_71 : decode b_Mod_root 71 = .ok (.iconst 4, 1) := by decide +kernel
theorem d_Mod_root_72 : decode b_Mod_root 72 = .ok (.invokevirtual 98, 3) := by decide +kernel
theorem d_Mod_root_75 : decode b_Mod_root 75 = .ok (.ireturn, 1) := by decide +kernel
theorem d_Mod_enter_0 : decode b_Mod_enter 0 = .ok (.aload_n 0, 1) := by decide +kernel
theorem d_Mod_enter_1 : decode b_Mod_enter 1 = .ok (.dup, 1) := by decide +kernel
theorem d_Mod_enter_2 : decode b_Mod_enter 2 = .ok (.getfield 112, 3) := by decide +kernel
theorem d_Mod_enter_5 : decode b_Mod_enter 5 = .ok (.iconst 1, 1) := by decide +kernel
theorem d_Mod_enter_6 : decode b_Mod_enter 6 = .ok (.iadd, 1) := by decide +kernel
theorem d_Mod_enter_7 : decode b_Mod_enter 7 = .ok (.putfield 112, 3) := by decide +kernel
theorem d_Mod_enter_10 : decode b_Mod_enter 10 = .ok (.iconst 0, 1) := by decide +kernel
theorem d_Mod_enter_11 : decode b_Mod_enter 11 = .ok (.istore 7, 2) := by decide +kernel
theorem d_Mod_enter_13 : decode b_Mod_enter 13 = .ok (.iload 7, 2) := by decide +kernel
theorem d_Mod_enter_15 : decode b_Mod_enter 15 = .ok (.sipush 576, 3) := by decide +kernel
theorem d_Mod_enter_18 : decode b_Mod_enter 18 = .ok (.if_icmp .ge 32, 3) := by decide +kernel
theorem d_Mod_enter_21 : decode b_Mod_enter 21 = .ok (.aload_n 0, 1) := by decide +kernel
theorem d_Mod_enter_22 : decode b_Mod_enter 22 = .ok (.getfield 59, 3) := by decide +kernel
theorem d_Mod_enter_25 : decode b_Mod_enter 25 = .ok (.sipush 576, 3) := by decide +kernel
theorem d_Mod_enter_28 : decode b_Mod_enter 28 = .ok (.aload_n 0, 1) := by decide +kernel
theorem d_Mod_enter_29 : decode b_Mod_enter 29 = .ok (.getfield 112, 3) := by decide +kernel
theorem d_Mod_enter_32 : decode b_Mod_enter 32 = .ok (.imul, 1) := by decide +kernel
theorem d_Mod_enter_33 : decode b_Mod_enter 33 = .ok (.iload 7, 2) := by decide +kernel
theorem d_Mod_enter_35 : decode b_Mod_enter 35 = .ok (.iadd, 1) := by decide +kernel
theorem d_Mod_enter_36 : decode b_Mod_enter 36 = .ok (.aload_n 0, 1) := by decide +kernel
theorem d_Mod_enter_37 : decode b_Mod_enter 37 = .ok (.getfield 7, 3) := by decide +kernel
theorem d_Mod_enter_40 : decode b_Mod_enter 40 = .ok (.iload 7, 2) := by decide +kernel
theorem d_Mod_enter_42 : decode b_Mod_enter 42 = .ok (.iaload, 1) := by decide +kernel
theorem d_Mod_enter_43 : decode b_Mod_enter 43 = .ok (.iastore, 1) := by decide +kernel
theorem d_Mod_enter_44 : decode b_Mod_enter 44 = .ok (.iinc 7 1, 3) := by decide +kernel
theorem d_Mod_enter_47 : decode b_Mod_enter 47 = .ok (.goto (-34), 3) := by decide +kernel
theorem d_Mod_enter_50 : decode b_Mod_enter 50 = .ok (.aload_n 0, 1) := by decide +kernel
theorem d_Mod_enter_51 : decode b_Mod_enter 51 = .ok (.getfield 62, 3) := by decide +kernel
theorem d_Mod_enter_54 : decode b_Mod_enter 54 = .ok (.aload_n 0, 1) := by decide +kernel
theorem d_Mod_enter_55 : decode b_Mod_enter 55 = .ok (.getfield 112, 3) := by decide +kernel
theorem d_Mod_enter_58 : decode b_Mod_enter 58 = .ok (.aload_n 0, 1) := by decide +kernel
theorem d_Mod_enter_59 : decode b_Mod_enter 59 = .ok (.getfield 115, 3) := by decide +kernel
theorem d_Mod_enter_62 : decode b_Mod_enter 62 = .ok (.iastore, 1) := by decide +kernel
theorem d_Mod_enter_63 : decode b_Mod_enter 63 = .ok (.aload_n 0, 1) := by decide +kernel
theorem d_Mod_enter_64 : decode b_Mod_enter 64 = .ok (.getfield 65, 3) := by decide +kernel
theorem d_Mod_enter_67 : decode b_Mod_enter 67 = .ok (.aload_n 0, 1) := by decide +kernel
theorem d_Mod_enter_68 : decode b_Mod_enter 68 = .ok (.getfield 112, 3) := by decide +kernel
theorem d_Mod_enter_71 : decode b_Mod_enter 71 = .ok (.aload_n 0, 1) := by decide +kernel
theorem d_Mod_enter_72 : decode b_Mod_enter 72 = .ok (.getfield 118, 3) := by decide +kernel
theorem d_Mod_enter_75 : decode b_Mod_enter 75 = .ok (.iastore, 1) := by decide +kernel
theorem d_Mod_enter_76 : decode b_Mod_enter 76 = .ok (.aload_n 0, 1) := by decide +kernel
theorem d_Mod_enter_77 : decode b_Mod_enter 77 = .ok (.getfield 32, 3) := by decide +kernel
theorem d_Mod_enter_80 : decode b_Mod_enter 80 = .ok (.aload_n 0, 1) := by decide +kernel
theorem d_Mod_enter_81 : decode b_Mod_enter 81 = .ok (.getfield 112, 3) := by decide +kernel
theorem d_Mod_enter_84 : decode b_Mod_enter 84 = .ok (.iload_n 2, 1) := by decide +kernel
theorem d_Mod_enter_85 : decode b_Mod_enter 85 = .ok (.iastore, 1) := by decide +kernel
theorem d_Mod_enter_86 : decode b_Mod_enter 86 = .ok (.aload_n 0, 1) := by decide +kernel
theorem d_Mod_enter_87 : decode b_Mod_enter 87 = .ok (.getfield 35, 3) := by decide +kernel
theorem d_Mod_enter_90 : decode b_Mod_enter 90 = .ok (.aload_n 0, 1) := by decide +kernel
theorem d_Mod_enter_91 : decode b_Mod_enter 91 = .ok (.getfield 112, 3) := by decide +kernel
theorem d_Mod_enter_94 : decode b_Mod_enter 94 = .ok (.iload_n 1, 1) := by decide +kernel
theorem d_Mod_enter_95 : decode b_Mod_enter 95 = .ok (.iastore, 1) := by decide +kernel
theorem d_Mod_enter_96 : decode b_Mod_enter 96 = .ok (.aload_n 0, 1) := by decide +kernel
theorem d_Mod_enter_97 : decode b_Mod_enter 97 = .ok (.getfield 38, 3) := by decide +kernel
theorem d_Mod_enter_100 : decode b_Mod_enter 100 = .ok (.aload_n 0, 1) := by decide +kernel
theorem d_Mod_enter_101 : decode b_Mod_enter 101 = .ok (.getfield 112, 3) := by decide +kernel
theorem d_Mod_enter_104 : decode b_Mod_enter 104 = .ok (.iconst 0, 1) := by decide +kernel
theorem d_Mod_enter_105 : decode b_Mod_enter 105 = .ok (.iastore, 1) := by decide +kernel
theorem d_Mod_enter_106 : decode b_Mod_enter 106 = .ok (.aload_n 0, 1) := by decide +kernel
theorem d_Mod_enter_107 : decode b_Mod_enter 107 = .ok (.getfield 41, 3) := by decide +kernel
theorem d_Mod_enter_110 : decode b_Mod_enter 110 = .ok (.aload_n 0, 1) := by decide +kernel
theorem d_Mod_enter_111 : decode b_Mod_enter 111 = .ok (.getfield 112, 3) := by decide +kernel
theorem d_Mod_enter_114 : decode b_Mod_enter 114 = .ok (.iload_n 3, 1) := by decide +kernel
theorem d_Mod_enter_115 : decode b_Mod_enter 115 = .ok (.iastore, 1) := by decide +kernel
theorem d_Mod_enter_116 : decode b_Mod_enter 116 = .ok (.aload_n 0, 1) := by decide +kernel
theorem d_Mod_enter_117 : decode b_Mod_enter 117 = .ok (.getfield 44, 3) := by decide +kernel
theorem d_Mod_enter_120 : decode b_Mod_enter 120 = .ok (.aload_n 0, 1) := by decide +kernel
theorem d_Mod_enter_121 : decode b_Mod_enter 121 = .ok (.getfield 112, 3) := by decide +kernel
theorem d_Mod_enter_124 : decode b_Mod_enter 124 = .ok (.iload 4, 2) := by decide +kernel
theorem d_Mod_enter_126 : decode b_Mod_enter 126 = .ok (.iastore, 1) := by decide +kernel
theorem d_Mod_enter_127 : decode b_Mod_enter 127 = .ok (.aload_n 0, 1) := by decide +kernel
theorem d_Mod_enter_128 : decode b_Mod_enter 128 = .ok (.getfield 47, 3) := by decide +kernel
theorem d_Mod_enter_131 : decode b_Mod_enter 131 = .ok (.aload_n 0, 1) := by decide +kernel
theorem d_Mod_enter_132 : decode b_Mod_enter 132 = .ok (.getfield 112, 3) := by decide +kernel
theorem d_Mod_enter_135 : decode b_Mod_enter 135 = .ok (.iload 5, 2) := by decide +kernel
theorem d_Mod_enter_137 : decode b_Mod_enter 137 = .ok (.iastore, 1) := by decide +kernel
theorem d_Mod_enter_138 : decode b_Mod_enter 138 = .ok (.aload_n 0, 1) := by decide +kernel
theorem d_Mod_enter_139 : decode b_Mod_enter 139 = .ok (.getfield 50, 3) := by decide +kernel
theorem d_Mod_enter_142 : decode b_Mod_enter 142 = .ok (.aload_n 0, 1) := by decide +kernel
theorem d_Mod_enter_143 : decode b_Mod_enter 143 = .ok (.getfield 112, 3) := by decide +kernel
theorem d_Mod_enter_146 : decode b_Mod_enter 146 = .ok (.iload 6, 2) := by decide +kernel
theorem d_Mod_enter_148 : decode b_Mod_enter 148 = .ok (.iastore, 1) := by decide +kernel
theorem d_Mod_enter_149 : decode b_Mod_enter 149 = .ok (.aload_n 0, 1) := by decide +kernel
theorem d_Mod_enter_150 : decode b_Mod_enter 150 = .ok (.getfield 53, 3) := by decide +kernel
theorem d_Mod_enter_153 : decode b_Mod_enter 153 = .ok (.aload_n 0, 1) := by decide +kernel
theorem d_Mod_enter_154 : decode b_Mod_enter 154 = .ok (.getfield 112, 3) := by decide +kernel
theorem d_Mod_enter_157 : decode b_Mod_enter 157 = .ok (.iconst 0, 1) := by decide +kernel
theorem d_Mod_enter_158 : decode b_Mod_enter 158 = .ok (.iastore, 1) := by decide +kernel
theorem d_Mod_enter_159 : decode b_Mod_enter 159 = .ok (.return_, 1) := by decide +kernel
theorem d_Mod_give_0 : decode b_Mod_give 0 = .ok (.aload_n 0, 1) := by decide +kernel
theorem d_Mod_give_1 : decode b_Mod_give 1 = .ok (.getfield 7, 3) := by decide +kernel
theorem d_Mod_give_4 : decode b_Mod_give 4 = .ok (.bipush 36, 2) := by decide +kernel
theorem d_Mod_give_6 : decode b_Mod_give 6 = .ok (.iload_n 1, 1) := by decide +kernel
theorem d_Mod_give_7 : decode b_Mod_give 7 = .ok (.imul, 1) := by decide +kernel
theorem d_Mod_give_8 : decode b_Mod_give 8 = .ok (.dup2, 1) := by decide +kernel
theorem d_Mod_give_9 : decode b_Mod_give 9 = .ok (.iaload, 1) := by decide +kernel
theorem d_Mod_give_10 : decode b_Mod_give 10 = .ok (.iload_n 3, 1) := by decide +kernel
theorem d_Mod_give_11 : decode b_Mod_give 11 = .ok (.isub, 1) := by decide +kernel
theorem d_Mod_give_12 : decode b_Mod_give 12 = .ok (.iastore, 1) := by decide +kernel
theorem d_Mod_give_13 : decode b_Mod_give 13 = .ok (.aload_n 0, 1) := by decide +kernel
theorem d_Mod_give_14 : decode b_Mod_give 14 = .ok (.getfield 7, 3) := by decide +kernel
theorem d_Mod_give_17 : decode b_Mod_give 17 = .ok (.bipush 36, 2) := by decide +kernel
theorem d_Mod_give_19 : decode b_Mod_give 19 = .ok (.iload_n 2, 1) := by decide +kernel
theorem d_Mod_give_20 : decode b_Mod_give 20 = .ok (.imul, 1) := by decide +kernel
theorem d_Mod_give_21 : decode b_Mod_give 21 = .ok (.dup2, 1) := by decide +kernel
theorem d_Mod_give_22 : decode b_Mod_give 22 = .ok (.iaload, 1) := by decide +kernel
theorem d_Mod_give_23 : decode b_Mod_give 23 = .ok (.iload_n 3, 1) := by decide +kernel
theorem d_Mod_give_24 : decode b_Mod_give 24 = .ok (.iadd, 1) := by decide +kernel
theorem d_Mod_give_25 : decode b_Mod_give 25 = .ok (.iastore, 1) := by decide +kernel
theorem d_Mod_give_26 : decode b_Mod_give 26 = .ok (.return_, 1) := by decide +kernel
