theorem d_Led_perform_0 : decode b_Led_perform 0 = .ok (.aload_n 0, 1) := by decide +kernel
theorem d_Led_perform_1 : decode b_Led_perform 1 = .ok (.getfield 10, 3) := by decide +kernel
theorem d_Led_perform_4 : decode b_Led_perform 4 = .ok (.getfield 45, 3) := by decide +kernel
theorem d_Led_perform_7 : decode b_Led_perform 7 = .ok (.astore 7, 2) := by decide +kernel
theorem d_Led_perform_9 : decode b_Led_perform 9 = .ok (.aload_n 0, 1) := by decide +kernel
theorem d_Led_perform_10 : decode b_Led_perform 10 = .ok (.getfield 10, 3) := by decide +kernel
theorem d_Led_perform_13 : decode b_Led_perform 13 = .ok (.getfield 81, 3) := by decide +kernel
theorem d_Led_perform_16 : decode b_Led_perform 16 = .ok (.getfield 142, 3) := by decide +kernel
theorem d_Led_perform_19 : decode b_Led_perform 19 = .ok (.istore 8, 2) := by decide +kernel
theorem d_Led_perform_21 : decode b_Led_perform 21 = .ok (.aload 7, 2) := by decide +kernel
theorem d_Led_perform_23 : decode b_Led_perform 23 = .ok (.getfield 48, 3) := by decide +kernel
theorem d_Led_perform_26 : decode b_Led_perform 26 = .ok (.iload_n 1, 1) := by decide +kernel
theorem d_Led_perform_27 : decode b_Led_perform 27 = .ok (.dup2, 1) := by decide +kernel
theorem d_Led_perform_28 : decode b_Led_perform 28 = .ok (.iaload, 1) := by decide +kernel
theorem d_Led_perform_29 : decode b_Led_perform 29 = .ok (.iload 5, 2) := by decide +kernel
theorem d_Led_perform_31 : decode b_Led_perform 31 = .ok (.iload 6, 2) := by decide +kernel
theorem d_Led_perform_33 : decode b_Led_perform 33 = .ok (.imul, 1) := by decide +kernel
theorem d_Led_perform_34 : decode b_Led_perform 34 = .ok (.isub, 1) := by decide +kernel
theorem d_Led_perform_35 : decode b_Led_perform 35 = .ok (.iastore, 1) := by decide +kernel
theorem d_Led_perform_36 : decode b_Led_perform 36 = .ok (.aload 7, 2) := by decide +kernel
theorem d_Led_perform_38 : decode b_Led_perform 38 = .ok (.getfield 115, 3) := by decide +kernel
theorem d_Led_perform_41 : decode b_Led_perform 41 = .ok (.iload_n 1, 1) := by decide +kernel
theorem d_Led_perform_42 : decode b_Led_perform 42 = .ok (.dup2, 1) := by decide +kernel
theorem d_Led_perform_43 : decode b_Led_perform 43 = .ok (.iaload, 1) := by decide +kernel
theorem d_Led_perform_44 : decode b_Led_perform 44 = .ok (.iconst 1, 1) := by decide +kernel
theorem d_Led_perform_45 : decode b_Led_perform 45 = .ok (.iadd, 1) := by decide +kernel
theorem d_Led_perform_46 : decode b_Led_perform 46 = .ok (.iastore, 1) := by decide +kernel
theorem d_Led_perform_47 : decode b_Led_perform 47 = .ok (.aload_n 0, 1) := by decide +kernel
theorem d_Led_perform_48 : decode b_Led_perform 48 = .ok (.getfield 10, 3) := by decide +kernel
theorem d_Led_perform_51 : decode b_Led_perform 51 = .ok (.iload_n 1, 1) := by decide +kernel
theorem d_Led_perform_52 : decode b_Led_perform 52 = .ok (.iload_n 2, 1) := by decide +kernel
theorem d_Led_perform_53 : decode b_Led_perform 53 = .ok (.iload_n 3, 1) := by decide +kernel
theorem d_Led_perform_54 : decode b_Led_perform 54 = .ok (.iload 4, 2) := by decide +kernel
theorem d_Led_perform_56 : decode b_Led_perform 56 = .ok (.iload 5, 2) := by decide +kernel
theorem d_Led_perform_58 : decode b_Led_perform 58 = .ok (.bipush 20, 2) := by decide +kernel
theorem d_Led_perform_60 : decode b_Led_perform 60 = .ok (.isub, 1) := by decide +kernel
theorem d_Led_perform_61 : decode b_Led_perform 61 = .ok (.invokevirtual 147, 3) := by decide +kernel
theorem d_Led_perform_64 : decode b_Led_perform 64 = .ok (.astore 9, 2) := by decide +kernel
theorem d_Led_perform_66 : decode b_Led_perform 66 = .ok (.iload 5, 2) := by decide +kernel
theorem d_Led_perform_68 : decode b_Led_perform 68 = .ok (.aload 9, 2) := by decide +kernel
theorem d_Led_perform_70 : decode b_Led_perform 70 = .ok (.getfield 151, 3) := by decide +kernel
theorem d_Led_perform_73 : decode b_Led_perform 73 = .ok (.isub, 1) := by decide +kernel
theorem d_Led_perform_74 : decode b_Led_perform 74 = .ok (.istore 10, 2) := by decide +kernel
theorem d_Led_perform_76 : decode b_Led_perform 76 = .ok (.iload 10, 2) := by decide +kernel
theorem d_Led_perform_78 : decode b_Led_perform 78 = .ok (.iload 10, 2) := by decide +kernel
theorem d_Led_perform_80 : decode b_Led_perform 80 = .ok (.iconst 2, 1) := by decide +kernel
theorem d_Led_perform_81 : decode b_Led_perform 81 = .ok (.idiv, 1) := by decide +kernel
theorem d_Led_perform_82 : decode b_Led_perform 82 = .ok (.aload_n 0, 1) := by decide +kernel
theorem d_Led_perform_83 : decode b_Led_perform 83 = .ok (.getfield 10, 3) := by decide +kernel
theorem d_Led_perform_86 : decode b_Led_perform 86 = .ok (.getfield 156, 3) := by decide +kernel
theorem d_Led_perform_89 : decode b_Led_perform 89 = .ok (.invokestatic 159, 3) := by decide +kernel
theorem d_Led_perform_92 : decode b_Led_perform 92 = .ok (.isub, 1) := by decide +kernel
theorem d_Led_perform_93 : decode b_Led_perform 93 = .ok (.istore 11, 2) := by decide +kernel
theorem d_Led_perform_95 : decode b_Led_perform 95 = .ok (.aload 7, 2) := by decide +kernel
theorem d_Led_perform_97 : decode b_Led_perform 97 = .ok (.getfield 48, 3) := by decide +kernel
theorem d_Led_perform_100 : decode b_Led_perform 100 = .ok (.iload_n 1, 1) := by decide +kernel
theorem d_Led_perform_101 : decode b_Led_perform 101 = .ok (.dup2, 1) := by decide +kernel
theorem d_Led_perform_102 : decode b_Led_perform 102 = .ok (.iaload, 1) := by decide +kernel
theorem d_Led_perform_103 : decode b_Led_perform 103 = .ok (.iload 5, 2) := by decide +kernel
theorem d_Led_perform_105 : decode b_Led_perform 105 = .ok (.iload 11, 2) := by decide +kernel
theorem d_Led_perform_107 : decode b_Led_perform 107 = .ok (.isub, 1) := by decide +kernel
theorem d_Led_perform_108 : decode b_Led_perform 108 = .ok (.iload 6, 2) := by decide +kernel
theorem d_Led_perform_110 : decode b_Led_perform 110 = .ok (.imul, 1) := by decide +kernel
theorem d_Led_perform_111 : decode b_Led_perform 111 = .ok (.iadd, 1) := by decide +kernel
theorem d_Led_perform_112 : decode b_Led_perform 112 = .ok (.iastore, 1) := by decide +kernel
theorem d_Led_perform_113 : decode b_Led_perform 113 = .ok (.aload 7, 2) := by decide +kernel
theorem d_Led_perform_115 : decode b_Led_perform 115 = .ok (.getfield 48, 3) := by decide +kernel
theorem d_Led_perform_118 : decode b_Led_perform 118 = .ok (.aload_n 0, 1) := by decide +kernel
theorem d_Led_perform_119 : decode b_Led_perform 119 = .ok (.getfield 72, 3) := by decide +kernel
theorem d_Led_perform_122 : decode b_Led_perform 122 = .ok (.dup2, 1) := by decide +kernel
theorem d_Led_perform_123 : decode b_Led_perform 123 = .ok (.iaload, 1) := by decide +kernel
theorem d_Led_perform_124 : decode b_Led_perform 124 = .ok (.iload 11, 2) := by decide +kernel
theorem d_Led_perform_126 : decode b_Led_perform 126 = .ok (.iload 6, 2) := by decide +kernel
theorem d_Led_perform_128 : decode b_Led_perform 128 = .ok (.imul, 1) := by decide +kernel
theorem d_Led_perform_129 : decode b_Led_perform 129 = .ok (.iadd, 1) := by decide +kernel
theorem d_Led_perform_130 : decode b_Led_perform 130 = .ok (.iastore, 1) := by decide +kernel
theorem d_Led_perform_131 : decode b_Led_perform 131 = .ok (.aload_n 0, 1) := by decide +kernel
theorem d_Led_perform_132 : decode b_Led_perform 132 = .ok (.getfield 10, 3) := by decide +kernel
theorem d_Led_perform_135 : decode b_Led_perform 135 = .ok (.invokevirtual 164, 3) := by decide +kernel
theorem d_Led_perform_138 : decode b_Led_perform 138 = .ok (.aload_n 0, 1) := by decide +kernel
theorem d_Led_perform_139 : decode b_Led_perform 139 = .ok (.dup, 1) := by decide +kernel
theorem d_Led_perform_140 : decode b_Led_perform 140 = .ok (.getfield 75, 3) := by decide +kernel
theorem d_Led_perform_143 : decode b_Led_perform 143 = .ok (.iload 11, 2) := by decide +kernel
theorem d_Led_perform_145 : decode b_Led_perform 145 = .ok (.iadd, 1) := by decide +kernel
theorem d_Led_perform_146 : decode b_Led_perform 146 = .ok (.putfield 75, 3) := by decide +kernel
theorem d_Led_perform_149 : decode b_Led_perform 149 = .ok (.aload_n 0, 1) := by decide +kernel
theorem d_Led_perform_150 : decode b_Led_perform 150 = .ok (.getfield 26, 3) := by decide +kernel
theorem d_Led_perform_153 : decode b_Led_perform 153 = .ok (.aload 9, 2) := by decide +kernel
theorem d_Led_perform_155 : decode b_Led_perform 155 = .ok (.getfield 167, 3) := by decide +kernel
theorem d_Led_perform_158 : decode b_Led_perform 158 = .ok (.ifCond .eq 7, 3) := by decide +kernel
theorem d_Led_perform_161 : decode b_Led_perform 161 = .ok (.iconst 1, 1) := by decide +kernel
theorem d_Led_perform_162 : decode b_Led_perform 162 = .ok (.goto 4, 3) := by decide +kernel
theorem d_Led_perform_165 : decode b_Led_perform 165 = .ok (.iconst 0, 1) := by decide +kernel
theorem d_Led_perform_166 : decode b_Led_perform 166 = .ok (.iload 11, 2) := by decide +kernel
theorem d_Led_perform_168 : decode b_Led_perform 168 = .ok (.aload 9, 2) := by decide +kernel
theorem d_Led_perform_170 : decode b_Led_perform 170 = .ok (.getfield 170, 3) := by decide +kernel
theorem d_Led_perform_173 : decode b_Led_perform 173 = .ok (.aload_n 0, 1) := by decide +kernel
theorem d_Led_perform_174 : decode b_Led_perform 174 = .ok (.getfield 10, 3) := by decide +kernel
theorem d_Led_perform_177 : decode b_Led_perform 177 = .ok (.getfield 81, 3) := by decide +kernel
theorem d_Led_perform_180 : decode b_Led_perform 180 = .ok (.getfield 142, 3) := by decide +kernel
theorem d_Led_perform_183 : decode b_Led_perform 183 = .ok (.iload 8, 2) := by decide +kernel
theorem d_Led_perform_185 : decode b_Led_perform 185 = .ok (.isub, 1) := by decide +kernel
theorem d_Led_perform_186 : decode b_Led_perform 186 = .ok (.invokevirtual 173, 3) := by decide +kernel
theorem d_Led_perform_189 : decode b_Led_perform 189 = .ok (.iload 11, 2) := by decide +kernel
theorem d_Led_perform_191 : decode b_Led_perform 191 = .ok (.ireturn, 1) := by decide +kernel
theorem d_Led_isAccount_0 : decode b_Led_isAccount 0 = .ok (.iload_n 0, 1) := by decide +kernel
theorem d_Led_isAccount_1 : decode b_Led_isAccount 1 = .ok (.ifCond .lt 13, 3) := by decide +kernel
theorem d_Led_isAccount_4 : decode b_Led_isAccount 4 = .ok (.iload_n 0, 1) := by decide +kernel
theorem d_Led_isAccount_5 : decode b_Led_isAccount 5 = .ok (.bipush 16, 2) := by decide +kernel
theorem d_Led_isAccount_7 : decode b_Led_isAccount 7 = .ok (.if_icmp .ge 7, 3) := by decide +kernel
theorem d_Led_isAccount_10 : decode b_Led_isAccount 10 = .ok (.iconst 1, 1) := by decide +kernel
theorem d_Led_isAccount_11 : decode b_Led_isAccount 11 = .ok (.goto 4, 3) := by decide +kernel
theorem d_Led_isAccount_14 : decode b_Led_isAccount 14 = .ok (.iconst 0, 1) := by decide +kernel
theorem d_Led_isAccount_15 : decode b_Led_isAccount 15 = .ok (.ireturn, 1) := by decide +kernel
theorem d_Led_isSlot_0 : decode b_Led_isSlot 0 = .ok (.iload_n 0, 1) := by decide +kernel
theorem d_Led_isSlot_1 : decode b_Led_isSlot 1 = .ok (.ifCond .lt 13, 3) := by decide +kernel
theorem d_Led_isSlot_4 : decode b_Led_isSlot 4 = .ok (.iload_n 0, 1) := by decide +kernel
theorem d_Led_isSlot_5 : decode b_Led_isSlot 5 = .ok (.bipush 8, 2) := by decide +kernel
theorem d_Led_isSlot_7 : decode b_Led_isSlot 7 = .ok (.if_icmp .ge 7, 3) := by decide +kernel
theorem d_Led_isSlot_10 : decode b_Led_isSlot 10 = .ok (.iconst 1, 1) := by decide +kernel
theorem d_Led_isSlot_11 : decode b_Led_isSlot 11 = .ok (.goto 4, 3) := by decide +kernel
theorem d_Led_isSlot_14 : decode b_Led_isSlot 14 = .ok (.iconst 0, 1) := by decide +kernel
theorem d_Led_isSlot_15 : decode b_Led_isSlot 15 = .ok (.ireturn, 1) := by decide +kernel
theorem d_Mod_init_0 : decode b_Mod_init 0 = .ok (.aload_n 0, 1) := by decide +kernel
theorem d_Mod_init_1 : decode b_Mod_init 1 = .ok (.invokespecial 1, 3) := by decide +kernel
theorem d_Mod_init_4 : decode b_Mod_init 4 = .ok (.aload_n 0, 1) := by decide +kernel
theorem d_Mod_init_5 : decode b_Mod_init 5 = .ok (.sipush 576, 3) := by decide +kernel
theorem d_Mod_init_8 : decode b_Mod_init 8 = .ok (.newarray .int, 2) := by decide +kernel
theorem d_Mod_init_10 : decode b_Mod_init 10 = .ok (.putfield 7, 3) := by decide +kernel
theorem d_Mod_init_13 : decode b_Mod_init 13 = .ok (.aload_n 0, 1) := by decide +kernel
theorem d_Mod_init_14 : decode b_Mod_init 14 = .ok (.sipush 576, 3) := by decide +kernel
theorem d_Mod_init_17 : decode b_Mod_init 17 = .ok (.newarray .int, 2) := by decide +kernel
theorem d_Mod_init_19 : decode b_Mod_init 19 = .ok (.putfield 13, 3) := by decide +kernel
theorem d_Mod_init_22 : decode b_Mod_init 22 = .ok (.aload_n 0, 1) := by decide +kernel
theorem d_Mod_init_23 : decode b_Mod_init 23 = .ok (.bipush 64, 2) := by decide +kernel
theorem d_Mod_init_25 : decode b_Mod_init 25 = .ok (.newarray .int, 2) := by decide +kernel
theorem d_Mod_init_27 : decode b_Mod_init 27 = .ok (.putfield 16, 3) := by decide +kernel
theorem d_Mod_init_30 : decode b_Mod_init 30 = .ok (.aload_n 0, 1) := by decide +kernel
theorem d_Mod_init_31 : decode b_Mod_init 31 = .ok (.sipush 512, 3) := by decide +kernel
theorem d_Mod_init_34 : decode b_Mod_init 34 = .ok (.newarray .int, 2) := by decide +kernel
theorem d_Mod_init_36 : decode b_Mod_init 36 = .ok (.putfield 19, 3) := by decide +kernel
theorem d_Mod_init_39 : decode b_Mod_init 39 = .ok (.aload_n 0, 1) := by decide +kernel
theorem d_Mod_init_40 : decode b_Mod_init 40 = .ok (.sipush 512, 3) := by decide +kernel
theorem d_Mod_init_43 : decode b_Mod_init 43 = .ok (.newarray .int, 2) := by decide +kernel
theorem d_Mod_init_45 : decode b_Mod_init 45 = .ok (.putfield 22, 3) := by decide +kernel
theorem d_Mod_init_48 : decode b_Mod_init 48 = .ok (.aload_n 0, 1) := by decide +kernel
theorem d_Mod_init_49 : decode b_Mod_init 49 = .ok (.sipush 200, 3) := by decide +kernel
theorem d_Mod_init_52 : decode b_Mod_init 52 = .ok (.putfield 25, 3) := by decide +kernel
theorem d_Mod_init_55 : decode b_Mod_init 55 = .ok (.aload_n 0, 1) := by decide +kernel
theorem d_Mod_init_56 : decode b_Mod_init 56 = .ok (.iconst 1, 1) := by decide +kernel
theorem d_Mod_init_57 : decode b_Mod_init 57 = .ok (.putfield 29, 3) := by decide +kernel
theorem d_Mod_init_60 : decode b_Mod_init 60 = .ok (.aload_n 0, 1) := by decide +kernel
theorem d_Mod_init_61 : decode b_Mod_init 61 = .ok (.bipush 8, 2) := by decide +kernel
theorem d_Mod_init_63 : decode b_Mod_init 63 = .ok (.newarray .int, 2) := by decide +kernel
theorem d_Mod_init_65 : decode b_Mod_init 65 = .ok (.putfield 32, 3) := by decide +kernel
theorem d_Mod_init_68 : decode b_Mod_init 68 = .ok (.aload_n 0, 1) := by decide +kernel
theorem d_Mod_init_69 : decode b_Mod_init 69 = .ok (.bipush 8, 2) := by decide +kernel
theorem d_Mod_init_71 : decode b_Mod_init 71 = .ok (.newarray .int, 2) := by decide +kernel
theorem d_Mod_init_73 : decode b_Mod_init 73 = .ok (.putfield 35, 3) := by decide +kernel
theorem d_Mod_init_76 : decode b_Mod_init 76 = .ok (.aload_n 0, 1) := by decide +kernel
theorem d_Mod_init_77 : decode b_Mod_init 77 = .ok (.bipush 8, 2) := by decide +kernel
theorem d_Mod_init_79 : decode b_Mod_init 79 = .ok (.newarray .int, 2) := by decide +kernel
theorem d_Mod_init_81 : decode b_Mod_init 81 = .ok (.putfield 38, 3) := by decide +kernel
theorem d_Mod_init_84 : decode b_Mod_init 84 = .ok (.aload_n 0, 1) := by decide +kernel
theorem d_Mod_init_85 : decode b_Mod_init 85 = .ok (.bipush 8, 2) := by decide +kernel
theorem d_Mod_init_87 : decode b_Mod_init 87 = .ok (.newarray .int, 2) := by decide +kernel
theorem d_Mod_init_89 : decode b_Mod_init 89 = .ok (.putfield 41, 3) := by decide +kernel
theorem d_Mod_init_92 : decode b_Mod_init 92 = .ok (.aload_n 0, 1) := by decide +kernel
theorem d_Mod_init_93 : decode b_Mod_init 93 = .ok (.bipush 8, 2) := by decide +kernel
theorem d_Mod_init_95 : decode b_Mod_init 95 = .ok (.newarray .int, 2) := by decide +kernel
theorem d_Mod_init_97 : decode b_Mod_init 97 = .ok (.putfield 44, 3) := by decide +kernel
theorem d_Mod_init_100 : decode b_Mod_init 100 = .ok (.aload_n 0, 1) := by decide +kernel
theorem d_Mod_init_101 : decode b_Mod_init 101 = .ok (.bipush 8, 2) := by decide +kernel
theorem d_Mod_init_103 : decode b_Mod_init 103 = .ok (.newarray .int, 2) := by decide +kernel
theorem d_Mod_init_105 : decode b_Mod_init 105 = .ok (.putfield 47, 3) := by decide +kernel
theorem d_Mod_init_108 : decode b_Mod_init 108 = .ok (.aload_n 0, 1) := by decide +kernel
theorem d_Mod_init_109 : decode b_Mod_init 109 = .ok (.bipush 8, 2) := by decide +kernel
theorem d_Mod_init_111 : decode b_Mod_init 111 = .ok (.newarray .int, 2) := by decide +kernel
theorem d_Mod_init_113 : decode b_Mod_init 113 = .ok (.putfield 50, 3) := by decide +kernel
theorem d_Mod_init_116 : decode b_Mod_init 116 = .ok (.aload_n 0, 1) := by decide +kernel
theorem d_Mod_init_117 : decode b_Mod_init 117 = .ok (.bipush 8, 2) := by decide +kernel
theorem d_Mod_init_119 : decode b_Mod_init 119 = .ok (.newarray .int, 2) := by decide +kernel
theorem d_Mod_init_121 : decode b_Mod_init 121 = .ok (.putfield 53, 3) := by decide +kernel
theorem d_Mod_init_124 : decode b_Mod_init 124 = .ok (.aload_n 0, 1) := by decide +kernel
theorem d_Mod_init_125 : decode b_Mod_init 125 = .ok (.bipush 96, 2) := by decide +kernel
theorem d_Mod_init_127 : decode b_Mod_init 127 = .ok (.newarray .int, 2) := by decide +kernel
theorem d_Mod_init_129 : decode b_Mod_init 129 = .ok (.putfield 56, 3) := by decide +kernel
theorem d_Mod_init_132 : decode b_Mod_init 132 = .ok (.aload_n 0, 1) := by decide +kernel
theorem d_Mod_init_133 : decode b_Mod_init 133 = .ok (.sipush 4608, 3) := by decide +kernel
theorem d_Mod_init_136 : decode b_Mod_init 136 = .ok (.newarray .int, 2) := by decide +kernel
theorem d_Mod_init_138 : decode b_Mod_init 138 = .ok (.putfield 59, 3) := by decide +kernel
theorem d_Mod_init_141 : decode b_Mod_init 141 = .ok (.aload_n 0, 1) := by decide +kernel
theorem d_Mod_init_142 : decode b_Mod_init 142 = .ok (.bipush 8, 2) := by decide +kernel
theorem d_Mod_init_144 : decode b_Mod_init 144 = .ok (.newarray .int, 2) := by decide +kernel
theorem d_Mod_init_146 : decode b_Mod_init 146 = .ok (.putfield 62, 3) := by decide +kernel
theorem d_Mod_init_149 : decode b_Mod_init 149 = .ok (.aload_n 0, 1) := by decide +kernel
theorem d_Mod_init_150 : decode b_Mod_init 150 = .ok (.bipush 8, 2) := by decide +kernel
theorem d_Mod_init_152 : decode b_Mod_init 152 = .ok (.newarray .int, 2) := by decide +kernel
theorem d_Mod_init_154 : decode b_Mod_init 154 = .ok (.putfield 65, 3) := by decide +kernel
theorem d_Mod_init_157 : decode b_Mod_init 157 = .ok (.aload_n 0, 1) := by decide +kernel
theorem d_Mod_init_158 : decode b_Mod_init 158 = .ok (.bipush 32, 2) := by decide +kernel
theorem d_Mod_init_160 : decode b_Mod_init 160 = .ok (.newarray .int, 2) := by decide +kernel
theorem d_Mod_init_162 : decode b_Mod_init 162 = .ok (.putfield 68, 3) := by decide +kernel
theorem d_Mod_init_165 : decode b_Mod_init 165 = .ok (.aload_n 0, 1) := by decide +kernel
theorem d_Mod_init_166 : decode b_Mod_init 166 = .ok (.bipush 16, 2) := by decide +kernel
theorem d_Mod_init_168 : decode b_Mod_init 168 = .ok (.newarray .boolean, 2) := by decide +kernel
theorem d_Mod_init_170 : decode b_Mod_init 170 = .ok (.putfield 71, 3) := by decide +kernel
theorem d_Mod_init_173 : decode b_Mod_init 173 = .ok (.aload_n 0, 1) := by decide +kernel
theorem d_Mod_init_174 : decode b_Mod_init 174 = .ok (.bipush 16, 2) := by decide +kernel
theorem d_Mod_init_176 : decode b_Mod_init 176 = .ok (.newarray .int, 2) := by decide +kernel
theorem d_Mod_init_178 : decode b_Mod_init 178 = .ok (.putfield 75, 3) := by decide +kernel
theorem d_Mod_init_181 : decode b_Mod_init 181 = .ok (.aload_n 0, 1) := by decide +kernel
theorem d_Mod_init_182 : decode b_Mod_init 182 = .ok (.bipush 16, 2) := by decide +kernel
theorem d_Mod_init_184 : decode b_Mod_init 184 = .ok (.newarray .int, 2) := by decide +kernel
theorem d_Mod_init_186 : decode b_Mod_init 186 = .ok (.putfield 78, 3) := by decide +kernel
theorem d_Mod_init_189 : decode b_Mod_init 189 = .ok (.return_, 1) := by decide +kernel
theorem d_Mod_in_0 : decode b_Mod_in 0 = .ok (.iload_n 0, 1) := by decide +kernel
theorem d_Mod_in_1 : decode b_Mod_in 1 = .ok (.ifCond .lt 12, 3) := by decide +kernel
theorem d_Mod_in_4 : decode b_Mod_in 4 = .ok (.iload_n 0, 1) := by decide +kernel
theorem d_Mod_in_5 : decode b_Mod_in 5 = .ok (.iload_n 1, 1) := by decide +kernel
theorem d_Mod_in_6 : decode b_Mod_in 6 = .ok (.if_icmp .ge 7, 3) := by decide +kernel
theorem d_Mod_in_9 : decode b_Mod_in 9 = .ok (.iconst 1, 1) := by decide +kernel
theorem d_Mod_in_10 : decode b_Mod_in 10 = .ok (.goto 4, 3) := by decide +kernel
theorem d_Mod_in_13 : decode b_Mod_in 13 = .ok (.iconst 0, 1) := by decide +kernel
theorem d_Mod_in_14 : decode b_Mod_in 14 = .ok (.ireturn, 1) := by decide +kernel
theorem d_Mod_fund_0 : decode b_Mod_fund 0 = .ok (.iload_n 1, 1) := by decide +kernel
theorem d_Mod_fund_1 : decode b_Mod_fund 1 = .ok (.bipush 16, 2) := by decide +kernel
theorem d_Mod_fund_3 : decode b_Mod_fund 3 = .ok (.invokestatic 81, 3) := by decide +kernel
theorem d_Mod_fund_6 : decode b_Mod_fund 6 = .ok (.ifCond .eq 19, 3) := by decide +kernel
theorem d_Mod_fund_9 : decode b_Mod_fund 9 = .ok (.iload_n 2, 1) := by decide +kernel
theorem d_Mod_fund_10 : decode b_Mod_fund 10 = .ok (.ldc 85, 2) := by decide +kernel
theorem d_Mod_fund_12 : decode b_Mod_fund 12 = .ok (.invokestatic 81, 3) := by decide +kernel
theorem d_Mod_fund_15 : decode b_Mod_fund 15 = .ok (.ifCond .eq 10, 3) := by decide +kernel
theorem d_Mod_fund_18 : decode b_Mod_fund 18 = .ok (.aload_n 0, 1) := by decide +kernel
theorem d_Mod_fund_19 : decode b_Mod_fund 19 = .ok (.getfield 86, 3) := by decide +kernel
theorem d_Mod_fund_22 : decode b_Mod_fund 22 = .ok (.ifCond .le 5, 3) := by decide +kernel
theorem d_Mod_fund_25 : decode b_Mod_fund 25 = .ok (.iconst 0, 1) := by decide +kernel
theorem d_Mod_fund_26 : decode b_Mod_fund 26 = .ok (.ireturn, 1) := by decide +kernel
theorem d_Mod_fund_27 : decode b_Mod_fund 27 = .ok (.aload_n 0, 1) := by decide +kernel
theorem d_Mod_fund_28 : decode b_Mod_fund 28 = .ok (.getfield 7, 3) := by decide +kernel
theorem d_Mod_fund_31 : decode b_Mod_fund 31 = .ok (.bipush 36, 2) := by decide +kernel
theorem d_Mod_fund_33 : decode b_Mod_fund 33 = .ok (.iload_n 1, 1) := by decide +kernel
theorem d_Mod_fund_34 : decode b_Mod_fund 34 = .ok (.imul, 1) := by decide +kernel
theorem d_Mod_fund_35 : decode b_Mod_fund 35 = .ok (.dup2, 1) := by decide +kernel
theorem d_Mod_fund_36 : decode b_Mod_fund 36 = .ok (.iaload, 1) := by decide +kernel
theorem d_Mod_fund_37 : decode b_Mod_fund 37 = .ok (.iload_n 2, 1) := by decide +kernel
theorem d_Mod_fund_38 : decode b_Mod_fund 38 = .ok (.iadd, 1) := by decide +kernel
theorem d_Mod_fund_39 : decode b_Mod_fund 39 = .ok (.iastore, 1) := by decide +kernel
theorem d_Mod_fund_40 : decode b_Mod_fund 40 = .ok (.iconst 1, 1) := by decide +kernel
theorem d_Mod_fund_41 : decode b_Mod_fund 41 = .ok (.ireturn, 1) := by decide +kernel
theorem d_Mod_code_0 : decode b_Mod_code 0 = .ok (.iload_n 1, 1) := by decide +kernel
theorem d_Mod_code_1 : decode b_Mod_code 1 = .ok (.bipush 16, 2) := by decide +kernel
theorem d_Mod_code_3 : decode b_Mod_code 3 = .ok (.invokestatic 81, 3) := by decide +kernel
theorem d_Mod_code_6 : decode b_Mod_code 6 = .ok (.ifCond .eq 26, 3) := by decide +kernel
theorem d_Mod_code_9 : decode b_Mod_code 9 = .ok (.aload_n 0, 1) := by decide +kernel
theorem d_Mod_code_10 : decode b_Mod_code 10 = .ok (.getfield 86, 3) := by decide +kernel
theorem d_Mod_code_13 : decode b_Mod_code 13 = .ok (.ifCond .gt 19, 3) := by decide +kernel
theorem d_Mod_code_16 : decode b_Mod_code 16 = .ok (.aload_n 0, 1) := by decide +kernel
theorem d_Mod_code_17 : decode b_Mod_code 17 = .ok (.getfield 7, 3) := by decide +kernel
theorem d_Mod_code_20 : decode b_Mod_code 20 = .ok (.bipush 36, 2) := by decide +kernel
theorem d_Mod_code_22 : decode b_Mod_code 22 = .ok (.iload_n 1, 1) := by decide +kernel
theorem d_Mod_code_23 : decode b_Mod_code 23 = .ok (.imul, 1) := by decide +kernel
theorem d_Mod_code_24 : decode b_Mod_code 24 = .ok (.iconst 2, 1) := by decide +kernel
theorem d_Mod_code_25 : decode b_Mod_code 25 = .ok (.iadd, 1) := by decide +kernel
theorem d_Mod_code_26 : decode b_Mod_code 26 = .ok (.iaload, 1) := by decide +kernel
theorem d_Mod_code_27 : decode b_Mod_code 27 = .ok (.bipush 24, 2) := by decide +kernel
theorem d_Mod_code_29 : decode b_Mod_code 29 = .ok (.if_icmp .ne 5, 3) := by decide +kernel
theorem d_Mod_code_32 : decode b_Mod_code 32 = .ok (.iconst 0, 1) := by decide +kernel
theorem d_Mod_code_33 : decode b_Mod_code 33 = .ok (.ireturn, 1) := by decide +kernel
theorem d_Mod_code_34 : decode b_Mod_code 34 = .ok (.aload_n 0, 1) := by decide +kernel
theorem d_Mod_code_35 : decode b_Mod_code 35 = .ok (.getfield 7, 3) := by decide +kernel
theorem d_Mod_code_38 : decode b_Mod_code 38 = .ok (.bipush 36, 2) := by decide +kernel
theorem d_Mod_code_40 : decode b_Mod_code 40 = .ok (.iload_n 1, 1) := by decide +kernel
theorem d_Mod_code_41 : decode b_Mod_code 41 = .ok (.imul, 1) := by decide +kernel
theorem d_Mod_code_42 : decode b_Mod_code 42 = .ok (.iconst 2, 1) := by decide +kernel
theorem d_Mod_code_43 : decode b_Mod_code 43 = .ok (.iadd, 1) := by decide +kernel
theorem d_Mod_code_44 : decode b_Mod_code 44 = .ok (.iaload, 1) := by decide +kernel
theorem d_Mod_code_45 : decode b_Mod_code 45 = .ok (.istore_n 3, 1) := by decide +kernel
theorem d_Mod_code_46 : decode b_Mod_code 46 = .ok (.aload_n 0, 1) := by decide +kernel
theorem d_Mod_code_47 : decode b_Mod_code 47 = .ok (.getfield 7, 3) := by decide +kernel
theorem d_Mod_code_50 : decode b_Mod_code 50 = .ok (.bipush 36, 2) := by decide +kernel
theorem d_Mod_code_52 : decode b_Mod_code 52 = .ok (.iload_n 1, 1) := by decide +kernel
theorem d_Mod_code_53 : decode b_Mod_code 53 = .ok (.imul, 1) := by decide +kernel
theorem d_Mod_code_54 : decode b_Mod_code 54 = .ok (.iconst 3, 1) := by decide +kernel
theorem d_Mod_code_55 : decode b_Mod_code 55 = .ok (.iadd, 1) := by decide +kernel
theorem d_Mod_code_56 : decode b_Mod_code 56 = .ok (.iload_n 3, 1) := by decide +kernel
theorem d_Mod_code_57 : decode b_Mod_code 57 = .ok (.iadd, 1) := by decide +kernel
theorem d_Mod_code_58 : decode b_Mod_code 58 = .ok (.iload_n 2, 1) := by decide +kernel
theorem d_Mod_code_59 : decode b_Mod_code 59 = .ok (.iastore, 1) := by decide +kernel
theorem d_Mod_code_60 : decode b_Mod_code 60 = .ok (.aload_n 0, 1) := by decide +kernel
theorem d_Mod_code_61 : decode b_Mod_code 61 = .ok (.getfield 7, 3) := by decide +kernel
theorem d_Mod_code_64 : decode b_Mod_code 64 = .ok (.bipush 36, 2) := by decide +kernel
theorem d_Mod_code_66 : decode b_Mod_code 66 = .ok (.iload_n 1, 1) := by decide +kernel
theorem d_Mod_code_67 : decode b_Mod_code 67 = .ok (.imul, 1) := by decide +kernel
theorem d_Mod_code_68 : decode b_Mod_code 68 = .ok (.iconst 2, 1) := by decide +kernel
theorem d_Mod_code_69 : decode b_Mod_code 69 = .ok (.iadd, 1) := by decide +kernel
theorem d_Mod_code_70 : decode b_Mod_code 70 = .ok (.dup2, 1) := by decide +kernel
theorem d_Mod_code_71 : decode b_Mod_code 71 = .ok (.iaload, 1) := by decide +kernel
theorem d_Mod_code_72 : decode b_Mod_code 72 = .ok (.iconst 1, 1) := by decide +kernel
theorem d_Mod_code_73 : decode b_Mod_code 73 = .ok (.iadd, 1) := by decide +kernel
theorem d_Mod_code_74 : decode b_Mod_code 74 = .ok (.iastore, 1) := by decide +kernel
theorem d_Mod_code_75 : decode b_Mod_code 75 = .ok (.iconst 1, 1) := by decide +kernel
theorem d_Mod_code_76 : decode b_Mod_code 76 = .ok (.ireturn, 1) := by decide +kernel
theorem d_Mod_preset_0 : decode b_Mod_preset 0 = .ok (.iload_n 1, 1) := by decide +kernel
theorem d_Mod_preset_1 : decode b_Mod_preset 1 = .ok (.bipush 16, 2) := by decide +kernel
theorem d_Mod_preset_3 : decode b_Mod_preset 3 = .ok (.invokestatic 81, 3) := by decide +kernel
theorem d_Mod_preset_6 : decode b_Mod_preset 6 = .ok (.ifCond .eq 19, 3) := by decide +kernel
theorem d_Mod_preset_9 : decode b_Mod_preset 9 = .ok (.iload_n 2, 1) := by decide +kernel
theorem d_Mod_preset_10 : decode b_Mod_preset 10 = .ok (.bipush 8, 2) := by decide +kernel
theorem d_Mod_preset_12 : decode b_Mod_preset 12 = .ok (.invokestatic 81, 3) := by decide +kernel
theorem d_Mod_preset_15 : decode b_Mod_preset 15 = .ok (.ifCond .eq 10, 3) := by decide +kernel
theorem d_Mod_preset_18 : decode b_Mod_preset 18 = .ok (.aload_n 0, 1) := by decide +kernel
theorem d_Mod_preset_19 : decode b_Mod_preset 19 = .ok (.getfield 86, 3) := by decide +kernel
theorem d_Mod_preset_22 : decode b_Mod_preset 22 = .ok (.ifCond .le 5, 3) := by decide +kernel
theorem d_Mod_preset_25 : decode b_Mod_preset 25 = .ok (.iconst 0, 1) := by decide +kernel
theorem d_Mod_preset_26 : decode b_Mod_preset 26 = .ok (.ireturn, 1) := by decide +kernel
theorem d_Mod_preset_27 : decode b_Mod_preset 27 = .ok (.aload_n 0, 1) := by decide +kernel
theorem d_Mod_preset_28 : decode b_Mod_preset 28 = .ok (.getfield 7, 3) := by decide +kernel
theorem d_Mod_preset_31 : decode b_Mod_preset 31 = .ok (.bipush 36, 2) := by decide +kernel
theorem d_Mod_preset_33 : decode b_Mod_preset 33 = .ok (.iload_n 1, 1) := by decide +kernel
theorem d_Mod_preset_34 : decode b_Mod_preset 34 = .ok (.imul, 1) := by decide +kernel
theorem d_Mod_preset_35 : decode b_Mod_preset 35 = .ok (.bipush 27, 2) := by decide +kernel
theorem d_Mod_preset_37 : decode b_Mod_preset 37 = .ok (.iadd, 1) := by decide +kernel
theorem d_Mod_preset_38 : decode b_Mod_preset 38 = .ok (.iload_n 2, 1) := by decide +kernel
theorem d_Mod_preset_39 : decode b_Mod_preset 39 = .ok (.iadd, 1) := by decide +kernel
theorem d_Mod_preset_40 : decode b_Mod_preset 40 = .ok (.iload_n 3, 1) := by decide +kernel
theorem d_Mod_preset_41 : decode b_Mod_preset 41 = .ok (.iastore, 1) := by decide +kernel
theorem d_Mod_preset_42 : decode b_Mod_preset 42 = .ok (.iconst 1, 1) := by decide +kernel
theorem d_Mod_preset_43 : decode b_Mod_preset 43 = .ok (.ireturn, 1) := by decide +kernel
theorem d_Mod_mix_0 : decode b_Mod_mix 0 = .ok (.iload_n 0, 1) := by decide +kernel
theorem d_Mod_mix_1 : decode b_Mod_mix 1 = .ok (.ldc 89, 2) := by decide +kernel
theorem d_Mod_mix_3 : decode b_Mod_mix 3 = .ok (.imul, 1) := by decide +kernel
theorem d_Mod_mix_4 : decode b_Mod_mix 4 = .ok (.iload_n 1, 1) := by decide +kernel
theorem d_Mod_mix_5 : decode b_Mod_mix 5 = .ok (.iadd, 1) := by decide +kernel
theorem d_Mod_mix_6 : decode b_Mod_mix 6 = .ok (.istore_n 2, 1) := by decide +kernel
theorem d_Mod_mix_7 : decode b_Mod_mix 7 = .ok (.iload_n 2, 1) := by decide +kernel
theorem d_Mod_mix_8 : decode b_Mod_mix 8 = .ok (.iload_n 2, 1) := by decide +kernel
theorem d_Mod_mix_9 : decode b_Mod_mix 9 = .ok (.bipush 13, 2) := by decide +kernel
theorem d_Mod_mix_11 : decode b_Mod_mix 11 = .ok (.iushr, 1) := by decide +kernel
theorem d_Mod_mix_12 : decode b_Mod_mix 12 = .ok (.ixor, 1) := by decide +kernel
theorem d_Mod_mix_13 : decode b_Mod_mix 13 = .ok (.ireturn, 1) := by decide +kernel
theorem d_Mod_map_0 : decode b_Mod_map 0 = .ok (.iload_n 1, 1) := by decide +kernel
theorem d_Mod_map_1 : decode b_Mod_map 1 = .ok (.istore_n 2, 1) := by decide +kernel
theorem d_Mod_map_2 : decode b_Mod_map 2 = .ok (.iload_n 2, 1) := by decide +kernel
theorem d_Mod_map_3 : decode b_Mod_map 3 = .ok (.ifCond .lt 41, 3) := by decide +kernel
theorem d_Mod_map_6 : decode b_Mod_map 6 = .ok (.iconst 0, 1) := by decide +kernel
theorem d_Mod_map_7 : decode b_Mod_map 7 = .ok (.istore_n 3, 1) := by decide +kernel
theorem d_Mod_map_8 : decode b_Mod_map 8 = .ok (.iload_n 3, 1) := by decide +kernel
theorem d_Mod_map_9 : decode b_Mod_map 9 = .ok (.iconst 1, 1) := by decide +kernel
theorem d_Mod_map_10 : decode b_Mod_map 10 = .ok (.iload_n 2, 1) := by decide +kernel
theorem d_Mod_map_11 : decode b_Mod_map 11 = .ok (.ishl, 1) := by decide +kernel
theorem d_Mod_map_12 : decode b_Mod_map 12 = .ok (.if_icmp .ge 26, 3) := by decide +kernel
theorem d_Mod_map_15 : decode b_Mod_map 15 = .ok (.aload_n 0, 1) := by decide +kernel
theorem d_Mod_map_16 : decode b_Mod_map 16 = .ok (.getfield 68, 3) := by decide +kernel
theorem d_Mod_map_19 : decode b_Mod_map 19 = .ok (.iconst 1, 1) := by decide +kernel
theorem d_Mod_map_20 : decode b_Mod_map 20 = .ok (.iload_n 2, 1) := by decide +kernel
theorem d_Mod_map_21 : decode b_Mod_map 21 = .ok (.ishl, 1) := by decide +kernel
theorem d_Mod_map_22 : decode b_Mod_map 22 = .ok (.iload_n 3, 1) := by decide +kernel
theorem d_Mod_map_23 : decode b_Mod_map 23 = .ok (.iadd, 1) := by decide +kernel
theorem d_Mod_map_24 : decode b_Mod_map 24 = .ok (.aload_n 0, 1) := by decide +kernel
theorem d_Mod_map_25 : decode b_Mod_map 25 = .ok (.iload_n 1, 1) := by decide +kernel
theorem d_Mod_map_26 : decode b_Mod_map 26 = .ok (.iload_n 2, 1) := by decide +kernel
theorem d_Mod_map_27 : decode b_Mod_map 27 = .ok (.iload_n 3, 1) := by decide +kernel
theorem d_Mod_map_28 : decode b_Mod_map 28 = .ok (.invokevirtual 90, 3) := by decide +kernel
theorem d_Mod_map_31 : decode b_Mod_map 31 = .ok (.iastore, 1) := by decide +kernel
theorem d_Mod_map_32 : decode b_Mod_map 32 = .ok (.iinc 3 1, 3) := by decide +kernel
theorem d_Mod_map_35 : decode b_Mod_map 35 = .ok (.goto (-27), 3) := by decide +kernel
theorem d_Mod_map_38 : decode b_Mod_map 38 = .ok (.iinc 2 (-1), 3) := by decide +kernel
theorem d_Mod_map_41 : decode b_Mod_map 41 = .ok (.goto (-39), 3) := by decide +kernel
theorem d_Mod_map_44 : decode b_Mod_map 44 = .ok (.aload_n 0, 1) := by decide +kernel
theorem d_Mod_map_45 : decode b_Mod_map 45 = .ok (.getfield 68, 3) := by decide +kernel
theorem d_Mod_map_48 : decode b_Mod_map 48 = .ok (.iconst 1, 1) := by decide +kernel
theorem d_Mod_map_49 : decode b_Mod_map 49 = .ok (.iaload, 1) := by decide +kernel
theorem d_Mod_map_50 : decode b_Mod_map 50 = .ok (.ireturn, 1) := by decide +kernel
