theorem d_Mod_create_0 : decode b_Mod_create 0 = .ok (.aload_n 0, 1) := by decide +kernel
theorem d_Mod_create_1 : decode b_Mod_create 1 = .ok (.getfield 32, 3) := by decide +kernel
theorem d_Mod_create_4 : decode b_Mod_create 4 = .ok (.aload_n 0, 1) := by decide +kernel
theorem d_Mod_create_5 : decode b_Mod_create 5 = .ok (.getfield 112, 3) := by decide +kernel
theorem d_Mod_create_8 : decode b_Mod_create 8 = .ok (.iaload, 1) := by decide +kernel
theorem d_Mod_create_9 : decode b_Mod_create 9 = .ok (.istore_n 1, 1) := by decide +kernel
theorem d_Mod_create_10 : decode b_Mod_create 10 = .ok (.aload_n 0, 1) := by decide +kernel
theorem d_Mod_create_11 : decode b_Mod_create 11 = .ok (.invokevirtual 160, 3) := by decide +kernel
theorem d_Mod_create_14 : decode b_Mod_create 14 = .ok (.istore_n 2, 1) := by decide +kernel
theorem d_Mod_create_15 : decode b_Mod_create 15 = .ok (.aload_n 0, 1) := by decide +kernel
theorem d_Mod_create_16 : decode b_Mod_create 16 = .ok (.invokevirtual 160, 3) := by decide +kernel
theorem d_Mod_create_19 : decode b_Mod_create 19 = .ok (.istore_n 3, 1) := by decide +kernel
theorem d_Mod_create_20 : decode b_Mod_create 20 = .ok (.aload_n 0, 1) := by decide +kernel
theorem d_Mod_create_21 : decode b_Mod_create 21 = .ok (.invokevirtual 160, 3) := by decide +kernel
theorem d_Mod_create_24 : decode b_Mod_create 24 = .ok (.istore 4, 2) := by decide +kernel
theorem d_Mod_create_26 : decode b_Mod_create 26 = .ok (.iconst 0, 1) := by decide +kernel
theorem d_Mod_create_27 : decode b_Mod_create 27 = .ok (.istore 5, 2) := by decide +kernel
theorem d_Mod_create_29 : decode b_Mod_create 29 = .ok (.iload 5, 2) := by decide +kernel
theorem d_Mod_create_31 : decode b_Mod_create 31 = .ok (.bipush 16, 2) := by decide +kernel
theorem d_Mod_create_33 : decode b_Mod_create 33 = .ok (.if_icmp .ge 18, 3) := by decide +kernel
theorem d_Mod_create_36 : decode b_Mod_create 36 = .ok (.aload_n 0, 1) := by decide +kernel
theorem d_Mod_create_37 : decode b_Mod_create 37 = .ok (.iload 5, 2) := by decide +kernel
theorem d_Mod_create_39 : decode b_Mod_create 39 = .ok (.invokevirtual 108, 3) := by decide +kernel
theorem d_Mod_create_42 : decode b_Mod_create 42 = .ok (.ifCond .ne 9, 3) := by decide +kernel
theorem d_Mod_create_45 : decode b_Mod_create 45 = .ok (.iinc 5 1, 3) := by decide +kernel
theorem d_Mod_create_48 : decode b_Mod_create 48 = .ok (.goto (-19), 3) := by decide +kernel
theorem d_Mod_create_51 : decode b_Mod_create 51 = .ok (.aload_n 0, 1) := by decide +kernel
theorem d_Mod_create_52 : decode b_Mod_create 52 = .ok (.getfield 7, 3) := by decide +kernel
theorem d_Mod_create_55 : decode b_Mod_create 55 = .ok (.bipush 36, 2) := by decide +kernel
theorem d_Mod_create_57 : decode b_Mod_create 57 = .ok (.iload_n 1, 1) := by decide +kernel
theorem d_Mod_create_58 : decode b_Mod_create 58 = .ok (.imul, 1) := by decide +kernel
theorem d_Mod_create_59 : decode b_Mod_create 59 = .ok (.iaload, 1) := by decide +kernel
theorem d_Mod_create_60 : decode b_Mod_create 60 = .ok (.iload_n 2, 1) := by decide +kernel
theorem d_Mod_create_61 : decode b_Mod_create 61 = .ok (.if_icmp .lt 10, 3) := by decide +kernel
theorem d_Mod_create_64 : decode b_Mod_create 64 = .ok (.iload 5, 2) := by decide +kernel
theorem d_Mod_create_66 : decode b_Mod_create 66 = .ok (.bipush 16, 2) := by decide +kernel
theorem d_Mod_create_68 : decode b_Mod_create 68 = .ok (.if_icmp .ne 9, 3) := by decide +kernel
theorem d_Mod_create_71 : decode b_Mod_create 71 = .ok (.aload_n 0, 1) := by decide +kernel
theorem d_Mod_create_72 : decode b_Mod_create 72 = .ok (.iconst (-1), 1) := by decide +kernel
theorem d_Mod_create_73 : decode b_Mod_create 73 = .ok (.invokevirtual 130, 3) := by decide +kernel
theorem d_Mod_create_76 : decode b_Mod_create 76 = .ok (.return_, 1) := by decide +kernel
theorem d_Mod_create_77 : decode b_Mod_create 77 = .ok (.aload_n 0, 1) := by decide +kernel
theorem d_Mod_create_78 : decode b_Mod_create 78 = .ok (.getfield 7, 3) := by decide +kernel
theorem d_Mod_create_81 : decode b_Mod_create 81 = .ok (.bipush 36, 2) := by decide +kernel
theorem d_Mod_create_83 : decode b_Mod_create 83 = .ok (.iload_n 1, 1) := by decide +kernel
theorem d_Mod_create_84 : decode b_Mod_create 84 = .ok (.imul, 1) := by decide +kernel
theorem d_Mod_create_85 : decode b_Mod_create 85 = .ok (.iconst 1, 1) := by decide +kernel
theorem d_Mod_create_86 : decode b_Mod_create 86 = .ok (.iadd, 1) := by decide +kernel
theorem d_Mod_create_87 : decode b_Mod_create 87 = .ok (.dup2, 1) := by decide +kernel
theorem d_Mod_create_88 : decode b_Mod_create 88 = .ok (.iaload, 1) := by decide +kernel
theorem d_Mod_create_89 : decode b_Mod_create 89 = .ok (.iconst 1, 1) := by decide +kernel
theorem d_Mod_create_90 : decode b_Mod_create 90 = .ok (.iadd, 1) := by decide +kernel
theorem d_Mod_create_91 : decode b_Mod_create 91 = .ok (.iastore, 1) := by decide +kernel
theorem d_Mod_create_92 : decode b_Mod_create 92 = .ok (.iconst 0, 1) := by decide +kernel
theorem d_Mod_create_93 : decode b_Mod_create 93 = .ok (.istore 6, 2) := by decide +kernel
theorem d_Mod_create_95 : decode b_Mod_create 95 = .ok (.iload 6, 2) := by decide +kernel
theorem d_Mod_create_97 : decode b_Mod_create 97 = .ok (.iload 4, 2) := by decide +kernel
theorem d_Mod_create_99 : decode b_Mod_create 99 = .ok (.if_icmp .ge 48, 3) := by decide +kernel
theorem d_Mod_create_102 : decode b_Mod_create 102 = .ok (.aload_n 0, 1) := by decide +kernel
theorem d_Mod_create_103 : decode b_Mod_create 103 = .ok (.getfield 7, 3) := by decide +kernel
theorem d_Mod_create_106 : decode b_Mod_create 106 = .ok (.bipush 36, 2) := by decide +kernel
theorem d_Mod_create_108 : decode b_Mod_create 108 = .ok (.iload 5, 2) := by decide +kernel
theorem d_Mod_create_110 : decode b_Mod_create 110 = .ok (.imul, 1) := by decide +kernel
theorem d_Mod_create_111 : decode b_Mod_create 111 = .ok (.iconst 3, 1) := by decide +kernel
theorem d_Mod_create_112 : decode b_Mod_create 112 = .ok (.iadd, 1) := by decide +kernel
theorem d_Mod_create_113 : decode b_Mod_create 113 = .ok (.iload 6, 2) := by decide +kernel
theorem d_Mod_create_115 : decode b_Mod_create 115 = .ok (.iadd, 1) := by decide +kernel
theorem d_Mod_create_116 : decode b_Mod_create 116 = .ok (.aload_n 0, 1) := by decide +kernel
theorem d_Mod_create_117 : decode b_Mod_create 117 = .ok (.getfield 7, 3) := by decide +kernel
theorem d_Mod_create_120 : decode b_Mod_create 120 = .ok (.bipush 36, 2) := by decide +kernel
theorem d_Mod_create_122 : decode b_Mod_create 122 = .ok (.aload_n 0, 1) := by decide +kernel
theorem d_Mod_create_123 : decode b_Mod_create 123 = .ok (.getfield 35, 3) := by decide +kernel
theorem d_Mod_create_126 : decode b_Mod_create 126 = .ok (.aload_n 0, 1) := by decide +kernel
theorem d_Mod_create_127 : decode b_Mod_create 127 = .ok (.getfield 112, 3) := by decide +kernel
theorem d_Mod_create_130 : decode b_Mod_create 130 = .ok (.iaload, 1) := by decide +kernel
theorem d_Mod_create_131 : decode b_Mod_create 131 = .ok (.imul, 1) := by decide +kernel
theorem d_Mod_create_132 : decode b_Mod_create 132 = .ok (.iconst 3, 1) := by decide +kernel
theorem d_Mod_create_133 : decode b_Mod_create 133 = .ok (.iadd, 1) := by decide +kernel
theorem d_Mod_create_134 : decode b_Mod_create 134 = .ok (.iload_n 3, 1) := by decide +kernel
theorem d_Mod_create_135 : decode b_Mod_create 135 = .ok (.iadd, 1) := by decide +kernel
theorem d_Mod_create_136 : decode b_Mod_create 136 = .ok (.iload 6, 2) := by decide +kernel
theorem d_Mod_create_138 : decode b_Mod_create 138 = .ok (.iadd, 1) := by decide +kernel
theorem d_Mod_create_139 : decode b_Mod_create 139 = .ok (.iaload, 1) := by decide +kernel
theorem d_Mod_create_140 : decode b_Mod_create 140 = .ok (.iastore, 1) := by decide +kernel
theorem d_Mod_create_141 : decode b_Mod_create 141 = .ok (.iinc 6 1, 3) := by decide +kernel
theorem d_Mod_create_144 : decode b_Mod_create 144 = .ok (.goto (-49), 3) := by decide +kernel
theorem d_Mod_create_147 : decode b_Mod_create 147 = .ok (.aload_n 0, 1) := by decide +kernel
theorem d_Mod_create_148 : decode b_Mod_create 148 = .ok (.getfield 7, 3) := by decide +kernel
theorem d_Mod_create_151 : decode b_Mod_create 151 = .ok (.bipush 36, 2) := by decide +kernel
theorem d_Mod_create_153 : decode b_Mod_create 153 = .ok (.iload 5, 2) := by decide +kernel
theorem d_Mod_create_155 : decode b_Mod_create 155 = .ok (.imul, 1) := by decide +kernel
theorem d_Mod_create_156 : decode b_Mod_create 156 = .ok (.iconst 2, 1) := by decide +kernel
theorem d_Mod_create_157 : decode b_Mod_create 157 = .ok (.iadd, 1) := by decide +kernel
theorem d_Mod_create_158 : decode b_Mod_create 158 = .ok (.iload 4, 2) := by decide +kernel
theorem d_Mod_create_160 : decode b_Mod_create 160 = .ok (.iastore, 1) := by decide +kernel
theorem d_Mod_create_161 : decode b_Mod_create 161 = .ok (.aload_n 0, 1) := by decide +kernel
theorem d_Mod_create_162 : decode b_Mod_create 162 = .ok (.getfield 7, 3) := by decide +kernel
theorem d_Mod_create_165 : decode b_Mod_create 165 = .ok (.bipush 36, 2) := by decide +kernel
theorem d_Mod_create_167 : decode b_Mod_create 167 = .ok (.iload 5, 2) := by decide +kernel
theorem d_Mod_create_169 : decode b_Mod_create 169 = .ok (.imul, 1) := by decide +kernel
theorem d_Mod_create_170 : decode b_Mod_create 170 = .ok (.iconst 1, 1) := by decide +kernel
theorem d_Mod_create_171 : decode b_Mod_create 171 = .ok (.iadd, 1) := by decide +kernel
theorem d_Mod_create_172 : decode b_Mod_create 172 = .ok (.iconst 1, 1) := by decide +kernel
theorem d_Mod_create_173 : decode b_Mod_create 173 = .ok (.iastore, 1) := by decide +kernel
theorem d_Mod_create_174 : decode b_Mod_create 174 = .ok (.aload_n 0, 1) := by decide +kernel
theorem d_Mod_create_175 : decode b_Mod_create 175 = .ok (.iload_n 1, 1) := by decide +kernel
theorem d_Mod_create_176 : decode b_Mod_create 176 = .ok (.iload 5, 2) := by decide +kernel
theorem d_Mod_create_178 : decode b_Mod_create 178 = .ok (.iload_n 2, 1) := by decide +kernel
theorem d_Mod_create_179 : decode b_Mod_create 179 = .ok (.invokevirtual 177, 3) := by decide +kernel
theorem d_Mod_create_182 : decode b_Mod_create 182 = .ok (.aload_n 0, 1) := by decide +kernel
theorem d_Mod_create_183 : decode b_Mod_create 183 = .ok (.iload 5, 2) := by decide +kernel
theorem d_Mod_create_185 : decode b_Mod_create 185 = .ok (.invokevirtual 130, 3) := by decide +kernel
theorem d_Mod_create_188 : decode b_Mod_create 188 = .ok (.return_, 1) := by decide +kernel
theorem d_Mod_terms_0 : decode b_Mod_terms 0 = .ok (.aload_n 0, 1) := by decide +kernel
theorem d_Mod_terms_1 : decode b_Mod_terms 1 = .ok (.iload_n 1, 1) := by decide +kernel
theorem d_Mod_terms_2 : decode b_Mod_terms 2 = .ok (.putfield 25, 3) := by decide +kernel
theorem d_Mod_terms_5 : decode b_Mod_terms 5 = .ok (.aload_n 0, 1) := by decide +kernel
theorem d_Mod_terms_6 : decode b_Mod_terms 6 = .ok (.iload_n 2, 1) := by decide +kernel
theorem d_Mod_terms_7 : decode b_Mod_terms 7 = .ok (.putfield 29, 3) := by decide +kernel
theorem d_Mod_terms_10 : decode b_Mod_terms 10 = .ok (.aload_n 0, 1) := by decide +kernel
theorem d_Mod_terms_11 : decode b_Mod_terms 11 = .ok (.iload_n 3, 1) := by decide +kernel
theorem d_Mod_terms_12 : decode b_Mod_terms 12 = .ok (.putfield 185, 3) := by decide +kernel
theorem d_Mod_terms_15 : decode b_Mod_terms 15 = .ok (.return_, 1) := by decide +kernel
theorem d_Mod_send_0 : decode b_Mod_send 0 = .ok (.aload_n 0, 1) := by decide +kernel
theorem d_Mod_send_1 : decode b_Mod_send 1 = .ok (.iload_n 1, 1) := by decide +kernel
theorem d_Mod_send_2 : decode b_Mod_send 2 = .ok (.iload_n 2, 1) := by decide +kernel
theorem d_Mod_send_3 : decode b_Mod_send 3 = .ok (.iload_n 3, 1) := by decide +kernel
theorem d_Mod_send_4 : decode b_Mod_send 4 = .ok (.iload 4, 2) := by decide +kernel
theorem d_Mod_send_6 : decode b_Mod_send 6 = .ok (.sipush 200, 3) := by decide +kernel
theorem d_Mod_send_9 : decode b_Mod_send 9 = .ok (.iconst 1, 1) := by decide +kernel
theorem d_Mod_send_10 : decode b_Mod_send 10 = .ok (.iconst 0, 1) := by decide +kernel
theorem d_Mod_send_11 : decode b_Mod_send 11 = .ok (.invokevirtual 188, 3) := by decide +kernel
theorem d_Mod_send_14 : decode b_Mod_send 14 = .ok (.ireturn, 1) := by decide +kernel
theorem d_Mod_pay_0 : decode b_Mod_pay 0 = .ok (.aload_n 0, 1) := by decide +kernel
theorem d_Mod_pay_1 : decode b_Mod_pay 1 = .ok (.getfield 25, 3) := by decide +kernel
theorem d_Mod_pay_4 : decode b_Mod_pay 4 = .ok (.istore 5, 2) := by decide +kernel
theorem d_Mod_pay_6 : decode b_Mod_pay 6 = .ok (.aload_n 0, 1) := by decide +kernel
theorem d_Mod_pay_7 : decode b_Mod_pay 7 = .ok (.getfield 29, 3) := by decide +kernel
theorem d_Mod_pay_10 : decode b_Mod_pay 10 = .ok (.istore 6, 2) := by decide +kernel
theorem d_Mod_pay_12 : decode b_Mod_pay 12 = .ok (.aload_n 0, 1) := by decide +kernel
theorem d_Mod_pay_13 : decode b_Mod_pay 13 = .ok (.getfield 185, 3) := by decide +kernel
theorem d_Mod_pay_16 : decode b_Mod_pay 16 = .ok (.istore 7, 2) := by decide +kernel
theorem d_Mod_pay_18 : decode b_Mod_pay 18 = .ok (.aload_n 0, 1) := by decide +kernel
theorem d_Mod_pay_19 : decode b_Mod_pay 19 = .ok (.sipush 200, 3) := by decide +kernel
theorem d_Mod_pay_22 : decode b_Mod_pay 22 = .ok (.iconst 1, 1) := by decide +kernel
theorem d_Mod_pay_23 : decode b_Mod_pay 23 = .ok (.iconst 0, 1) := by decide +kernel
theorem d_Mod_pay_24 : decode b_Mod_pay 24 = .ok (.invokevirtual 192, 3) := by decide +kernel
theorem d_Mod_pay_27 : decode b_Mod_pay 27 = .ok (.aload_n 0, 1) := by decide +kernel
theorem d_Mod_pay_28 : decode b_Mod_pay 28 = .ok (.iload_n 1, 1) := by decide +kernel
theorem d_Mod_pay_29 : decode b_Mod_pay 29 = .ok (.iload_n 2, 1) := by decide +kernel
theorem d_Mod_pay_30 : decode b_Mod_pay 30 = .ok (.iload_n 3, 1) := by decide +kernel
theorem d_Mod_pay_31 : decode b_Mod_pay 31 = .ok (.iload 4, 2) := by decide +kernel
theorem d_Mod_pay_33 : decode b_Mod_pay 33 = .ok (.iload 5, 2) := by decide +kernel
theorem d_Mod_pay_35 : decode b_Mod_pay 35 = .ok (.iload 6, 2) := by decide +kernel
theorem d_Mod_pay_37 : decode b_Mod_pay 37 = .ok (.iload 7, 2) := by decide +kernel
theorem d_Mod_pay_39 : decode b_Mod_pay 39 = .ok (.invokevirtual 188, 3) := by decide +kernel
theorem d_Mod_pay_42 : decode b_Mod_pay 42 = .ok (.ireturn, 1) := by decide +kernel
theorem d_Mod_transact_0 : decode b_Mod_transact 0 = .ok (.aload_n 0, 1) := by decide +kernel
theorem d_Mod_transact_1 : decode b_Mod_transact 1 = .ok (.getfield 195, 3) := by decide +kernel
theorem d_Mod_transact_4 : decode b_Mod_transact 4 = .ok (.ifCond .ne 5, 3) := by decide +kernel
theorem d_Mod_transact_7 : decode b_Mod_transact 7 = .ok (.iconst (-1), 1) := by decide +kernel
theorem d_Mod_transact_8 : decode b_Mod_transact 8 = .ok (.ireturn, 1) := by decide +kernel
theorem d_Mod_transact_9 : decode b_Mod_transact 9 = .ok (.iload_n 1, 1) := by decide +kernel
theorem d_Mod_transact_10 : decode b_Mod_transact 10 = .ok (.bipush 16, 2) := by decide +kernel
theorem d_Mod_transact_12 : decode b_Mod_transact 12 = .ok (.invokestatic 81, 3) := by decide +kernel
theorem d_Mod_transact_15 : decode b_Mod_transact 15 = .ok (.ifCond .eq 16, 3) := by decide +kernel
theorem d_Mod_transact_18 : decode b_Mod_transact 18 = .ok (.iload_n 2, 1) := by decide +kernel
theorem d_Mod_transact_19 : decode b_Mod_transact 19 = .ok (.bipush 16, 2) := by decide +kernel
theorem d_Mod_transact_21 : decode b_Mod_transact 21 = .ok (.invokestatic 81, 3) := by decide +kernel
theorem d_Mod_transact_24 : decode b_Mod_transact 24 = .ok (.ifCond .eq 7, 3) := by decide +kernel
theorem d_Mod_transact_27 : decode b_Mod_transact 27 = .ok (.iload_n 3, 1) := by decide +kernel
theorem d_Mod_transact_28 : decode b_Mod_transact 28 = .ok (.ifCond .ge 6, 3) := by decide +kernel
theorem d_Mod_transact_31 : decode b_Mod_transact 31 = .ok (.bipush (-2), 2) := by decide +kernel
theorem d_Mod_transact_33 : decode b_Mod_transact 33 = .ok (.ireturn, 1) := by decide +kernel
theorem d_Mod_transact_34 : decode b_Mod_transact 34 = .ok (.iload 7, 2) := by decide +kernel
theorem d_Mod_transact_36 : decode b_Mod_transact 36 = .ok (.ifCond .eq 6, 3) := by decide +kernel
theorem d_Mod_transact_39 : decode b_Mod_transact 39 = .ok (.bipush (-3), 2) := by decide +kernel
theorem d_Mod_transact_41 : decode b_Mod_transact 41 = .ok (.ireturn, 1) := by decide +kernel
theorem d_Mod_transact_42 : decode b_Mod_transact 42 = .ok (.iload 5, 2) := by decide +kernel
theorem d_Mod_transact_44 : decode b_Mod_transact 44 = .ok (.bipush 20, 2) := by decide +kernel
theorem d_Mod_transact_46 : decode b_Mod_transact 46 = .ok (.if_icmp .lt 21, 3) := by decide +kernel
theorem d_Mod_transact_49 : decode b_Mod_transact 49 = .ok (.iload 5, 2) := by decide +kernel
theorem d_Mod_transact_51 : decode b_Mod_transact 51 = .ok (.sipush 3000, 3) := by decide +kernel
theorem d_Mod_transact_54 : decode b_Mod_transact 54 = .ok (.if_icmp .gt 13, 3) := by decide +kernel
theorem d_Mod_transact_57 : decode b_Mod_transact 57 = .ok (.iload 6, 2) := by decide +kernel
theorem d_Mod_transact_59 : decode b_Mod_transact 59 = .ok (.bipush 101, 2) := by decide +kernel
theorem d_Mod_transact_61 : decode b_Mod_transact 61 = .ok (.invokestatic 81, 3) := by decide +kernel
theorem d_Mod_transact_64 : decode b_Mod_transact 64 = .ok (.ifCond .ne 6, 3) := by decide +kernel
theorem d_Mod_transact_67 : decode b_Mod_transact 67 = .ok (.bipush (-4), 2) := by decide +kernel
theorem d_Mod_transact_69 : decode b_Mod_transact 69 = .ok (.ireturn, 1) := by decide +kernel
theorem d_Mod_transact_70 : decode b_Mod_transact 70 = .ok (.iload 5, 2) := by decide +kernel
theorem d_Mod_transact_72 : decode b_Mod_transact 72 = .ok (.sipush 3000, 3) := by decide +kernel
theorem d_Mod_transact_75 : decode b_Mod_transact 75 = .ok (.aload_n 0, 1) := by decide +kernel
theorem d_Mod_transact_76 : decode b_Mod_transact 76 = .ok (.getfield 199, 3) := by decide +kernel
theorem d_Mod_transact_79 : decode b_Mod_transact 79 = .ok (.isub, 1) := by decide +kernel
theorem d_Mod_transact_80 : decode b_Mod_transact 80 = .ok (.if_icmp .le 6, 3) := by decide +kernel
theorem d_Mod_transact_83 : decode b_Mod_transact 83 = .ok (.bipush (-5), 2) := by decide +kernel
theorem d_Mod_transact_85 : decode b_Mod_transact 85 = .ok (.ireturn, 1) := by decide +kernel
theorem d_Mod_transact_86 : decode b_Mod_transact 86 = .ok (.aload_n 0, 1) := by decide +kernel
theorem d_Mod_transact_87 : decode b_Mod_transact 87 = .ok (.getfield 7, 3) := by decide +kernel
theorem d_Mod_transact_90 : decode b_Mod_transact 90 = .ok (.bipush 36, 2) := by decide +kernel
theorem d_Mod_transact_92 : decode b_Mod_transact 92 = .ok (.iload_n 1, 1) := by decide +kernel
theorem d_Mod_transact_93 : decode b_Mod_transact 93 = .ok (.imul, 1) := by decide +kernel
theorem d_Mod_transact_94 : decode b_Mod_transact 94 = .ok (.iaload, 1) := by decide +kernel
theorem d_Mod_transact_95 : decode b_Mod_transact 95 = .ok (.i2l, 1) := by decide +kernel
theorem d_Mod_transact_96 : decode b_Mod_transact 96 = .ok (.iload 5, 2) := by decide +kernel
theorem d_Mod_transact_98 : decode b_Mod_transact 98 = .ok (.i2l, 1) := by decide +kernel
theorem d_Mod_transact_99 : decode b_Mod_transact 99 = .ok (.iload 6, 2) := by decide +kernel
theorem d_Mod_transact_101 : decode b_Mod_transact 101 = .ok (.i2l, 1) := by decide +kernel
theorem d_Mod_transact_102 : decode b_Mod_transact 102 = .ok (.lmul, 1) := by decide +kernel
theorem d_Mod_transact_103 : decode b_Mod_transact 103 = .ok (.iload_n 3, 1) := by decide +kernel
theorem d_Mod_transact_104 : decode b_Mod_transact 104 = .ok (.i2l, 1) := by decide +kernel
theorem d_Mod_transact_105 : decode b_Mod_transact 105 = .ok (.ladd, 1) := by decide +kernel
theorem d_Mod_transact_106 : decode b_Mod_transact 106 = .ok (.lcmp, 1) := by decide +kernel
theorem d_Mod_transact_107 : decode b_Mod_transact 107 = .ok (.ifCond .ge 6, 3) := by decide +kernel
theorem d_Mod_transact_110 : decode b_Mod_transact 110 = .ok (.bipush (-6), 2) := by decide +kernel
theorem d_Mod_transact_112 : decode b_Mod_transact 112 = .ok (.ireturn, 1) := by decide +kernel
theorem d_Mod_transact_113 : decode b_Mod_transact 113 = .ok (.aload_n 0, 1) := by decide +kernel
theorem d_Mod_transact_114 : decode b_Mod_transact 114 = .ok (.iconst 0, 1) := by decide +kernel
theorem d_Mod_transact_115 : decode b_Mod_transact 115 = .ok (.putfield 115, 3) := by decide +kernel
theorem d_Mod_transact_118 : decode b_Mod_transact 118 = .ok (.iconst 0, 1) := by decide +kernel
theorem d_Mod_transact_119 : decode b_Mod_transact 119 = .ok (.istore 8, 2) := by decide +kernel
theorem d_Mod_transact_121 : decode b_Mod_transact 121 = .ok (.iload 8, 2) := by decide +kernel
theorem d_Mod_transact_123 : decode b_Mod_transact 123 = .ok (.bipush 16, 2) := by decide +kernel
theorem d_Mod_transact_125 : decode b_Mod_transact 125 = .ok (.if_icmp .ge 23, 3) := by decide +kernel
theorem d_Mod_transact_128 : decode b_Mod_transact 128 = .ok (.aload_n 0, 1) := by decide +kernel
theorem d_Mod_transact_129 : decode b_Mod_transact 129 = .ok (.getfield 7, 3) := by decide +kernel
theorem d_Mod_transact_132 : decode b_Mod_transact 132 = .ok (.bipush 36, 2) := by decide +kernel
theorem d_Mod_transact_134 : decode b_Mod_transact 134 = .ok (.iload 8, 2) := by decide +kernel
theorem d_Mod_transact_136 : decode b_Mod_transact 136 = .ok (.imul, 1) := by decide +kernel
theorem d_Mod_transact_137 : decode b_Mod_transact 137 = .ok (.bipush 35, 2) := by decide +kernel
theorem d_Mod_transact_139 : decode b_Mod_transact 139 = .ok (.iadd, 1) := by decide +kernel
theorem d_Mod_transact_140 : decode b_Mod_transact 140 = .ok (.iconst 0, 1) := by decide +kernel
theorem d_Mod_transact_141 : decode b_Mod_transact 141 = .ok (.iastore, 1) := by decide +kernel
theorem d_Mod_transact_142 : decode b_Mod_transact 142 = .ok (.iinc 8 1, 3) := by decide +kernel
theorem d_Mod_transact_145 : decode b_Mod_transact 145 = .ok (.goto (-24), 3) := by decide +kernel
theorem d_Mod_transact_148 : decode b_Mod_transact 148 = .ok (.aload_n 0, 1) := by decide +kernel
theorem d_Mod_transact_149 : decode b_Mod_transact 149 = .ok (.getfield 118, 3) := by decide +kernel
theorem d_Mod_transact_152 : decode b_Mod_transact 152 = .ok (.istore 8, 2) := by decide +kernel
theorem d_Mod_transact_154 : decode b_Mod_transact 154 = .ok (.aload_n 0, 1) := by decide +kernel
theorem d_Mod_transact_155 : decode b_Mod_transact 155 = .ok (.getfield 7, 3) := by decide +kernel
theorem d_Mod_transact_158 : decode b_Mod_transact 158 = .ok (.bipush 36, 2) := by decide +kernel
theorem d_Mod_transact_160 : decode b_Mod_transact 160 = .ok (.iload_n 1, 1) := by decide +kernel
theorem d_Mod_transact_161 : decode b_Mod_transact 161 = .ok (.imul, 1) := by decide +kernel
theorem d_Mod_transact_162 : decode b_Mod_transact 162 = .ok (.dup2, 1) := by decide +kernel
theorem d_Mod_transact_163 : decode b_Mod_transact 163 = .ok (.iaload, 1) := by decide +kernel
theorem d_Mod_transact_164 : decode b_Mod_transact 164 = .ok (.iload 5, 2) := by decide +kernel
theorem d_Mod_transact_166 : decode b_Mod_transact 166 = .ok (.iload 6, 2) := by decide +kernel
theorem d_Mod_transact_168 : decode b_Mod_transact 168 = .ok (.imul, 1) := by decide +kernel
theorem d_Mod_transact_169 : decode b_Mod_transact 169 = .ok (.isub, 1) := by decide +kernel
theorem d_Mod_transact_170 : decode b_Mod_transact 170 = .ok (.iastore, 1) := by decide +kernel
theorem d_Mod_transact_171 : decode b_Mod_transact 171 = .ok (.aload_n 0, 1) := by decide +kernel
theorem d_Mod_transact_172 : decode b_Mod_transact 172 = .ok (.getfield 7, 3) := by decide +kernel
theorem d_Mod_transact_175 : decode b_Mod_transact 175 = .ok (.bipush 36, 2) := by decide +kernel
theorem d_Mod_transact_177 : decode b_Mod_transact 177 = .ok (.iload_n 1, 1) := by decide +kernel
theorem d_Mod_transact_178 : decode b_Mod_transact 178 = .ok (.imul, 1) := by decide +kernel
theorem d_Mod_transact_179 : decode b_Mod_transact 179 = .ok (.iconst 1, 1) := by decide +kernel
theorem d_Mod_transact_180 : decode b_Mod_transact 180 = .ok (.iadd, 1) := by decide +kernel
theorem d_Mod_transact_181 : decode b_Mod_transact 181 = .ok (.dup2, 1) := by decide +kernel
theorem d_Mod_transact_182 : decode b_Mod_transact 182 = .ok (.iaload, 1) := by decide +kernel
theorem d_Mod_transact_183 : decode b_Mod_transact 183 = .ok (.iconst 1, 1) := by decide +kernel
theorem d_Mod_transact_184 : decode b_Mod_transact 184 = .ok (.iadd, 1) := by decide +kernel
theorem d_Mod_transact_185 : decode b_Mod_transact 185 = .ok (.iastore, 1) := by decide +kernel
theorem d_Mod_transact_186 : decode b_Mod_transact 186 = .ok (.aload_n 0, 1) := by decide +kernel
theorem d_Mod_transact_187 : decode b_Mod_transact 187 = .ok (.iconst (-1), 1) := by decide +kernel
theorem d_Mod_transact_188 : decode b_Mod_transact 188 = .ok (.putfield 112, 3) := by decide +kernel
theorem d_Mod_transact_191 : decode b_Mod_transact 191 = .ok (.aload_n 0, 1) := by decide +kernel
theorem d_Mod_transact_192 : decode b_Mod_transact 192 = .ok (.iload_n 2, 1) := by decide +kernel
theorem d_Mod_transact_193 : decode b_Mod_transact 193 = .ok (.iload_n 2, 1) := by decide +kernel
theorem d_Mod_transact_194 : decode b_Mod_transact 194 = .ok (.iload_n 1, 1) := by decide +kernel
theorem d_Mod_transact_195 : decode b_Mod_transact 195 = .ok (.iload_n 3, 1) := by decide +kernel
theorem d_Mod_transact_196 : decode b_Mod_transact 196 = .ok (.iload 4, 2) := by decide +kernel
theorem d_Mod_transact_198 : decode b_Mod_transact 198 = .ok (.iload 5, 2) := by decide +kernel
theorem d_Mod_transact_200 : decode b_Mod_transact 200 = .ok (.bipush 20, 2) := by decide +kernel
theorem d_Mod_transact_202 : decode b_Mod_transact 202 = .ok (.isub, 1) := by decide +kernel
theorem d_Mod_transact_203 : decode b_Mod_transact 203 = .ok (.invokevirtual 181, 3) := by decide +kernel
theorem d_Mod_transact_206 : decode b_Mod_transact 206 = .ok (.aload_n 0, 1) := by decide +kernel
theorem d_Mod_transact_207 : decode b_Mod_transact 207 = .ok (.iload_n 1, 1) := by decide +kernel
theorem d_Mod_transact_208 : decode b_Mod_transact 208 = .ok (.iload_n 2, 1) := by decide +kernel
theorem d_Mod_transact_209 : decode b_Mod_transact 209 = .ok (.iload_n 3, 1) := by decide +kernel
theorem d_Mod_transact_210 : decode b_Mod_transact 210 = .ok (.invokevirtual 177, 3) := by decide +kernel
theorem d_Mod_transact_213 : decode b_Mod_transact 213 = .ok (.iconst 0, 1) := by decide +kernel
theorem d_Mod_transact_214 : decode b_Mod_transact 214 = .ok (.istore 9, 2) := by decide +kernel
theorem d_Mod_transact_216 : decode b_Mod_transact 216 = .ok (.iload 9, 2) := by decide +kernel
theorem d_Mod_transact_218 : decode b_Mod_transact 218 = .ok (.ldc 202, 2) := by decide +kernel
theorem d_Mod_transact_220 : decode b_Mod_transact 220 = .ok (.if_icmp .ge 20, 3) := by decide +kernel
theorem d_Mod_transact_223 : decode b_Mod_transact 223 = .ok (.aload_n 0, 1) := by decide +kernel
theorem d_Mod_transact_224 : decode b_Mod_transact 224 = .ok (.getfield 112, 3) := by decide +kernel
theorem d_Mod_transact_227 : decode b_Mod_transact 227 = .ok (.ifCond .lt 13, 3) := by decide +kernel
theorem d_Mod_transact_230 : decode b_Mod_transact 230 = .ok (.aload_n 0, 1) := by decide +kernel
theorem d_Mod_transact_231 : decode b_Mod_transact 231 = .ok (.invokevirtual 203, 3) := by decide +kernel
theorem d_Mod_transact_234 : decode b_Mod_transact 234 = .ok (.iinc 9 1, 3) := by decide +kernel
theorem d_Mod_transact_237 : decode b_Mod_transact 237 = .ok (.goto (-21), 3) := by decide +kernel
theorem d_Mod_transact_240 : decode b_Mod_transact 240 = .ok (.iload 5, 2) := by decide +kernel
theorem d_Mod_transact_242 : decode b_Mod_transact 242 = .ok (.aload_n 0, 1) := by decide +kernel
theorem d_Mod_transact_243 : decode b_Mod_transact 243 = .ok (.getfield 121, 3) := by decide +kernel
theorem d_Mod_transact_246 : decode b_Mod_transact 246 = .ok (.isub, 1) := by decide +kernel
theorem d_Mod_transact_247 : decode b_Mod_transact 247 = .ok (.istore 9, 2) := by decide +kernel
theorem d_Mod_transact_249 : decode b_Mod_transact 249 = .ok (.iload 9, 2) := by decide +kernel
theorem d_Mod_transact_251 : decode b_Mod_transact 251 = .ok (.iload 9, 2) := by decide +kernel
theorem d_Mod_transact_253 : decode b_Mod_transact 253 = .ok (.iconst 2, 1) := by decide +kernel
theorem d_Mod_transact_254 : decode b_Mod_transact 254 = .ok (.idiv, 1) := by decide +kernel
theorem d_Mod_transact_255 : decode b_Mod_transact 255 = .ok (.aload_n 0, 1) := by decide +kernel
theorem d_Mod_transact_256 : decode b_Mod_transact 256 = .ok (.getfield 115, 3) := by decide +kernel
theorem d_Mod_transact_259 : decode b_Mod_transact 259 = .ok (.if_icmp .ge 10, 3) := by decide +kernel
theorem d_Mod_transact_262 : decode b_Mod_transact 262 = .ok (.iload 9, 2) := by decide +kernel
theorem d_Mod_transact_264 : decode b_Mod_transact 264 = .ok (.iconst 2, 1) := by decide +kernel
theorem d_Mod_transact_265 : decode b_Mod_transact 265 = .ok (.idiv, 1) := by decide +kernel
theorem d_Mod_transact_266 : decode b_Mod_transact 266 = .ok (.goto 7, 3) := by decide +kernel
theorem d_Mod_transact_269 : decode b_Mod_transact 269 = .ok (.aload_n 0, 1) := by decide +kernel
theorem d_Mod_transact_270 : decode b_Mod_transact 270 = .ok (.getfield 115, 3) := by decide +kernel
theorem d_Mod_transact_273 : decode b_Mod_transact 273 = .ok (.isub, 1) := by decide +kernel
theorem d_Mod_transact_274 : decode b_Mod_transact 274 = .ok (.istore 9, 2) := by decide +kernel
theorem d_Mod_transact_276 : decode b_Mod_transact 276 = .ok (.aload_n 0, 1) := by decide +kernel
theorem d_Mod_transact_277 : decode b_Mod_transact 277 = .ok (.getfield 7, 3) := by decide +kernel
theorem d_Mod_transact_280 : decode b_Mod_transact 280 = .ok (.bipush 36, 2) := by decide +kernel
theorem d_Mod_transact_282 : decode b_Mod_transact 282 = .ok (.iload_n 1, 1) := by decide +kernel
theorem d_Mod_transact_283 : decode b_Mod_transact 283 = .ok (.imul, 1) := by decide +kernel
theorem d_Mod_transact_284 : decode b_Mod_transact 284 = .ok (.dup2, 1) := by decide +kernel
theorem d_Mod_transact_285 : decode b_Mod_transact 285 = .ok (.iaload, 1) := by decide +kernel
theorem d_Mod_transact_286 : decode b_Mod_transact 286 = .ok (.iload 5, 2) := by decide +kernel
theorem d_Mod_transact_288 : decode b_Mod_transact 288 = .ok (.iload 9, 2) := by decide +kernel
theorem d_Mod_transact_290 : decode b_Mod_transact 290 = .ok (.isub, 1) := by decide +kernel
theorem d_Mod_transact_291 : decode b_Mod_transact 291 = .ok (.iload 6, 2) := by decide +kernel
theorem d_Mod_transact_293 : decode b_Mod_transact 293 = .ok (.imul, 1) := by decide +kernel
theorem d_Mod_transact_294 : decode b_Mod_transact 294 = .ok (.iadd, 1) := by decide +kernel
theorem d_Mod_transact_295 : decode b_Mod_transact 295 = .ok (.iastore, 1) := by decide +kernel
theorem d_Mod_transact_296 : decode b_Mod_transact 296 = .ok (.aload_n 0, 1) := by decide +kernel
theorem d_Mod_transact_297 : decode b_Mod_transact 297 = .ok (.getfield 7, 3) := by decide +kernel
theorem d_Mod_transact_300 : decode b_Mod_transact 300 = .ok (.bipush 36, 2) := by decide +kernel
theorem d_Mod_transact_302 : decode b_Mod_transact 302 = .ok (.aload_n 0, 1) := by decide +kernel
theorem d_Mod_transact_303 : decode b_Mod_transact 303 = .ok (.getfield 206, 3) := by decide +kernel
theorem d_Mod_transact_306 : decode b_Mod_transact 306 = .ok (.imul, 1) := by decide +kernel
theorem d_Mod_transact_307 : decode b_Mod_transact 307 = .ok (.dup2, 1) := by decide +kernel
theorem d_Mod_transact_308 : decode b_Mod_transact 308 = .ok (.iaload, 1) := by decide +kernel
theorem d_Mod_transact_309 : decode b_Mod_transact 309 = .ok (.iload 9, 2) := by decide +kernel
theorem d_Mod_transact_311 : decode b_Mod_transact 311 = .ok (.iload 6, 2) := by decide +kernel
theorem d_Mod_transact_313 : decode b_Mod_transact 313 = .ok (.imul, 1) := by decide +kernel
theorem d_Mod_transact_314 : decode b_Mod_transact 314 = .ok (.iadd, 1) := by decide +kernel
theorem d_Mod_transact_315 : decode b_Mod_transact 315 = .ok (.iastore, 1) := by decide +kernel
theorem d_Mod_transact_316 : decode b_Mod_transact 316 = .ok (.iconst 0, 1) := by decide +kernel
theorem d_Mod_transact_317 : decode b_Mod_transact 317 = .ok (.istore 10, 2) := by decide +kernel
theorem d_Mod_transact_319 : decode b_Mod_transact 319 = .ok (.iload 10, 2) := by decide +kernel
theorem d_Mod_transact_321 : decode b_Mod_transact 321 = .ok (.bipush 16, 2) := by decide +kernel
theorem d_Mod_transact_323 : decode b_Mod_transact 323 = .ok (.if_icmp .ge 32, 3) := by decide +kernel
theorem d_Mod_transact_326 : decode b_Mod_transact 326 = .ok (.aload_n 0, 1) := by decide +kernel
theorem d_Mod_transact_327 : decode b_Mod_transact 327 = .ok (.getfield 7, 3) := by decide +kernel
theorem d_Mod_transact_330 : decode b_Mod_transact 330 = .ok (.bipush 36, 2) := by decide +kernel
theorem d_Mod_transact_332 : decode b_Mod_transact 332 = .ok (.iload 10, 2) := by decide +kernel
theorem d_Mod_transact_334 : decode b_Mod_transact 334 = .ok (.imul, 1) := by decide +kernel
theorem d_Mod_transact_335 : decode b_Mod_transact 335 = .ok (.bipush 35, 2) := by decide +kernel
theorem d_Mod_transact_337 : decode b_Mod_transact 337 = .ok (.iadd, 1) := by decide +kernel
theorem d_Mod_transact_338 : decode b_Mod_transact 338 = .ok (.iaload, 1) := by decide +kernel
theorem d_Mod_transact_339 : decode b_Mod_transact 339 = .ok (.iconst 1, 1) := by decide +kernel
theorem d_Mod_transact_340 : decode b_Mod_transact 340 = .ok (.if_icmp .ne 9, 3) := by decide +kernel
theorem d_Mod_transact_343 : decode b_Mod_transact 343 = .ok (.aload_n 0, 1) := by decide +kernel
theorem d_Mod_transact_344 : decode b_Mod_transact 344 = .ok (.iload 10, 2) := by decide +kernel
theorem d_Mod_transact_346 : decode b_Mod_transact 346 = .ok (.invokevirtual 209, 3) := by decide +kernel
theorem d_Mod_transact_349 : decode b_Mod_transact 349 = .ok (.iinc 10 1, 3) := by decide +kernel
theorem d_Mod_transact_352 : decode b_Mod_transact 352 = .ok (.goto (-33), 3) := by decide +kernel
theorem d_Mod_transact_355 : decode b_Mod_transact 355 = .ok (.aload_n 0, 1) := by decide +kernel
theorem d_Mod_transact_356 : decode b_Mod_transact 356 = .ok (.getfield 212, 3) := by decide +kernel
theorem d_Mod_transact_359 : decode b_Mod_transact 359 = .ok (.bipush 16, 2) := by decide +kernel
theorem d_Mod_transact_361 : decode b_Mod_transact 361 = .ok (.if_icmp .ge 70, 3) := by decide +kernel
theorem d_Mod_transact_364 : decode b_Mod_transact 364 = .ok (.aload_n 0, 1) := by decide +kernel
theorem d_Mod_transact_365 : decode b_Mod_transact 365 = .ok (.getfield 16, 3) := by decide +kernel
theorem d_Mod_transact_368 : decode b_Mod_transact 368 = .ok (.iconst 4, 1) := by decide +kernel
theorem d_Mod_transact_369 : decode b_Mod_transact 369 = .ok (.aload_n 0, 1) := by decide +kernel
theorem d_Mod_transact_370 : decode b_Mod_transact 370 = .ok (.getfield 212, 3) := by decide +kernel
theorem d_Mod_transact_373 : decode b_Mod_transact 373 = .ok (.imul, 1) := by decide +kernel
theorem d_Mod_transact_374 : decode b_Mod_transact 374 = .ok (.aload_n 0, 1) := by decide +kernel
theorem d_Mod_transact_375 : decode b_Mod_transact 375 = .ok (.getfield 124, 3) := by decide +kernel
theorem d_Mod_transact_378 : decode b_Mod_transact 378 = .ok (.iastore, 1) := by decide +kernel
theorem d_Mod_transact_379 : decode b_Mod_transact 379 = .ok (.aload_n 0, 1) := by decide +kernel
theorem d_Mod_transact_380 : decode b_Mod_transact 380 = .ok (.getfield 16, 3) := by decide +kernel
theorem d_Mod_transact_383 : decode b_Mod_transact 383 = .ok (.iconst 4, 1) := by decide +kernel
theorem d_Mod_transact_384 : decode b_Mod_transact 384 = .ok (.aload_n 0, 1) := by decide +kernel
theorem d_Mod_transact_385 : decode b_Mod_transact 385 = .ok (.getfield 212, 3) := by decide +kernel
theorem d_Mod_transact_388 : decode b_Mod_transact 388 = .ok (.imul, 1) := by decide +kernel
theorem d_Mod_transact_389 : decode b_Mod_transact 389 = .ok (.iconst 1, 1) := by decide +kernel
theorem d_Mod_transact_390 : decode b_Mod_transact 390 = .ok (.iadd, 1) := by decide +kernel
theorem d_Mod_transact_391 : decode b_Mod_transact 391 = .ok (.iload 9, 2) := by decide +kernel
theorem d_Mod_transact_393 : decode b_Mod_transact 393 = .ok (.iastore, 1) := by decide +kernel
theorem d_Mod_transact_394 : decode b_Mod_transact 394 = .ok (.aload_n 0, 1) := by decide +kernel
theorem d_Mod_transact_395 : decode b_Mod_transact 395 = .ok (.getfield 16, 3) := by decide +kernel
theorem d_Mod_transact_398 : decode b_Mod_transact 398 = .ok (.iconst 4, 1) := by decide +kernel
theorem d_Mod_transact_399 : decode b_Mod_transact 399 = .ok (.aload_n 0, 1) := by decide +kernel
theorem d_Mod_transact_400 : decode b_Mod_transact 400 = .ok (.getfield 212, 3) := by decide +kernel
theorem d_Mod_transact_403 : decode b_Mod_transact 403 = .ok (.imul, 1) := by decide +kernel
theorem d_Mod_transact_404 : decode b_Mod_transact 404 = .ok (.iconst 2, 1) := by decide +kernel
theorem d_Mod_transact_405 : decode b_Mod_transact 405 = .ok (.iadd, 1) := by decide +kernel
theorem d_Mod_transact_406 : decode b_Mod_transact 406 = .ok (.aload_n 0, 1) := by decide +kernel
theorem d_Mod_transact_407 : decode b_Mod_transact 407 = .ok (.getfield 127, 3) := by decide +kernel
theorem d_Mod_transact_410 : decode b_Mod_transact 410 = .ok (.iastore, 1) := by decide +kernel
theorem d_Mod_transact_411 : decode b_Mod_transact 411 = .ok (.aload_n 0, 1) := by decide +kernel
theorem d_Mod_transact_412 : decode b_Mod_transact 412 = .ok (.getfield 16, 3) := by decide +kernel
theorem d_Mod_transact_415 : decode b_Mod_transact 415 = .ok (.iconst 4, 1) := by decide +kernel
theorem d_Mod_transact_416 : decode b_Mod_transact 416 = .ok (.aload_n 0, 1) := by decide +kernel
theorem d_Mod_transact_417 : decode b_Mod_transact 417 = .ok (.getfield 212, 3) := by decide +kernel
theorem d_Mod_transact_420 : decode b_Mod_transact 420 = .ok (.imul, 1) := by decide +kernel
theorem d_Mod_transact_421 : decode b_Mod_transact 421 = .ok (.iconst 3, 1) := by decide +kernel
theorem d_Mod_transact_422 : decode b_Mod_transact 422 = .ok (.iadd, 1) := by decide +kernel
theorem d_Mod_transact_423 : decode b_Mod_transact 423 = .ok (.aload_n 0, 1) := by decide +kernel
theorem d_Mod_transact_424 : decode b_Mod_transact 424 = .ok (.getfield 118, 3) := by decide +kernel
theorem d_Mod_transact_427 : decode b_Mod_transact 427 = .ok (.iload 8, 2) := by decide +kernel
theorem d_Mod_transact_429 : decode b_Mod_transact 429 = .ok (.isub, 1) := by decide +kernel
theorem d_Mod_transact_430 : decode b_Mod_transact 430 = .ok (.iastore, 1) := by decide +kernel
theorem d_Mod_transact_431 : decode b_Mod_transact 431 = .ok (.aload_n 0, 1) := by decide +kernel
theorem d_Mod_transact_432 : decode b_Mod_transact 432 = .ok (.dup, 1) := by decide +kernel
theorem d_Mod_transact_433 : decode b_Mod_transact 433 = .ok (.getfield 212, 3) := by decide +kernel
theorem d_Mod_transact_436 : decode b_Mod_transact 436 = .ok (.iconst 1, 1) := by decide +kernel
theorem d_Mod_transact_437 : decode b_Mod_transact 437 = .ok (.iadd, 1) := by decide +kernel
theorem d_Mod_transact_438 : decode b_Mod_transact 438 = .ok (.putfield 212, 3) := by decide +kernel
theorem d_Mod_transact_441 : decode b_Mod_transact 441 = .ok (.aload_n 0, 1) := by decide +kernel
theorem d_Mod_transact_442 : decode b_Mod_transact 442 = .ok (.dup, 1) := by decide +kernel
theorem d_Mod_transact_443 : decode b_Mod_transact 443 = .ok (.getfield 199, 3) := by decide +kernel
theorem d_Mod_transact_446 : decode b_Mod_transact 446 = .ok (.iload 9, 2) := by decide +kernel
theorem d_Mod_transact_448 : decode b_Mod_transact 448 = .ok (.iadd, 1) := by decide +kernel
theorem d_Mod_transact_449 : decode b_Mod_transact 449 = .ok (.putfield 199, 3) := by decide +kernel
theorem d_Mod_transact_452 : decode b_Mod_transact 452 = .ok (.iload 9, 2) := by decide +kernel
theorem d_Mod_transact_454 : decode b_Mod_transact 454 = .ok (.ireturn, 1) := by decide +kernel
theorem d_Mod_wipe_0 : decode b_Mod_wipe 0 = .ok (.iconst 0, 1) := by decide +kernel
theorem d_Mod_wipe_1 : decode b_Mod_wipe 1 = .ok (.istore_n 2, 1) := by decide +kernel
theorem d_Mod_wipe_2 : decode b_Mod_wipe 2 = .ok (.iload_n 2, 1) := by decide +kernel
theorem d_Mod_wipe_3 : decode b_Mod_wipe 3 = .ok (.bipush 36, 2) := by decide +kernel
theorem d_Mod_wipe_5 : decode b_Mod_wipe 5 = .ok (.if_icmp .ge 21, 3) := by decide +kernel
theorem d_Mod_wipe_8 : decode b_Mod_wipe 8 = .ok (.aload_n 0, 1) := by decide +kernel
theorem d_Mod_wipe_9 : decode b_Mod_wipe 9 = .ok (.getfield 7, 3) := by decide +kernel
theorem d_Mod_wipe_12 : decode b_Mod_wipe 12 = .ok (.bipush 36, 2) := by decide +kernel
theorem d_Mod_wipe_14 : decode b_Mod_wipe 14 = .ok (.iload_n 1, 1) := by decide +kernel
theorem d_Mod_wipe_15 : decode b_Mod_wipe 15 = .ok (.imul, 1) := by decide +kernel
theorem d_Mod_wipe_16 : decode b_Mod_wipe 16 = .ok (.iload_n 2, 1) := by decide +kernel
theorem d_Mod_wipe_17 : decode b_Mod_wipe 17 = .ok (.iadd, 1) := by decide +kernel
theorem d_Mod_wipe_18 : decode b_Mod_wipe 18 = .ok (.iconst 0, 1) := by decide +kernel
theorem d_Mod_wipe_19 : decode b_Mod_wipe 19 = .ok (.iastore, 1) := by decide +kernel
theorem d_Mod_wipe_20 : decode b_Mod_wipe 20 = .ok (.iinc 2 1, 3) := by decide +kernel
theorem d_Mod_wipe_23 : decode b_Mod_wipe 23 = .ok (.goto (-21), 3) := by decide +kernel
theorem d_Mod_wipe_26 : decode b_Mod_wipe 26 = .ok (.return_, 1) := by decide +kernel
