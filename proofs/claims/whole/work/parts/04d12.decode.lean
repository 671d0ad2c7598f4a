theorem d_Mac_delegate_0 : decode b_Mac_delegate 0 = .ok (.aload_n 1, 1) := by decide +kernel
theorem d_Mac_delegate_1 : decode b_Mac_delegate 1 = .ok (.invokevirtual 144, 3) := by decide +kernel
theorem d_Mac_delegate_4 : decode b_Mac_delegate 4 = .ok (.istore_n 2, 1) := by decide +kernel
theorem d_Mac_delegate_5 : decode b_Mac_delegate 5 = .ok (.aload_n 1, 1) := by decide +kernel
theorem d_Mac_delegate_6 : decode b_Mac_delegate 6 = .ok (.invokevirtual 144, 3) := by decide +kernel
theorem d_Mac_delegate_9 : decode b_Mac_delegate 9 = .ok (.istore_n 3, 1) := by decide +kernel
theorem d_Mac_delegate_10 : decode b_Mac_delegate 10 = .ok (.aload_n 1, 1) := by decide +kernel
theorem d_Mac_delegate_11 : decode b_Mac_delegate 11 = .ok (.invokevirtual 144, 3) := by decide +kernel
theorem d_Mac_delegate_14 : decode b_Mac_delegate 14 = .ok (.istore 4, 2) := by decide +kernel
theorem d_Mac_delegate_16 : decode b_Mac_delegate 16 = .ok (.aload_n 0, 1) := by decide +kernel
theorem d_Mac_delegate_17 : decode b_Mac_delegate 17 = .ok (.iload_n 3, 1) := by decide +kernel
theorem d_Mac_delegate_18 : decode b_Mac_delegate 18 = .ok (.invokevirtual 230, 3) := by decide +kernel
theorem d_Mac_delegate_21 : decode b_Mac_delegate 21 = .ok (.ifCond .eq 31, 3) := by decide +kernel
theorem d_Mac_delegate_24 : decode b_Mac_delegate 24 = .ok (.aload_n 0, 1) := by decide +kernel
theorem d_Mac_delegate_25 : decode b_Mac_delegate 25 = .ok (.aload_n 1, 1) := by decide +kernel
theorem d_Mac_delegate_26 : decode b_Mac_delegate 26 = .ok (.getfield 170, 3) := by decide +kernel
theorem d_Mac_delegate_29 : decode b_Mac_delegate 29 = .ok (.iload_n 3, 1) := by decide +kernel
theorem d_Mac_delegate_30 : decode b_Mac_delegate 30 = .ok (.aload_n 1, 1) := by decide +kernel
theorem d_Mac_delegate_31 : decode b_Mac_delegate 31 = .ok (.getfield 208, 3) := by decide +kernel
theorem d_Mac_delegate_34 : decode b_Mac_delegate 34 = .ok (.aload_n 1, 1) := by decide +kernel
theorem d_Mac_delegate_35 : decode b_Mac_delegate 35 = .ok (.getfield 211, 3) := by decide +kernel
theorem d_Mac_delegate_38 : decode b_Mac_delegate 38 = .ok (.iload 4, 2) := by decide +kernel
theorem d_Mac_delegate_40 : decode b_Mac_delegate 40 = .ok (.aload_n 0, 1) := by decide +kernel
theorem d_Mac_delegate_41 : decode b_Mac_delegate 41 = .ok (.aload_n 1, 1) := by decide +kernel
theorem d_Mac_delegate_42 : decode b_Mac_delegate 42 = .ok (.iload_n 2, 1) := by decide +kernel
theorem d_Mac_delegate_43 : decode b_Mac_delegate 43 = .ok (.invokevirtual 239, 3) := by decide +kernel
theorem d_Mac_delegate_46 : decode b_Mac_delegate 46 = .ok (.invokevirtual 42, 3) := by decide +kernel
theorem d_Mac_delegate_49 : decode b_Mac_delegate 49 = .ok (.goto 8, 3) := by decide +kernel
theorem d_Mac_delegate_52 : decode b_Mac_delegate 52 = .ok (.aload_n 0, 1) := by decide +kernel
theorem d_Mac_delegate_53 : decode b_Mac_delegate 53 = .ok (.aload_n 1, 1) := by decide +kernel
theorem d_Mac_delegate_54 : decode b_Mac_delegate 54 = .ok (.invokevirtual 236, 3) := by decide +kernel
theorem d_Mac_delegate_57 : decode b_Mac_delegate 57 = .ok (.return_, 1) := by decide +kernel
theorem d_Mac_canEnter_0 : decode b_Mac_canEnter 0 = .ok (.iload_n 1, 1) := by decide +kernel
theorem d_Mac_canEnter_1 : decode b_Mac_canEnter 1 = .ok (.invokestatic 242, 3) := by decide +kernel
theorem d_Mac_canEnter_4 : decode b_Mac_canEnter 4 = .ok (.ifCond .eq 16, 3) := by decide +kernel
theorem d_Mac_canEnter_7 : decode b_Mac_canEnter 7 = .ok (.aload_n 0, 1) := by decide +kernel
theorem d_Mac_canEnter_8 : decode b_Mac_canEnter 8 = .ok (.getfield 39, 3) := by decide +kernel
theorem d_Mac_canEnter_11 : decode b_Mac_canEnter 11 = .ok (.bipush 8, 2) := by decide +kernel
theorem d_Mac_canEnter_13 : decode b_Mac_canEnter 13 = .ok (.if_icmp .ge 7, 3) := by decide +kernel
theorem d_Mac_canEnter_16 : decode b_Mac_canEnter 16 = .ok (.iconst 1, 1) := by decide +kernel
theorem d_Mac_canEnter_17 : decode b_Mac_canEnter 17 = .ok (.goto 4, 3) := by decide +kernel
theorem d_Mac_canEnter_20 : decode b_Mac_canEnter 20 = .ok (.iconst 0, 1) := by decide +kernel
theorem d_Mac_canEnter_21 : decode b_Mac_canEnter 21 = .ok (.ireturn, 1) := by decide +kernel
theorem d_Mac_pushNoFrame_0 : decode b_Mac_pushNoFrame 0 = .ok (.aload_n 1, 1) := by decide +kernel
theorem d_Mac_pushNoFrame_1 : decode b_Mac_pushNoFrame 1 = .ok (.iconst 0, 1) := by decide +kernel
theorem d_Mac_pushNoFrame_2 : decode b_Mac_pushNoFrame 2 = .ok (.invokevirtual 110, 3) := by decide +kernel
theorem d_Mac_pushNoFrame_5 : decode b_Mac_pushNoFrame 5 = .ok (.aload_n 1, 1) := by decide +kernel
theorem d_Mac_pushNoFrame_6 : decode b_Mac_pushNoFrame 6 = .ok (.iconst 0, 1) := by decide +kernel
theorem d_Mac_pushNoFrame_7 : decode b_Mac_pushNoFrame 7 = .ok (.invokevirtual 110, 3) := by decide +kernel
theorem d_Mac_pushNoFrame_10 : decode b_Mac_pushNoFrame 10 = .ok (.return_, 1) := by decide +kernel
theorem d_Mac_takeGas_0 : decode b_Mac_takeGas 0 = .ok (.iload_n 2, 1) := by decide +kernel
theorem d_Mac_takeGas_1 : decode b_Mac_takeGas 1 = .ok (.iconst 0, 1) := by decide +kernel
theorem d_Mac_takeGas_2 : decode b_Mac_takeGas 2 = .ok (.invokestatic 199, 3) := by decide +kernel
theorem d_Mac_takeGas_5 : decode b_Mac_takeGas 5 = .ok (.aload_n 1, 1) := by decide +kernel
theorem d_Mac_takeGas_6 : decode b_Mac_takeGas 6 = .ok (.getfield 104, 3) := by decide +kernel
theorem d_Mac_takeGas_9 : decode b_Mac_takeGas 9 = .ok (.invokestatic 194, 3) := by decide +kernel
theorem d_Mac_takeGas_12 : decode b_Mac_takeGas 12 = .ok (.istore_n 3, 1) := by decide +kernel
theorem d_Mac_takeGas_13 : decode b_Mac_takeGas 13 = .ok (.aload_n 1, 1) := by decide +kernel
theorem d_Mac_takeGas_14 : decode b_Mac_takeGas 14 = .ok (.dup, 1) := by decide +kernel
theorem d_Mac_takeGas_15 : decode b_Mac_takeGas 15 = .ok (.getfield 104, 3) := by decide +kernel
theorem d_Mac_takeGas_18 : decode b_Mac_takeGas 18 = .ok (.iload_n 3, 1) := by decide +kernel
theorem d_Mac_takeGas_19 : decode b_Mac_takeGas 19 = .ok (.isub, 1) := by decide +kernel
theorem d_Mac_takeGas_20 : decode b_Mac_takeGas 20 = .ok (.putfield 104, 3) := by decide +kernel
theorem d_Mac_takeGas_23 : decode b_Mac_takeGas 23 = .ok (.iload_n 3, 1) := by decide +kernel
theorem d_Mac_takeGas_24 : decode b_Mac_takeGas 24 = .ok (.ireturn, 1) := by decide +kernel
theorem d_Mac_create_0 : decode b_Mac_create 0 = .ok (.aload_n 1, 1) := by decide +kernel
theorem d_Mac_create_1 : decode b_Mac_create 1 = .ok (.invokevirtual 144, 3) := by decide +kernel
theorem d_Mac_create_4 : decode b_Mac_create 4 = .ok (.istore_n 2, 1) := by decide +kernel
theorem d_Mac_create_5 : decode b_Mac_create 5 = .ok (.aload_n 1, 1) := by decide +kernel
theorem d_Mac_create_6 : decode b_Mac_create 6 = .ok (.invokevirtual 144, 3) := by decide +kernel
theorem d_Mac_create_9 : decode b_Mac_create 9 = .ok (.istore_n 3, 1) := by decide +kernel
theorem d_Mac_create_10 : decode b_Mac_create 10 = .ok (.aload_n 1, 1) := by decide +kernel
theorem d_Mac_create_11 : decode b_Mac_create 11 = .ok (.invokevirtual 144, 3) := by decide +kernel
theorem d_Mac_create_14 : decode b_Mac_create 14 = .ok (.istore 4, 2) := by decide +kernel
theorem d_Mac_create_16 : decode b_Mac_create 16 = .ok (.aload_n 0, 1) := by decide +kernel
theorem d_Mac_create_17 : decode b_Mac_create 17 = .ok (.getfield 12, 3) := by decide +kernel
theorem d_Mac_create_20 : decode b_Mac_create 20 = .ok (.getfield 221, 3) := by decide +kernel
theorem d_Mac_create_23 : decode b_Mac_create 23 = .ok (.aload_n 1, 1) := by decide +kernel
theorem d_Mac_create_24 : decode b_Mac_create 24 = .ok (.getfield 113, 3) := by decide +kernel
theorem d_Mac_create_27 : decode b_Mac_create 27 = .ok (.iaload, 1) := by decide +kernel
theorem d_Mac_create_28 : decode b_Mac_create 28 = .ok (.istore 5, 2) := by decide +kernel
theorem d_Mac_create_30 : decode b_Mac_create 30 = .ok (.iload_n 2, 1) := by decide +kernel
theorem d_Mac_create_31 : decode b_Mac_create 31 = .ok (.ifCond .lt 29, 3) := by decide +kernel
theorem d_Mac_create_34 : decode b_Mac_create 34 = .ok (.iload 4, 2) := by decide +kernel
theorem d_Mac_create_36 : decode b_Mac_create 36 = .ok (.iconst 1, 1) := by decide +kernel
theorem d_Mac_create_37 : decode b_Mac_create 37 = .ok (.if_icmp .lt 23, 3) := by decide +kernel
theorem d_Mac_create_40 : decode b_Mac_create 40 = .ok (.iload_n 3, 1) := by decide +kernel
theorem d_Mac_create_41 : decode b_Mac_create 41 = .ok (.ifCond .lt 19, 3) := by decide +kernel
theorem d_Mac_create_44 : decode b_Mac_create 44 = .ok (.iload 4, 2) := by decide +kernel
theorem d_Mac_create_46 : decode b_Mac_create 46 = .ok (.iload 5, 2) := by decide +kernel
theorem d_Mac_create_48 : decode b_Mac_create 48 = .ok (.if_icmp .gt 12, 3) := by decide +kernel
theorem d_Mac_create_51 : decode b_Mac_create 51 = .ok (.iload_n 3, 1) := by decide +kernel
theorem d_Mac_create_52 : decode b_Mac_create 52 = .ok (.iload 5, 2) := by decide +kernel
theorem d_Mac_create_54 : decode b_Mac_create 54 = .ok (.iload 4, 2) := by decide +kernel
theorem d_Mac_create_56 : decode b_Mac_create 56 = .ok (.isub, 1) := by decide +kernel
theorem d_Mac_create_57 : decode b_Mac_create 57 = .ok (.if_icmp .le 8, 3) := by decide +kernel
theorem d_Mac_create_60 : decode b_Mac_create 60 = .ok (.aload_n 1, 1) := by decide +kernel
theorem d_Mac_create_61 : decode b_Mac_create 61 = .ok (.invokevirtual 137, 3) := by decide +kernel
theorem d_Mac_create_64 : decode b_Mac_create 64 = .ok (.return_, 1) := by decide +kernel
theorem d_Mac_create_65 : decode b_Mac_create 65 = .ok (.aload_n 0, 1) := by decide +kernel
theorem d_Mac_create_66 : decode b_Mac_create 66 = .ok (.getfield 12, 3) := by decide +kernel
theorem d_Mac_create_69 : decode b_Mac_create 69 = .ok (.invokevirtual 245, 3) := by decide +kernel
theorem d_Mac_create_72 : decode b_Mac_create 72 = .ok (.istore 6, 2) := by decide +kernel
theorem d_Mac_create_74 : decode b_Mac_create 74 = .ok (.iload 6, 2) := by decide +kernel
theorem d_Mac_create_76 : decode b_Mac_create 76 = .ok (.ifCond .lt 19, 3) := by decide +kernel
theorem d_Mac_create_79 : decode b_Mac_create 79 = .ok (.aload_n 0, 1) := by decide +kernel
theorem d_Mac_create_80 : decode b_Mac_create 80 = .ok (.getfield 12, 3) := by decide +kernel
theorem d_Mac_create_83 : decode b_Mac_create 83 = .ok (.getfield 233, 3) := by decide +kernel
theorem d_Mac_create_86 : decode b_Mac_create 86 = .ok (.aload_n 1, 1) := by decide +kernel
theorem d_Mac_create_87 : decode b_Mac_create 87 = .ok (.getfield 170, 3) := by decide +kernel
theorem d_Mac_create_90 : decode b_Mac_create 90 = .ok (.iaload, 1) := by decide +kernel
theorem d_Mac_create_91 : decode b_Mac_create 91 = .ok (.iload_n 2, 1) := by decide +kernel
theorem d_Mac_create_92 : decode b_Mac_create 92 = .ok (.if_icmp .ge 9, 3) := by decide +kernel
theorem d_Mac_create_95 : decode b_Mac_create 95 = .ok (.aload_n 1, 1) := by decide +kernel
theorem d_Mac_create_96 : decode b_Mac_create 96 = .ok (.iconst (-1), 1) := by decide +kernel
theorem d_Mac_create_97 : decode b_Mac_create 97 = .ok (.invokevirtual 110, 3) := by decide +kernel
theorem d_Mac_create_100 : decode b_Mac_create 100 = .ok (.return_, 1) := by decide +kernel
theorem d_Mac_create_101 : decode b_Mac_create 101 = .ok (.aload_n 0, 1) := by decide +kernel
theorem d_Mac_create_102 : decode b_Mac_create 102 = .ok (.getfield 12, 3) := by decide +kernel
theorem d_Mac_create_105 : decode b_Mac_create 105 = .ok (.getfield 248, 3) := by decide +kernel
theorem d_Mac_create_108 : decode b_Mac_create 108 = .ok (.aload_n 1, 1) := by decide +kernel
theorem d_Mac_create_109 : decode b_Mac_create 109 = .ok (.getfield 170, 3) := by decide +kernel
theorem d_Mac_create_112 : decode b_Mac_create 112 = .ok (.dup2, 1) := by decide +kernel
theorem d_Mac_create_113 : decode b_Mac_create 113 = .ok (.iaload, 1) := by decide +kernel
theorem d_Mac_create_114 : decode b_Mac_create 114 = .ok (.iconst 1, 1) := by decide +kernel
theorem d_Mac_create_115 : decode b_Mac_create 115 = .ok (.iadd, 1) := by decide +kernel
theorem d_Mac_create_116 : decode b_Mac_create 116 = .ok (.iastore, 1) := by decide +kernel
theorem d_Mac_create_117 : decode b_Mac_create 117 = .ok (.aload_n 0, 1) := by decide +kernel
theorem d_Mac_create_118 : decode b_Mac_create 118 = .ok (.getfield 12, 3) := by decide +kernel
theorem d_Mac_create_121 : decode b_Mac_create 121 = .ok (.getfield 248, 3) := by decide +kernel
theorem d_Mac_create_124 : decode b_Mac_create 124 = .ok (.iload 6, 2) := by decide +kernel
theorem d_Mac_create_126 : decode b_Mac_create 126 = .ok (.iconst 1, 1) := by decide +kernel
theorem d_Mac_create_127 : decode b_Mac_create 127 = .ok (.iastore, 1) := by decide +kernel
theorem d_Mac_create_128 : decode b_Mac_create 128 = .ok (.iconst 0, 1) := by decide +kernel
theorem d_Mac_create_129 : decode b_Mac_create 129 = .ok (.istore 7, 2) := by decide +kernel
theorem d_Mac_create_131 : decode b_Mac_create 131 = .ok (.iload 7, 2) := by decide +kernel
theorem d_Mac_create_133 : decode b_Mac_create 133 = .ok (.iload 4, 2) := by decide +kernel
theorem d_Mac_create_135 : decode b_Mac_create 135 = .ok (.if_icmp .ge 34, 3) := by decide +kernel
theorem d_Mac_create_138 : decode b_Mac_create 138 = .ok (.aload_n 0, 1) := by decide +kernel
theorem d_Mac_create_139 : decode b_Mac_create 139 = .ok (.getfield 12, 3) := by decide +kernel
theorem d_Mac_create_142 : decode b_Mac_create 142 = .ok (.iload 6, 2) := by decide +kernel
theorem d_Mac_create_144 : decode b_Mac_create 144 = .ok (.aload_n 0, 1) := by decide +kernel
theorem d_Mac_create_145 : decode b_Mac_create 145 = .ok (.getfield 12, 3) := by decide +kernel
theorem d_Mac_create_148 : decode b_Mac_create 148 = .ok (.aload_n 1, 1) := by decide +kernel
theorem d_Mac_create_149 : decode b_Mac_create 149 = .ok (.getfield 113, 3) := by decide +kernel
theorem d_Mac_create_152 : decode b_Mac_create 152 = .ok (.iload_n 3, 1) := by decide +kernel
theorem d_Mac_create_153 : decode b_Mac_create 153 = .ok (.iload 7, 2) := by decide +kernel
theorem d_Mac_create_155 : decode b_Mac_create 155 = .ok (.iadd, 1) := by decide +kernel
theorem d_Mac_create_156 : decode b_Mac_create 156 = .ok (.invokevirtual 119, 3) := by decide +kernel
theorem d_Mac_create_159 : decode b_Mac_create 159 = .ok (.invokevirtual 251, 3) := by decide +kernel
theorem d_Mac_create_162 : decode b_Mac_create 162 = .ok (.pop, 1) := by decide +kernel
theorem d_Mac_create_163 : decode b_Mac_create 163 = .ok (.iinc 7 1, 3) := by decide +kernel
theorem d_Mac_create_166 : decode b_Mac_create 166 = .ok (.goto (-35), 3) := by decide +kernel
theorem d_Mac_create_169 : decode b_Mac_create 169 = .ok (.aload_n 0, 1) := by decide +kernel
theorem d_Mac_create_170 : decode b_Mac_create 170 = .ok (.getfield 12, 3) := by decide +kernel
theorem d_Mac_create_173 : decode b_Mac_create 173 = .ok (.aload_n 1, 1) := by decide +kernel
theorem d_Mac_create_174 : decode b_Mac_create 174 = .ok (.getfield 170, 3) := by decide +kernel
theorem d_Mac_create_177 : decode b_Mac_create 177 = .ok (.iload 6, 2) := by decide +kernel
theorem d_Mac_create_179 : decode b_Mac_create 179 = .ok (.iload_n 2, 1) := by decide +kernel
theorem d_Mac_create_180 : decode b_Mac_create 180 = .ok (.invokevirtual 46, 3) := by decide +kernel
theorem d_Mac_create_183 : decode b_Mac_create 183 = .ok (.aload_n 1, 1) := by decide +kernel
theorem d_Mac_create_184 : decode b_Mac_create 184 = .ok (.iload 6, 2) := by decide +kernel
theorem d_Mac_create_186 : decode b_Mac_create 186 = .ok (.invokevirtual 110, 3) := by decide +kernel
theorem d_Mac_create_189 : decode b_Mac_create 189 = .ok (.return_, 1) := by decide +kernel
theorem d_Mac_endSelf_0 : decode b_Mac_endSelf 0 = .ok (.aload_n 1, 1) := by decide +kernel
theorem d_Mac_endSelf_1 : decode b_Mac_endSelf 1 = .ok (.invokevirtual 144, 3) := by decide +kernel
theorem d_Mac_endSelf_4 : decode b_Mac_endSelf 4 = .ok (.istore_n 2, 1) := by decide +kernel
theorem d_Mac_endSelf_5 : decode b_Mac_endSelf 5 = .ok (.iload_n 2, 1) := by decide +kernel
theorem d_Mac_endSelf_6 : decode b_Mac_endSelf 6 = .ok (.invokestatic 242, 3) := by decide +kernel
theorem d_Mac_endSelf_9 : decode b_Mac_endSelf 9 = .ok (.ifCond .ne 8, 3) := by decide +kernel
theorem d_Mac_endSelf_12 : decode b_Mac_endSelf 12 = .ok (.aload_n 1, 1) := by decide +kernel
theorem d_Mac_endSelf_13 : decode b_Mac_endSelf 13 = .ok (.invokevirtual 137, 3) := by decide +kernel
theorem d_Mac_endSelf_16 : decode b_Mac_endSelf 16 = .ok (.return_, 1) := by decide +kernel
theorem d_Mac_endSelf_17 : decode b_Mac_endSelf 17 = .ok (.aload_n 0, 1) := by decide +kernel
theorem d_Mac_endSelf_18 : decode b_Mac_endSelf 18 = .ok (.getfield 12, 3) := by decide +kernel
theorem d_Mac_endSelf_21 : decode b_Mac_endSelf 21 = .ok (.aload_n 1, 1) := by decide +kernel
theorem d_Mac_endSelf_22 : decode b_Mac_endSelf 22 = .ok (.getfield 170, 3) := by decide +kernel
theorem d_Mac_endSelf_25 : decode b_Mac_endSelf 25 = .ok (.iload_n 2, 1) := by decide +kernel
theorem d_Mac_endSelf_26 : decode b_Mac_endSelf 26 = .ok (.aload_n 0, 1) := by decide +kernel
theorem d_Mac_endSelf_27 : decode b_Mac_endSelf 27 = .ok (.getfield 12, 3) := by decide +kernel
theorem d_Mac_endSelf_30 : decode b_Mac_endSelf 30 = .ok (.getfield 233, 3) := by decide +kernel
theorem d_Mac_endSelf_33 : decode b_Mac_endSelf 33 = .ok (.aload_n 1, 1) := by decide +kernel
theorem d_Mac_endSelf_34 : decode b_Mac_endSelf 34 = .ok (.getfield 170, 3) := by decide +kernel
theorem d_Mac_endSelf_37 : decode b_Mac_endSelf 37 = .ok (.iaload, 1) := by decide +kernel
theorem d_Mac_endSelf_38 : decode b_Mac_endSelf 38 = .ok (.invokevirtual 46, 3) := by decide +kernel
theorem d_Mac_endSelf_41 : decode b_Mac_endSelf 41 = .ok (.aload_n 0, 1) := by decide +kernel
theorem d_Mac_endSelf_42 : decode b_Mac_endSelf 42 = .ok (.dup, 1) := by decide +kernel
theorem d_Mac_endSelf_43 : decode b_Mac_endSelf 43 = .ok (.getfield 36, 3) := by decide +kernel
theorem d_Mac_endSelf_46 : decode b_Mac_endSelf 46 = .ok (.iconst 1, 1) := by decide +kernel
theorem d_Mac_endSelf_47 : decode b_Mac_endSelf 47 = .ok (.aload_n 1, 1) := by decide +kernel
theorem d_Mac_endSelf_48 : decode b_Mac_endSelf 48 = .ok (.getfield 170, 3) := by decide +kernel
theorem d_Mac_endSelf_51 : decode b_Mac_endSelf 51 = .ok (.ishl, 1) := by decide +kernel
theorem d_Mac_endSelf_52 : decode b_Mac_endSelf 52 = .ok (.ior, 1) := by decide +kernel
theorem d_Mac_endSelf_53 : decode b_Mac_endSelf 53 = .ok (.putfield 36, 3) := by decide +kernel
theorem d_Mac_endSelf_56 : decode b_Mac_endSelf 56 = .ok (.aload_n 1, 1) := by decide +kernel
theorem d_Mac_endSelf_57 : decode b_Mac_endSelf 57 = .ok (.iconst 1, 1) := by decide +kernel
theorem d_Mac_endSelf_58 : decode b_Mac_endSelf 58 = .ok (.iconst 0, 1) := by decide +kernel
theorem d_Mac_endSelf_59 : decode b_Mac_endSelf 59 = .ok (.invokevirtual 140, 3) := by decide +kernel
theorem d_Mac_endSelf_62 : decode b_Mac_endSelf 62 = .ok (.return_, 1) := by decide +kernel
theorem d_Rec_init_0 : decode b_Rec_init 0 = .ok (.aload_n 0, 1) := by decide +kernel
theorem d_Rec_init_1 : decode b_Rec_init 1 = .ok (.invokespecial 3, 3) := by decide +kernel
theorem d_Rec_init_4 : decode b_Rec_init 4 = .ok (.aload_n 0, 1) := by decide +kernel
theorem d_Rec_init_5 : decode b_Rec_init 5 = .ok (.bipush 16, 2) := by decide +kernel
theorem d_Rec_init_7 : decode b_Rec_init 7 = .ok (.newarray .int, 2) := by decide +kernel
theorem d_Rec_init_9 : decode b_Rec_init 9 = .ok (.putfield 9, 3) := by decide +kernel
theorem d_Rec_init_12 : decode b_Rec_init 12 = .ok (.aload_n 0, 1) := by decide +kernel
theorem d_Rec_init_13 : decode b_Rec_init 13 = .ok (.bipush 16, 2) := by decide +kernel
theorem d_Rec_init_15 : decode b_Rec_init 15 = .ok (.newarray .int, 2) := by decide +kernel
theorem d_Rec_init_17 : decode b_Rec_init 17 = .ok (.putfield 15, 3) := by decide +kernel
theorem d_Rec_init_20 : decode b_Rec_init 20 = .ok (.aload_n 0, 1) := by decide +kernel
theorem d_Rec_init_21 : decode b_Rec_init 21 = .ok (.bipush 16, 2) := by decide +kernel
theorem d_Rec_init_23 : decode b_Rec_init 23 = .ok (.newarray .int, 2) := by decide +kernel
theorem d_Rec_init_25 : decode b_Rec_init 25 = .ok (.putfield 18, 3) := by decide +kernel
theorem d_Rec_init_28 : decode b_Rec_init 28 = .ok (.aload_n 0, 1) := by decide +kernel
theorem d_Rec_init_29 : decode b_Rec_init 29 = .ok (.bipush 16, 2) := by decide +kernel
theorem d_Rec_init_31 : decode b_Rec_init 31 = .ok (.newarray .int, 2) := by decide +kernel
theorem d_Rec_init_33 : decode b_Rec_init 33 = .ok (.putfield 21, 3) := by decide +kernel
theorem d_Rec_init_36 : decode b_Rec_init 36 = .ok (.return_, 1) := by decide +kernel
theorem d_Rec_add_0 : decode b_Rec_add 0 = .ok (.aload_n 0, 1) := by decide +kernel
theorem d_Rec_add_1 : decode b_Rec_add 1 = .ok (.getfield 24, 3) := by decide +kernel
theorem d_Rec_add_4 : decode b_Rec_add 4 = .ok (.bipush 16, 2) := by decide +kernel
theorem d_Rec_add_6 : decode b_Rec_add 6 = .ok (.if_icmp .ge 44, 3) := by decide +kernel
theorem d_Rec_add_9 : decode b_Rec_add 9 = .ok (.aload_n 0, 1) := by decide +kernel
theorem d_Rec_add_10 : decode b_Rec_add 10 = .ok (.getfield 9, 3) := by decide +kernel
theorem d_Rec_add_13 : decode b_Rec_add 13 = .ok (.aload_n 0, 1) := by decide +kernel
theorem d_Rec_add_14 : decode b_Rec_add 14 = .ok (.getfield 24, 3) := by decide +kernel
theorem d_Rec_add_17 : decode b_Rec_add 17 = .ok (.iload_n 1, 1) := by decide +kernel
theorem d_Rec_add_18 : decode b_Rec_add 18 = .ok (.iastore, 1) := by decide +kernel
theorem d_Rec_add_19 : decode b_Rec_add 19 = .ok (.aload_n 0, 1) := by decide +kernel
theorem d_Rec_add_20 : decode b_Rec_add 20 = .ok (.getfield 15, 3) := by decide +kernel
theorem d_Rec_add_23 : decode b_Rec_add 23 = .ok (.aload_n 0, 1) := by decide +kernel
theorem d_Rec_add_24 : decode b_Rec_add 24 = .ok (.getfield 24, 3) := by decide +kernel
theorem d_Rec_add_27 : decode b_Rec_add 27 = .ok (.iload_n 2, 1) := by decide +kernel
theorem d_Rec_add_28 : decode b_Rec_add 28 = .ok (.iastore, 1) := by decide +kernel
theorem d_Rec_add_29 : decode b_Rec_add 29 = .ok (.aload_n 0, 1) := by decide +kernel
theorem d_Rec_add_30 : decode b_Rec_add 30 = .ok (.getfield 18, 3) := by decide +kernel
theorem d_Rec_add_33 : decode b_Rec_add 33 = .ok (.aload_n 0, 1) := by decide +kernel
theorem d_Rec_add_34 : decode b_Rec_add 34 = .ok (.getfield 24, 3) := by decide +kernel
theorem d_Rec_add_37 : decode b_Rec_add 37 = .ok (.iload_n 3, 1) := by decide +kernel
theorem d_Rec_add_38 : decode b_Rec_add 38 = .ok (.iastore, 1) := by decide +kernel
theorem d_Rec_add_39 : decode b_Rec_add 39 = .ok (.aload_n 0, 1) := by decide +kernel
theorem d_Rec_add_40 : decode b_Rec_add 40 = .ok (.getfield 21, 3) := by decide +kernel
theorem d_Rec_add_43 : decode b_Rec_add 43 = .ok (.aload_n 0, 1) := by decide +kernel
theorem d_Rec_add_44 : decode b_Rec_add 44 = .ok (.getfield 24, 3) := by decide +kernel
theorem d_Rec_add_47 : decode b_Rec_add 47 = .ok (.iload 4, 2) := by decide +kernel
theorem d_Rec_add_49 : decode b_Rec_add 49 = .ok (.iastore, 1) := by decide +kernel
theorem d_Rec_add_50 : decode b_Rec_add 50 = .ok (.aload_n 0, 1) := by decide +kernel
theorem d_Rec_add_51 : decode b_Rec_add 51 = .ok (.dup, 1) := by decide +kernel
theorem d_Rec_add_52 : decode b_Rec_add 52 = .ok (.getfield 24, 3) := by decide +kernel
theorem d_Rec_add_55 : decode b_Rec_add 55 = .ok (.iconst 1, 1) := by decide +kernel
theorem d_Rec_add_56 : decode b_Rec_add 56 = .ok (.iadd, 1) := by decide +kernel
theorem d_Rec_add_57 : decode b_Rec_add 57 = .ok (.putfield 24, 3) := by decide +kernel
theorem d_Rec_add_60 : decode b_Rec_add 60 = .ok (.return_, 1) := by decide +kernel
theorem d_Rec_partOf_0 : decode b_Rec_partOf 0 = .ok (.iload_n 1, 1) := by decide +kernel
theorem d_Rec_partOf_1 : decode b_Rec_partOf 1 = .ok (.ifCond .lt 17, 3) := by decide +kernel
theorem d_Rec_partOf_4 : decode b_Rec_partOf 4 = .ok (.iload_n 1, 1) := by decide +kernel
theorem d_Rec_partOf_5 : decode b_Rec_partOf 5 = .ok (.aload_n 0, 1) := by decide +kernel
theorem d_Rec_partOf_6 : decode b_Rec_partOf 6 = .ok (.getfield 24, 3) := by decide +kernel
theorem d_Rec_partOf_9 : decode b_Rec_partOf 9 = .ok (.if_icmp .ge 9, 3) := by decide +kernel
theorem d_Rec_partOf_12 : decode b_Rec_partOf 12 = .ok (.iload_n 1, 1) := by decide +kernel
theorem d_Rec_partOf_13 : decode b_Rec_partOf 13 = .ok (.bipush 16, 2) := by decide +kernel
theorem d_Rec_partOf_15 : decode b_Rec_partOf 15 = .ok (.if_icmp .lt 5, 3) := by decide +kernel
theorem d_Rec_partOf_18 : decode b_Rec_partOf 18 = .ok (.iconst (-1), 1) := by decide +kernel
theorem d_Rec_partOf_19 : decode b_Rec_partOf 19 = .ok (.ireturn, 1) := by decide +kernel
theorem d_Rec_partOf_20 : decode b_Rec_partOf 20 = .ok (.iload_n 2, 1) := by decide +kernel
theorem d_Rec_partOf_21 : decode b_Rec_partOf 21 = .ok (.tableswitch 59 0 3 #[31, 38, 45, 52], 31) := by decide +kernel
theorem d_Rec_partOf_52 : decode b_Rec_partOf 52 = .ok (.aload_n 0, 1) := by decide +kernel
theorem d_Rec_partOf_53 : decode b_Rec_partOf 53 = .ok (.getfield 9, 3) := by decide +kernel
theorem d_Rec_partOf_56 : decode b_Rec_partOf 56 = .ok (.iload_n 1, 1) := by decide +kernel
theorem d_Rec_partOf_57 : decode b_Rec_partOf 57 = .ok (.iaload, 1) := by decide +kernel
theorem d_Rec_partOf_58 : decode b_Rec_partOf 58 = .ok (.ireturn, 1) := by decide +kernel
theorem d_Rec_partOf_59 : decode b_Rec_partOf 59 = .ok (.aload_n 0, 1) := by decide +kernel
theorem d_Rec_partOf_60 : decode b_Rec_partOf 60 = .ok (.getfield 15, 3) := by decide +kernel
theorem d_Rec_partOf_63 : decode b_Rec_partOf 63 = .ok (.iload_n 1, 1) := by decide +kernel
theorem d_Rec_partOf_64 : decode b_Rec_partOf 64 = .ok (.iaload, 1) := by decide +kernel
theorem d_Rec_partOf_65 : decode b_Rec_partOf 65 = .ok (.ireturn, 1) := by decide +kernel
theorem d_Rec_partOf_66 : decode b_Rec_partOf 66 = .ok (.aload_n 0, 1) := by decide +kernel
theorem d_Rec_partOf_67 : decode b_Rec_partOf 67 = .ok (.getfield 18, 3) := by decide +kernel
theorem d_Rec_partOf_70 : decode b_Rec_partOf 70 = .ok (.iload_n 1, 1) := by decide +kernel
theorem d_Rec_partOf_71 : decode b_Rec_partOf 71 = .ok (.iaload, 1) := by decide +kernel
theorem d_Rec_partOf_72 : decode b_Rec_partOf 72 = .ok (.ireturn, 1) := by decide +kernel
theorem d_Rec_partOf_73 : decode b_Rec_partOf 73 = .ok (.aload_n 0, 1) := by decide +kernel
theorem d_Rec_partOf_74 : decode b_Rec_partOf 74 = .ok (.getfield 21, 3) := by decide +kernel
theorem d_Rec_partOf_77 : decode b_Rec_partOf 77 = .ok (.iload_n 1, 1) := by decide +kernel
theorem d_Rec_partOf_78 : decode b_Rec_partOf 78 = .ok (.iaload, 1) := by decide +kernel
theorem d_Rec_partOf_79 : decode b_Rec_partOf 79 = .ok (.ireturn, 1) := by decide +kernel
theorem d_Rec_partOf_80 : decode b_Rec_partOf 80 = .ok (.iconst (-1), 1) := by decide +kernel
theorem d_Rec_partOf_81 : decode b_Rec_partOf 81 = .ok (.ireturn, 1) := by decide +kernel
